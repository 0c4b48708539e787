set_option maxRecDepth 20000 in
theorem ggX6_init_X1_init : GoodIn wsX6_init wsX1_init := goodIn_r _ [30, 31, 2, 3, 32, 33, 34, 35, 36, 37, 38, 39, 40, 41, 42, 43, 44, 45, 46, 47, 48, 49, 50, 51, 82, 83, 84, 85, 86, 87, 88, 89, 115, 116, 117, 118, 119] (by decide +kernel) (by decide +kernel)
set_option maxRecDepth 20000 in
theorem gX6_init_X1_init : GoodIn wsX6_init (wsX1_init) := ggX6_init_X1_init
set_option maxRecDepth 20000 in
theorem ggX6_init_X5_init : GoodIn wsX6_init wsX5_init := goodIn_r _ [53, 54, 2, 3, 32, 55, 56, 57, 58, 59, 60, 61, 62, 15, 16, 63, 64, 65, 66, 67, 68, 99, 100, 101, 102, 103, 104, 105, 106, 107] (by decide +kernel) (by decide +kernel)
set_option maxRecDepth 20000 in
theorem gX6_init_X5_init_n24 : GoodIn wsX6_init (wsX5_init) := ggX6_init_X5_init
set_option maxRecDepth 20000 in
theorem ggX6_init_X0_init : GoodIn wsX6_init wsX0_init := goodIn_r _ [65, 66, 2, 3, 67, 68, 106, 107] (by decide +kernel) (by decide +kernel)
set_option maxRecDepth 20000 in
theorem gX6_init_X0_init_n31 : GoodIn wsX6_init (wsX0_init) := ggX6_init_X0_init
set_option maxRecDepth 20000 in
theorem ggX6_init_X3_init : GoodIn wsX6_init wsX3_init := goodIn_r _ [70, 71, 2, 3, 32, 72, 73, 74, 108, 109, 110] (by decide +kernel) (by decide +kernel)
set_option maxRecDepth 20000 in
theorem gX6_init_X3_init_n41 : GoodIn wsX6_init (wsX3_init) := ggX6_init_X3_init
set_option maxRecDepth 20000 in
theorem ggX6_init_X4_init : GoodIn wsX6_init wsX4_init := goodIn_r _ [76, 77, 2, 3, 78, 79, 80, 58, 81, 111, 112, 113, 114] (by decide +kernel) (by decide +kernel)
set_option maxRecDepth 20000 in
theorem gX6_init_X4_init_n52 : GoodIn wsX6_init (wsX4_init) := ggX6_init_X4_init
theorem dX6_init_0 : decode cX6_init 0 = .ok (.aload_n 0, 1) := by decide +kernel
theorem dX6_init_1 : decode cX6_init 1 = .ok (.invokespecial 1, 3) := by decide +kernel
theorem dX6_init_4 : decode cX6_init 4 = .ok (.aload_n 0, 1) := by decide +kernel
theorem dX6_init_5 : decode cX6_init 5 = .ok (.new 7, 3) := by decide +kernel
theorem dX6_init_8 : decode cX6_init 8 = .ok (.dup, 1) := by decide +kernel
theorem dX6_init_9 : decode cX6_init 9 = .ok (.invokespecial 9, 3) := by decide +kernel
theorem dX6_init_12 : decode cX6_init 12 = .ok (.putfield 10, 3) := by decide +kernel
theorem dX6_init_15 : decode cX6_init 15 = .ok (.aload_n 0, 1) := by decide +kernel
theorem dX6_init_16 : decode cX6_init 16 = .ok (.new 7, 3) := by decide +kernel
theorem dX6_init_19 : decode cX6_init 19 = .ok (.dup, 1) := by decide +kernel
theorem dX6_init_20 : decode cX6_init 20 = .ok (.invokespecial 9, 3) := by decide +kernel
theorem dX6_init_23 : decode cX6_init 23 = .ok (.putfield 16, 3) := by decide +kernel
theorem dX6_init_26 : decode cX6_init 26 = .ok (.aload_n 0, 1) := by decide +kernel
theorem dX6_init_27 : decode cX6_init 27 = .ok (.new 7, 3) := by decide +kernel
theorem dX6_init_30 : decode cX6_init 30 = .ok (.dup, 1) := by decide +kernel
theorem dX6_init_31 : decode cX6_init 31 = .ok (.invokespecial 9, 3) := by decide +kernel
theorem dX6_init_34 : decode cX6_init 34 = .ok (.putfield 19, 3) := by decide +kernel
theorem dX6_init_37 : decode cX6_init 37 = .ok (.aload_n 0, 1) := by decide +kernel
theorem dX6_init_38 : decode cX6_init 38 = .ok (.new 22, 3) := by decide +kernel
theorem dX6_init_41 : decode cX6_init 41 = .ok (.dup, 1) := by decide +kernel
theorem dX6_init_42 : decode cX6_init 42 = .ok (.invokespecial 24, 3) := by decide +kernel
theorem dX6_init_45 : decode cX6_init 45 = .ok (.putfield 25, 3) := by decide +kernel
theorem dX6_init_48 : decode cX6_init 48 = .ok (.aload_n 0, 1) := by decide +kernel
theorem dX6_init_49 : decode cX6_init 49 = .ok (.new 29, 3) := by decide +kernel
theorem dX6_init_52 : decode cX6_init 52 = .ok (.dup, 1) := by decide +kernel
theorem dX6_init_53 : decode cX6_init 53 = .ok (.invokespecial 31, 3) := by decide +kernel
theorem dX6_init_56 : decode cX6_init 56 = .ok (.putfield 32, 3) := by decide +kernel
theorem dX6_init_59 : decode cX6_init 59 = .ok (.aload_n 0, 1) := by decide +kernel
theorem dX6_init_60 : decode cX6_init 60 = .ok (.new 29, 3) := by decide +kernel
theorem dX6_init_63 : decode cX6_init 63 = .ok (.dup, 1) := by decide +kernel
theorem dX6_init_64 : decode cX6_init 64 = .ok (.invokespecial 31, 3) := by decide +kernel
theorem dX6_init_67 : decode cX6_init 67 = .ok (.putfield 36, 3) := by decide +kernel
theorem dX6_init_70 : decode cX6_init 70 = .ok (.aload_n 0, 1) := by decide +kernel
theorem dX6_init_71 : decode cX6_init 71 = .ok (.new 39, 3) := by decide +kernel
theorem dX6_init_74 : decode cX6_init 74 = .ok (.dup, 1) := by decide +kernel
theorem dX6_init_75 : decode cX6_init 75 = .ok (.invokespecial 41, 3) := by decide +kernel
theorem dX6_init_78 : decode cX6_init 78 = .ok (.putfield 42, 3) := by decide +kernel
theorem dX6_init_81 : decode cX6_init 81 = .ok (.aload_n 0, 1) := by decide +kernel
theorem dX6_init_82 : decode cX6_init 82 = .ok (.iconst 4, 1) := by decide +kernel
theorem dX6_init_83 : decode cX6_init 83 = .ok (.anewarray 46, 3) := by decide +kernel
theorem dX6_init_86 : decode cX6_init 86 = .ok (.putfield 48, 3) := by decide +kernel
theorem dX6_init_89 : decode cX6_init 89 = .ok (.iconst 0, 1) := by decide +kernel
theorem dX6_init_90 : decode cX6_init 90 = .ok (.istore_n 1, 1) := by decide +kernel
theorem dX6_init_91 : decode cX6_init 91 = .ok (.iload_n 1, 1) := by decide +kernel
theorem dX6_init_92 : decode cX6_init 92 = .ok (.iconst 4, 1) := by decide +kernel
theorem dX6_init_93 : decode cX6_init 93 = .ok (.if_icmp .ge 22, 3) := by decide +kernel
theorem dX6_init_96 : decode cX6_init 96 = .ok (.aload_n 0, 1) := by decide +kernel
theorem dX6_init_97 : decode cX6_init 97 = .ok (.getfield 48, 3) := by decide +kernel
theorem dX6_init_100 : decode cX6_init 100 = .ok (.iload_n 1, 1) := by decide +kernel
theorem dX6_init_101 : decode cX6_init 101 = .ok (.new 46, 3) := by decide +kernel
theorem dX6_init_104 : decode cX6_init 104 = .ok (.dup, 1) := by decide +kernel
theorem dX6_init_105 : decode cX6_init 105 = .ok (.invokespecial 52, 3) := by decide +kernel
theorem dX6_init_108 : decode cX6_init 108 = .ok (.aastore, 1) := by decide +kernel
theorem dX6_init_109 : decode cX6_init 109 = .ok (.iinc 1 1, 3) := by decide +kernel
theorem dX6_init_112 : decode cX6_init 112 = .ok (.goto (-21), 3) := by decide +kernel
theorem dX6_init_115 : decode cX6_init 115 = .ok (.aload_n 0, 1) := by decide +kernel
theorem dX6_init_116 : decode cX6_init 116 = .ok (.iconst 0, 1) := by decide +kernel
theorem dX6_init_117 : decode cX6_init 117 = .ok (.putfield 53, 3) := by decide +kernel
theorem dX6_init_120 : decode cX6_init 120 = .ok (.return_, 1) := by decide +kernel
set_option maxRecDepth 20000 in
theorem ggX6_field_X6_isField : GoodIn wsX6_field wsX6_isField := goodIn_r _ [6, 7, 8, 5, 9] (by decide +kernel) (by decide +kernel)
set_option maxRecDepth 20000 in
theorem gX6_field_X6_isField : GoodIn wsX6_field (va_wsS RX6 57 yX6_isField wsX6_isField) := goodIn_app (goodIn_of _ (by decide +kernel)) ggX6_field_X6_isField
set_option maxRecDepth 20000 in
theorem ggX6_field_X6_isWithin : GoodIn wsX6_field wsX6_isWithin := goodIn_r _ [9] (by decide +kernel) (by decide +kernel)
set_option maxRecDepth 20000 in
theorem gX6_field_X6_isWithin : GoodIn wsX6_field (va_wsS RX6 61 yX6_isWithin wsX6_isWithin) := goodIn_app (goodIn_of _ (by decide +kernel)) ggX6_field_X6_isWithin
set_option maxRecDepth 20000 in
theorem ggX6_field_X1_forget : GoodIn wsX6_field wsX1_forget := goodIn_r _ [14, 15, 25, 26, 27, 28, 29, 30, 31, 32] (by decide +kernel) (by decide +kernel)
set_option maxRecDepth 20000 in
theorem gX6_field_X1_forget : GoodIn wsX6_field (wsV RX6 69 RX1 yX1_forget wsX1_forget) := goodIn_app (goodIn_of _ (by decide +kernel)) ggX6_field_X1_forget
theorem dX6_field_0 : decode cX6_field 0 = .ok (.iload_n 1, 1) := by decide +kernel
theorem dX6_field_1 : decode cX6_field 1 = .ok (.invokestatic 57, 3) := by decide +kernel
theorem dX6_field_4 : decode cX6_field 4 = .ok (.ifCond .eq 12, 3) := by decide +kernel
theorem dX6_field_7 : decode cX6_field 7 = .ok (.iload_n 2, 1) := by decide +kernel
theorem dX6_field_8 : decode cX6_field 8 = .ok (.iconst 0, 1) := by decide +kernel
theorem dX6_field_9 : decode cX6_field 9 = .ok (.iconst 4, 1) := by decide +kernel
theorem dX6_field_10 : decode cX6_field 10 = .ok (.invokestatic 61, 3) := by decide +kernel
theorem dX6_field_13 : decode cX6_field 13 = .ok (.ifCond .ne 5, 3) := by decide +kernel
theorem dX6_field_16 : decode cX6_field 16 = .ok (.iconst (-1), 1) := by decide +kernel
theorem dX6_field_17 : decode cX6_field 17 = .ok (.ireturn, 1) := by decide +kernel
theorem dX6_field_18 : decode cX6_field 18 = .ok (.aload_n 0, 1) := by decide +kernel
theorem dX6_field_19 : decode cX6_field 19 = .ok (.getfield 10, 3) := by decide +kernel
theorem dX6_field_22 : decode cX6_field 22 = .ok (.getfield 65, 3) := by decide +kernel
theorem dX6_field_25 : decode cX6_field 25 = .ok (.iload_n 1, 1) := by decide +kernel
theorem dX6_field_26 : decode cX6_field 26 = .ok (.iaload, 1) := by decide +kernel
theorem dX6_field_27 : decode cX6_field 27 = .ok (.istore_n 3, 1) := by decide +kernel
theorem dX6_field_28 : decode cX6_field 28 = .ok (.aload_n 0, 1) := by decide +kernel
theorem dX6_field_29 : decode cX6_field 29 = .ok (.getfield 10, 3) := by decide +kernel
theorem dX6_field_32 : decode cX6_field 32 = .ok (.getfield 65, 3) := by decide +kernel
theorem dX6_field_35 : decode cX6_field 35 = .ok (.iload_n 1, 1) := by decide +kernel
theorem dX6_field_36 : decode cX6_field 36 = .ok (.iload_n 2, 1) := by decide +kernel
theorem dX6_field_37 : decode cX6_field 37 = .ok (.iastore, 1) := by decide +kernel
theorem dX6_field_38 : decode cX6_field 38 = .ok (.aload_n 0, 1) := by decide +kernel
theorem dX6_field_39 : decode cX6_field 39 = .ok (.getfield 10, 3) := by decide +kernel
theorem dX6_field_42 : decode cX6_field 42 = .ok (.invokevirtual 69, 3) := by decide +kernel
theorem dX6_field_45 : decode cX6_field 45 = .ok (.iload_n 3, 1) := by decide +kernel
theorem dX6_field_46 : decode cX6_field 46 = .ok (.ireturn, 1) := by decide +kernel
set_option maxRecDepth 20000 in
theorem ggX6_claim_X6_isField : GoodIn wsX6_claim wsX6_isField := goodIn_r _ [6, 7, 8, 5, 9] (by decide +kernel) (by decide +kernel)
set_option maxRecDepth 20000 in
theorem gX6_claim_X6_isField : GoodIn wsX6_claim (va_wsS RX6 57 yX6_isField wsX6_isField) := goodIn_app (goodIn_of _ (by decide +kernel)) ggX6_claim_X6_isField
set_option maxRecDepth 20000 in
theorem ggX6_claim_X6_isWithin : GoodIn wsX6_claim wsX6_isWithin := goodIn_r _ [9] (by decide +kernel) (by decide +kernel)
set_option maxRecDepth 20000 in
theorem gX6_claim_X6_isWithin : GoodIn wsX6_claim (va_wsS RX6 61 yX6_isWithin wsX6_isWithin) := goodIn_app (goodIn_of _ (by decide +kernel)) ggX6_claim_X6_isWithin
set_option maxRecDepth 20000 in
theorem ggX6_claim_X1_addClaim : GoodIn wsX6_claim wsX1_addClaim := goodIn_r _ [14, 15, 16, 17, 18, 33, 34, 35, 36, 37, 38, 39, 40] (by decide +kernel) (by decide +kernel)
set_option maxRecDepth 20000 in
theorem gX6_claim_X1_addClaim : GoodIn wsX6_claim (wsV RX6 72 RX1 yX1_addClaim wsX1_addClaim) := goodIn_app (goodIn_of _ (by decide +kernel)) ggX6_claim_X1_addClaim
set_option maxRecDepth 20000 in
theorem ggX6_claim_X1_forget : GoodIn wsX6_claim wsX1_forget := goodIn_r _ [22, 23, 33, 34, 35, 36, 37, 38, 39, 40] (by decide +kernel) (by decide +kernel)
set_option maxRecDepth 20000 in
theorem gX6_claim_X1_forget : GoodIn wsX6_claim (wsV RX6 69 RX1 yX1_forget wsX1_forget) := goodIn_app (goodIn_of _ (by decide +kernel)) ggX6_claim_X1_forget
theorem dX6_claim_0 : decode cX6_claim 0 = .ok (.iload_n 1, 1) := by decide +kernel
theorem dX6_claim_1 : decode cX6_claim 1 = .ok (.invokestatic 57, 3) := by decide +kernel
theorem dX6_claim_4 : decode cX6_claim 4 = .ok (.ifCond .eq 23, 3) := by decide +kernel
theorem dX6_claim_7 : decode cX6_claim 7 = .ok (.iload_n 2, 1) := by decide +kernel
theorem dX6_claim_8 : decode cX6_claim 8 = .ok (.iload_n 1, 1) := by decide +kernel
theorem dX6_claim_9 : decode cX6_claim 9 = .ok (.bipush 6, 2) := by decide +kernel
theorem dX6_claim_11 : decode cX6_claim 11 = .ok (.invokestatic 61, 3) := by decide +kernel
theorem dX6_claim_14 : decode cX6_claim 14 = .ok (.ifCond .eq 13, 3) := by decide +kernel
theorem dX6_claim_17 : decode cX6_claim 17 = .ok (.iload_n 3, 1) := by decide +kernel
theorem dX6_claim_18 : decode cX6_claim 18 = .ok (.iconst 1, 1) := by decide +kernel
theorem dX6_claim_19 : decode cX6_claim 19 = .ok (.bipush 99, 2) := by decide +kernel
theorem dX6_claim_21 : decode cX6_claim 21 = .ok (.invokestatic 61, 3) := by decide +kernel
theorem dX6_claim_24 : decode cX6_claim 24 = .ok (.ifCond .ne 5, 3) := by decide +kernel
theorem dX6_claim_27 : decode cX6_claim 27 = .ok (.iconst (-1), 1) := by decide +kernel
theorem dX6_claim_28 : decode cX6_claim 28 = .ok (.ireturn, 1) := by decide +kernel
theorem dX6_claim_29 : decode cX6_claim 29 = .ok (.aload_n 0, 1) := by decide +kernel
theorem dX6_claim_30 : decode cX6_claim 30 = .ok (.getfield 10, 3) := by decide +kernel
theorem dX6_claim_33 : decode cX6_claim 33 = .ok (.iload_n 1, 1) := by decide +kernel
theorem dX6_claim_34 : decode cX6_claim 34 = .ok (.iload_n 2, 1) := by decide +kernel
theorem dX6_claim_35 : decode cX6_claim 35 = .ok (.iload_n 3, 1) := by decide +kernel
theorem dX6_claim_36 : decode cX6_claim 36 = .ok (.invokevirtual 72, 3) := by decide +kernel
theorem dX6_claim_39 : decode cX6_claim 39 = .ok (.ifCond .ne 6, 3) := by decide +kernel
theorem dX6_claim_42 : decode cX6_claim 42 = .ok (.bipush (-3), 2) := by decide +kernel
theorem dX6_claim_44 : decode cX6_claim 44 = .ok (.ireturn, 1) := by decide +kernel
theorem dX6_claim_45 : decode cX6_claim 45 = .ok (.aload_n 0, 1) := by decide +kernel
theorem dX6_claim_46 : decode cX6_claim 46 = .ok (.getfield 10, 3) := by decide +kernel
theorem dX6_claim_49 : decode cX6_claim 49 = .ok (.invokevirtual 69, 3) := by decide +kernel
theorem dX6_claim_52 : decode cX6_claim 52 = .ok (.aload_n 0, 1) := by decide +kernel
theorem dX6_claim_53 : decode cX6_claim 53 = .ok (.getfield 10, 3) := by decide +kernel
theorem dX6_claim_56 : decode cX6_claim 56 = .ok (.getfield 75, 3) := by decide +kernel
theorem dX6_claim_59 : decode cX6_claim 59 = .ok (.iconst 1, 1) := by decide +kernel
theorem dX6_claim_60 : decode cX6_claim 60 = .ok (.isub, 1) := by decide +kernel
theorem dX6_claim_61 : decode cX6_claim 61 = .ok (.ireturn, 1) := by decide +kernel
set_option maxRecDepth 20000 in
theorem ggX6_of_X6_isField : GoodIn wsX6_of wsX6_isField := goodIn_r _ [9, 10, 11, 8, 12] (by decide +kernel) (by decide +kernel)
set_option maxRecDepth 20000 in
theorem gX6_of_X6_isField : GoodIn wsX6_of (va_wsS RX6 57 yX6_isField wsX6_isField) := goodIn_app (goodIn_of _ (by decide +kernel)) ggX6_of_X6_isField
set_option maxRecDepth 20000 in
theorem ggX6_of_X1_onFrom : GoodIn wsX6_of wsX1_onFrom := goodIn_r _ [17, 18, 19, 20, 21, 22, 23, 24, 11, 8, 12, 25, 26, 16, 27, 28, 29, 30, 49, 50, 51, 52, 53, 54, 55, 56, 57, 58, 59, 60, 61] (by decide +kernel) (by decide +kernel)
set_option maxRecDepth 20000 in
theorem gX6_of_X1_onFrom : GoodIn wsX6_of (wsV RX6 91 RX1 yX1_onFrom wsX1_onFrom) := goodIn_app (goodIn_of _ (by decide +kernel)) ggX6_of_X1_onFrom
set_option maxRecDepth 20000 in
theorem ggX6_of_X1_backFrom : GoodIn wsX6_of wsX1_backFrom := goodIn_r _ [34, 18, 35, 36, 37, 23, 38, 11, 8, 12, 39, 14, 15, 16, 17, 19, 20, 21, 22, 24, 25, 26, 27, 28, 29, 30, 49, 50, 51, 52, 53, 54, 55, 56, 57, 58, 59, 60, 61] (by decide +kernel) (by decide +kernel)
set_option maxRecDepth 20000 in
theorem gX6_of_X1_backFrom : GoodIn wsX6_of (wsV RX6 95 RX1 yX1_backFrom wsX1_backFrom) := goodIn_app (goodIn_of _ (by decide +kernel)) ggX6_of_X1_backFrom
theorem dX6_of_0 : decode cX6_of 0 = .ok (.iload_n 1, 1) := by decide +kernel
theorem dX6_of_1 : decode cX6_of 1 = .ok (.invokestatic 57, 3) := by decide +kernel
theorem dX6_of_4 : decode cX6_of 4 = .ok (.ifCond .ne 5, 3) := by decide +kernel
theorem dX6_of_7 : decode cX6_of 7 = .ok (.iconst (-1), 1) := by decide +kernel
theorem dX6_of_8 : decode cX6_of 8 = .ok (.ireturn, 1) := by decide +kernel
theorem dX6_of_9 : decode cX6_of 9 = .ok (.iload_n 2, 1) := by decide +kernel
theorem dX6_of_10 : decode cX6_of 10 = .ok (.tableswitch 88 0 4 #[34, 44, 57, 70, 79], 34) := by decide +kernel
theorem dX6_of_44 : decode cX6_of 44 = .ok (.aload_n 0, 1) := by decide +kernel
theorem dX6_of_45 : decode cX6_of 45 = .ok (.getfield 10, 3) := by decide +kernel
theorem dX6_of_48 : decode cX6_of 48 = .ok (.getfield 65, 3) := by decide +kernel
theorem dX6_of_51 : decode cX6_of 51 = .ok (.iload_n 1, 1) := by decide +kernel
theorem dX6_of_52 : decode cX6_of 52 = .ok (.iaload, 1) := by decide +kernel
theorem dX6_of_53 : decode cX6_of 53 = .ok (.ireturn, 1) := by decide +kernel
theorem dX6_of_54 : decode cX6_of 54 = .ok (.aload_n 0, 1) := by decide +kernel
theorem dX6_of_55 : decode cX6_of 55 = .ok (.getfield 10, 3) := by decide +kernel
theorem dX6_of_58 : decode cX6_of 58 = .ok (.getfield 79, 3) := by decide +kernel
theorem dX6_of_61 : decode cX6_of 61 = .ok (.getfield 83, 3) := by decide +kernel
theorem dX6_of_64 : decode cX6_of 64 = .ok (.iload_n 1, 1) := by decide +kernel
theorem dX6_of_65 : decode cX6_of 65 = .ok (.iaload, 1) := by decide +kernel
theorem dX6_of_66 : decode cX6_of 66 = .ok (.ireturn, 1) := by decide +kernel
theorem dX6_of_67 : decode cX6_of 67 = .ok (.aload_n 0, 1) := by decide +kernel
theorem dX6_of_68 : decode cX6_of 68 = .ok (.getfield 10, 3) := by decide +kernel
theorem dX6_of_71 : decode cX6_of 71 = .ok (.getfield 79, 3) := by decide +kernel
theorem dX6_of_74 : decode cX6_of 74 = .ok (.getfield 88, 3) := by decide +kernel
theorem dX6_of_77 : decode cX6_of 77 = .ok (.iload_n 1, 1) := by decide +kernel
theorem dX6_of_78 : decode cX6_of 78 = .ok (.iaload, 1) := by decide +kernel
theorem dX6_of_79 : decode cX6_of 79 = .ok (.ireturn, 1) := by decide +kernel
theorem dX6_of_80 : decode cX6_of 80 = .ok (.aload_n 0, 1) := by decide +kernel
theorem dX6_of_81 : decode cX6_of 81 = .ok (.getfield 10, 3) := by decide +kernel
theorem dX6_of_84 : decode cX6_of 84 = .ok (.iload_n 1, 1) := by decide +kernel
theorem dX6_of_85 : decode cX6_of 85 = .ok (.invokevirtual 91, 3) := by decide +kernel
theorem dX6_of_88 : decode cX6_of 88 = .ok (.ireturn, 1) := by decide +kernel
theorem dX6_of_89 : decode cX6_of 89 = .ok (.aload_n 0, 1) := by decide +kernel
theorem dX6_of_90 : decode cX6_of 90 = .ok (.getfield 10, 3) := by decide +kernel
theorem dX6_of_93 : decode cX6_of 93 = .ok (.iload_n 1, 1) := by decide +kernel
theorem dX6_of_94 : decode cX6_of 94 = .ok (.invokevirtual 95, 3) := by decide +kernel
theorem dX6_of_97 : decode cX6_of 97 = .ok (.ireturn, 1) := by decide +kernel
theorem dX6_of_98 : decode cX6_of 98 = .ok (.iconst (-1), 1) := by decide +kernel
theorem dX6_of_99 : decode cX6_of 99 = .ok (.ireturn, 1) := by decide +kernel
set_option maxRecDepth 20000 in
theorem ggX6_at_X6_isClaim : GoodIn wsX6_at wsX6_isClaim := goodIn_r _ [9, 1, 10, 11, 12, 8, 13, 14, 15, 16, 17, 18, 19, 20, 21, 22, 23, 24, 25, 26, 27, 28, 29, 30] (by decide +kernel) (by decide +kernel)
set_option maxRecDepth 20000 in
theorem gX6_at_X6_isClaim : GoodIn wsX6_at (wsV RX6 98 RX6 yX6_isClaim wsX6_isClaim) := goodIn_app (goodIn_of _ (by decide +kernel)) ggX6_at_X6_isClaim
theorem dX6_at_0 : decode cX6_at 0 = .ok (.aload_n 0, 1) := by decide +kernel
theorem dX6_at_1 : decode cX6_at 1 = .ok (.iload_n 1, 1) := by decide +kernel
theorem dX6_at_2 : decode cX6_at 2 = .ok (.invokevirtual 98, 3) := by decide +kernel
theorem dX6_at_5 : decode cX6_at 5 = .ok (.ifCond .ne 5, 3) := by decide +kernel
theorem dX6_at_8 : decode cX6_at 8 = .ok (.iconst (-1), 1) := by decide +kernel
theorem dX6_at_9 : decode cX6_at 9 = .ok (.ireturn, 1) := by decide +kernel
theorem dX6_at_10 : decode cX6_at 10 = .ok (.iload_n 2, 1) := by decide +kernel
theorem dX6_at_11 : decode cX6_at 11 = .ok (.tableswitch 55 0 2 #[25, 35, 45], 25) := by decide +kernel
theorem dX6_at_36 : decode cX6_at 36 = .ok (.aload_n 0, 1) := by decide +kernel
theorem dX6_at_37 : decode cX6_at 37 = .ok (.getfield 10, 3) := by decide +kernel
theorem dX6_at_40 : decode cX6_at 40 = .ok (.getfield 101, 3) := by decide +kernel
theorem dX6_at_43 : decode cX6_at 43 = .ok (.iload_n 1, 1) := by decide +kernel
theorem dX6_at_44 : decode cX6_at 44 = .ok (.iaload, 1) := by decide +kernel
theorem dX6_at_45 : decode cX6_at 45 = .ok (.ireturn, 1) := by decide +kernel
theorem dX6_at_46 : decode cX6_at 46 = .ok (.aload_n 0, 1) := by decide +kernel
theorem dX6_at_47 : decode cX6_at 47 = .ok (.getfield 10, 3) := by decide +kernel
theorem dX6_at_50 : decode cX6_at 50 = .ok (.getfield 104, 3) := by decide +kernel
theorem dX6_at_53 : decode cX6_at 53 = .ok (.iload_n 1, 1) := by decide +kernel
theorem dX6_at_54 : decode cX6_at 54 = .ok (.iaload, 1) := by decide +kernel
theorem dX6_at_55 : decode cX6_at 55 = .ok (.ireturn, 1) := by decide +kernel
theorem dX6_at_56 : decode cX6_at 56 = .ok (.aload_n 0, 1) := by decide +kernel
theorem dX6_at_57 : decode cX6_at 57 = .ok (.getfield 10, 3) := by decide +kernel
theorem dX6_at_60 : decode cX6_at 60 = .ok (.getfield 107, 3) := by decide +kernel
theorem dX6_at_63 : decode cX6_at 63 = .ok (.iload_n 1, 1) := by decide +kernel
theorem dX6_at_64 : decode cX6_at 64 = .ok (.iaload, 1) := by decide +kernel
theorem dX6_at_65 : decode cX6_at 65 = .ok (.ireturn, 1) := by decide +kernel
theorem dX6_at_66 : decode cX6_at 66 = .ok (.iconst (-1), 1) := by decide +kernel
theorem dX6_at_67 : decode cX6_at 67 = .ok (.ireturn, 1) := by decide +kernel
set_option maxRecDepth 20000 in
theorem ggX6_type_X6_isWithin : GoodIn wsX6_type wsX6_isWithin := goodIn_r _ [6] (by decide +kernel) (by decide +kernel)
set_option maxRecDepth 20000 in
theorem gX6_type_X6_isWithin : GoodIn wsX6_type (va_wsS RX6 61 yX6_isWithin wsX6_isWithin) := goodIn_app (goodIn_of _ (by decide +kernel)) ggX6_type_X6_isWithin
set_option maxRecDepth 20000 in
theorem ggX6_type_X3_add : GoodIn wsX6_type wsX3_add := goodIn_r _ [11, 12, 13, 23, 24, 25] (by decide +kernel) (by decide +kernel)
set_option maxRecDepth 20000 in
theorem gX6_type_X3_add : GoodIn wsX6_type (wsV RX6 110 RX3 yX3_add wsX3_add) := goodIn_app (goodIn_of _ (by decide +kernel)) ggX6_type_X3_add
theorem dX6_type_0 : decode cX6_type 0 = .ok (.iload_n 1, 1) := by decide +kernel
theorem dX6_type_1 : decode cX6_type 1 = .ok (.bipush 32, 2) := by decide +kernel
theorem dX6_type_3 : decode cX6_type 3 = .ok (.bipush 126, 2) := by decide +kernel
theorem dX6_type_5 : decode cX6_type 5 = .ok (.invokestatic 61, 3) := by decide +kernel
theorem dX6_type_8 : decode cX6_type 8 = .ok (.ifCond .ne 5, 3) := by decide +kernel
theorem dX6_type_11 : decode cX6_type 11 = .ok (.iconst (-1), 1) := by decide +kernel
theorem dX6_type_12 : decode cX6_type 12 = .ok (.ireturn, 1) := by decide +kernel
theorem dX6_type_13 : decode cX6_type 13 = .ok (.aload_n 0, 1) := by decide +kernel
theorem dX6_type_14 : decode cX6_type 14 = .ok (.getfield 42, 3) := by decide +kernel
theorem dX6_type_17 : decode cX6_type 17 = .ok (.iload_n 1, 1) := by decide +kernel
theorem dX6_type_18 : decode cX6_type 18 = .ok (.invokevirtual 110, 3) := by decide +kernel
theorem dX6_type_21 : decode cX6_type 21 = .ok (.ifCond .eq 13, 3) := by decide +kernel
theorem dX6_type_24 : decode cX6_type 24 = .ok (.aload_n 0, 1) := by decide +kernel
theorem dX6_type_25 : decode cX6_type 25 = .ok (.getfield 42, 3) := by decide +kernel
theorem dX6_type_28 : decode cX6_type 28 = .ok (.getfield 113, 3) := by decide +kernel
theorem dX6_type_31 : decode cX6_type 31 = .ok (.goto 5, 3) := by decide +kernel
theorem dX6_type_34 : decode cX6_type 34 = .ok (.bipush (-3), 2) := by decide +kernel
theorem dX6_type_36 : decode cX6_type 36 = .ok (.ireturn, 1) := by decide +kernel
set_option maxRecDepth 20000 in
theorem ggX6_valley_X1_takeGround : GoodIn wsX6_valley wsX1_takeGround := goodIn_r _ [12, 13, 14, 15, 16, 17, 18, 19, 20, 21, 22, 23, 24, 25, 26, 27, 28, 29, 115, 116, 117, 118, 119, 120, 121, 122, 123, 124, 125, 126, 127] (by decide +kernel) (by decide +kernel)
set_option maxRecDepth 20000 in
theorem gX6_valley_X1_takeGround : GoodIn wsX6_valley (wsV RX6 116 RX1 yX1_takeGround wsX1_takeGround) := goodIn_app (goodIn_of _ (by decide +kernel)) ggX6_valley_X1_takeGround
set_option maxRecDepth 20000 in
theorem ggX6_valley_X3_readValley : GoodIn wsX6_valley wsX3_readValley := goodIn_r _ [34, 35, 36, 37, 38, 39, 40, 41, 33, 42, 43, 44, 45, 46, 47, 48, 49, 50, 51, 52, 53, 54, 55, 56, 57, 58, 59, 60, 61, 62, 63, 64, 65, 66, 67, 68, 69, 70, 71, 72, 73, 74, 75, 76, 77, 78, 79, 80, 81, 82, 83, 84, 11, 85, 86, 87, 88, 89, 112, 113, 114, 115, 116, 117, 118, 119, 120, 121, 122, 123, 124, 125, 126, 127] (by decide +kernel) (by decide +kernel)
set_option maxRecDepth 20000 in
theorem gX6_valley_X3_readValley : GoodIn wsX6_valley (wsV RX6 120 RX3 yX3_readValley wsX3_readValley) := goodIn_app (goodIn_of _ (by decide +kernel)) ggX6_valley_X3_readValley
set_option maxRecDepth 20000 in
theorem ggX6_valley_X3_clear : GoodIn wsX6_valley wsX3_clear := goodIn_r _ [93, 47, 112, 113, 114] (by decide +kernel) (by decide +kernel)
set_option maxRecDepth 20000 in
theorem gX6_valley_X3_clear : GoodIn wsX6_valley (wsV RX6 127 RX3 yX3_clear wsX3_clear) := goodIn_app (goodIn_of _ (by decide +kernel)) ggX6_valley_X3_clear
set_option maxRecDepth 20000 in
theorem ggX6_valley_X1_takeClaims : GoodIn wsX6_valley wsX1_takeClaims := goodIn_r _ [97, 87, 14, 15, 16, 17, 88, 89, 86, 115, 116, 117, 118, 119, 120, 121, 122] (by decide +kernel) (by decide +kernel)
set_option maxRecDepth 20000 in
theorem gX6_valley_X1_takeClaims : GoodIn wsX6_valley (wsV RX6 130 RX1 yX1_takeClaims wsX1_takeClaims) := goodIn_app (goodIn_of _ (by decide +kernel)) ggX6_valley_X1_takeClaims
set_option maxRecDepth 20000 in
theorem ggX6_valley_X1_forget : GoodIn wsX6_valley wsX1_forget := goodIn_r _ [101, 102, 115, 116, 117, 118, 119, 120, 121, 122] (by decide +kernel) (by decide +kernel)
set_option maxRecDepth 20000 in
theorem gX6_valley_X1_forget : GoodIn wsX6_valley (wsV RX6 69 RX1 yX1_forget wsX1_forget) := goodIn_app (goodIn_of _ (by decide +kernel)) ggX6_valley_X1_forget
theorem dX6_valley_0 : decode cX6_valley 0 = .ok (.aload_n 0, 1) := by decide +kernel
theorem dX6_valley_1 : decode cX6_valley 1 = .ok (.getfield 19, 3) := by decide +kernel
theorem dX6_valley_4 : decode cX6_valley 4 = .ok (.aload_n 0, 1) := by decide +kernel
theorem dX6_valley_5 : decode cX6_valley 5 = .ok (.getfield 10, 3) := by decide +kernel
theorem dX6_valley_8 : decode cX6_valley 8 = .ok (.invokevirtual 116, 3) := by decide +kernel
theorem dX6_valley_11 : decode cX6_valley 11 = .ok (.aload_n 0, 1) := by decide +kernel
theorem dX6_valley_12 : decode cX6_valley 12 = .ok (.getfield 42, 3) := by decide +kernel
theorem dX6_valley_15 : decode cX6_valley 15 = .ok (.aload_n 0, 1) := by decide +kernel
theorem dX6_valley_16 : decode cX6_valley 16 = .ok (.getfield 19, 3) := by decide +kernel
theorem dX6_valley_19 : decode cX6_valley 19 = .ok (.invokevirtual 120, 3) := by decide +kernel
theorem dX6_valley_22 : decode cX6_valley 22 = .ok (.istore_n 1, 1) := by decide +kernel
theorem dX6_valley_23 : decode cX6_valley 23 = .ok (.bipush (-20), 2) := by decide +kernel
theorem dX6_valley_25 : decode cX6_valley 25 = .ok (.aload_n 0, 1) := by decide +kernel
theorem dX6_valley_26 : decode cX6_valley 26 = .ok (.getfield 42, 3) := by decide +kernel
theorem dX6_valley_29 : decode cX6_valley 29 = .ok (.getfield 124, 3) := by decide +kernel
theorem dX6_valley_32 : decode cX6_valley 32 = .ok (.isub, 1) := by decide +kernel
theorem dX6_valley_33 : decode cX6_valley 33 = .ok (.istore_n 2, 1) := by decide +kernel
theorem dX6_valley_34 : decode cX6_valley 34 = .ok (.aload_n 0, 1) := by decide +kernel
theorem dX6_valley_35 : decode cX6_valley 35 = .ok (.getfield 42, 3) := by decide +kernel
theorem dX6_valley_38 : decode cX6_valley 38 = .ok (.invokevirtual 127, 3) := by decide +kernel
theorem dX6_valley_41 : decode cX6_valley 41 = .ok (.iload_n 1, 1) := by decide +kernel
theorem dX6_valley_42 : decode cX6_valley 42 = .ok (.ifCond .ne 5, 3) := by decide +kernel
theorem dX6_valley_45 : decode cX6_valley 45 = .ok (.iload_n 2, 1) := by decide +kernel
theorem dX6_valley_46 : decode cX6_valley 46 = .ok (.ireturn, 1) := by decide +kernel
theorem dX6_valley_47 : decode cX6_valley 47 = .ok (.aload_n 0, 1) := by decide +kernel
theorem dX6_valley_48 : decode cX6_valley 48 = .ok (.getfield 10, 3) := by decide +kernel
theorem dX6_valley_51 : decode cX6_valley 51 = .ok (.aload_n 0, 1) := by decide +kernel
theorem dX6_valley_52 : decode cX6_valley 52 = .ok (.getfield 19, 3) := by decide +kernel
theorem dX6_valley_55 : decode cX6_valley 55 = .ok (.invokevirtual 116, 3) := by decide +kernel
theorem dX6_valley_58 : decode cX6_valley 58 = .ok (.aload_n 0, 1) := by decide +kernel
theorem dX6_valley_59 : decode cX6_valley 59 = .ok (.getfield 10, 3) := by decide +kernel
theorem dX6_valley_62 : decode cX6_valley 62 = .ok (.aload_n 0, 1) := by decide +kernel
theorem dX6_valley_63 : decode cX6_valley 63 = .ok (.getfield 19, 3) := by decide +kernel
theorem dX6_valley_66 : decode cX6_valley 66 = .ok (.invokevirtual 130, 3) := by decide +kernel
theorem dX6_valley_69 : decode cX6_valley 69 = .ok (.aload_n 0, 1) := by decide +kernel
theorem dX6_valley_70 : decode cX6_valley 70 = .ok (.getfield 10, 3) := by decide +kernel
theorem dX6_valley_73 : decode cX6_valley 73 = .ok (.getfield 79, 3) := by decide +kernel
theorem dX6_valley_76 : decode cX6_valley 76 = .ok (.iconst 0, 1) := by decide +kernel
theorem dX6_valley_77 : decode cX6_valley 77 = .ok (.putfield 133, 3) := by decide +kernel
theorem dX6_valley_80 : decode cX6_valley 80 = .ok (.aload_n 0, 1) := by decide +kernel
theorem dX6_valley_81 : decode cX6_valley 81 = .ok (.getfield 10, 3) := by decide +kernel
theorem dX6_valley_84 : decode cX6_valley 84 = .ok (.invokevirtual 69, 3) := by decide +kernel
theorem dX6_valley_87 : decode cX6_valley 87 = .ok (.aload_n 0, 1) := by decide +kernel
theorem dX6_valley_88 : decode cX6_valley 88 = .ok (.getfield 10, 3) := by decide +kernel
theorem dX6_valley_91 : decode cX6_valley 91 = .ok (.getfield 75, 3) := by decide +kernel
theorem dX6_valley_94 : decode cX6_valley 94 = .ok (.ireturn, 1) := by decide +kernel
set_option maxRecDepth 20000 in
theorem ggX6_count_X6_sum : GoodIn wsX6_count wsX6_sum := goodIn_r _ [12] (by decide +kernel) (by decide +kernel)
set_option maxRecDepth 20000 in
theorem gX6_count_X6_sum : GoodIn wsX6_count (va_wsS RX6 139 yX6_sum wsX6_sum) := goodIn_app (goodIn_of _ (by decide +kernel)) ggX6_count_X6_sum
set_option maxRecDepth 20000 in
theorem ggX6_count_X1_claimsOn : GoodIn wsX6_count wsX1_claimsOn := goodIn_r _ [17, 18, 19, 20, 21, 11, 22, 32, 33, 34, 35, 36, 37, 38, 39] (by decide +kernel) (by decide +kernel)
set_option maxRecDepth 20000 in
theorem gX6_count_X1_claimsOn : GoodIn wsX6_count (wsV RX6 143 RX1 yX1_claimsOn wsX1_claimsOn) := goodIn_app (goodIn_of _ (by decide +kernel)) ggX6_count_X1_claimsOn
theorem dX6_count_0 : decode cX6_count 0 = .ok (.iload_n 1, 1) := by decide +kernel
theorem dX6_count_1 : decode cX6_count 1 = .ok (.tableswitch 127 0 6 #[43, 51, 62, 73, 87, 101, 119], 43) := by decide +kernel
theorem dX6_count_44 : decode cX6_count 44 = .ok (.aload_n 0, 1) := by decide +kernel
theorem dX6_count_45 : decode cX6_count 45 = .ok (.getfield 10, 3) := by decide +kernel
theorem dX6_count_48 : decode cX6_count 48 = .ok (.getfield 75, 3) := by decide +kernel
theorem dX6_count_51 : decode cX6_count 51 = .ok (.ireturn, 1) := by decide +kernel
theorem dX6_count_52 : decode cX6_count 52 = .ok (.aload_n 0, 1) := by decide +kernel
theorem dX6_count_53 : decode cX6_count 53 = .ok (.getfield 10, 3) := by decide +kernel
theorem dX6_count_56 : decode cX6_count 56 = .ok (.getfield 79, 3) := by decide +kernel
theorem dX6_count_59 : decode cX6_count 59 = .ok (.getfield 136, 3) := by decide +kernel
theorem dX6_count_62 : decode cX6_count 62 = .ok (.ireturn, 1) := by decide +kernel
theorem dX6_count_63 : decode cX6_count 63 = .ok (.aload_n 0, 1) := by decide +kernel
theorem dX6_count_64 : decode cX6_count 64 = .ok (.getfield 10, 3) := by decide +kernel
theorem dX6_count_67 : decode cX6_count 67 = .ok (.getfield 79, 3) := by decide +kernel
theorem dX6_count_70 : decode cX6_count 70 = .ok (.getfield 133, 3) := by decide +kernel
theorem dX6_count_73 : decode cX6_count 73 = .ok (.ireturn, 1) := by decide +kernel
theorem dX6_count_74 : decode cX6_count 74 = .ok (.aload_n 0, 1) := by decide +kernel
theorem dX6_count_75 : decode cX6_count 75 = .ok (.getfield 10, 3) := by decide +kernel
theorem dX6_count_78 : decode cX6_count 78 = .ok (.getfield 79, 3) := by decide +kernel
theorem dX6_count_81 : decode cX6_count 81 = .ok (.getfield 83, 3) := by decide +kernel
theorem dX6_count_84 : decode cX6_count 84 = .ok (.invokestatic 139, 3) := by decide +kernel
theorem dX6_count_87 : decode cX6_count 87 = .ok (.ireturn, 1) := by decide +kernel
theorem dX6_count_88 : decode cX6_count 88 = .ok (.aload_n 0, 1) := by decide +kernel
theorem dX6_count_89 : decode cX6_count 89 = .ok (.getfield 10, 3) := by decide +kernel
theorem dX6_count_92 : decode cX6_count 92 = .ok (.getfield 79, 3) := by decide +kernel
theorem dX6_count_95 : decode cX6_count 95 = .ok (.getfield 88, 3) := by decide +kernel
theorem dX6_count_98 : decode cX6_count 98 = .ok (.invokestatic 139, 3) := by decide +kernel
theorem dX6_count_101 : decode cX6_count 101 = .ok (.ireturn, 1) := by decide +kernel
theorem dX6_count_102 : decode cX6_count 102 = .ok (.aload_n 0, 1) := by decide +kernel
theorem dX6_count_103 : decode cX6_count 103 = .ok (.getfield 10, 3) := by decide +kernel
theorem dX6_count_106 : decode cX6_count 106 = .ok (.aload_n 0, 1) := by decide +kernel
theorem dX6_count_107 : decode cX6_count 107 = .ok (.getfield 10, 3) := by decide +kernel
theorem dX6_count_110 : decode cX6_count 110 = .ok (.getfield 79, 3) := by decide +kernel
theorem dX6_count_113 : decode cX6_count 113 = .ok (.getfield 136, 3) := by decide +kernel
theorem dX6_count_116 : decode cX6_count 116 = .ok (.invokevirtual 143, 3) := by decide +kernel
theorem dX6_count_119 : decode cX6_count 119 = .ok (.ireturn, 1) := by decide +kernel
theorem dX6_count_120 : decode cX6_count 120 = .ok (.aload_n 0, 1) := by decide +kernel
theorem dX6_count_121 : decode cX6_count 121 = .ok (.getfield 10, 3) := by decide +kernel
theorem dX6_count_124 : decode cX6_count 124 = .ok (.getfield 146, 3) := by decide +kernel
theorem dX6_count_127 : decode cX6_count 127 = .ok (.ireturn, 1) := by decide +kernel
theorem dX6_count_128 : decode cX6_count 128 = .ok (.iconst (-1), 1) := by decide +kernel
theorem dX6_count_129 : decode cX6_count 129 = .ok (.ireturn, 1) := by decide +kernel
set_option maxRecDepth 20000 in
theorem ggX6_days_X6_isWithin : GoodIn wsX6_days wsX6_isWithin := goodIn_r _ [8] (by decide +kernel) (by decide +kernel)
set_option maxRecDepth 20000 in
theorem gX6_days_X6_isWithin : GoodIn wsX6_days (va_wsS RX6 61 yX6_isWithin wsX6_isWithin) := goodIn_app (goodIn_of _ (by decide +kernel)) ggX6_days_X6_isWithin
set_option maxRecDepth 20000 in
theorem ggX6_days_X1_remember : GoodIn wsX6_days wsX1_remember := goodIn_r _ [13, 14, 15, 16, 17, 18, 19, 12, 20, 21, 22, 23, 24, 25, 26, 27, 28, 29, 30, 31, 32, 33, 34, 84, 85, 86, 87, 88, 89, 90, 91, 92, 93, 94, 95, 96] (by decide +kernel) (by decide +kernel)
set_option maxRecDepth 20000 in
theorem gX6_days_X1_remember : GoodIn wsX6_days (wsV RX6 149 RX1 yX1_remember wsX1_remember) := goodIn_app (goodIn_of _ (by decide +kernel)) ggX6_days_X1_remember
set_option maxRecDepth 20000 in
theorem ggX6_days_X1_passDay : GoodIn wsX6_days wsX1_passDay := goodIn_r _ [38, 16, 39, 40, 41, 42, 43, 44, 45, 46, 47, 12, 48, 49, 50, 51, 52, 53, 54, 6, 7, 8, 55, 56, 57, 58, 59, 60, 61, 62, 63, 64, 65, 66, 67, 68, 69, 70, 71, 72, 73, 74, 5, 84, 85, 86, 87, 88, 89, 90, 91, 92, 93, 94, 95, 96] (by decide +kernel) (by decide +kernel)
set_option maxRecDepth 20000 in
theorem gX6_days_X1_passDay : GoodIn wsX6_days (wsV RX6 152 RX1 yX1_passDay wsX1_passDay) := goodIn_app (goodIn_of _ (by decide +kernel)) ggX6_days_X1_passDay
theorem dX6_days_0 : decode cX6_days 0 = .ok (.iload_n 1, 1) := by decide +kernel
theorem dX6_days_1 : decode cX6_days 1 = .ok (.iconst 1, 1) := by decide +kernel
theorem dX6_days_2 : decode cX6_days 2 = .ok (.bipush 40, 2) := by decide +kernel
theorem dX6_days_4 : decode cX6_days 4 = .ok (.invokestatic 61, 3) := by decide +kernel
theorem dX6_days_7 : decode cX6_days 7 = .ok (.ifCond .ne 5, 3) := by decide +kernel
theorem dX6_days_10 : decode cX6_days 10 = .ok (.iconst (-1), 1) := by decide +kernel
theorem dX6_days_11 : decode cX6_days 11 = .ok (.ireturn, 1) := by decide +kernel
theorem dX6_days_12 : decode cX6_days 12 = .ok (.aload_n 0, 1) := by decide +kernel
theorem dX6_days_13 : decode cX6_days 13 = .ok (.getfield 10, 3) := by decide +kernel
theorem dX6_days_16 : decode cX6_days 16 = .ok (.getfield 79, 3) := by decide +kernel
theorem dX6_days_19 : decode cX6_days 19 = .ok (.getfield 133, 3) := by decide +kernel
theorem dX6_days_22 : decode cX6_days 22 = .ok (.sipush 9999, 3) := by decide +kernel
theorem dX6_days_25 : decode cX6_days 25 = .ok (.iload_n 1, 1) := by decide +kernel
theorem dX6_days_26 : decode cX6_days 26 = .ok (.isub, 1) := by decide +kernel
theorem dX6_days_27 : decode cX6_days 27 = .ok (.if_icmp .le 6, 3) := by decide +kernel
theorem dX6_days_30 : decode cX6_days 30 = .ok (.bipush (-3), 2) := by decide +kernel
theorem dX6_days_32 : decode cX6_days 32 = .ok (.ireturn, 1) := by decide +kernel
theorem dX6_days_33 : decode cX6_days 33 = .ok (.iconst 0, 1) := by decide +kernel
theorem dX6_days_34 : decode cX6_days 34 = .ok (.istore_n 2, 1) := by decide +kernel
theorem dX6_days_35 : decode cX6_days 35 = .ok (.iload_n 2, 1) := by decide +kernel
theorem dX6_days_36 : decode cX6_days 36 = .ok (.iload_n 1, 1) := by decide +kernel
theorem dX6_days_37 : decode cX6_days 37 = .ok (.if_icmp .ge 23, 3) := by decide +kernel
theorem dX6_days_40 : decode cX6_days 40 = .ok (.aload_n 0, 1) := by decide +kernel
theorem dX6_days_41 : decode cX6_days 41 = .ok (.getfield 10, 3) := by decide +kernel
theorem dX6_days_44 : decode cX6_days 44 = .ok (.invokevirtual 149, 3) := by decide +kernel
theorem dX6_days_47 : decode cX6_days 47 = .ok (.aload_n 0, 1) := by decide +kernel
theorem dX6_days_48 : decode cX6_days 48 = .ok (.getfield 10, 3) := by decide +kernel
theorem dX6_days_51 : decode cX6_days 51 = .ok (.invokevirtual 152, 3) := by decide +kernel
theorem dX6_days_54 : decode cX6_days 54 = .ok (.iinc 2 1, 3) := by decide +kernel
theorem dX6_days_57 : decode cX6_days 57 = .ok (.goto (-22), 3) := by decide +kernel
theorem dX6_days_60 : decode cX6_days 60 = .ok (.aload_n 0, 1) := by decide +kernel
theorem dX6_days_61 : decode cX6_days 61 = .ok (.getfield 10, 3) := by decide +kernel
theorem dX6_days_64 : decode cX6_days 64 = .ok (.getfield 79, 3) := by decide +kernel
theorem dX6_days_67 : decode cX6_days 67 = .ok (.getfield 136, 3) := by decide +kernel
theorem dX6_days_70 : decode cX6_days 70 = .ok (.ireturn, 1) := by decide +kernel
set_option maxRecDepth 20000 in
theorem ggX6_carry_X6_isField : GoodIn wsX6_carry wsX6_isField := goodIn_r _ [7, 8, 9, 6, 10] (by decide +kernel) (by decide +kernel)
set_option maxRecDepth 20000 in
theorem gX6_carry_X6_isField : GoodIn wsX6_carry (va_wsS RX6 57 yX6_isField wsX6_isField) := goodIn_app (goodIn_of _ (by decide +kernel)) ggX6_carry_X6_isField
set_option maxRecDepth 20000 in
theorem ggX6_carry_X1_remember : GoodIn wsX6_carry wsX1_remember := goodIn_r _ [15, 16, 17, 18, 19, 20, 21, 14, 22, 23, 24, 25, 26, 27, 28, 29, 30, 31, 32, 33, 34, 35, 36, 46, 47, 48, 49, 50, 51, 52, 53, 54, 55, 56, 57, 58] (by decide +kernel) (by decide +kernel)
set_option maxRecDepth 20000 in
theorem gX6_carry_X1_remember : GoodIn wsX6_carry (wsV RX6 149 RX1 yX1_remember wsX1_remember) := goodIn_app (goodIn_of _ (by decide +kernel)) ggX6_carry_X1_remember
theorem dX6_carry_0 : decode cX6_carry 0 = .ok (.iload_n 1, 1) := by decide +kernel
theorem dX6_carry_1 : decode cX6_carry 1 = .ok (.invokestatic 57, 3) := by decide +kernel
theorem dX6_carry_4 : decode cX6_carry 4 = .ok (.ifCond .ne 5, 3) := by decide +kernel
theorem dX6_carry_7 : decode cX6_carry 7 = .ok (.iconst (-1), 1) := by decide +kernel
theorem dX6_carry_8 : decode cX6_carry 8 = .ok (.ireturn, 1) := by decide +kernel
theorem dX6_carry_9 : decode cX6_carry 9 = .ok (.aload_n 0, 1) := by decide +kernel
theorem dX6_carry_10 : decode cX6_carry 10 = .ok (.getfield 10, 3) := by decide +kernel
theorem dX6_carry_13 : decode cX6_carry 13 = .ok (.getfield 79, 3) := by decide +kernel
theorem dX6_carry_16 : decode cX6_carry 16 = .ok (.getfield 136, 3) := by decide +kernel
theorem dX6_carry_19 : decode cX6_carry 19 = .ok (.istore_n 2, 1) := by decide +kernel
theorem dX6_carry_20 : decode cX6_carry 20 = .ok (.iload_n 2, 1) := by decide +kernel
theorem dX6_carry_21 : decode cX6_carry 21 = .ok (.iload_n 1, 1) := by decide +kernel
theorem dX6_carry_22 : decode cX6_carry 22 = .ok (.if_icmp .ne 6, 3) := by decide +kernel
theorem dX6_carry_25 : decode cX6_carry 25 = .ok (.bipush (-2), 2) := by decide +kernel
theorem dX6_carry_27 : decode cX6_carry 27 = .ok (.ireturn, 1) := by decide +kernel
theorem dX6_carry_28 : decode cX6_carry 28 = .ok (.aload_n 0, 1) := by decide +kernel
theorem dX6_carry_29 : decode cX6_carry 29 = .ok (.getfield 10, 3) := by decide +kernel
theorem dX6_carry_32 : decode cX6_carry 32 = .ok (.invokevirtual 149, 3) := by decide +kernel
theorem dX6_carry_35 : decode cX6_carry 35 = .ok (.aload_n 0, 1) := by decide +kernel
theorem dX6_carry_36 : decode cX6_carry 36 = .ok (.getfield 10, 3) := by decide +kernel
theorem dX6_carry_39 : decode cX6_carry 39 = .ok (.getfield 79, 3) := by decide +kernel
theorem dX6_carry_42 : decode cX6_carry 42 = .ok (.iload_n 1, 1) := by decide +kernel
theorem dX6_carry_43 : decode cX6_carry 43 = .ok (.putfield 136, 3) := by decide +kernel
theorem dX6_carry_46 : decode cX6_carry 46 = .ok (.iload_n 2, 1) := by decide +kernel
theorem dX6_carry_47 : decode cX6_carry 47 = .ok (.ireturn, 1) := by decide +kernel
set_option maxRecDepth 20000 in
theorem ggX6_lettuce_X6_isField : GoodIn wsX6_lettuce wsX6_isField := goodIn_r _ [11, 12, 13, 10, 14] (by decide +kernel) (by decide +kernel)
set_option maxRecDepth 20000 in
theorem gX6_lettuce_X6_isField : GoodIn wsX6_lettuce (va_wsS RX6 57 yX6_isField wsX6_isField) := goodIn_app (goodIn_of _ (by decide +kernel)) ggX6_lettuce_X6_isField
set_option maxRecDepth 20000 in
theorem ggX6_lettuce_X6_isWithin : GoodIn wsX6_lettuce wsX6_isWithin := goodIn_r _ [14] (by decide +kernel) (by decide +kernel)
set_option maxRecDepth 20000 in
theorem gX6_lettuce_X6_isWithin : GoodIn wsX6_lettuce (va_wsS RX6 61 yX6_isWithin wsX6_isWithin) := goodIn_app (goodIn_of _ (by decide +kernel)) ggX6_lettuce_X6_isWithin
set_option maxRecDepth 20000 in
theorem ggX6_lettuce_X1_remember : GoodIn wsX6_lettuce wsX1_remember := goodIn_r _ [19, 20, 21, 22, 23, 24, 25, 18, 26, 27, 28, 29, 30, 31, 32, 33, 34, 35, 36, 37, 38, 39, 40, 50, 51, 52, 53, 54, 55, 56, 57, 58, 59, 60, 61, 62] (by decide +kernel) (by decide +kernel)
set_option maxRecDepth 20000 in
theorem gX6_lettuce_X1_remember : GoodIn wsX6_lettuce (wsV RX6 149 RX1 yX1_remember wsX1_remember) := goodIn_app (goodIn_of _ (by decide +kernel)) ggX6_lettuce_X1_remember
theorem dX6_lettuce_0 : decode cX6_lettuce 0 = .ok (.iload_n 1, 1) := by decide +kernel
theorem dX6_lettuce_1 : decode cX6_lettuce 1 = .ok (.invokestatic 57, 3) := by decide +kernel
theorem dX6_lettuce_4 : decode cX6_lettuce 4 = .ok (.ifCond .eq 13, 3) := by decide +kernel
theorem dX6_lettuce_7 : decode cX6_lettuce 7 = .ok (.iload_n 2, 1) := by decide +kernel
theorem dX6_lettuce_8 : decode cX6_lettuce 8 = .ok (.iconst 1, 1) := by decide +kernel
theorem dX6_lettuce_9 : decode cX6_lettuce 9 = .ok (.bipush 9, 2) := by decide +kernel
theorem dX6_lettuce_11 : decode cX6_lettuce 11 = .ok (.invokestatic 61, 3) := by decide +kernel
theorem dX6_lettuce_14 : decode cX6_lettuce 14 = .ok (.ifCond .ne 5, 3) := by decide +kernel
theorem dX6_lettuce_17 : decode cX6_lettuce 17 = .ok (.iconst (-1), 1) := by decide +kernel
theorem dX6_lettuce_18 : decode cX6_lettuce 18 = .ok (.ireturn, 1) := by decide +kernel
theorem dX6_lettuce_19 : decode cX6_lettuce 19 = .ok (.aload_n 0, 1) := by decide +kernel
theorem dX6_lettuce_20 : decode cX6_lettuce 20 = .ok (.getfield 10, 3) := by decide +kernel
theorem dX6_lettuce_23 : decode cX6_lettuce 23 = .ok (.getfield 79, 3) := by decide +kernel
theorem dX6_lettuce_26 : decode cX6_lettuce 26 = .ok (.getfield 83, 3) := by decide +kernel
theorem dX6_lettuce_29 : decode cX6_lettuce 29 = .ok (.iload_n 1, 1) := by decide +kernel
theorem dX6_lettuce_30 : decode cX6_lettuce 30 = .ok (.iaload, 1) := by decide +kernel
theorem dX6_lettuce_31 : decode cX6_lettuce 31 = .ok (.bipush 9, 2) := by decide +kernel
theorem dX6_lettuce_33 : decode cX6_lettuce 33 = .ok (.if_icmp .lt 6, 3) := by decide +kernel
theorem dX6_lettuce_36 : decode cX6_lettuce 36 = .ok (.bipush (-2), 2) := by decide +kernel
theorem dX6_lettuce_38 : decode cX6_lettuce 38 = .ok (.ireturn, 1) := by decide +kernel
theorem dX6_lettuce_39 : decode cX6_lettuce 39 = .ok (.aload_n 0, 1) := by decide +kernel
theorem dX6_lettuce_40 : decode cX6_lettuce 40 = .ok (.getfield 10, 3) := by decide +kernel
theorem dX6_lettuce_43 : decode cX6_lettuce 43 = .ok (.invokevirtual 149, 3) := by decide +kernel
theorem dX6_lettuce_46 : decode cX6_lettuce 46 = .ok (.aload_n 0, 1) := by decide +kernel
theorem dX6_lettuce_47 : decode cX6_lettuce 47 = .ok (.getfield 10, 3) := by decide +kernel
theorem dX6_lettuce_50 : decode cX6_lettuce 50 = .ok (.getfield 79, 3) := by decide +kernel
theorem dX6_lettuce_53 : decode cX6_lettuce 53 = .ok (.getfield 83, 3) := by decide +kernel
theorem dX6_lettuce_56 : decode cX6_lettuce 56 = .ok (.iload_n 1, 1) := by decide +kernel
theorem dX6_lettuce_57 : decode cX6_lettuce 57 = .ok (.bipush 9, 2) := by decide +kernel
theorem dX6_lettuce_59 : decode cX6_lettuce 59 = .ok (.aload_n 0, 1) := by decide +kernel
theorem dX6_lettuce_60 : decode cX6_lettuce 60 = .ok (.getfield 10, 3) := by decide +kernel
theorem dX6_lettuce_63 : decode cX6_lettuce 63 = .ok (.getfield 79, 3) := by decide +kernel
theorem dX6_lettuce_66 : decode cX6_lettuce 66 = .ok (.getfield 83, 3) := by decide +kernel
theorem dX6_lettuce_69 : decode cX6_lettuce 69 = .ok (.iload_n 1, 1) := by decide +kernel
theorem dX6_lettuce_70 : decode cX6_lettuce 70 = .ok (.iaload, 1) := by decide +kernel
theorem dX6_lettuce_71 : decode cX6_lettuce 71 = .ok (.iload_n 2, 1) := by decide +kernel
theorem dX6_lettuce_72 : decode cX6_lettuce 72 = .ok (.iadd, 1) := by decide +kernel
theorem dX6_lettuce_73 : decode cX6_lettuce 73 = .ok (.invokestatic 155, 3) := by decide +kernel
theorem dX6_lettuce_76 : decode cX6_lettuce 76 = .ok (.iastore, 1) := by decide +kernel
theorem dX6_lettuce_77 : decode cX6_lettuce 77 = .ok (.aload_n 0, 1) := by decide +kernel
theorem dX6_lettuce_78 : decode cX6_lettuce 78 = .ok (.getfield 10, 3) := by decide +kernel
theorem dX6_lettuce_81 : decode cX6_lettuce 81 = .ok (.getfield 79, 3) := by decide +kernel
theorem dX6_lettuce_84 : decode cX6_lettuce 84 = .ok (.getfield 83, 3) := by decide +kernel
theorem dX6_lettuce_87 : decode cX6_lettuce 87 = .ok (.iload_n 1, 1) := by decide +kernel
theorem dX6_lettuce_88 : decode cX6_lettuce 88 = .ok (.iaload, 1) := by decide +kernel
theorem dX6_lettuce_89 : decode cX6_lettuce 89 = .ok (.ireturn, 1) := by decide +kernel
set_option maxRecDepth 20000 in
theorem ggX6_lay_X6_isField : GoodIn wsX6_lay wsX6_isField := goodIn_r _ [7, 8, 9, 6, 10] (by decide +kernel) (by decide +kernel)
set_option maxRecDepth 20000 in
theorem gX6_lay_X6_isField : GoodIn wsX6_lay (va_wsS RX6 57 yX6_isField wsX6_isField) := goodIn_app (goodIn_of _ (by decide +kernel)) ggX6_lay_X6_isField
set_option maxRecDepth 20000 in
theorem ggX6_lay_X6_isWithin : GoodIn wsX6_lay wsX6_isWithin := goodIn_r _ [10] (by decide +kernel) (by decide +kernel)
set_option maxRecDepth 20000 in
theorem gX6_lay_X6_isWithin : GoodIn wsX6_lay (va_wsS RX6 61 yX6_isWithin wsX6_isWithin) := goodIn_app (goodIn_of _ (by decide +kernel)) ggX6_lay_X6_isWithin
set_option maxRecDepth 20000 in
theorem ggX6_lay_X1_remember : GoodIn wsX6_lay wsX1_remember := goodIn_r _ [15, 16, 17, 18, 19, 20, 21, 14, 22, 23, 24, 25, 26, 27, 28, 29, 30, 31, 32, 33, 34, 35, 36, 46, 47, 48, 49, 50, 51, 52, 53, 54, 55, 56, 57, 58] (by decide +kernel) (by decide +kernel)
set_option maxRecDepth 20000 in
theorem gX6_lay_X1_remember : GoodIn wsX6_lay (wsV RX6 149 RX1 yX1_remember wsX1_remember) := goodIn_app (goodIn_of _ (by decide +kernel)) ggX6_lay_X1_remember
theorem dX6_lay_0 : decode cX6_lay 0 = .ok (.iload_n 1, 1) := by decide +kernel
theorem dX6_lay_1 : decode cX6_lay 1 = .ok (.invokestatic 57, 3) := by decide +kernel
theorem dX6_lay_4 : decode cX6_lay 4 = .ok (.ifCond .eq 12, 3) := by decide +kernel
theorem dX6_lay_7 : decode cX6_lay 7 = .ok (.iload_n 2, 1) := by decide +kernel
theorem dX6_lay_8 : decode cX6_lay 8 = .ok (.iconst 0, 1) := by decide +kernel
theorem dX6_lay_9 : decode cX6_lay 9 = .ok (.iconst 4, 1) := by decide +kernel
theorem dX6_lay_10 : decode cX6_lay 10 = .ok (.invokestatic 61, 3) := by decide +kernel
theorem dX6_lay_13 : decode cX6_lay 13 = .ok (.ifCond .ne 5, 3) := by decide +kernel
theorem dX6_lay_16 : decode cX6_lay 16 = .ok (.iconst (-1), 1) := by decide +kernel
theorem dX6_lay_17 : decode cX6_lay 17 = .ok (.ireturn, 1) := by decide +kernel
theorem dX6_lay_18 : decode cX6_lay 18 = .ok (.aload_n 0, 1) := by decide +kernel
theorem dX6_lay_19 : decode cX6_lay 19 = .ok (.getfield 10, 3) := by decide +kernel
theorem dX6_lay_22 : decode cX6_lay 22 = .ok (.getfield 79, 3) := by decide +kernel
theorem dX6_lay_25 : decode cX6_lay 25 = .ok (.getfield 88, 3) := by decide +kernel
theorem dX6_lay_28 : decode cX6_lay 28 = .ok (.iload_n 1, 1) := by decide +kernel
theorem dX6_lay_29 : decode cX6_lay 29 = .ok (.iaload, 1) := by decide +kernel
theorem dX6_lay_30 : decode cX6_lay 30 = .ok (.istore_n 3, 1) := by decide +kernel
theorem dX6_lay_31 : decode cX6_lay 31 = .ok (.iload_n 3, 1) := by decide +kernel
theorem dX6_lay_32 : decode cX6_lay 32 = .ok (.iload_n 2, 1) := by decide +kernel
theorem dX6_lay_33 : decode cX6_lay 33 = .ok (.if_icmp .ne 6, 3) := by decide +kernel
theorem dX6_lay_36 : decode cX6_lay 36 = .ok (.bipush (-2), 2) := by decide +kernel
theorem dX6_lay_38 : decode cX6_lay 38 = .ok (.ireturn, 1) := by decide +kernel
theorem dX6_lay_39 : decode cX6_lay 39 = .ok (.aload_n 0, 1) := by decide +kernel
theorem dX6_lay_40 : decode cX6_lay 40 = .ok (.getfield 10, 3) := by decide +kernel
theorem dX6_lay_43 : decode cX6_lay 43 = .ok (.invokevirtual 149, 3) := by decide +kernel
theorem dX6_lay_46 : decode cX6_lay 46 = .ok (.aload_n 0, 1) := by decide +kernel
theorem dX6_lay_47 : decode cX6_lay 47 = .ok (.getfield 10, 3) := by decide +kernel
theorem dX6_lay_50 : decode cX6_lay 50 = .ok (.getfield 79, 3) := by decide +kernel
theorem dX6_lay_53 : decode cX6_lay 53 = .ok (.getfield 88, 3) := by decide +kernel
theorem dX6_lay_56 : decode cX6_lay 56 = .ok (.iload_n 1, 1) := by decide +kernel
theorem dX6_lay_57 : decode cX6_lay 57 = .ok (.iload_n 2, 1) := by decide +kernel
theorem dX6_lay_58 : decode cX6_lay 58 = .ok (.iastore, 1) := by decide +kernel
theorem dX6_lay_59 : decode cX6_lay 59 = .ok (.iload_n 3, 1) := by decide +kernel
theorem dX6_lay_60 : decode cX6_lay 60 = .ok (.ireturn, 1) := by decide +kernel
set_option maxRecDepth 20000 in
theorem ggX6_undo_X1_recall : GoodIn wsX6_undo wsX1_recall := goodIn_r _ [7, 8, 9, 10, 11, 12, 13, 14, 15, 16, 17, 18, 19, 20, 21, 22, 23, 24, 34, 35, 36, 37, 38, 39, 40, 41, 42, 43, 44, 45, 46] (by decide +kernel) (by decide +kernel)
set_option maxRecDepth 20000 in
theorem gX6_undo_X1_recall : GoodIn wsX6_undo (wsV RX6 161 RX1 yX1_recall wsX1_recall) := goodIn_app (goodIn_of _ (by decide +kernel)) ggX6_undo_X1_recall
theorem dX6_undo_0 : decode cX6_undo 0 = .ok (.aload_n 0, 1) := by decide +kernel
theorem dX6_undo_1 : decode cX6_undo 1 = .ok (.getfield 10, 3) := by decide +kernel
theorem dX6_undo_4 : decode cX6_undo 4 = .ok (.invokevirtual 161, 3) := by decide +kernel
theorem dX6_undo_7 : decode cX6_undo 7 = .ok (.ifCond .eq 13, 3) := by decide +kernel
theorem dX6_undo_10 : decode cX6_undo 10 = .ok (.aload_n 0, 1) := by decide +kernel
theorem dX6_undo_11 : decode cX6_undo 11 = .ok (.getfield 10, 3) := by decide +kernel
theorem dX6_undo_14 : decode cX6_undo 14 = .ok (.getfield 146, 3) := by decide +kernel
theorem dX6_undo_17 : decode cX6_undo 17 = .ok (.goto 5, 3) := by decide +kernel
theorem dX6_undo_20 : decode cX6_undo 20 = .ok (.bipush (-4), 2) := by decide +kernel
theorem dX6_undo_22 : decode cX6_undo 22 = .ok (.ireturn, 1) := by decide +kernel
theorem dX6_seed_0 : decode cX6_seed 0 = .ok (.iload_n 1, 1) := by decide +kernel
theorem dX6_seed_1 : decode cX6_seed 1 = .ok (.ifCond .ge 5, 3) := by decide +kernel
theorem dX6_seed_4 : decode cX6_seed 4 = .ok (.iconst (-1), 1) := by decide +kernel
theorem dX6_seed_5 : decode cX6_seed 5 = .ok (.ireturn, 1) := by decide +kernel
theorem dX6_seed_6 : decode cX6_seed 6 = .ok (.aload_n 0, 1) := by decide +kernel
theorem dX6_seed_7 : decode cX6_seed 7 = .ok (.getfield 10, 3) := by decide +kernel
theorem dX6_seed_10 : decode cX6_seed 10 = .ok (.getfield 79, 3) := by decide +kernel
theorem dX6_seed_13 : decode cX6_seed 13 = .ok (.getfield 165, 3) := by decide +kernel
theorem dX6_seed_16 : decode cX6_seed 16 = .ok (.istore_n 2, 1) := by decide +kernel
theorem dX6_seed_17 : decode cX6_seed 17 = .ok (.aload_n 0, 1) := by decide +kernel
theorem dX6_seed_18 : decode cX6_seed 18 = .ok (.getfield 10, 3) := by decide +kernel
theorem dX6_seed_21 : decode cX6_seed 21 = .ok (.getfield 79, 3) := by decide +kernel
theorem dX6_seed_24 : decode cX6_seed 24 = .ok (.iload_n 1, 1) := by decide +kernel
theorem dX6_seed_25 : decode cX6_seed 25 = .ok (.putfield 165, 3) := by decide +kernel
theorem dX6_seed_28 : decode cX6_seed 28 = .ok (.iload_n 2, 1) := by decide +kernel
theorem dX6_seed_29 : decode cX6_seed 29 = .ok (.ireturn, 1) := by decide +kernel
set_option maxRecDepth 20000 in
theorem ggX6_chance_X6_isField : GoodIn wsX6_chance wsX6_isField := goodIn_r _ [9, 10, 11, 8, 12] (by decide +kernel) (by decide +kernel)
set_option maxRecDepth 20000 in
theorem gX6_chance_X6_isField : GoodIn wsX6_chance (va_wsS RX6 57 yX6_isField wsX6_isField) := goodIn_app (goodIn_of _ (by decide +kernel)) ggX6_chance_X6_isField
set_option maxRecDepth 20000 in
theorem ggX6_chance_X6_isForetold : GoodIn wsX6_chance wsX6_isForetold := goodIn_r _ [15, 10, 11, 8, 12] (by decide +kernel) (by decide +kernel)
set_option maxRecDepth 20000 in
theorem gX6_chance_X6_isForetold : GoodIn wsX6_chance (va_wsS RX6 168 yX6_isForetold wsX6_isForetold) := goodIn_app (goodIn_of _ (by decide +kernel)) ggX6_chance_X6_isForetold
set_option maxRecDepth 20000 in
theorem ggX6_chance_X6_isWithin : GoodIn wsX6_chance wsX6_isWithin := goodIn_r _ [12] (by decide +kernel) (by decide +kernel)
set_option maxRecDepth 20000 in
theorem gX6_chance_X6_isWithin : GoodIn wsX6_chance (va_wsS RX6 61 yX6_isWithin wsX6_isWithin) := goodIn_app (goodIn_of _ (by decide +kernel)) ggX6_chance_X6_isWithin
set_option maxRecDepth 20000 in
theorem ggX6_chance_X6_foretell : GoodIn wsX6_chance wsX6_foretell := goodIn_r _ [19, 3, 20, 21, 22, 23, 24, 25, 26, 27, 28, 29, 30, 31, 32, 33, 34, 35, 36, 37, 38, 39, 40, 41, 11, 8, 12, 42, 43, 44, 45, 46, 47, 48, 49, 50, 51, 52, 53, 54, 55, 56, 57, 58, 59, 60, 61, 62, 63, 64, 65, 66, 67, 68, 69, 70, 71, 72, 73, 74, 75, 7, 9, 10, 76, 77, 92, 93, 94, 95, 96, 97, 98, 99, 100, 108, 109, 110, 111, 112, 113, 114, 115, 116, 117, 118, 119, 120, 101, 102, 103, 104, 105, 106, 107] (by decide +kernel) (by decide +kernel)
set_option maxRecDepth 20000 in
theorem gX6_chance_X6_foretell : GoodIn wsX6_chance (wsV RX6 171 RX6 yX6_foretell wsX6_foretell) := goodIn_app (goodIn_of _ (by decide +kernel)) ggX6_chance_X6_foretell
set_option maxRecDepth 20000 in
theorem ggX6_chance_X0_become : GoodIn wsX6_chance wsX0_become := goodIn_r _ [82, 83, 84, 85, 86, 81, 87, 121, 122] (by decide +kernel) (by decide +kernel)
set_option maxRecDepth 20000 in
theorem gX6_chance_X0_become : GoodIn wsX6_chance (wsV RX6 183 RX0 yX0_become wsX0_become) := goodIn_app (goodIn_of _ (by decide +kernel)) ggX6_chance_X0_become
set_option maxRecDepth 20000 in
theorem ggX6_chance_X0_told : GoodIn wsX6_chance wsX0_told := goodIn_r _ [91, 83, 84, 121, 122] (by decide +kernel) (by decide +kernel)
set_option maxRecDepth 20000 in
theorem gX6_chance_X0_told : GoodIn wsX6_chance (wsV RX6 187 RX0 yX0_told wsX0_told) := goodIn_app (goodIn_of _ (by decide +kernel)) ggX6_chance_X0_told
theorem dX6_chance_0 : decode cX6_chance 0 = .ok (.iload_n 1, 1) := by decide +kernel
theorem dX6_chance_1 : decode cX6_chance 1 = .ok (.invokestatic 57, 3) := by decide +kernel
theorem dX6_chance_4 : decode cX6_chance 4 = .ok (.ifCond .eq 19, 3) := by decide +kernel
theorem dX6_chance_7 : decode cX6_chance 7 = .ok (.iload_n 2, 1) := by decide +kernel
theorem dX6_chance_8 : decode cX6_chance 8 = .ok (.invokestatic 168, 3) := by decide +kernel
theorem dX6_chance_11 : decode cX6_chance 11 = .ok (.ifCond .eq 12, 3) := by decide +kernel
theorem dX6_chance_14 : decode cX6_chance 14 = .ok (.iload_n 3, 1) := by decide +kernel
theorem dX6_chance_15 : decode cX6_chance 15 = .ok (.iconst 0, 1) := by decide +kernel
theorem dX6_chance_16 : decode cX6_chance 16 = .ok (.iconst 1, 1) := by decide +kernel
theorem dX6_chance_17 : decode cX6_chance 17 = .ok (.invokestatic 61, 3) := by decide +kernel
theorem dX6_chance_20 : decode cX6_chance 20 = .ok (.ifCond .ne 5, 3) := by decide +kernel
theorem dX6_chance_23 : decode cX6_chance 23 = .ok (.iconst (-1), 1) := by decide +kernel
theorem dX6_chance_24 : decode cX6_chance 24 = .ok (.ireturn, 1) := by decide +kernel
theorem dX6_chance_25 : decode cX6_chance 25 = .ok (.aload_n 0, 1) := by decide +kernel
theorem dX6_chance_26 : decode cX6_chance 26 = .ok (.aload_n 0, 1) := by decide +kernel
theorem dX6_chance_27 : decode cX6_chance 27 = .ok (.getfield 10, 3) := by decide +kernel
theorem dX6_chance_30 : decode cX6_chance 30 = .ok (.iload_n 2, 1) := by decide +kernel
theorem dX6_chance_31 : decode cX6_chance 31 = .ok (.invokevirtual 171, 3) := by decide +kernel
theorem dX6_chance_34 : decode cX6_chance 34 = .ok (.aload_n 0, 1) := by decide +kernel
theorem dX6_chance_35 : decode cX6_chance 35 = .ok (.getfield 32, 3) := by decide +kernel
theorem dX6_chance_38 : decode cX6_chance 38 = .ok (.aload_n 0, 1) := by decide +kernel
theorem dX6_chance_39 : decode cX6_chance 39 = .ok (.getfield 25, 3) := by decide +kernel
theorem dX6_chance_42 : decode cX6_chance 42 = .ok (.getfield 175, 3) := by decide +kernel
theorem dX6_chance_45 : decode cX6_chance 45 = .ok (.iload_n 1, 1) := by decide +kernel
theorem dX6_chance_46 : decode cX6_chance 46 = .ok (.laload, 1) := by decide +kernel
theorem dX6_chance_47 : decode cX6_chance 47 = .ok (.aload_n 0, 1) := by decide +kernel
theorem dX6_chance_48 : decode cX6_chance 48 = .ok (.getfield 25, 3) := by decide +kernel
theorem dX6_chance_51 : decode cX6_chance 51 = .ok (.getfield 179, 3) := by decide +kernel
theorem dX6_chance_54 : decode cX6_chance 54 = .ok (.invokevirtual 183, 3) := by decide +kernel
theorem dX6_chance_57 : decode cX6_chance 57 = .ok (.aload_n 0, 1) := by decide +kernel
theorem dX6_chance_58 : decode cX6_chance 58 = .ok (.getfield 32, 3) := by decide +kernel
theorem dX6_chance_61 : decode cX6_chance 61 = .ok (.iload_n 3, 1) := by decide +kernel
theorem dX6_chance_62 : decode cX6_chance 62 = .ok (.invokevirtual 187, 3) := by decide +kernel
theorem dX6_chance_65 : decode cX6_chance 65 = .ok (.l2i, 1) := by decide +kernel
theorem dX6_chance_66 : decode cX6_chance 66 = .ok (.ireturn, 1) := by decide +kernel
set_option maxRecDepth 20000 in
theorem ggX6_likely_X6_isForetold : GoodIn wsX6_likely wsX6_isForetold := goodIn_r _ [7, 8, 9, 6, 10] (by decide +kernel) (by decide +kernel)
set_option maxRecDepth 20000 in
theorem gX6_likely_X6_isForetold : GoodIn wsX6_likely (va_wsS RX6 168 yX6_isForetold wsX6_isForetold) := goodIn_app (goodIn_of _ (by decide +kernel)) ggX6_likely_X6_isForetold
set_option maxRecDepth 20000 in
theorem ggX6_likely_X6_foretell : GoodIn wsX6_likely wsX6_foretell := goodIn_r _ [14, 2, 15, 16, 17, 18, 19, 20, 21, 22, 23, 24, 25, 26, 27, 28, 29, 30, 31, 32, 33, 34, 35, 36, 9, 6, 10, 37, 38, 39, 40, 41, 42, 43, 44, 45, 46, 47, 48, 49, 50, 51, 52, 53, 54, 55, 56, 57, 58, 59, 60, 61, 62, 63, 64, 65, 66, 67, 68, 69, 70, 71, 72, 8, 73, 74, 75, 76, 77, 78, 79, 80, 81, 82, 83, 91, 92, 93, 94, 95, 96, 97, 98, 99, 100, 101, 102, 103, 84, 85, 86, 87, 88, 89, 90] (by decide +kernel) (by decide +kernel)
set_option maxRecDepth 20000 in
theorem gX6_likely_X6_foretell : GoodIn wsX6_likely (wsV RX6 171 RX6 yX6_foretell wsX6_foretell) := goodIn_app (goodIn_of _ (by decide +kernel)) ggX6_likely_X6_foretell
theorem dX6_likely_0 : decode cX6_likely 0 = .ok (.iload_n 1, 1) := by decide +kernel
theorem dX6_likely_1 : decode cX6_likely 1 = .ok (.invokestatic 168, 3) := by decide +kernel
theorem dX6_likely_4 : decode cX6_likely 4 = .ok (.ifCond .ne 5, 3) := by decide +kernel
theorem dX6_likely_7 : decode cX6_likely 7 = .ok (.iconst (-1), 1) := by decide +kernel
theorem dX6_likely_8 : decode cX6_likely 8 = .ok (.ireturn, 1) := by decide +kernel
theorem dX6_likely_9 : decode cX6_likely 9 = .ok (.aload_n 0, 1) := by decide +kernel
theorem dX6_likely_10 : decode cX6_likely 10 = .ok (.aload_n 0, 1) := by decide +kernel
theorem dX6_likely_11 : decode cX6_likely 11 = .ok (.getfield 10, 3) := by decide +kernel
theorem dX6_likely_14 : decode cX6_likely 14 = .ok (.iload_n 1, 1) := by decide +kernel
theorem dX6_likely_15 : decode cX6_likely 15 = .ok (.invokevirtual 171, 3) := by decide +kernel
theorem dX6_likely_18 : decode cX6_likely 18 = .ok (.iconst 0, 1) := by decide +kernel
theorem dX6_likely_19 : decode cX6_likely 19 = .ok (.istore_n 2, 1) := by decide +kernel
theorem dX6_likely_20 : decode cX6_likely 20 = .ok (.iconst 1, 1) := by decide +kernel
theorem dX6_likely_21 : decode cX6_likely 21 = .ok (.istore_n 3, 1) := by decide +kernel
theorem dX6_likely_22 : decode cX6_likely 22 = .ok (.iload_n 3, 1) := by decide +kernel
theorem dX6_likely_23 : decode cX6_likely 23 = .ok (.bipush 7, 2) := by decide +kernel
theorem dX6_likely_25 : decode cX6_likely 25 = .ok (.if_icmp .ge 33, 3) := by decide +kernel
theorem dX6_likely_28 : decode cX6_likely 28 = .ok (.aload_n 0, 1) := by decide +kernel
theorem dX6_likely_29 : decode cX6_likely 29 = .ok (.getfield 25, 3) := by decide +kernel
theorem dX6_likely_32 : decode cX6_likely 32 = .ok (.getfield 175, 3) := by decide +kernel
theorem dX6_likely_35 : decode cX6_likely 35 = .ok (.iload_n 3, 1) := by decide +kernel
theorem dX6_likely_36 : decode cX6_likely 36 = .ok (.laload, 1) := by decide +kernel
theorem dX6_likely_37 : decode cX6_likely 37 = .ok (.aload_n 0, 1) := by decide +kernel
theorem dX6_likely_38 : decode cX6_likely 38 = .ok (.getfield 25, 3) := by decide +kernel
theorem dX6_likely_41 : decode cX6_likely 41 = .ok (.getfield 175, 3) := by decide +kernel
theorem dX6_likely_44 : decode cX6_likely 44 = .ok (.iload_n 2, 1) := by decide +kernel
theorem dX6_likely_45 : decode cX6_likely 45 = .ok (.laload, 1) := by decide +kernel
theorem dX6_likely_46 : decode cX6_likely 46 = .ok (.lcmp, 1) := by decide +kernel
theorem dX6_likely_47 : decode cX6_likely 47 = .ok (.ifCond .le 5, 3) := by decide +kernel
theorem dX6_likely_50 : decode cX6_likely 50 = .ok (.iload_n 3, 1) := by decide +kernel
theorem dX6_likely_51 : decode cX6_likely 51 = .ok (.istore_n 2, 1) := by decide +kernel
theorem dX6_likely_52 : decode cX6_likely 52 = .ok (.iinc 3 1, 3) := by decide +kernel
theorem dX6_likely_55 : decode cX6_likely 55 = .ok (.goto (-33), 3) := by decide +kernel
theorem dX6_likely_58 : decode cX6_likely 58 = .ok (.iload_n 2, 1) := by decide +kernel
theorem dX6_likely_59 : decode cX6_likely 59 = .ok (.ireturn, 1) := by decide +kernel
set_option maxRecDepth 20000 in
theorem ggX6_mean_X6_isAhead : GoodIn wsX6_mean wsX6_isAhead := goodIn_r _ [11, 3, 4, 5, 12, 13, 10, 14, 76, 77, 78, 79, 80, 81, 82, 83, 84, 85, 86, 87, 88, 89, 90, 91, 92, 93, 94, 95, 96, 97] (by decide +kernel) (by decide +kernel)
set_option maxRecDepth 20000 in
theorem gX6_mean_X6_isAhead : GoodIn wsX6_mean (wsV RX6 191 RX6 yX6_isAhead wsX6_isAhead) := goodIn_app (goodIn_of _ (by decide +kernel)) ggX6_mean_X6_isAhead
set_option maxRecDepth 20000 in
theorem ggX6_mean_X6_isWithin : GoodIn wsX6_mean wsX6_isWithin := goodIn_r _ [14] (by decide +kernel) (by decide +kernel)
set_option maxRecDepth 20000 in
theorem gX6_mean_X6_isWithin : GoodIn wsX6_mean (va_wsS RX6 61 yX6_isWithin wsX6_isWithin) := goodIn_app (goodIn_of _ (by decide +kernel)) ggX6_mean_X6_isWithin
set_option maxRecDepth 20000 in
theorem ggX6_mean_X5_learn : GoodIn wsX6_mean wsX5_learn := goodIn_r _ [19, 20, 21, 22, 23, 24, 25, 26, 27, 28, 29, 30, 31, 32, 33, 34, 13, 10, 14, 35, 36, 37, 38, 39, 40, 41, 42, 43, 44, 45, 46, 47, 48, 49, 98, 99, 100, 101, 102, 103, 104, 85, 86, 87, 88, 89, 90, 91, 92, 93, 94, 95, 96, 97] (by decide +kernel) (by decide +kernel)
set_option maxRecDepth 20000 in
theorem gX6_mean_X5_learn : GoodIn wsX6_mean (wsV RX6 196 RX5 yX5_learn wsX5_learn) := goodIn_app (goodIn_of _ (by decide +kernel)) ggX6_mean_X5_learn
set_option maxRecDepth 20000 in
theorem ggX6_mean_X5_average : GoodIn wsX6_mean wsX5_average := goodIn_r _ [53, 54, 20, 55, 22, 56, 21, 57, 58, 59, 60, 61, 62, 63, 64, 65, 66, 67, 68, 69, 70, 71, 98, 99, 100, 101, 102, 103, 104, 105, 106] (by decide +kernel) (by decide +kernel)
set_option maxRecDepth 20000 in
theorem gX6_mean_X5_average : GoodIn wsX6_mean (wsV RX6 199 RX5 yX5_average wsX5_average) := goodIn_app (goodIn_of _ (by decide +kernel)) ggX6_mean_X5_average
set_option maxRecDepth 20000 in
theorem ggX6_mean_X0_told : GoodIn wsX6_mean wsX0_told := goodIn_r _ [75, 62, 63, 105, 106] (by decide +kernel) (by decide +kernel)
set_option maxRecDepth 20000 in
theorem gX6_mean_X0_told : GoodIn wsX6_mean (wsV RX6 187 RX0 yX0_told wsX0_told) := goodIn_app (goodIn_of _ (by decide +kernel)) ggX6_mean_X0_told
theorem dX6_mean_0 : decode cX6_mean 0 = .ok (.aload_n 0, 1) := by decide +kernel
theorem dX6_mean_1 : decode cX6_mean 1 = .ok (.iload_n 1, 1) := by decide +kernel
theorem dX6_mean_2 : decode cX6_mean 2 = .ok (.invokevirtual 191, 3) := by decide +kernel
theorem dX6_mean_5 : decode cX6_mean 5 = .ok (.ifCond .eq 12, 3) := by decide +kernel
theorem dX6_mean_8 : decode cX6_mean 8 = .ok (.iload_n 2, 1) := by decide +kernel
theorem dX6_mean_9 : decode cX6_mean 9 = .ok (.iconst 0, 1) := by decide +kernel
theorem dX6_mean_10 : decode cX6_mean 10 = .ok (.iconst 1, 1) := by decide +kernel
theorem dX6_mean_11 : decode cX6_mean 11 = .ok (.invokestatic 61, 3) := by decide +kernel
theorem dX6_mean_14 : decode cX6_mean 14 = .ok (.ifCond .ne 7, 3) := by decide +kernel
theorem dX6_mean_17 : decode cX6_mean 17 = .ok (.ldc2_w 194, 3) := by decide +kernel
theorem dX6_mean_20 : decode cX6_mean 20 = .ok (.lreturn, 1) := by decide +kernel
theorem dX6_mean_21 : decode cX6_mean 21 = .ok (.aload_n 0, 1) := by decide +kernel
theorem dX6_mean_22 : decode cX6_mean 22 = .ok (.getfield 25, 3) := by decide +kernel
theorem dX6_mean_25 : decode cX6_mean 25 = .ok (.aload_n 0, 1) := by decide +kernel
theorem dX6_mean_26 : decode cX6_mean 26 = .ok (.getfield 10, 3) := by decide +kernel
theorem dX6_mean_29 : decode cX6_mean 29 = .ok (.invokevirtual 196, 3) := by decide +kernel
theorem dX6_mean_32 : decode cX6_mean 32 = .ok (.aload_n 0, 1) := by decide +kernel
theorem dX6_mean_33 : decode cX6_mean 33 = .ok (.getfield 25, 3) := by decide +kernel
theorem dX6_mean_36 : decode cX6_mean 36 = .ok (.aload_n 0, 1) := by decide +kernel
theorem dX6_mean_37 : decode cX6_mean 37 = .ok (.getfield 10, 3) := by decide +kernel
theorem dX6_mean_40 : decode cX6_mean 40 = .ok (.getfield 79, 3) := by decide +kernel
theorem dX6_mean_43 : decode cX6_mean 43 = .ok (.getfield 136, 3) := by decide +kernel
theorem dX6_mean_46 : decode cX6_mean 46 = .ok (.iload_n 1, 1) := by decide +kernel
theorem dX6_mean_47 : decode cX6_mean 47 = .ok (.aload_n 0, 1) := by decide +kernel
theorem dX6_mean_48 : decode cX6_mean 48 = .ok (.getfield 32, 3) := by decide +kernel
theorem dX6_mean_51 : decode cX6_mean 51 = .ok (.invokevirtual 199, 3) := by decide +kernel
theorem dX6_mean_54 : decode cX6_mean 54 = .ok (.aload_n 0, 1) := by decide +kernel
theorem dX6_mean_55 : decode cX6_mean 55 = .ok (.getfield 32, 3) := by decide +kernel
theorem dX6_mean_58 : decode cX6_mean 58 = .ok (.iload_n 2, 1) := by decide +kernel
theorem dX6_mean_59 : decode cX6_mean 59 = .ok (.invokevirtual 187, 3) := by decide +kernel
theorem dX6_mean_62 : decode cX6_mean 62 = .ok (.lreturn, 1) := by decide +kernel
set_option maxRecDepth 20000 in
theorem ggX6_right_X6_isClaim : GoodIn wsX6_right wsX6_isClaim := goodIn_r _ [13, 1, 14, 15, 16, 12, 17, 103, 104, 105, 106, 107, 108, 109, 110, 111, 112, 113, 114, 115, 116, 117, 118, 119] (by decide +kernel) (by decide +kernel)
set_option maxRecDepth 20000 in
theorem gX6_right_X6_isClaim : GoodIn wsX6_right (wsV RX6 98 RX6 yX6_isClaim wsX6_isClaim) := goodIn_app (goodIn_of _ (by decide +kernel)) ggX6_right_X6_isClaim
set_option maxRecDepth 20000 in
theorem ggX6_right_X6_isForetold : GoodIn wsX6_right wsX6_isForetold := goodIn_r _ [20, 15, 16, 12, 17] (by decide +kernel) (by decide +kernel)
set_option maxRecDepth 20000 in
theorem gX6_right_X6_isForetold : GoodIn wsX6_right (va_wsS RX6 168 yX6_isForetold wsX6_isForetold) := goodIn_app (goodIn_of _ (by decide +kernel)) ggX6_right_X6_isForetold
set_option maxRecDepth 20000 in
theorem ggX6_right_X6_isWithin : GoodIn wsX6_right wsX6_isWithin := goodIn_r _ [17] (by decide +kernel) (by decide +kernel)
set_option maxRecDepth 20000 in
theorem gX6_right_X6_isWithin : GoodIn wsX6_right (va_wsS RX6 61 yX6_isWithin wsX6_isWithin) := goodIn_app (goodIn_of _ (by decide +kernel)) ggX6_right_X6_isWithin
set_option maxRecDepth 20000 in
theorem ggX6_right_X6_foretell : GoodIn wsX6_right wsX6_foretell := goodIn_r _ [24, 4, 25, 26, 27, 28, 29, 30, 31, 32, 33, 34, 35, 36, 37, 38, 39, 40, 41, 42, 43, 44, 45, 46, 16, 12, 17, 47, 48, 49, 50, 51, 52, 53, 54, 55, 56, 57, 58, 59, 60, 61, 62, 63, 64, 65, 66, 67, 68, 69, 70, 71, 72, 73, 74, 75, 76, 77, 78, 79, 80, 81, 82, 15, 83, 84, 103, 104, 105, 106, 107, 108, 109, 110, 111, 112, 113, 114, 115, 116, 117, 118, 119, 127, 128, 129, 130, 131, 120, 121, 122, 123, 124, 125, 126] (by decide +kernel) (by decide +kernel)
set_option maxRecDepth 20000 in
theorem gX6_right_X6_foretell : GoodIn wsX6_right (wsV RX6 171 RX6 yX6_foretell wsX6_foretell) := goodIn_app (goodIn_of _ (by decide +kernel)) ggX6_right_X6_foretell
set_option maxRecDepth 20000 in
theorem ggX6_right_X0_become : GoodIn wsX6_right wsX0_become := goodIn_r _ [89, 90, 91, 92, 93, 88, 94, 132, 133] (by decide +kernel) (by decide +kernel)
set_option maxRecDepth 20000 in
theorem gX6_right_X0_become : GoodIn wsX6_right (wsV RX6 183 RX0 yX0_become wsX0_become) := goodIn_app (goodIn_of _ (by decide +kernel)) ggX6_right_X0_become
set_option maxRecDepth 20000 in
theorem ggX6_right_X0_partOf : GoodIn wsX6_right wsX0_partOf := goodIn_r _ [98, 91, 90, 132, 133] (by decide +kernel) (by decide +kernel)
set_option maxRecDepth 20000 in
theorem gX6_right_X0_partOf : GoodIn wsX6_right (wsV RX6 203 RX0 yX0_partOf wsX0_partOf) := goodIn_app (goodIn_of _ (by decide +kernel)) ggX6_right_X0_partOf
set_option maxRecDepth 20000 in
theorem ggX6_right_X0_told : GoodIn wsX6_right wsX0_told := goodIn_r _ [102, 90, 91, 132, 133] (by decide +kernel) (by decide +kernel)
set_option maxRecDepth 20000 in
theorem gX6_right_X0_told : GoodIn wsX6_right (wsV RX6 187 RX0 yX0_told wsX0_told) := goodIn_app (goodIn_of _ (by decide +kernel)) ggX6_right_X0_told
theorem dX6_right_0 : decode cX6_right 0 = .ok (.aload_n 0, 1) := by decide +kernel
theorem dX6_right_1 : decode cX6_right 1 = .ok (.iload_n 1, 1) := by decide +kernel
theorem dX6_right_2 : decode cX6_right 2 = .ok (.invokevirtual 98, 3) := by decide +kernel
theorem dX6_right_5 : decode cX6_right 5 = .ok (.ifCond .eq 19, 3) := by decide +kernel
theorem dX6_right_8 : decode cX6_right 8 = .ok (.iload_n 2, 1) := by decide +kernel
theorem dX6_right_9 : decode cX6_right 9 = .ok (.invokestatic 168, 3) := by decide +kernel
theorem dX6_right_12 : decode cX6_right 12 = .ok (.ifCond .eq 12, 3) := by decide +kernel
theorem dX6_right_15 : decode cX6_right 15 = .ok (.iload_n 3, 1) := by decide +kernel
theorem dX6_right_16 : decode cX6_right 16 = .ok (.iconst 0, 1) := by decide +kernel
theorem dX6_right_17 : decode cX6_right 17 = .ok (.iconst 2, 1) := by decide +kernel
theorem dX6_right_18 : decode cX6_right 18 = .ok (.invokestatic 61, 3) := by decide +kernel
theorem dX6_right_21 : decode cX6_right 21 = .ok (.ifCond .ne 5, 3) := by decide +kernel
theorem dX6_right_24 : decode cX6_right 24 = .ok (.iconst (-1), 1) := by decide +kernel
theorem dX6_right_25 : decode cX6_right 25 = .ok (.ireturn, 1) := by decide +kernel
theorem dX6_right_26 : decode cX6_right 26 = .ok (.aload_n 0, 1) := by decide +kernel
theorem dX6_right_27 : decode cX6_right 27 = .ok (.aload_n 0, 1) := by decide +kernel
theorem dX6_right_28 : decode cX6_right 28 = .ok (.getfield 10, 3) := by decide +kernel
theorem dX6_right_31 : decode cX6_right 31 = .ok (.iload_n 2, 1) := by decide +kernel
theorem dX6_right_32 : decode cX6_right 32 = .ok (.invokevirtual 171, 3) := by decide +kernel
theorem dX6_right_35 : decode cX6_right 35 = .ok (.lconst 0, 1) := by decide +kernel
theorem dX6_right_36 : decode cX6_right 36 = .ok (.lstore 4, 2) := by decide +kernel
theorem dX6_right_38 : decode cX6_right 38 = .ok (.aload_n 0, 1) := by decide +kernel
theorem dX6_right_39 : decode cX6_right 39 = .ok (.getfield 10, 3) := by decide +kernel
theorem dX6_right_42 : decode cX6_right 42 = .ok (.getfield 101, 3) := by decide +kernel
theorem dX6_right_45 : decode cX6_right 45 = .ok (.iload_n 1, 1) := by decide +kernel
theorem dX6_right_46 : decode cX6_right 46 = .ok (.iaload, 1) := by decide +kernel
theorem dX6_right_47 : decode cX6_right 47 = .ok (.istore 6, 2) := by decide +kernel
theorem dX6_right_49 : decode cX6_right 49 = .ok (.iload 6, 2) := by decide +kernel
theorem dX6_right_51 : decode cX6_right 51 = .ok (.aload_n 0, 1) := by decide +kernel
theorem dX6_right_52 : decode cX6_right 52 = .ok (.getfield 10, 3) := by decide +kernel
theorem dX6_right_55 : decode cX6_right 55 = .ok (.getfield 104, 3) := by decide +kernel
theorem dX6_right_58 : decode cX6_right 58 = .ok (.iload_n 1, 1) := by decide +kernel
theorem dX6_right_59 : decode cX6_right 59 = .ok (.iaload, 1) := by decide +kernel
theorem dX6_right_60 : decode cX6_right 60 = .ok (.if_icmp .gt 24, 3) := by decide +kernel
theorem dX6_right_63 : decode cX6_right 63 = .ok (.lload 4, 2) := by decide +kernel
theorem dX6_right_65 : decode cX6_right 65 = .ok (.aload_n 0, 1) := by decide +kernel
theorem dX6_right_66 : decode cX6_right 66 = .ok (.getfield 25, 3) := by decide +kernel
theorem dX6_right_69 : decode cX6_right 69 = .ok (.getfield 175, 3) := by decide +kernel
theorem dX6_right_72 : decode cX6_right 72 = .ok (.iload 6, 2) := by decide +kernel
theorem dX6_right_74 : decode cX6_right 74 = .ok (.laload, 1) := by decide +kernel
theorem dX6_right_75 : decode cX6_right 75 = .ok (.ladd, 1) := by decide +kernel
theorem dX6_right_76 : decode cX6_right 76 = .ok (.lstore 4, 2) := by decide +kernel
theorem dX6_right_78 : decode cX6_right 78 = .ok (.iinc 6 1, 3) := by decide +kernel
theorem dX6_right_81 : decode cX6_right 81 = .ok (.goto (-32), 3) := by decide +kernel
theorem dX6_right_84 : decode cX6_right 84 = .ok (.aload_n 0, 1) := by decide +kernel
theorem dX6_right_85 : decode cX6_right 85 = .ok (.getfield 32, 3) := by decide +kernel
theorem dX6_right_88 : decode cX6_right 88 = .ok (.lload 4, 2) := by decide +kernel
theorem dX6_right_90 : decode cX6_right 90 = .ok (.aload_n 0, 1) := by decide +kernel
theorem dX6_right_91 : decode cX6_right 91 = .ok (.getfield 25, 3) := by decide +kernel
theorem dX6_right_94 : decode cX6_right 94 = .ok (.getfield 179, 3) := by decide +kernel
theorem dX6_right_97 : decode cX6_right 97 = .ok (.invokevirtual 183, 3) := by decide +kernel
theorem dX6_right_100 : decode cX6_right 100 = .ok (.iload_n 3, 1) := by decide +kernel
theorem dX6_right_101 : decode cX6_right 101 = .ok (.iconst 2, 1) := by decide +kernel
theorem dX6_right_102 : decode cX6_right 102 = .ok (.if_icmp .ne 23, 3) := by decide +kernel
theorem dX6_right_105 : decode cX6_right 105 = .ok (.aload_n 0, 1) := by decide +kernel
theorem dX6_right_106 : decode cX6_right 106 = .ok (.getfield 32, 3) := by decide +kernel
theorem dX6_right_109 : decode cX6_right 109 = .ok (.aload_n 0, 1) := by decide +kernel
theorem dX6_right_110 : decode cX6_right 110 = .ok (.getfield 10, 3) := by decide +kernel
theorem dX6_right_113 : decode cX6_right 113 = .ok (.getfield 107, 3) := by decide +kernel
theorem dX6_right_116 : decode cX6_right 116 = .ok (.iload_n 1, 1) := by decide +kernel
theorem dX6_right_117 : decode cX6_right 117 = .ok (.iaload, 1) := by decide +kernel
theorem dX6_right_118 : decode cX6_right 118 = .ok (.i2l, 1) := by decide +kernel
theorem dX6_right_119 : decode cX6_right 119 = .ok (.invokevirtual 203, 3) := by decide +kernel
theorem dX6_right_122 : decode cX6_right 122 = .ok (.goto 11, 3) := by decide +kernel
theorem dX6_right_125 : decode cX6_right 125 = .ok (.aload_n 0, 1) := by decide +kernel
theorem dX6_right_126 : decode cX6_right 126 = .ok (.getfield 32, 3) := by decide +kernel
theorem dX6_right_129 : decode cX6_right 129 = .ok (.iload_n 3, 1) := by decide +kernel
theorem dX6_right_130 : decode cX6_right 130 = .ok (.invokevirtual 187, 3) := by decide +kernel
theorem dX6_right_133 : decode cX6_right 133 = .ok (.l2i, 1) := by decide +kernel
theorem dX6_right_134 : decode cX6_right 134 = .ok (.ireturn, 1) := by decide +kernel
set_option maxRecDepth 20000 in
theorem ggX6_sure_X6_isForetold : GoodIn wsX6_sure wsX6_isForetold := goodIn_r _ [7, 8, 9, 6, 10] (by decide +kernel) (by decide +kernel)
set_option maxRecDepth 20000 in
theorem gX6_sure_X6_isForetold : GoodIn wsX6_sure (va_wsS RX6 168 yX6_isForetold wsX6_isForetold) := goodIn_app (goodIn_of _ (by decide +kernel)) ggX6_sure_X6_isForetold
set_option maxRecDepth 20000 in
theorem ggX6_sure_X6_foretell : GoodIn wsX6_sure wsX6_foretell := goodIn_r _ [14, 2, 15, 16, 17, 18, 19, 20, 21, 22, 23, 24, 25, 26, 27, 28, 29, 30, 31, 32, 33, 34, 35, 36, 9, 6, 10, 37, 38, 39, 40, 41, 42, 43, 44, 45, 46, 47, 48, 49, 50, 51, 52, 53, 54, 55, 56, 57, 58, 59, 60, 61, 62, 63, 64, 65, 66, 67, 68, 69, 70, 71, 72, 8, 73, 74, 75, 76, 77, 78, 79, 80, 81, 82, 83, 91, 92, 93, 94, 95, 96, 97, 98, 99, 100, 101, 102, 103, 84, 85, 86, 87, 88, 89, 90] (by decide +kernel) (by decide +kernel)
set_option maxRecDepth 20000 in
theorem gX6_sure_X6_foretell : GoodIn wsX6_sure (wsV RX6 171 RX6 yX6_foretell wsX6_foretell) := goodIn_app (goodIn_of _ (by decide +kernel)) ggX6_sure_X6_foretell
theorem dX6_sure_0 : decode cX6_sure 0 = .ok (.iload_n 1, 1) := by decide +kernel
theorem dX6_sure_1 : decode cX6_sure 1 = .ok (.invokestatic 168, 3) := by decide +kernel
theorem dX6_sure_4 : decode cX6_sure 4 = .ok (.ifCond .ne 5, 3) := by decide +kernel
theorem dX6_sure_7 : decode cX6_sure 7 = .ok (.iconst (-1), 1) := by decide +kernel
theorem dX6_sure_8 : decode cX6_sure 8 = .ok (.ireturn, 1) := by decide +kernel
theorem dX6_sure_9 : decode cX6_sure 9 = .ok (.aload_n 0, 1) := by decide +kernel
theorem dX6_sure_10 : decode cX6_sure 10 = .ok (.aload_n 0, 1) := by decide +kernel
theorem dX6_sure_11 : decode cX6_sure 11 = .ok (.getfield 10, 3) := by decide +kernel
theorem dX6_sure_14 : decode cX6_sure 14 = .ok (.iload_n 1, 1) := by decide +kernel
theorem dX6_sure_15 : decode cX6_sure 15 = .ok (.invokevirtual 171, 3) := by decide +kernel
theorem dX6_sure_18 : decode cX6_sure 18 = .ok (.iconst 0, 1) := by decide +kernel
theorem dX6_sure_19 : decode cX6_sure 19 = .ok (.istore_n 2, 1) := by decide +kernel
theorem dX6_sure_20 : decode cX6_sure 20 = .ok (.iconst 0, 1) := by decide +kernel
theorem dX6_sure_21 : decode cX6_sure 21 = .ok (.istore_n 3, 1) := by decide +kernel
theorem dX6_sure_22 : decode cX6_sure 22 = .ok (.iload_n 3, 1) := by decide +kernel
theorem dX6_sure_23 : decode cX6_sure 23 = .ok (.bipush 7, 2) := by decide +kernel
theorem dX6_sure_25 : decode cX6_sure 25 = .ok (.if_icmp .ge 29, 3) := by decide +kernel
theorem dX6_sure_28 : decode cX6_sure 28 = .ok (.aload_n 0, 1) := by decide +kernel
theorem dX6_sure_29 : decode cX6_sure 29 = .ok (.getfield 25, 3) := by decide +kernel
theorem dX6_sure_32 : decode cX6_sure 32 = .ok (.getfield 175, 3) := by decide +kernel
theorem dX6_sure_35 : decode cX6_sure 35 = .ok (.iload_n 3, 1) := by decide +kernel
theorem dX6_sure_36 : decode cX6_sure 36 = .ok (.laload, 1) := by decide +kernel
theorem dX6_sure_37 : decode cX6_sure 37 = .ok (.lconst 0, 1) := by decide +kernel
theorem dX6_sure_38 : decode cX6_sure 38 = .ok (.lcmp, 1) := by decide +kernel
theorem dX6_sure_39 : decode cX6_sure 39 = .ok (.ifCond .le 9, 3) := by decide +kernel
theorem dX6_sure_42 : decode cX6_sure 42 = .ok (.iload_n 2, 1) := by decide +kernel
theorem dX6_sure_43 : decode cX6_sure 43 = .ok (.iconst 1, 1) := by decide +kernel
theorem dX6_sure_44 : decode cX6_sure 44 = .ok (.iload_n 3, 1) := by decide +kernel
theorem dX6_sure_45 : decode cX6_sure 45 = .ok (.ishl, 1) := by decide +kernel
theorem dX6_sure_46 : decode cX6_sure 46 = .ok (.ior, 1) := by decide +kernel
theorem dX6_sure_47 : decode cX6_sure 47 = .ok (.istore_n 2, 1) := by decide +kernel
theorem dX6_sure_48 : decode cX6_sure 48 = .ok (.iinc 3 1, 3) := by decide +kernel
theorem dX6_sure_51 : decode cX6_sure 51 = .ok (.goto (-29), 3) := by decide +kernel
theorem dX6_sure_54 : decode cX6_sure 54 = .ok (.iload_n 2, 1) := by decide +kernel
theorem dX6_sure_55 : decode cX6_sure 55 = .ok (.ireturn, 1) := by decide +kernel
set_option maxRecDepth 20000 in
theorem ggX6_down_X6_isAhead : GoodIn wsX6_down wsX6_isAhead := goodIn_r _ [7, 8, 9, 10, 11, 12, 6, 13, 109, 110, 111, 112, 113, 114, 115, 116, 117, 118, 119, 120, 121, 122, 123, 124, 125, 126, 127, 128, 129, 130] (by decide +kernel) (by decide +kernel)
set_option maxRecDepth 20000 in
theorem gX6_down_X6_isAhead : GoodIn wsX6_down (wsV RX6 191 RX6 yX6_isAhead wsX6_isAhead) := goodIn_app (goodIn_of _ (by decide +kernel)) ggX6_down_X6_isAhead
set_option maxRecDepth 20000 in
theorem ggX6_down_X6_isWithin : GoodIn wsX6_down wsX6_isWithin := goodIn_r _ [13] (by decide +kernel) (by decide +kernel)
set_option maxRecDepth 20000 in
theorem gX6_down_X6_isWithin : GoodIn wsX6_down (va_wsS RX6 61 yX6_isWithin wsX6_isWithin) := goodIn_app (goodIn_of _ (by decide +kernel)) ggX6_down_X6_isWithin
set_option maxRecDepth 20000 in
theorem ggX6_down_X6_hedgeToOpen : GoodIn wsX6_down wsX6_hedgeToOpen := goodIn_r _ [17, 18, 8, 9, 19, 20, 10, 21, 2, 22, 23, 24, 25, 26, 27, 28, 29, 30, 31, 32, 33, 34, 35, 36, 37, 38, 39, 40, 41, 42, 43, 44, 45, 46, 47, 48, 49, 50, 51, 52, 53, 54, 55, 56, 57, 58, 59, 60, 61, 62, 12, 6, 13, 63, 64, 65, 66, 67, 68, 69, 70, 71, 72, 73, 74, 75, 76, 77, 78, 79, 80, 81, 82, 83, 84, 85, 86, 87, 88, 89, 90, 91, 92, 93, 94, 95, 96, 97, 98, 99, 100, 101, 102, 103, 104, 109, 110, 111, 112, 113, 114, 115, 116, 117, 118, 119, 120, 121, 122, 123, 124, 125, 126, 127, 128, 129, 130, 131, 132, 133, 134, 135, 136, 137, 138, 139] (by decide +kernel) (by decide +kernel)
set_option maxRecDepth 20000 in
theorem gX6_down_X6_hedgeToOpen : GoodIn wsX6_down (wsV RX6 207 RX6 yX6_hedgeToOpen wsX6_hedgeToOpen) := goodIn_app (goodIn_of _ (by decide +kernel)) ggX6_down_X6_hedgeToOpen
set_option maxRecDepth 20000 in
theorem ggX6_down_X0_told : GoodIn wsX6_down wsX0_told := goodIn_r _ [108, 90, 91, 131, 132] (by decide +kernel) (by decide +kernel)
set_option maxRecDepth 20000 in
theorem gX6_down_X0_told : GoodIn wsX6_down (wsV RX6 187 RX0 yX0_told wsX0_told) := goodIn_app (goodIn_of _ (by decide +kernel)) ggX6_down_X0_told
theorem dX6_down_0 : decode cX6_down 0 = .ok (.aload_n 0, 1) := by decide +kernel
theorem dX6_down_1 : decode cX6_down 1 = .ok (.iload_n 1, 1) := by decide +kernel
theorem dX6_down_2 : decode cX6_down 2 = .ok (.invokevirtual 191, 3) := by decide +kernel
theorem dX6_down_5 : decode cX6_down 5 = .ok (.ifCond .eq 12, 3) := by decide +kernel
theorem dX6_down_8 : decode cX6_down 8 = .ok (.iload_n 2, 1) := by decide +kernel
theorem dX6_down_9 : decode cX6_down 9 = .ok (.iconst 0, 1) := by decide +kernel
theorem dX6_down_10 : decode cX6_down 10 = .ok (.iconst 2, 1) := by decide +kernel
theorem dX6_down_11 : decode cX6_down 11 = .ok (.invokestatic 61, 3) := by decide +kernel
theorem dX6_down_14 : decode cX6_down 14 = .ok (.ifCond .ne 7, 3) := by decide +kernel
theorem dX6_down_17 : decode cX6_down 17 = .ok (.ldc2_w 194, 3) := by decide +kernel
theorem dX6_down_20 : decode cX6_down 20 = .ok (.lreturn, 1) := by decide +kernel
theorem dX6_down_21 : decode cX6_down 21 = .ok (.aload_n 0, 1) := by decide +kernel
theorem dX6_down_22 : decode cX6_down 22 = .ok (.iload_n 1, 1) := by decide +kernel
theorem dX6_down_23 : decode cX6_down 23 = .ok (.invokevirtual 207, 3) := by decide +kernel
theorem dX6_down_26 : decode cX6_down 26 = .ok (.istore_n 3, 1) := by decide +kernel
theorem dX6_down_27 : decode cX6_down 27 = .ok (.iload_n 2, 1) := by decide +kernel
theorem dX6_down_28 : decode cX6_down 28 = .ok (.ifCond .ne 8, 3) := by decide +kernel
theorem dX6_down_31 : decode cX6_down 31 = .ok (.iload_n 3, 1) := by decide +kernel
theorem dX6_down_32 : decode cX6_down 32 = .ok (.i2l, 1) := by decide +kernel
theorem dX6_down_33 : decode cX6_down 33 = .ok (.goto 13, 3) := by decide +kernel
theorem dX6_down_36 : decode cX6_down 36 = .ok (.aload_n 0, 1) := by decide +kernel
theorem dX6_down_37 : decode cX6_down 37 = .ok (.getfield 32, 3) := by decide +kernel
theorem dX6_down_40 : decode cX6_down 40 = .ok (.iload_n 2, 1) := by decide +kernel
theorem dX6_down_41 : decode cX6_down 41 = .ok (.iconst 1, 1) := by decide +kernel
theorem dX6_down_42 : decode cX6_down 42 = .ok (.isub, 1) := by decide +kernel
theorem dX6_down_43 : decode cX6_down 43 = .ok (.invokevirtual 187, 3) := by decide +kernel
theorem dX6_down_46 : decode cX6_down 46 = .ok (.lreturn, 1) := by decide +kernel
set_option maxRecDepth 20000 in
theorem ggX6_keep_X6_isWithin : GoodIn wsX6_keep wsX6_isWithin := goodIn_r _ [10] (by decide +kernel) (by decide +kernel)
set_option maxRecDepth 20000 in
theorem gX6_keep_X6_isWithin : GoodIn wsX6_keep (va_wsS RX6 61 yX6_isWithin wsX6_isWithin) := goodIn_app (goodIn_of _ (by decide +kernel)) ggX6_keep_X6_isWithin
set_option maxRecDepth 20000 in
theorem ggX6_keep_X1_takeGround : GoodIn wsX6_keep wsX1_takeGround := goodIn_r _ [15, 16, 17, 18, 19, 20, 21, 22, 23, 24, 25, 26, 27, 28, 29, 30, 31, 32, 103, 104, 105, 106, 107, 108, 109, 110, 111, 112, 113, 114, 115] (by decide +kernel) (by decide +kernel)
set_option maxRecDepth 20000 in
theorem gX6_keep_X1_takeGround : GoodIn wsX6_keep (wsV RX6 116 RX1 yX1_takeGround wsX1_takeGround) := goodIn_app (goodIn_of _ (by decide +kernel)) ggX6_keep_X1_takeGround
set_option maxRecDepth 20000 in
theorem ggX6_keep_X6_foretell : GoodIn wsX6_keep wsX6_foretell := goodIn_r _ [36, 6, 2, 3, 37, 38, 39, 40, 41, 42, 43, 44, 45, 46, 47, 14, 48, 21, 49, 16, 50, 51, 52, 53, 8, 9, 10, 54, 55, 56, 57, 58, 59, 60, 61, 62, 63, 64, 65, 66, 67, 68, 69, 70, 71, 72, 73, 74, 75, 76, 77, 78, 79, 80, 18, 19, 20, 81, 82, 83, 84, 85, 86, 7, 87, 88, 94, 95, 96, 97, 98, 99, 100, 101, 102, 103, 104, 105, 106, 107, 108, 109, 110, 111, 112, 113, 114, 115, 116, 117, 118, 119, 120, 121, 122] (by decide +kernel) (by decide +kernel)
set_option maxRecDepth 20000 in
theorem gX6_keep_X6_foretell : GoodIn wsX6_keep (wsV RX6 171 RX6 yX6_foretell wsX6_foretell) := goodIn_app (goodIn_of _ (by decide +kernel)) ggX6_keep_X6_foretell
set_option maxRecDepth 20000 in
theorem ggX6_keep_X5_isLikelyBy : GoodIn wsX6_keep wsX5_isLikelyBy := goodIn_r _ [92, 73, 93, 74, 116, 117, 118, 119, 120, 121, 122] (by decide +kernel) (by decide +kernel)
set_option maxRecDepth 20000 in
theorem gX6_keep_X5_isLikelyBy : GoodIn wsX6_keep (wsV RX6 210 RX5 yX5_isLikelyBy wsX5_isLikelyBy) := goodIn_app (goodIn_of _ (by decide +kernel)) ggX6_keep_X5_isLikelyBy
theorem dX6_keep_0 : decode cX6_keep 0 = .ok (.iload_n 1, 1) := by decide +kernel
theorem dX6_keep_1 : decode cX6_keep 1 = .ok (.iconst 1, 1) := by decide +kernel
theorem dX6_keep_2 : decode cX6_keep 2 = .ok (.bipush 9, 2) := by decide +kernel
theorem dX6_keep_4 : decode cX6_keep 4 = .ok (.invokestatic 61, 3) := by decide +kernel
theorem dX6_keep_7 : decode cX6_keep 7 = .ok (.ifCond .eq 13, 3) := by decide +kernel
theorem dX6_keep_10 : decode cX6_keep 10 = .ok (.iload_n 2, 1) := by decide +kernel
theorem dX6_keep_11 : decode cX6_keep 11 = .ok (.iconst 0, 1) := by decide +kernel
theorem dX6_keep_12 : decode cX6_keep 12 = .ok (.bipush 100, 2) := by decide +kernel
theorem dX6_keep_14 : decode cX6_keep 14 = .ok (.invokestatic 61, 3) := by decide +kernel
theorem dX6_keep_17 : decode cX6_keep 17 = .ok (.ifCond .ne 5, 3) := by decide +kernel
theorem dX6_keep_20 : decode cX6_keep 20 = .ok (.iconst (-1), 1) := by decide +kernel
theorem dX6_keep_21 : decode cX6_keep 21 = .ok (.ireturn, 1) := by decide +kernel
theorem dX6_keep_22 : decode cX6_keep 22 = .ok (.aload_n 0, 1) := by decide +kernel
theorem dX6_keep_23 : decode cX6_keep 23 = .ok (.getfield 10, 3) := by decide +kernel
theorem dX6_keep_26 : decode cX6_keep 26 = .ok (.getfield 79, 3) := by decide +kernel
theorem dX6_keep_29 : decode cX6_keep 29 = .ok (.getfield 136, 3) := by decide +kernel
theorem dX6_keep_32 : decode cX6_keep 32 = .ok (.istore_n 3, 1) := by decide +kernel
theorem dX6_keep_33 : decode cX6_keep 33 = .ok (.aload_n 0, 1) := by decide +kernel
theorem dX6_keep_34 : decode cX6_keep 34 = .ok (.getfield 19, 3) := by decide +kernel
theorem dX6_keep_37 : decode cX6_keep 37 = .ok (.aload_n 0, 1) := by decide +kernel
theorem dX6_keep_38 : decode cX6_keep 38 = .ok (.getfield 10, 3) := by decide +kernel
theorem dX6_keep_41 : decode cX6_keep 41 = .ok (.invokevirtual 116, 3) := by decide +kernel
theorem dX6_keep_44 : decode cX6_keep 44 = .ok (.iconst 0, 1) := by decide +kernel
theorem dX6_keep_45 : decode cX6_keep 45 = .ok (.istore 4, 2) := by decide +kernel
theorem dX6_keep_47 : decode cX6_keep 47 = .ok (.iload 4, 2) := by decide +kernel
theorem dX6_keep_49 : decode cX6_keep 49 = .ok (.bipush 9, 2) := by decide +kernel
theorem dX6_keep_51 : decode cX6_keep 51 = .ok (.if_icmp .gt 47, 3) := by decide +kernel
theorem dX6_keep_54 : decode cX6_keep 54 = .ok (.aload_n 0, 1) := by decide +kernel
theorem dX6_keep_55 : decode cX6_keep 55 = .ok (.getfield 19, 3) := by decide +kernel
theorem dX6_keep_58 : decode cX6_keep 58 = .ok (.getfield 79, 3) := by decide +kernel
theorem dX6_keep_61 : decode cX6_keep 61 = .ok (.getfield 83, 3) := by decide +kernel
theorem dX6_keep_64 : decode cX6_keep 64 = .ok (.iload_n 3, 1) := by decide +kernel
theorem dX6_keep_65 : decode cX6_keep 65 = .ok (.iload 4, 2) := by decide +kernel
theorem dX6_keep_67 : decode cX6_keep 67 = .ok (.iastore, 1) := by decide +kernel
theorem dX6_keep_68 : decode cX6_keep 68 = .ok (.aload_n 0, 1) := by decide +kernel
theorem dX6_keep_69 : decode cX6_keep 69 = .ok (.aload_n 0, 1) := by decide +kernel
theorem dX6_keep_70 : decode cX6_keep 70 = .ok (.getfield 19, 3) := by decide +kernel
theorem dX6_keep_73 : decode cX6_keep 73 = .ok (.iload_n 1, 1) := by decide +kernel
theorem dX6_keep_74 : decode cX6_keep 74 = .ok (.invokevirtual 171, 3) := by decide +kernel
theorem dX6_keep_77 : decode cX6_keep 77 = .ok (.aload_n 0, 1) := by decide +kernel
theorem dX6_keep_78 : decode cX6_keep 78 = .ok (.getfield 25, 3) := by decide +kernel
theorem dX6_keep_81 : decode cX6_keep 81 = .ok (.iload_n 3, 1) := by decide +kernel
theorem dX6_keep_82 : decode cX6_keep 82 = .ok (.iload_n 2, 1) := by decide +kernel
theorem dX6_keep_83 : decode cX6_keep 83 = .ok (.invokevirtual 210, 3) := by decide +kernel
theorem dX6_keep_86 : decode cX6_keep 86 = .ok (.ifCond .eq 6, 3) := by decide +kernel
theorem dX6_keep_89 : decode cX6_keep 89 = .ok (.iload 4, 2) := by decide +kernel
theorem dX6_keep_91 : decode cX6_keep 91 = .ok (.ireturn, 1) := by decide +kernel
theorem dX6_keep_92 : decode cX6_keep 92 = .ok (.iinc 4 1, 3) := by decide +kernel
theorem dX6_keep_95 : decode cX6_keep 95 = .ok (.goto (-48), 3) := by decide +kernel
theorem dX6_keep_98 : decode cX6_keep 98 = .ok (.bipush (-4), 2) := by decide +kernel
theorem dX6_keep_100 : decode cX6_keep 100 = .ok (.ireturn, 1) := by decide +kernel
set_option maxRecDepth 20000 in
theorem ggX6_early_X6_isField : GoodIn wsX6_early wsX6_isField := goodIn_r _ [6, 7, 8, 5, 9] (by decide +kernel) (by decide +kernel)
set_option maxRecDepth 20000 in
theorem gX6_early_X6_isField : GoodIn wsX6_early (va_wsS RX6 57 yX6_isField wsX6_isField) := goodIn_app (goodIn_of _ (by decide +kernel)) ggX6_early_X6_isField
set_option maxRecDepth 20000 in
theorem ggX6_early_X6_isWithin : GoodIn wsX6_early wsX6_isWithin := goodIn_r _ [9] (by decide +kernel) (by decide +kernel)
set_option maxRecDepth 20000 in
theorem gX6_early_X6_isWithin : GoodIn wsX6_early (va_wsS RX6 61 yX6_isWithin wsX6_isWithin) := goodIn_app (goodIn_of _ (by decide +kernel)) ggX6_early_X6_isWithin
set_option maxRecDepth 20000 in
theorem ggX6_early_X6_foretell : GoodIn wsX6_early wsX6_foretell := goodIn_r _ [13, 2, 14, 15, 16, 17, 18, 19, 20, 21, 22, 23, 24, 25, 26, 27, 28, 29, 30, 31, 32, 33, 34, 35, 8, 5, 9, 36, 37, 38, 39, 40, 41, 42, 43, 44, 45, 46, 47, 48, 49, 50, 51, 52, 53, 54, 55, 56, 57, 58, 59, 60, 61, 62, 63, 64, 65, 66, 67, 68, 69, 4, 6, 7, 70, 71, 77, 78, 79, 80, 81, 82, 83, 84, 85, 86, 87, 88, 89, 90, 91, 92, 93, 94, 95, 96, 97, 98, 99, 100, 101, 102, 103, 104, 105] (by decide +kernel) (by decide +kernel)
set_option maxRecDepth 20000 in
theorem gX6_early_X6_foretell : GoodIn wsX6_early (wsV RX6 171 RX6 yX6_foretell wsX6_foretell) := goodIn_app (goodIn_of _ (by decide +kernel)) ggX6_early_X6_foretell
set_option maxRecDepth 20000 in
theorem ggX6_early_X5_isLikelyBy : GoodIn wsX6_early wsX5_isLikelyBy := goodIn_r _ [75, 55, 76, 56, 99, 100, 101, 102, 103, 104, 105] (by decide +kernel) (by decide +kernel)
set_option maxRecDepth 20000 in
theorem gX6_early_X5_isLikelyBy : GoodIn wsX6_early (wsV RX6 210 RX5 yX5_isLikelyBy wsX5_isLikelyBy) := goodIn_app (goodIn_of _ (by decide +kernel)) ggX6_early_X5_isLikelyBy
theorem dX6_early_0 : decode cX6_early 0 = .ok (.iload_n 1, 1) := by decide +kernel
theorem dX6_early_1 : decode cX6_early 1 = .ok (.invokestatic 57, 3) := by decide +kernel
theorem dX6_early_4 : decode cX6_early 4 = .ok (.ifCond .eq 13, 3) := by decide +kernel
theorem dX6_early_7 : decode cX6_early 7 = .ok (.iload_n 2, 1) := by decide +kernel
theorem dX6_early_8 : decode cX6_early 8 = .ok (.iconst 0, 1) := by decide +kernel
theorem dX6_early_9 : decode cX6_early 9 = .ok (.bipush 100, 2) := by decide +kernel
theorem dX6_early_11 : decode cX6_early 11 = .ok (.invokestatic 61, 3) := by decide +kernel
theorem dX6_early_14 : decode cX6_early 14 = .ok (.ifCond .ne 5, 3) := by decide +kernel
theorem dX6_early_17 : decode cX6_early 17 = .ok (.iconst (-1), 1) := by decide +kernel
theorem dX6_early_18 : decode cX6_early 18 = .ok (.ireturn, 1) := by decide +kernel
theorem dX6_early_19 : decode cX6_early 19 = .ok (.iconst 0, 1) := by decide +kernel
theorem dX6_early_20 : decode cX6_early 20 = .ok (.istore_n 3, 1) := by decide +kernel
theorem dX6_early_21 : decode cX6_early 21 = .ok (.iload_n 3, 1) := by decide +kernel
theorem dX6_early_22 : decode cX6_early 22 = .ok (.bipush 9, 2) := by decide +kernel
theorem dX6_early_24 : decode cX6_early 24 = .ok (.if_icmp .gt 32, 3) := by decide +kernel
theorem dX6_early_27 : decode cX6_early 27 = .ok (.aload_n 0, 1) := by decide +kernel
theorem dX6_early_28 : decode cX6_early 28 = .ok (.aload_n 0, 1) := by decide +kernel
theorem dX6_early_29 : decode cX6_early 29 = .ok (.getfield 10, 3) := by decide +kernel
theorem dX6_early_32 : decode cX6_early 32 = .ok (.iload_n 3, 1) := by decide +kernel
theorem dX6_early_33 : decode cX6_early 33 = .ok (.invokevirtual 171, 3) := by decide +kernel
theorem dX6_early_36 : decode cX6_early 36 = .ok (.aload_n 0, 1) := by decide +kernel
theorem dX6_early_37 : decode cX6_early 37 = .ok (.getfield 25, 3) := by decide +kernel
theorem dX6_early_40 : decode cX6_early 40 = .ok (.iload_n 1, 1) := by decide +kernel
theorem dX6_early_41 : decode cX6_early 41 = .ok (.iload_n 2, 1) := by decide +kernel
theorem dX6_early_42 : decode cX6_early 42 = .ok (.invokevirtual 210, 3) := by decide +kernel
theorem dX6_early_45 : decode cX6_early 45 = .ok (.ifCond .eq 5, 3) := by decide +kernel
theorem dX6_early_48 : decode cX6_early 48 = .ok (.iload_n 3, 1) := by decide +kernel
theorem dX6_early_49 : decode cX6_early 49 = .ok (.ireturn, 1) := by decide +kernel
theorem dX6_early_50 : decode cX6_early 50 = .ok (.iinc 3 1, 3) := by decide +kernel
theorem dX6_early_53 : decode cX6_early 53 = .ok (.goto (-32), 3) := by decide +kernel
theorem dX6_early_56 : decode cX6_early 56 = .ok (.bipush (-4), 2) := by decide +kernel
theorem dX6_early_58 : decode cX6_early 58 = .ok (.ireturn, 1) := by decide +kernel
set_option maxRecDepth 20000 in
theorem ggX6_next_X6_isWithin : GoodIn wsX6_next wsX6_isWithin := goodIn_r _ [8] (by decide +kernel) (by decide +kernel)
set_option maxRecDepth 20000 in
theorem gX6_next_X6_isWithin : GoodIn wsX6_next (va_wsS RX6 61 yX6_isWithin wsX6_isWithin) := goodIn_app (goodIn_of _ (by decide +kernel)) ggX6_next_X6_isWithin
set_option maxRecDepth 20000 in
theorem ggX6_next_X1_takeGround : GoodIn wsX6_next wsX1_takeGround := goodIn_r _ [13, 14, 15, 16, 17, 18, 19, 20, 21, 22, 23, 24, 25, 26, 27, 28, 29, 30, 79, 80, 81, 82, 83, 84, 85, 86, 87, 88, 89, 90, 91] (by decide +kernel) (by decide +kernel)
set_option maxRecDepth 20000 in
theorem gX6_next_X1_takeGround : GoodIn wsX6_next (wsV RX6 116 RX1 yX1_takeGround wsX1_takeGround) := goodIn_app (goodIn_of _ (by decide +kernel)) ggX6_next_X1_takeGround
set_option maxRecDepth 20000 in
theorem ggX6_next_X1_passDay : GoodIn wsX6_next wsX1_passDay := goodIn_r _ [34, 19, 35, 36, 37, 38, 39, 40, 41, 42, 43, 12, 44, 45, 14, 46, 47, 48, 49, 6, 7, 8, 50, 51, 52, 53, 54, 55, 56, 57, 58, 59, 60, 61, 62, 63, 64, 65, 66, 67, 68, 69, 5, 79, 80, 81, 82, 83, 84, 85, 86, 87, 88, 89, 90, 91] (by decide +kernel) (by decide +kernel)
set_option maxRecDepth 20000 in
theorem gX6_next_X1_passDay : GoodIn wsX6_next (wsV RX6 152 RX1 yX1_passDay wsX1_passDay) := goodIn_app (goodIn_of _ (by decide +kernel)) ggX6_next_X1_passDay
theorem dX6_next_0 : decode cX6_next 0 = .ok (.iload_n 1, 1) := by decide +kernel
theorem dX6_next_1 : decode cX6_next 1 = .ok (.iconst 0, 1) := by decide +kernel
theorem dX6_next_2 : decode cX6_next 2 = .ok (.bipush 40, 2) := by decide +kernel
theorem dX6_next_4 : decode cX6_next 4 = .ok (.invokestatic 61, 3) := by decide +kernel
theorem dX6_next_7 : decode cX6_next 7 = .ok (.ifCond .ne 5, 3) := by decide +kernel
theorem dX6_next_10 : decode cX6_next 10 = .ok (.iconst (-1), 1) := by decide +kernel
theorem dX6_next_11 : decode cX6_next 11 = .ok (.ireturn, 1) := by decide +kernel
theorem dX6_next_12 : decode cX6_next 12 = .ok (.aload_n 0, 1) := by decide +kernel
theorem dX6_next_13 : decode cX6_next 13 = .ok (.getfield 19, 3) := by decide +kernel
theorem dX6_next_16 : decode cX6_next 16 = .ok (.aload_n 0, 1) := by decide +kernel
theorem dX6_next_17 : decode cX6_next 17 = .ok (.getfield 10, 3) := by decide +kernel
theorem dX6_next_20 : decode cX6_next 20 = .ok (.invokevirtual 116, 3) := by decide +kernel
theorem dX6_next_23 : decode cX6_next 23 = .ok (.iconst 0, 1) := by decide +kernel
theorem dX6_next_24 : decode cX6_next 24 = .ok (.istore_n 2, 1) := by decide +kernel
theorem dX6_next_25 : decode cX6_next 25 = .ok (.iload_n 2, 1) := by decide +kernel
theorem dX6_next_26 : decode cX6_next 26 = .ok (.iload_n 1, 1) := by decide +kernel
theorem dX6_next_27 : decode cX6_next 27 = .ok (.if_icmp .ge 16, 3) := by decide +kernel
theorem dX6_next_30 : decode cX6_next 30 = .ok (.aload_n 0, 1) := by decide +kernel
theorem dX6_next_31 : decode cX6_next 31 = .ok (.getfield 19, 3) := by decide +kernel
theorem dX6_next_34 : decode cX6_next 34 = .ok (.invokevirtual 152, 3) := by decide +kernel
theorem dX6_next_37 : decode cX6_next 37 = .ok (.iinc 2 1, 3) := by decide +kernel
theorem dX6_next_40 : decode cX6_next 40 = .ok (.goto (-15), 3) := by decide +kernel
theorem dX6_next_43 : decode cX6_next 43 = .ok (.aload_n 0, 1) := by decide +kernel
theorem dX6_next_44 : decode cX6_next 44 = .ok (.getfield 19, 3) := by decide +kernel
theorem dX6_next_47 : decode cX6_next 47 = .ok (.getfield 79, 3) := by decide +kernel
theorem dX6_next_50 : decode cX6_next 50 = .ok (.getfield 136, 3) := by decide +kernel
theorem dX6_next_53 : decode cX6_next 53 = .ok (.ireturn, 1) := by decide +kernel
set_option maxRecDepth 20000 in
theorem ggX6_winter_X6_isField : GoodIn wsX6_winter wsX6_isField := goodIn_r _ [11, 12, 13, 10, 14] (by decide +kernel) (by decide +kernel)
set_option maxRecDepth 20000 in
theorem gX6_winter_X6_isField : GoodIn wsX6_winter (va_wsS RX6 57 yX6_isField wsX6_isField) := goodIn_app (goodIn_of _ (by decide +kernel)) ggX6_winter_X6_isField
set_option maxRecDepth 20000 in
theorem ggX6_winter_X6_isWithin : GoodIn wsX6_winter wsX6_isWithin := goodIn_r _ [14] (by decide +kernel) (by decide +kernel)
set_option maxRecDepth 20000 in
theorem gX6_winter_X6_isWithin : GoodIn wsX6_winter (va_wsS RX6 61 yX6_isWithin wsX6_isWithin) := goodIn_app (goodIn_of _ (by decide +kernel)) ggX6_winter_X6_isWithin
set_option maxRecDepth 20000 in
theorem ggX6_winter_X5_learn : GoodIn wsX6_winter wsX5_learn := goodIn_r _ [19, 20, 21, 22, 23, 24, 25, 26, 27, 28, 29, 30, 31, 32, 33, 34, 13, 10, 14, 35, 36, 37, 38, 39, 40, 41, 42, 43, 44, 45, 46, 47, 48, 49, 111, 112, 113, 114, 115, 116, 117, 98, 99, 100, 101, 102, 103, 104, 105, 106, 107, 108, 109, 110] (by decide +kernel) (by decide +kernel)
set_option maxRecDepth 20000 in
theorem gX6_winter_X5_learn : GoodIn wsX6_winter (wsV RX6 196 RX5 yX5_learn wsX5_learn) := goodIn_app (goodIn_of _ (by decide +kernel)) ggX6_winter_X5_learn
set_option maxRecDepth 20000 in
theorem ggX6_winter_X5_fallAsleep : GoodIn wsX6_winter wsX5_fallAsleep := goodIn_r _ [53, 20, 21, 22, 111, 112, 113, 114, 115, 116, 117] (by decide +kernel) (by decide +kernel)
set_option maxRecDepth 20000 in
theorem gX6_winter_X5_fallAsleep : GoodIn wsX6_winter (wsV RX6 214 RX5 yX5_fallAsleep wsX5_fallAsleep) := goodIn_app (goodIn_of _ (by decide +kernel)) ggX6_winter_X5_fallAsleep
set_option maxRecDepth 20000 in
theorem ggX6_winter_X5_spread : GoodIn wsX6_winter wsX5_spread := goodIn_r _ [57, 58, 20, 59, 60, 61, 62, 18, 63, 64, 21, 22, 65, 66, 67, 68, 69, 70, 71, 72, 9, 10, 11, 12, 13, 14, 73, 74, 111, 112, 113, 114, 115, 116, 117] (by decide +kernel) (by decide +kernel)
set_option maxRecDepth 20000 in
theorem gX6_winter_X5_spread : GoodIn wsX6_winter (wsV RX6 218 RX5 yX5_spread wsX5_spread) := goodIn_app (goodIn_of _ (by decide +kernel)) ggX6_winter_X5_spread
set_option maxRecDepth 20000 in
theorem ggX6_winter_X0_become : GoodIn wsX6_winter wsX0_become := goodIn_r _ [79, 80, 81, 82, 83, 78, 84, 118, 119] (by decide +kernel) (by decide +kernel)
set_option maxRecDepth 20000 in
theorem gX6_winter_X0_become : GoodIn wsX6_winter (wsV RX6 183 RX0 yX0_become wsX0_become) := goodIn_app (goodIn_of _ (by decide +kernel)) ggX6_winter_X0_become
set_option maxRecDepth 20000 in
theorem ggX6_winter_X0_told : GoodIn wsX6_winter wsX0_told := goodIn_r _ [88, 80, 81, 118, 119] (by decide +kernel) (by decide +kernel)
set_option maxRecDepth 20000 in
theorem gX6_winter_X0_told : GoodIn wsX6_winter (wsV RX6 187 RX0 yX0_told wsX0_told) := goodIn_app (goodIn_of _ (by decide +kernel)) ggX6_winter_X0_told
theorem dX6_winter_0 : decode cX6_winter 0 = .ok (.iload_n 1, 1) := by decide +kernel
theorem dX6_winter_1 : decode cX6_winter 1 = .ok (.invokestatic 57, 3) := by decide +kernel
theorem dX6_winter_4 : decode cX6_winter 4 = .ok (.ifCond .eq 12, 3) := by decide +kernel
theorem dX6_winter_7 : decode cX6_winter 7 = .ok (.iload_n 2, 1) := by decide +kernel
theorem dX6_winter_8 : decode cX6_winter 8 = .ok (.iconst 0, 1) := by decide +kernel
theorem dX6_winter_9 : decode cX6_winter 9 = .ok (.iconst 4, 1) := by decide +kernel
theorem dX6_winter_10 : decode cX6_winter 10 = .ok (.invokestatic 61, 3) := by decide +kernel
theorem dX6_winter_13 : decode cX6_winter 13 = .ok (.ifCond .ne 5, 3) := by decide +kernel
theorem dX6_winter_16 : decode cX6_winter 16 = .ok (.iconst (-1), 1) := by decide +kernel
theorem dX6_winter_17 : decode cX6_winter 17 = .ok (.ireturn, 1) := by decide +kernel
theorem dX6_winter_18 : decode cX6_winter 18 = .ok (.iload_n 3, 1) := by decide +kernel
theorem dX6_winter_19 : decode cX6_winter 19 = .ok (.iconst 0, 1) := by decide +kernel
theorem dX6_winter_20 : decode cX6_winter 20 = .ok (.bipush 10, 2) := by decide +kernel
theorem dX6_winter_22 : decode cX6_winter 22 = .ok (.invokestatic 61, 3) := by decide +kernel
theorem dX6_winter_25 : decode cX6_winter 25 = .ok (.ifCond .eq 13, 3) := by decide +kernel
theorem dX6_winter_28 : decode cX6_winter 28 = .ok (.iload 4, 2) := by decide +kernel
theorem dX6_winter_30 : decode cX6_winter 30 = .ok (.iconst 0, 1) := by decide +kernel
theorem dX6_winter_31 : decode cX6_winter 31 = .ok (.iconst 1, 1) := by decide +kernel
theorem dX6_winter_32 : decode cX6_winter 32 = .ok (.invokestatic 61, 3) := by decide +kernel
theorem dX6_winter_35 : decode cX6_winter 35 = .ok (.ifCond .ne 5, 3) := by decide +kernel
theorem dX6_winter_38 : decode cX6_winter 38 = .ok (.iconst (-1), 1) := by decide +kernel
theorem dX6_winter_39 : decode cX6_winter 39 = .ok (.ireturn, 1) := by decide +kernel
theorem dX6_winter_40 : decode cX6_winter 40 = .ok (.aload_n 0, 1) := by decide +kernel
theorem dX6_winter_41 : decode cX6_winter 41 = .ok (.getfield 25, 3) := by decide +kernel
theorem dX6_winter_44 : decode cX6_winter 44 = .ok (.aload_n 0, 1) := by decide +kernel
theorem dX6_winter_45 : decode cX6_winter 45 = .ok (.getfield 10, 3) := by decide +kernel
theorem dX6_winter_48 : decode cX6_winter 48 = .ok (.invokevirtual 196, 3) := by decide +kernel
theorem dX6_winter_51 : decode cX6_winter 51 = .ok (.aload_n 0, 1) := by decide +kernel
theorem dX6_winter_52 : decode cX6_winter 52 = .ok (.getfield 25, 3) := by decide +kernel
theorem dX6_winter_55 : decode cX6_winter 55 = .ok (.iload_n 3, 1) := by decide +kernel
theorem dX6_winter_56 : decode cX6_winter 56 = .ok (.invokevirtual 214, 3) := by decide +kernel
theorem dX6_winter_59 : decode cX6_winter 59 = .ok (.aload_n 0, 1) := by decide +kernel
theorem dX6_winter_60 : decode cX6_winter 60 = .ok (.getfield 25, 3) := by decide +kernel
theorem dX6_winter_63 : decode cX6_winter 63 = .ok (.aload_n 0, 1) := by decide +kernel
theorem dX6_winter_64 : decode cX6_winter 64 = .ok (.getfield 10, 3) := by decide +kernel
theorem dX6_winter_67 : decode cX6_winter 67 = .ok (.getfield 79, 3) := by decide +kernel
theorem dX6_winter_70 : decode cX6_winter 70 = .ok (.getfield 136, 3) := by decide +kernel
theorem dX6_winter_73 : decode cX6_winter 73 = .ok (.iload_n 2, 1) := by decide +kernel
theorem dX6_winter_74 : decode cX6_winter 74 = .ok (.invokevirtual 218, 3) := by decide +kernel
theorem dX6_winter_77 : decode cX6_winter 77 = .ok (.aload_n 0, 1) := by decide +kernel
theorem dX6_winter_78 : decode cX6_winter 78 = .ok (.getfield 32, 3) := by decide +kernel
theorem dX6_winter_81 : decode cX6_winter 81 = .ok (.aload_n 0, 1) := by decide +kernel
theorem dX6_winter_82 : decode cX6_winter 82 = .ok (.getfield 25, 3) := by decide +kernel
theorem dX6_winter_85 : decode cX6_winter 85 = .ok (.getfield 175, 3) := by decide +kernel
theorem dX6_winter_88 : decode cX6_winter 88 = .ok (.iload_n 1, 1) := by decide +kernel
theorem dX6_winter_89 : decode cX6_winter 89 = .ok (.laload, 1) := by decide +kernel
theorem dX6_winter_90 : decode cX6_winter 90 = .ok (.aload_n 0, 1) := by decide +kernel
theorem dX6_winter_91 : decode cX6_winter 91 = .ok (.getfield 25, 3) := by decide +kernel
theorem dX6_winter_94 : decode cX6_winter 94 = .ok (.getfield 179, 3) := by decide +kernel
theorem dX6_winter_97 : decode cX6_winter 97 = .ok (.invokevirtual 183, 3) := by decide +kernel
theorem dX6_winter_100 : decode cX6_winter 100 = .ok (.aload_n 0, 1) := by decide +kernel
theorem dX6_winter_101 : decode cX6_winter 101 = .ok (.getfield 32, 3) := by decide +kernel
theorem dX6_winter_104 : decode cX6_winter 104 = .ok (.iload 4, 2) := by decide +kernel
theorem dX6_winter_106 : decode cX6_winter 106 = .ok (.invokevirtual 187, 3) := by decide +kernel
theorem dX6_winter_109 : decode cX6_winter 109 = .ok (.l2i, 1) := by decide +kernel
theorem dX6_winter_110 : decode cX6_winter 110 = .ok (.ireturn, 1) := by decide +kernel
set_option maxRecDepth 20000 in
theorem ggX6_image_X1_takeAll : GoodIn wsX6_image wsX1_takeAll := goodIn_r _ [8, 9, 10, 11, 12, 13, 7, 14, 15, 16, 17, 18, 19, 20, 21, 22, 23, 24, 25, 26, 27, 28, 29, 30, 31, 32, 33, 34, 35, 36, 37, 38, 39, 49, 50, 51, 52, 53, 54, 55, 56, 57, 58, 59, 60, 61] (by decide +kernel) (by decide +kernel)
set_option maxRecDepth 20000 in
theorem gX6_image_X1_takeAll : GoodIn wsX6_image (wsV RX6 222 RX1 yX1_takeAll wsX1_takeAll) := goodIn_app (goodIn_of _ (by decide +kernel)) ggX6_image_X1_takeAll
theorem dX6_image_0 : decode cX6_image 0 = .ok (.aload_n 0, 1) := by decide +kernel
theorem dX6_image_1 : decode cX6_image 1 = .ok (.getfield 16, 3) := by decide +kernel
theorem dX6_image_4 : decode cX6_image 4 = .ok (.aload_n 0, 1) := by decide +kernel
theorem dX6_image_5 : decode cX6_image 5 = .ok (.getfield 10, 3) := by decide +kernel
theorem dX6_image_8 : decode cX6_image 8 = .ok (.invokevirtual 222, 3) := by decide +kernel
theorem dX6_image_11 : decode cX6_image 11 = .ok (.aload_n 0, 1) := by decide +kernel
theorem dX6_image_12 : decode cX6_image 12 = .ok (.iconst 1, 1) := by decide +kernel
theorem dX6_image_13 : decode cX6_image 13 = .ok (.putfield 53, 3) := by decide +kernel
theorem dX6_image_16 : decode cX6_image 16 = .ok (.iconst 1, 1) := by decide +kernel
theorem dX6_image_17 : decode cX6_image 17 = .ok (.ireturn, 1) := by decide +kernel
set_option maxRecDepth 20000 in
theorem ggX6_restore_X1_takeAll : GoodIn wsX6_restore wsX1_takeAll := goodIn_r _ [8, 9, 10, 11, 12, 13, 7, 14, 15, 16, 17, 18, 19, 20, 21, 22, 23, 24, 25, 26, 27, 28, 29, 30, 31, 32, 33, 34, 35, 36, 37, 38, 39, 49, 50, 51, 52, 53, 54, 55, 56, 57, 58, 59, 60, 61] (by decide +kernel) (by decide +kernel)
set_option maxRecDepth 20000 in
theorem gX6_restore_X1_takeAll : GoodIn wsX6_restore (wsV RX6 222 RX1 yX1_takeAll wsX1_takeAll) := goodIn_app (goodIn_of _ (by decide +kernel)) ggX6_restore_X1_takeAll
theorem dX6_restore_0 : decode cX6_restore 0 = .ok (.aload_n 0, 1) := by decide +kernel
theorem dX6_restore_1 : decode cX6_restore 1 = .ok (.getfield 53, 3) := by decide +kernel
theorem dX6_restore_4 : decode cX6_restore 4 = .ok (.ifCond .ne 6, 3) := by decide +kernel
theorem dX6_restore_7 : decode cX6_restore 7 = .ok (.bipush (-4), 2) := by decide +kernel
theorem dX6_restore_9 : decode cX6_restore 9 = .ok (.ireturn, 1) := by decide +kernel
theorem dX6_restore_10 : decode cX6_restore 10 = .ok (.aload_n 0, 1) := by decide +kernel
theorem dX6_restore_11 : decode cX6_restore 11 = .ok (.getfield 10, 3) := by decide +kernel
theorem dX6_restore_14 : decode cX6_restore 14 = .ok (.aload_n 0, 1) := by decide +kernel
theorem dX6_restore_15 : decode cX6_restore 15 = .ok (.getfield 16, 3) := by decide +kernel
theorem dX6_restore_18 : decode cX6_restore 18 = .ok (.invokevirtual 222, 3) := by decide +kernel
theorem dX6_restore_21 : decode cX6_restore 21 = .ok (.iconst 1, 1) := by decide +kernel
theorem dX6_restore_22 : decode cX6_restore 22 = .ok (.ireturn, 1) := by decide +kernel
set_option maxRecDepth 20000 in
theorem ggX6_seen_X6_isSheet : GoodIn wsX6_seen wsX6_isSheet := goodIn_r _ [11, 12, 13, 10, 14] (by decide +kernel) (by decide +kernel)
set_option maxRecDepth 20000 in
theorem gX6_seen_X6_isSheet : GoodIn wsX6_seen (va_wsS RX6 225 yX6_isSheet wsX6_isSheet) := goodIn_app (goodIn_of _ (by decide +kernel)) ggX6_seen_X6_isSheet
set_option maxRecDepth 20000 in
theorem ggX6_seen_X6_isLane : GoodIn wsX6_seen wsX6_isLane := goodIn_r _ [17, 12, 13, 10, 14] (by decide +kernel) (by decide +kernel)
set_option maxRecDepth 20000 in
theorem gX6_seen_X6_isLane : GoodIn wsX6_seen (va_wsS RX6 228 yX6_isLane wsX6_isLane) := goodIn_app (goodIn_of _ (by decide +kernel)) ggX6_seen_X6_isLane
set_option maxRecDepth 20000 in
theorem ggX6_seen_X6_isWithin : GoodIn wsX6_seen wsX6_isWithin := goodIn_r _ [14] (by decide +kernel) (by decide +kernel)
set_option maxRecDepth 20000 in
theorem gX6_seen_X6_isWithin : GoodIn wsX6_seen (va_wsS RX6 61 yX6_isWithin wsX6_isWithin) := goodIn_app (goodIn_of _ (by decide +kernel)) ggX6_seen_X6_isWithin
set_option maxRecDepth 20000 in
theorem ggX6_seen_X4_refusal : GoodIn wsX6_seen wsX4_refusal := goodIn_r _ [22, 23, 24, 25, 26, 27, 21, 28, 29, 124, 125, 126, 127] (by decide +kernel) (by decide +kernel)
set_option maxRecDepth 20000 in
theorem gX6_seen_X4_refusal : GoodIn wsX6_seen (wsV RX6 231 RX4 yX4_refusal wsX4_refusal) := goodIn_app (goodIn_of _ (by decide +kernel)) ggX6_seen_X4_refusal
set_option maxRecDepth 20000 in
theorem ggX6_seen_X5_learn : GoodIn wsX6_seen wsX5_learn := goodIn_r _ [34, 35, 36, 37, 38, 39, 40, 41, 42, 43, 44, 45, 46, 47, 48, 49, 13, 10, 14, 50, 51, 52, 53, 54, 55, 56, 57, 58, 59, 60, 61, 62, 63, 64, 128, 129, 130, 131, 132, 133, 134, 111, 112, 113, 114, 115, 116, 117, 118, 119, 120, 121, 122, 123] (by decide +kernel) (by decide +kernel)
set_option maxRecDepth 20000 in
theorem gX6_seen_X5_learn : GoodIn wsX6_seen (wsV RX6 196 RX5 yX5_learn wsX5_learn) := goodIn_app (goodIn_of _ (by decide +kernel)) ggX6_seen_X5_learn
set_option maxRecDepth 20000 in
theorem ggX6_seen_X6_fieldsBefore : GoodIn wsX6_seen wsX6_fieldsBefore := goodIn_r _ [68, 69, 70, 71, 10, 72, 2, 73, 74, 75, 21, 76, 77, 78, 79, 80, 81, 33, 82, 35, 36, 37, 83, 84, 12, 13, 14, 102, 103, 104, 105, 106, 107, 108, 109, 110, 124, 125, 126, 127, 128, 129, 130, 131, 132, 133, 134] (by decide +kernel) (by decide +kernel)
set_option maxRecDepth 20000 in
theorem gX6_seen_X6_fieldsBefore : GoodIn wsX6_seen (wsV RX6 235 RX6 yX6_fieldsBefore wsX6_fieldsBefore) := goodIn_app (goodIn_of _ (by decide +kernel)) ggX6_seen_X6_fieldsBefore
set_option maxRecDepth 20000 in
theorem ggX6_seen_X6_weightOf : GoodIn wsX6_seen wsX6_weightOf := goodIn_r _ [72, 2, 73, 74, 75, 21, 76, 77, 78, 79, 80, 81, 33, 82, 35, 36, 37, 83, 10, 84, 12, 13, 14, 102, 103, 104, 105, 106, 107, 108, 109, 110, 124, 125, 126, 127, 128, 129, 130, 131, 132, 133, 134] (by decide +kernel) (by decide +kernel)
set_option maxRecDepth 20000 in
theorem gX6_seen_X6_weightOf : GoodIn wsX6_seen (wsV RX6 239 RX6 yX6_weightOf wsX6_weightOf) := goodIn_app (goodIn_of _ (by decide +kernel)) ggX6_seen_X6_weightOf
set_option maxRecDepth 20000 in
theorem ggX6_seen_X6_power : GoodIn wsX6_seen wsX6_power := goodIn_r _ [87] (by decide +kernel) (by decide +kernel)
set_option maxRecDepth 20000 in
theorem gX6_seen_X6_power : GoodIn wsX6_seen (va_wsS RX6 245 yX6_power wsX6_power) := goodIn_app (goodIn_of _ (by decide +kernel)) ggX6_seen_X6_power
set_option maxRecDepth 20000 in
theorem ggX6_seen_X0_become : GoodIn wsX6_seen wsX0_become := goodIn_r _ [92, 93, 94, 95, 96, 91, 97, 135, 136] (by decide +kernel) (by decide +kernel)
set_option maxRecDepth 20000 in
theorem gX6_seen_X0_become : GoodIn wsX6_seen (wsV RX6 183 RX0 yX0_become wsX0_become) := goodIn_app (goodIn_of _ (by decide +kernel)) ggX6_seen_X0_become
set_option maxRecDepth 20000 in
theorem ggX6_seen_X0_told : GoodIn wsX6_seen wsX0_told := goodIn_r _ [101, 93, 94, 135, 136] (by decide +kernel) (by decide +kernel)
set_option maxRecDepth 20000 in
theorem gX6_seen_X0_told : GoodIn wsX6_seen (wsV RX6 187 RX0 yX0_told wsX0_told) := goodIn_app (goodIn_of _ (by decide +kernel)) ggX6_seen_X0_told
theorem dX6_seen_0 : decode cX6_seen 0 = .ok (.iload_n 1, 1) := by decide +kernel
theorem dX6_seen_1 : decode cX6_seen 1 = .ok (.invokestatic 225, 3) := by decide +kernel
theorem dX6_seen_4 : decode cX6_seen 4 = .ok (.ifCond .eq 31, 3) := by decide +kernel
theorem dX6_seen_7 : decode cX6_seen 7 = .ok (.iload_n 2, 1) := by decide +kernel
theorem dX6_seen_8 : decode cX6_seen 8 = .ok (.invokestatic 228, 3) := by decide +kernel
theorem dX6_seen_11 : decode cX6_seen 11 = .ok (.ifCond .eq 24, 3) := by decide +kernel
theorem dX6_seen_14 : decode cX6_seen 14 = .ok (.iload 4, 2) := by decide +kernel
theorem dX6_seen_16 : decode cX6_seen 16 = .ok (.iconst 1, 1) := by decide +kernel
theorem dX6_seen_17 : decode cX6_seen 17 = .ok (.bipush 8, 2) := by decide +kernel
theorem dX6_seen_19 : decode cX6_seen 19 = .ok (.invokestatic 61, 3) := by decide +kernel
theorem dX6_seen_22 : decode cX6_seen 22 = .ok (.ifCond .eq 13, 3) := by decide +kernel
theorem dX6_seen_25 : decode cX6_seen 25 = .ok (.iload 5, 2) := by decide +kernel
theorem dX6_seen_27 : decode cX6_seen 27 = .ok (.iconst 0, 1) := by decide +kernel
theorem dX6_seen_28 : decode cX6_seen 28 = .ok (.iconst 2, 1) := by decide +kernel
theorem dX6_seen_29 : decode cX6_seen 29 = .ok (.invokestatic 61, 3) := by decide +kernel
theorem dX6_seen_32 : decode cX6_seen 32 = .ok (.ifCond .ne 5, 3) := by decide +kernel
theorem dX6_seen_35 : decode cX6_seen 35 = .ok (.iconst (-1), 1) := by decide +kernel
theorem dX6_seen_36 : decode cX6_seen 36 = .ok (.ireturn, 1) := by decide +kernel
theorem dX6_seen_37 : decode cX6_seen 37 = .ok (.aload_n 0, 1) := by decide +kernel
theorem dX6_seen_38 : decode cX6_seen 38 = .ok (.getfield 48, 3) := by decide +kernel
theorem dX6_seen_41 : decode cX6_seen 41 = .ok (.iload_n 1, 1) := by decide +kernel
theorem dX6_seen_42 : decode cX6_seen 42 = .ok (.aaload, 1) := by decide +kernel
theorem dX6_seen_43 : decode cX6_seen 43 = .ok (.astore 6, 2) := by decide +kernel
theorem dX6_seen_45 : decode cX6_seen 45 = .ok (.aload 6, 2) := by decide +kernel
theorem dX6_seen_47 : decode cX6_seen 47 = .ok (.iload_n 2, 1) := by decide +kernel
theorem dX6_seen_48 : decode cX6_seen 48 = .ok (.iload_n 3, 1) := by decide +kernel
theorem dX6_seen_49 : decode cX6_seen 49 = .ok (.iload 4, 2) := by decide +kernel
theorem dX6_seen_51 : decode cX6_seen 51 = .ok (.invokevirtual 231, 3) := by decide +kernel
theorem dX6_seen_54 : decode cX6_seen 54 = .ok (.istore 7, 2) := by decide +kernel
theorem dX6_seen_56 : decode cX6_seen 56 = .ok (.iload 7, 2) := by decide +kernel
theorem dX6_seen_58 : decode cX6_seen 58 = .ok (.ifCond .eq 6, 3) := by decide +kernel
theorem dX6_seen_61 : decode cX6_seen 61 = .ok (.iload 7, 2) := by decide +kernel
theorem dX6_seen_63 : decode cX6_seen 63 = .ok (.ireturn, 1) := by decide +kernel
theorem dX6_seen_64 : decode cX6_seen 64 = .ok (.aload_n 0, 1) := by decide +kernel
theorem dX6_seen_65 : decode cX6_seen 65 = .ok (.getfield 25, 3) := by decide +kernel
theorem dX6_seen_68 : decode cX6_seen 68 = .ok (.aload_n 0, 1) := by decide +kernel
theorem dX6_seen_69 : decode cX6_seen 69 = .ok (.getfield 10, 3) := by decide +kernel
theorem dX6_seen_72 : decode cX6_seen 72 = .ok (.invokevirtual 196, 3) := by decide +kernel
theorem dX6_seen_75 : decode cX6_seen 75 = .ok (.iload 5, 2) := by decide +kernel
theorem dX6_seen_77 : decode cX6_seen 77 = .ok (.iconst 2, 1) := by decide +kernel
theorem dX6_seen_78 : decode cX6_seen 78 = .ok (.if_icmp .ne 13, 3) := by decide +kernel
theorem dX6_seen_81 : decode cX6_seen 81 = .ok (.aload_n 0, 1) := by decide +kernel
theorem dX6_seen_82 : decode cX6_seen 82 = .ok (.aload 6, 2) := by decide +kernel
theorem dX6_seen_84 : decode cX6_seen 84 = .ok (.iload_n 3, 1) := by decide +kernel
theorem dX6_seen_85 : decode cX6_seen 85 = .ok (.iload 4, 2) := by decide +kernel
theorem dX6_seen_87 : decode cX6_seen 87 = .ok (.invokevirtual 235, 3) := by decide +kernel
theorem dX6_seen_90 : decode cX6_seen 90 = .ok (.ireturn, 1) := by decide +kernel
theorem dX6_seen_91 : decode cX6_seen 91 = .ok (.aload_n 0, 1) := by decide +kernel
theorem dX6_seen_92 : decode cX6_seen 92 = .ok (.getfield 32, 3) := by decide +kernel
theorem dX6_seen_95 : decode cX6_seen 95 = .ok (.aload_n 0, 1) := by decide +kernel
theorem dX6_seen_96 : decode cX6_seen 96 = .ok (.aload_n 0, 1) := by decide +kernel
theorem dX6_seen_97 : decode cX6_seen 97 = .ok (.getfield 10, 3) := by decide +kernel
theorem dX6_seen_100 : decode cX6_seen 100 = .ok (.getfield 79, 3) := by decide +kernel
theorem dX6_seen_103 : decode cX6_seen 103 = .ok (.getfield 136, 3) := by decide +kernel
theorem dX6_seen_106 : decode cX6_seen 106 = .ok (.aload 6, 2) := by decide +kernel
theorem dX6_seen_108 : decode cX6_seen 108 = .ok (.iload_n 3, 1) := by decide +kernel
theorem dX6_seen_109 : decode cX6_seen 109 = .ok (.iload 4, 2) := by decide +kernel
theorem dX6_seen_111 : decode cX6_seen 111 = .ok (.invokevirtual 239, 3) := by decide +kernel
theorem dX6_seen_114 : decode cX6_seen 114 = .ok (.ldc2_w 243, 3) := by decide +kernel
theorem dX6_seen_117 : decode cX6_seen 117 = .ok (.iload 4, 2) := by decide +kernel
theorem dX6_seen_119 : decode cX6_seen 119 = .ok (.invokestatic 245, 3) := by decide +kernel
theorem dX6_seen_122 : decode cX6_seen 122 = .ok (.invokevirtual 183, 3) := by decide +kernel
theorem dX6_seen_125 : decode cX6_seen 125 = .ok (.aload_n 0, 1) := by decide +kernel
theorem dX6_seen_126 : decode cX6_seen 126 = .ok (.getfield 32, 3) := by decide +kernel
theorem dX6_seen_129 : decode cX6_seen 129 = .ok (.iload 5, 2) := by decide +kernel
theorem dX6_seen_131 : decode cX6_seen 131 = .ok (.invokevirtual 187, 3) := by decide +kernel
theorem dX6_seen_134 : decode cX6_seen 134 = .ok (.l2i, 1) := by decide +kernel
theorem dX6_seen_135 : decode cX6_seen 135 = .ok (.ireturn, 1) := by decide +kernel
set_option maxRecDepth 20000 in
theorem ggX6_bore_X6_isField : GoodIn wsX6_bore wsX6_isField := goodIn_r _ [5, 6, 7, 4, 8] (by decide +kernel) (by decide +kernel)
set_option maxRecDepth 20000 in
theorem gX6_bore_X6_isField : GoodIn wsX6_bore (va_wsS RX6 57 yX6_isField wsX6_isField) := goodIn_app (goodIn_of _ (by decide +kernel)) ggX6_bore_X6_isField
set_option maxRecDepth 20000 in
theorem ggX6_bore_X6_isSheet : GoodIn wsX6_bore wsX6_isSheet := goodIn_r _ [11, 6, 7, 4, 8] (by decide +kernel) (by decide +kernel)
set_option maxRecDepth 20000 in
theorem gX6_bore_X6_isSheet : GoodIn wsX6_bore (va_wsS RX6 225 yX6_isSheet wsX6_isSheet) := goodIn_app (goodIn_of _ (by decide +kernel)) ggX6_bore_X6_isSheet
set_option maxRecDepth 20000 in
theorem ggX6_bore_X6_isLane : GoodIn wsX6_bore wsX6_isLane := goodIn_r _ [14, 6, 7, 4, 8] (by decide +kernel) (by decide +kernel)
set_option maxRecDepth 20000 in
theorem gX6_bore_X6_isLane : GoodIn wsX6_bore (va_wsS RX6 228 yX6_isLane wsX6_isLane) := goodIn_app (goodIn_of _ (by decide +kernel)) ggX6_bore_X6_isLane
set_option maxRecDepth 20000 in
theorem ggX6_bore_X6_isWithin : GoodIn wsX6_bore wsX6_isWithin := goodIn_r _ [8] (by decide +kernel) (by decide +kernel)
set_option maxRecDepth 20000 in
theorem gX6_bore_X6_isWithin : GoodIn wsX6_bore (va_wsS RX6 61 yX6_isWithin wsX6_isWithin) := goodIn_app (goodIn_of _ (by decide +kernel)) ggX6_bore_X6_isWithin
set_option maxRecDepth 20000 in
theorem ggX6_bore_X4_refusal : GoodIn wsX6_bore wsX4_refusal := goodIn_r _ [19, 20, 21, 22, 23, 24, 18, 25, 26, 119, 120, 121, 122] (by decide +kernel) (by decide +kernel)
set_option maxRecDepth 20000 in
theorem gX6_bore_X4_refusal : GoodIn wsX6_bore (wsV RX6 231 RX4 yX4_refusal wsX4_refusal) := goodIn_app (goodIn_of _ (by decide +kernel)) ggX6_bore_X4_refusal
set_option maxRecDepth 20000 in
theorem ggX6_bore_X6_kindsFor : GoodIn wsX6_bore wsX6_kindsFor := goodIn_r _ [30, 31, 32, 33, 34, 35, 36, 37, 38, 39, 40, 41, 42, 43, 44, 45, 46, 47, 48, 49, 50, 51, 52, 53, 54, 55, 56, 57, 58, 4, 59, 60, 61, 62, 63, 64, 65, 66, 67, 68, 69, 70, 71, 72, 73, 74, 75, 76, 77, 78, 79, 80, 7, 8, 81, 82, 83, 84, 85, 86, 87, 88, 89, 90, 91, 92, 93, 94, 95, 96, 97, 98, 3, 5, 6, 99, 100, 101, 18, 102, 103, 104, 110, 111, 112, 113, 114, 115, 116, 117, 118, 123, 124, 125, 126, 127, 128, 129, 130, 131, 132, 133, 134, 135, 119, 120, 121, 122] (by decide +kernel) (by decide +kernel)
set_option maxRecDepth 20000 in
theorem gX6_bore_X6_kindsFor : GoodIn wsX6_bore (wsV RX6 249 RX6 yX6_kindsFor wsX6_kindsFor) := goodIn_app (goodIn_of _ (by decide +kernel)) ggX6_bore_X6_kindsFor
set_option maxRecDepth 20000 in
theorem ggX6_bore_X6_foodsFor : GoodIn wsX6_bore wsX6_foodsFor := goodIn_r _ [108, 31, 32, 60, 109, 34, 35, 36, 37, 38, 39, 40, 41, 42, 43, 44, 45, 46, 47, 48, 49, 50, 51, 52, 53, 54, 55, 56, 57, 58, 4, 59, 61, 62, 63, 64, 65, 66, 67, 68, 69, 70, 71, 72, 73, 74, 75, 76, 77, 78, 79, 80, 7, 8, 81, 82, 83, 84, 85, 86, 87, 88, 89, 90, 91, 92, 93, 94, 95, 96, 97, 98, 3, 5, 6, 99, 100, 101, 18, 102, 103, 104, 110, 111, 112, 113, 114, 115, 116, 117, 118, 123, 124, 125, 126, 127, 128, 129, 130, 131, 132, 133, 134, 135, 119, 120, 121, 122] (by decide +kernel) (by decide +kernel)
set_option maxRecDepth 20000 in
theorem gX6_bore_X6_foodsFor : GoodIn wsX6_bore (wsV RX6 253 RX6 yX6_foodsFor wsX6_foodsFor) := goodIn_app (goodIn_of _ (by decide +kernel)) ggX6_bore_X6_foodsFor
theorem dX6_bore_0 : decode cX6_bore 0 = .ok (.iload_n 1, 1) := by decide +kernel
theorem dX6_bore_1 : decode cX6_bore 1 = .ok (.invokestatic 57, 3) := by decide +kernel
theorem dX6_bore_4 : decode cX6_bore 4 = .ok (.ifCond .eq 17, 3) := by decide +kernel
theorem dX6_bore_7 : decode cX6_bore 7 = .ok (.iload_n 2, 1) := by decide +kernel
theorem dX6_bore_8 : decode cX6_bore 8 = .ok (.invokestatic 225, 3) := by decide +kernel
theorem dX6_bore_11 : decode cX6_bore 11 = .ok (.ifCond .eq 10, 3) := by decide +kernel
theorem dX6_bore_14 : decode cX6_bore 14 = .ok (.iload_n 3, 1) := by decide +kernel
theorem dX6_bore_15 : decode cX6_bore 15 = .ok (.invokestatic 228, 3) := by decide +kernel
theorem dX6_bore_18 : decode cX6_bore 18 = .ok (.ifCond .ne 5, 3) := by decide +kernel
theorem dX6_bore_21 : decode cX6_bore 21 = .ok (.iconst (-1), 1) := by decide +kernel
theorem dX6_bore_22 : decode cX6_bore 22 = .ok (.ireturn, 1) := by decide +kernel
theorem dX6_bore_23 : decode cX6_bore 23 = .ok (.iload 5, 2) := by decide +kernel
theorem dX6_bore_25 : decode cX6_bore 25 = .ok (.iconst 1, 1) := by decide +kernel
theorem dX6_bore_26 : decode cX6_bore 26 = .ok (.bipush 8, 2) := by decide +kernel
theorem dX6_bore_28 : decode cX6_bore 28 = .ok (.invokestatic 61, 3) := by decide +kernel
theorem dX6_bore_31 : decode cX6_bore 31 = .ok (.ifCond .eq 13, 3) := by decide +kernel
theorem dX6_bore_34 : decode cX6_bore 34 = .ok (.iload 6, 2) := by decide +kernel
theorem dX6_bore_36 : decode cX6_bore 36 = .ok (.iconst 0, 1) := by decide +kernel
theorem dX6_bore_37 : decode cX6_bore 37 = .ok (.iconst 1, 1) := by decide +kernel
theorem dX6_bore_38 : decode cX6_bore 38 = .ok (.invokestatic 61, 3) := by decide +kernel
theorem dX6_bore_41 : decode cX6_bore 41 = .ok (.ifCond .ne 5, 3) := by decide +kernel
theorem dX6_bore_44 : decode cX6_bore 44 = .ok (.iconst (-1), 1) := by decide +kernel
theorem dX6_bore_45 : decode cX6_bore 45 = .ok (.ireturn, 1) := by decide +kernel
theorem dX6_bore_46 : decode cX6_bore 46 = .ok (.aload_n 0, 1) := by decide +kernel
theorem dX6_bore_47 : decode cX6_bore 47 = .ok (.getfield 48, 3) := by decide +kernel
theorem dX6_bore_50 : decode cX6_bore 50 = .ok (.iload_n 2, 1) := by decide +kernel
theorem dX6_bore_51 : decode cX6_bore 51 = .ok (.aaload, 1) := by decide +kernel
theorem dX6_bore_52 : decode cX6_bore 52 = .ok (.astore 7, 2) := by decide +kernel
theorem dX6_bore_54 : decode cX6_bore 54 = .ok (.aload 7, 2) := by decide +kernel
theorem dX6_bore_56 : decode cX6_bore 56 = .ok (.iload_n 3, 1) := by decide +kernel
theorem dX6_bore_57 : decode cX6_bore 57 = .ok (.iload 4, 2) := by decide +kernel
theorem dX6_bore_59 : decode cX6_bore 59 = .ok (.iload 5, 2) := by decide +kernel
theorem dX6_bore_61 : decode cX6_bore 61 = .ok (.invokevirtual 231, 3) := by decide +kernel
theorem dX6_bore_64 : decode cX6_bore 64 = .ok (.istore 8, 2) := by decide +kernel
theorem dX6_bore_66 : decode cX6_bore 66 = .ok (.iload 8, 2) := by decide +kernel
theorem dX6_bore_68 : decode cX6_bore 68 = .ok (.ifCond .eq 6, 3) := by decide +kernel
theorem dX6_bore_71 : decode cX6_bore 71 = .ok (.iload 8, 2) := by decide +kernel
theorem dX6_bore_73 : decode cX6_bore 73 = .ok (.ireturn, 1) := by decide +kernel
theorem dX6_bore_74 : decode cX6_bore 74 = .ok (.iload 6, 2) := by decide +kernel
theorem dX6_bore_76 : decode cX6_bore 76 = .ok (.ifCond .ne 17, 3) := by decide +kernel
theorem dX6_bore_79 : decode cX6_bore 79 = .ok (.aload_n 0, 1) := by decide +kernel
theorem dX6_bore_80 : decode cX6_bore 80 = .ok (.iload_n 1, 1) := by decide +kernel
theorem dX6_bore_81 : decode cX6_bore 81 = .ok (.aload 7, 2) := by decide +kernel
theorem dX6_bore_83 : decode cX6_bore 83 = .ok (.iload 4, 2) := by decide +kernel
theorem dX6_bore_85 : decode cX6_bore 85 = .ok (.iload 5, 2) := by decide +kernel
theorem dX6_bore_87 : decode cX6_bore 87 = .ok (.invokevirtual 249, 3) := by decide +kernel
theorem dX6_bore_90 : decode cX6_bore 90 = .ok (.goto 14, 3) := by decide +kernel
theorem dX6_bore_93 : decode cX6_bore 93 = .ok (.aload_n 0, 1) := by decide +kernel
theorem dX6_bore_94 : decode cX6_bore 94 = .ok (.iload_n 1, 1) := by decide +kernel
theorem dX6_bore_95 : decode cX6_bore 95 = .ok (.aload 7, 2) := by decide +kernel
theorem dX6_bore_97 : decode cX6_bore 97 = .ok (.iload 4, 2) := by decide +kernel
theorem dX6_bore_99 : decode cX6_bore 99 = .ok (.iload 5, 2) := by decide +kernel
theorem dX6_bore_101 : decode cX6_bore 101 = .ok (.invokevirtual 253, 3) := by decide +kernel
theorem dX6_bore_104 : decode cX6_bore 104 = .ok (.ireturn, 1) := by decide +kernel
set_option maxRecDepth 20000 in
theorem ggX6_film_X6_isWithin : GoodIn wsX6_film wsX6_isWithin := goodIn_r _ [9] (by decide +kernel) (by decide +kernel)
set_option maxRecDepth 20000 in
theorem gX6_film_X6_isWithin : GoodIn wsX6_film (va_wsS RX6 61 yX6_isWithin wsX6_isWithin) := goodIn_app (goodIn_of _ (by decide +kernel)) ggX6_film_X6_isWithin
set_option maxRecDepth 20000 in
theorem ggX6_film_X6_isSheet : GoodIn wsX6_film wsX6_isSheet := goodIn_r _ [12, 6, 7, 8, 9] (by decide +kernel) (by decide +kernel)
set_option maxRecDepth 20000 in
theorem gX6_film_X6_isSheet : GoodIn wsX6_film (va_wsS RX6 225 yX6_isSheet wsX6_isSheet) := goodIn_app (goodIn_of _ (by decide +kernel)) ggX6_film_X6_isSheet
set_option maxRecDepth 20000 in
theorem ggX6_film_X6_isLane : GoodIn wsX6_film wsX6_isLane := goodIn_r _ [15, 6, 7, 8, 9] (by decide +kernel) (by decide +kernel)
set_option maxRecDepth 20000 in
theorem gX6_film_X6_isLane : GoodIn wsX6_film (va_wsS RX6 228 yX6_isLane wsX6_isLane) := goodIn_app (goodIn_of _ (by decide +kernel)) ggX6_film_X6_isLane
set_option maxRecDepth 20000 in
theorem ggX6_film_X4_refusal : GoodIn wsX6_film wsX4_refusal := goodIn_r _ [20, 21, 22, 23, 24, 25, 19, 26, 27, 116, 117, 118, 119] (by decide +kernel) (by decide +kernel)
set_option maxRecDepth 20000 in
theorem gX6_film_X4_refusal : GoodIn wsX6_film (wsV RX6 231 RX4 yX4_refusal wsX4_refusal) := goodIn_app (goodIn_of _ (by decide +kernel)) ggX6_film_X4_refusal
set_option maxRecDepth 20000 in
theorem ggX6_film_X1_takeGround : GoodIn wsX6_film wsX1_takeGround := goodIn_r _ [32, 33, 34, 35, 36, 37, 38, 39, 40, 41, 42, 43, 44, 45, 46, 47, 48, 49, 103, 104, 105, 106, 107, 108, 109, 110, 111, 112, 113, 114, 115] (by decide +kernel) (by decide +kernel)
set_option maxRecDepth 20000 in
theorem gX6_film_X1_takeGround : GoodIn wsX6_film (wsV RX6 116 RX1 yX1_takeGround wsX1_takeGround) := goodIn_app (goodIn_of _ (by decide +kernel)) ggX6_film_X1_takeGround
set_option maxRecDepth 20000 in
theorem ggX6_film_X1_passDay : GoodIn wsX6_film wsX1_passDay := goodIn_r _ [53, 38, 54, 55, 56, 57, 58, 59, 60, 61, 62, 31, 63, 64, 33, 65, 66, 67, 68, 7, 8, 9, 69, 70, 71, 72, 73, 74, 75, 76, 77, 78, 79, 80, 81, 82, 83, 84, 85, 86, 87, 88, 6, 103, 104, 105, 106, 107, 108, 109, 110, 111, 112, 113, 114, 115] (by decide +kernel) (by decide +kernel)
set_option maxRecDepth 20000 in
theorem gX6_film_X1_passDay : GoodIn wsX6_film (wsV RX6 152 RX1 yX1_passDay wsX1_passDay) := goodIn_app (goodIn_of _ (by decide +kernel)) ggX6_film_X1_passDay
set_option maxRecDepth 20000 in
theorem ggX6_film_X4_put : GoodIn wsX6_film wsX4_put := goodIn_r _ [92, 22, 93, 116, 117, 118, 119] (by decide +kernel) (by decide +kernel)
set_option maxRecDepth 20000 in
theorem gX6_film_X4_put : GoodIn wsX6_film (wsV RX6 256 RX4 yX4_put wsX4_put) := goodIn_app (goodIn_of _ (by decide +kernel)) ggX6_film_X4_put
theorem dX6_film_0 : decode cX6_film 0 = .ok (.iload_n 1, 1) := by decide +kernel
theorem dX6_film_1 : decode cX6_film 1 = .ok (.iconst 1, 1) := by decide +kernel
theorem dX6_film_2 : decode cX6_film 2 = .ok (.bipush 24, 2) := by decide +kernel
theorem dX6_film_4 : decode cX6_film 4 = .ok (.invokestatic 61, 3) := by decide +kernel
theorem dX6_film_7 : decode cX6_film 7 = .ok (.ifCond .eq 17, 3) := by decide +kernel
theorem dX6_film_10 : decode cX6_film 10 = .ok (.iload_n 2, 1) := by decide +kernel
theorem dX6_film_11 : decode cX6_film 11 = .ok (.invokestatic 225, 3) := by decide +kernel
theorem dX6_film_14 : decode cX6_film 14 = .ok (.ifCond .eq 10, 3) := by decide +kernel
theorem dX6_film_17 : decode cX6_film 17 = .ok (.iload_n 3, 1) := by decide +kernel
theorem dX6_film_18 : decode cX6_film 18 = .ok (.invokestatic 228, 3) := by decide +kernel
theorem dX6_film_21 : decode cX6_film 21 = .ok (.ifCond .ne 5, 3) := by decide +kernel
theorem dX6_film_24 : decode cX6_film 24 = .ok (.iconst (-1), 1) := by decide +kernel
theorem dX6_film_25 : decode cX6_film 25 = .ok (.ireturn, 1) := by decide +kernel
theorem dX6_film_26 : decode cX6_film 26 = .ok (.aload_n 0, 1) := by decide +kernel
theorem dX6_film_27 : decode cX6_film 27 = .ok (.getfield 48, 3) := by decide +kernel
theorem dX6_film_30 : decode cX6_film 30 = .ok (.iload_n 2, 1) := by decide +kernel
theorem dX6_film_31 : decode cX6_film 31 = .ok (.aaload, 1) := by decide +kernel
theorem dX6_film_32 : decode cX6_film 32 = .ok (.astore 5, 2) := by decide +kernel
theorem dX6_film_34 : decode cX6_film 34 = .ok (.aload 5, 2) := by decide +kernel
theorem dX6_film_36 : decode cX6_film 36 = .ok (.iload_n 3, 1) := by decide +kernel
theorem dX6_film_37 : decode cX6_film 37 = .ok (.iload 4, 2) := by decide +kernel
theorem dX6_film_39 : decode cX6_film 39 = .ok (.iload_n 1, 1) := by decide +kernel
theorem dX6_film_40 : decode cX6_film 40 = .ok (.invokevirtual 231, 3) := by decide +kernel
theorem dX6_film_43 : decode cX6_film 43 = .ok (.istore 6, 2) := by decide +kernel
theorem dX6_film_45 : decode cX6_film 45 = .ok (.iload 6, 2) := by decide +kernel
theorem dX6_film_47 : decode cX6_film 47 = .ok (.ifCond .eq 6, 3) := by decide +kernel
theorem dX6_film_50 : decode cX6_film 50 = .ok (.iload 6, 2) := by decide +kernel
theorem dX6_film_52 : decode cX6_film 52 = .ok (.ireturn, 1) := by decide +kernel
theorem dX6_film_53 : decode cX6_film 53 = .ok (.aload_n 0, 1) := by decide +kernel
theorem dX6_film_54 : decode cX6_film 54 = .ok (.getfield 19, 3) := by decide +kernel
theorem dX6_film_57 : decode cX6_film 57 = .ok (.aload_n 0, 1) := by decide +kernel
theorem dX6_film_58 : decode cX6_film 58 = .ok (.getfield 10, 3) := by decide +kernel
theorem dX6_film_61 : decode cX6_film 61 = .ok (.invokevirtual 116, 3) := by decide +kernel
theorem dX6_film_64 : decode cX6_film 64 = .ok (.iconst 0, 1) := by decide +kernel
theorem dX6_film_65 : decode cX6_film 65 = .ok (.istore 7, 2) := by decide +kernel
theorem dX6_film_67 : decode cX6_film 67 = .ok (.iload 7, 2) := by decide +kernel
theorem dX6_film_69 : decode cX6_film 69 = .ok (.iload_n 1, 1) := by decide +kernel
theorem dX6_film_70 : decode cX6_film 70 = .ok (.if_icmp .ge 37, 3) := by decide +kernel
theorem dX6_film_73 : decode cX6_film 73 = .ok (.aload_n 0, 1) := by decide +kernel
theorem dX6_film_74 : decode cX6_film 74 = .ok (.getfield 19, 3) := by decide +kernel
theorem dX6_film_77 : decode cX6_film 77 = .ok (.invokevirtual 152, 3) := by decide +kernel
theorem dX6_film_80 : decode cX6_film 80 = .ok (.aload 5, 2) := by decide +kernel
theorem dX6_film_82 : decode cX6_film 82 = .ok (.iload 4, 2) := by decide +kernel
theorem dX6_film_84 : decode cX6_film 84 = .ok (.iload 7, 2) := by decide +kernel
theorem dX6_film_86 : decode cX6_film 86 = .ok (.iadd, 1) := by decide +kernel
theorem dX6_film_87 : decode cX6_film 87 = .ok (.aload_n 0, 1) := by decide +kernel
theorem dX6_film_88 : decode cX6_film 88 = .ok (.getfield 19, 3) := by decide +kernel
theorem dX6_film_91 : decode cX6_film 91 = .ok (.getfield 79, 3) := by decide +kernel
theorem dX6_film_94 : decode cX6_film 94 = .ok (.getfield 136, 3) := by decide +kernel
theorem dX6_film_97 : decode cX6_film 97 = .ok (.i2l, 1) := by decide +kernel
theorem dX6_film_98 : decode cX6_film 98 = .ok (.invokevirtual 256, 3) := by decide +kernel
theorem dX6_film_101 : decode cX6_film 101 = .ok (.iinc 7 1, 3) := by decide +kernel
theorem dX6_film_104 : decode cX6_film 104 = .ok (.goto (-37), 3) := by decide +kernel
theorem dX6_film_107 : decode cX6_film 107 = .ok (.iload_n 1, 1) := by decide +kernel
theorem dX6_film_108 : decode cX6_film 108 = .ok (.ireturn, 1) := by decide +kernel
set_option maxRecDepth 20000 in
theorem ggX6_sheet_X6_isSheet : GoodIn wsX6_sheet wsX6_isSheet := goodIn_r _ [5, 6, 7, 4, 8] (by decide +kernel) (by decide +kernel)
set_option maxRecDepth 20000 in
theorem gX6_sheet_X6_isSheet : GoodIn wsX6_sheet (va_wsS RX6 225 yX6_isSheet wsX6_isSheet) := goodIn_app (goodIn_of _ (by decide +kernel)) ggX6_sheet_X6_isSheet
set_option maxRecDepth 20000 in
theorem ggX6_sheet_X6_isLane : GoodIn wsX6_sheet wsX6_isLane := goodIn_r _ [11, 6, 7, 4, 8] (by decide +kernel) (by decide +kernel)
set_option maxRecDepth 20000 in
theorem gX6_sheet_X6_isLane : GoodIn wsX6_sheet (va_wsS RX6 228 yX6_isLane wsX6_isLane) := goodIn_app (goodIn_of _ (by decide +kernel)) ggX6_sheet_X6_isLane
set_option maxRecDepth 20000 in
theorem ggX6_sheet_X4_begin : GoodIn wsX6_sheet wsX4_begin := goodIn_r _ [16, 17, 18, 19, 20, 30, 31, 32, 33] (by decide +kernel) (by decide +kernel)
set_option maxRecDepth 20000 in
theorem gX6_sheet_X4_begin : GoodIn wsX6_sheet (wsV RX6 260 RX4 yX4_begin wsX4_begin) := goodIn_app (goodIn_of _ (by decide +kernel)) ggX6_sheet_X4_begin
theorem dX6_sheet_0 : decode cX6_sheet 0 = .ok (.iload_n 1, 1) := by decide +kernel
theorem dX6_sheet_1 : decode cX6_sheet 1 = .ok (.invokestatic 225, 3) := by decide +kernel
theorem dX6_sheet_4 : decode cX6_sheet 4 = .ok (.ifCond .eq 16, 3) := by decide +kernel
theorem dX6_sheet_7 : decode cX6_sheet 7 = .ok (.iload_n 2, 1) := by decide +kernel
theorem dX6_sheet_8 : decode cX6_sheet 8 = .ok (.invokestatic 228, 3) := by decide +kernel
theorem dX6_sheet_11 : decode cX6_sheet 11 = .ok (.ifCond .eq 9, 3) := by decide +kernel
theorem dX6_sheet_14 : decode cX6_sheet 14 = .ok (.iload_n 3, 1) := by decide +kernel
theorem dX6_sheet_15 : decode cX6_sheet 15 = .ok (.bipush 24, 2) := by decide +kernel
theorem dX6_sheet_17 : decode cX6_sheet 17 = .ok (.if_icmp .le 5, 3) := by decide +kernel
theorem dX6_sheet_20 : decode cX6_sheet 20 = .ok (.iconst (-1), 1) := by decide +kernel
theorem dX6_sheet_21 : decode cX6_sheet 21 = .ok (.ireturn, 1) := by decide +kernel
theorem dX6_sheet_22 : decode cX6_sheet 22 = .ok (.iload_n 3, 1) := by decide +kernel
theorem dX6_sheet_23 : decode cX6_sheet 23 = .ok (.ifCond .ge 6, 3) := by decide +kernel
theorem dX6_sheet_26 : decode cX6_sheet 26 = .ok (.bipush (-14), 2) := by decide +kernel
theorem dX6_sheet_28 : decode cX6_sheet 28 = .ok (.ireturn, 1) := by decide +kernel
theorem dX6_sheet_29 : decode cX6_sheet 29 = .ok (.aload_n 0, 1) := by decide +kernel
theorem dX6_sheet_30 : decode cX6_sheet 30 = .ok (.getfield 48, 3) := by decide +kernel
theorem dX6_sheet_33 : decode cX6_sheet 33 = .ok (.iload_n 1, 1) := by decide +kernel
theorem dX6_sheet_34 : decode cX6_sheet 34 = .ok (.aaload, 1) := by decide +kernel
theorem dX6_sheet_35 : decode cX6_sheet 35 = .ok (.iload_n 2, 1) := by decide +kernel
theorem dX6_sheet_36 : decode cX6_sheet 36 = .ok (.iload_n 3, 1) := by decide +kernel
theorem dX6_sheet_37 : decode cX6_sheet 37 = .ok (.invokevirtual 260, 3) := by decide +kernel
theorem dX6_sheet_40 : decode cX6_sheet 40 = .ok (.iload_n 3, 1) := by decide +kernel
theorem dX6_sheet_41 : decode cX6_sheet 41 = .ok (.ireturn, 1) := by decide +kernel
set_option maxRecDepth 20000 in
theorem ggX6_drop_X6_isSheet : GoodIn wsX6_drop wsX6_isSheet := goodIn_r _ [7, 8, 9, 6, 10] (by decide +kernel) (by decide +kernel)
set_option maxRecDepth 20000 in
theorem gX6_drop_X6_isSheet : GoodIn wsX6_drop (va_wsS RX6 225 yX6_isSheet wsX6_isSheet) := goodIn_app (goodIn_of _ (by decide +kernel)) ggX6_drop_X6_isSheet
theorem dX6_drop_0 : decode cX6_drop 0 = .ok (.iload_n 1, 1) := by decide +kernel
theorem dX6_drop_1 : decode cX6_drop 1 = .ok (.invokestatic 225, 3) := by decide +kernel
theorem dX6_drop_4 : decode cX6_drop 4 = .ok (.ifCond .ne 5, 3) := by decide +kernel
theorem dX6_drop_7 : decode cX6_drop 7 = .ok (.iconst (-1), 1) := by decide +kernel
theorem dX6_drop_8 : decode cX6_drop 8 = .ok (.ireturn, 1) := by decide +kernel
theorem dX6_drop_9 : decode cX6_drop 9 = .ok (.aload_n 0, 1) := by decide +kernel
theorem dX6_drop_10 : decode cX6_drop 10 = .ok (.getfield 48, 3) := by decide +kernel
theorem dX6_drop_13 : decode cX6_drop 13 = .ok (.iload_n 1, 1) := by decide +kernel
theorem dX6_drop_14 : decode cX6_drop 14 = .ok (.aaload, 1) := by decide +kernel
theorem dX6_drop_15 : decode cX6_drop 15 = .ok (.astore_n 2, 1) := by decide +kernel
theorem dX6_drop_16 : decode cX6_drop 16 = .ok (.aload_n 2, 1) := by decide +kernel
theorem dX6_drop_17 : decode cX6_drop 17 = .ok (.getfield 263, 3) := by decide +kernel
theorem dX6_drop_20 : decode cX6_drop 20 = .ok (.ifCond .ne 6, 3) := by decide +kernel
theorem dX6_drop_23 : decode cX6_drop 23 = .ok (.bipush (-11), 2) := by decide +kernel
theorem dX6_drop_25 : decode cX6_drop 25 = .ok (.ireturn, 1) := by decide +kernel
theorem dX6_drop_26 : decode cX6_drop 26 = .ok (.aload_n 2, 1) := by decide +kernel
theorem dX6_drop_27 : decode cX6_drop 27 = .ok (.iconst 0, 1) := by decide +kernel
theorem dX6_drop_28 : decode cX6_drop 28 = .ok (.putfield 263, 3) := by decide +kernel
theorem dX6_drop_31 : decode cX6_drop 31 = .ok (.aload_n 2, 1) := by decide +kernel
theorem dX6_drop_32 : decode cX6_drop 32 = .ok (.getfield 266, 3) := by decide +kernel
theorem dX6_drop_35 : decode cX6_drop 35 = .ok (.ireturn, 1) := by decide +kernel
set_option maxRecDepth 20000 in
theorem ggX6_item_X6_isSheet : GoodIn wsX6_item wsX6_isSheet := goodIn_r _ [5, 6, 7, 4, 8] (by decide +kernel) (by decide +kernel)
set_option maxRecDepth 20000 in
theorem gX6_item_X6_isSheet : GoodIn wsX6_item (va_wsS RX6 225 yX6_isSheet wsX6_isSheet) := goodIn_app (goodIn_of _ (by decide +kernel)) ggX6_item_X6_isSheet
set_option maxRecDepth 20000 in
theorem ggX6_item_X6_isLane : GoodIn wsX6_item wsX6_isLane := goodIn_r _ [11, 6, 7, 4, 8] (by decide +kernel) (by decide +kernel)
set_option maxRecDepth 20000 in
theorem gX6_item_X6_isLane : GoodIn wsX6_item (va_wsS RX6 228 yX6_isLane wsX6_isLane) := goodIn_app (goodIn_of _ (by decide +kernel)) ggX6_item_X6_isLane
set_option maxRecDepth 20000 in
theorem ggX6_item_X4_refusal : GoodIn wsX6_item wsX4_refusal := goodIn_r _ [16, 17, 18, 19, 20, 21, 15, 22, 23, 38, 39, 40, 41] (by decide +kernel) (by decide +kernel)
set_option maxRecDepth 20000 in
theorem gX6_item_X4_refusal : GoodIn wsX6_item (wsV RX6 231 RX4 yX4_refusal wsX4_refusal) := goodIn_app (goodIn_of _ (by decide +kernel)) ggX6_item_X4_refusal
set_option maxRecDepth 20000 in
theorem ggX6_item_X4_put : GoodIn wsX6_item wsX4_put := goodIn_r _ [27, 18, 28, 38, 39, 40, 41] (by decide +kernel) (by decide +kernel)
set_option maxRecDepth 20000 in
theorem gX6_item_X4_put : GoodIn wsX6_item (wsV RX6 256 RX4 yX4_put wsX4_put) := goodIn_app (goodIn_of _ (by decide +kernel)) ggX6_item_X4_put
theorem dX6_item_0 : decode cX6_item 0 = .ok (.iload_n 1, 1) := by decide +kernel
theorem dX6_item_1 : decode cX6_item 1 = .ok (.invokestatic 225, 3) := by decide +kernel
theorem dX6_item_4 : decode cX6_item 4 = .ok (.ifCond .eq 10, 3) := by decide +kernel
theorem dX6_item_7 : decode cX6_item 7 = .ok (.iload_n 2, 1) := by decide +kernel
theorem dX6_item_8 : decode cX6_item 8 = .ok (.invokestatic 228, 3) := by decide +kernel
theorem dX6_item_11 : decode cX6_item 11 = .ok (.ifCond .ne 5, 3) := by decide +kernel
theorem dX6_item_14 : decode cX6_item 14 = .ok (.iconst (-1), 1) := by decide +kernel
theorem dX6_item_15 : decode cX6_item 15 = .ok (.ireturn, 1) := by decide +kernel
theorem dX6_item_16 : decode cX6_item 16 = .ok (.aload_n 0, 1) := by decide +kernel
theorem dX6_item_17 : decode cX6_item 17 = .ok (.getfield 48, 3) := by decide +kernel
theorem dX6_item_20 : decode cX6_item 20 = .ok (.iload_n 1, 1) := by decide +kernel
theorem dX6_item_21 : decode cX6_item 21 = .ok (.aaload, 1) := by decide +kernel
theorem dX6_item_22 : decode cX6_item 22 = .ok (.astore 6, 2) := by decide +kernel
theorem dX6_item_24 : decode cX6_item 24 = .ok (.aload 6, 2) := by decide +kernel
theorem dX6_item_26 : decode cX6_item 26 = .ok (.iload_n 2, 1) := by decide +kernel
theorem dX6_item_27 : decode cX6_item 27 = .ok (.iload_n 3, 1) := by decide +kernel
theorem dX6_item_28 : decode cX6_item 28 = .ok (.iconst 1, 1) := by decide +kernel
theorem dX6_item_29 : decode cX6_item 29 = .ok (.invokevirtual 231, 3) := by decide +kernel
theorem dX6_item_32 : decode cX6_item 32 = .ok (.istore 7, 2) := by decide +kernel
theorem dX6_item_34 : decode cX6_item 34 = .ok (.iload 7, 2) := by decide +kernel
theorem dX6_item_36 : decode cX6_item 36 = .ok (.ifCond .eq 6, 3) := by decide +kernel
theorem dX6_item_39 : decode cX6_item 39 = .ok (.iload 7, 2) := by decide +kernel
theorem dX6_item_41 : decode cX6_item 41 = .ok (.ireturn, 1) := by decide +kernel
theorem dX6_item_42 : decode cX6_item 42 = .ok (.aload 6, 2) := by decide +kernel
theorem dX6_item_44 : decode cX6_item 44 = .ok (.iload_n 3, 1) := by decide +kernel
theorem dX6_item_45 : decode cX6_item 45 = .ok (.lload 4, 2) := by decide +kernel
theorem dX6_item_47 : decode cX6_item 47 = .ok (.invokevirtual 256, 3) := by decide +kernel
theorem dX6_item_50 : decode cX6_item 50 = .ok (.iconst 1, 1) := by decide +kernel
theorem dX6_item_51 : decode cX6_item 51 = .ok (.ireturn, 1) := by decide +kernel
set_option maxRecDepth 20000 in
theorem ggX6_copy_X6_isSheet : GoodIn wsX6_copy wsX6_isSheet := goodIn_r _ [12, 13, 14, 11, 15] (by decide +kernel) (by decide +kernel)
set_option maxRecDepth 20000 in
theorem gX6_copy_X6_isSheet : GoodIn wsX6_copy (va_wsS RX6 225 yX6_isSheet wsX6_isSheet) := goodIn_app (goodIn_of _ (by decide +kernel)) ggX6_copy_X6_isSheet
set_option maxRecDepth 20000 in
theorem ggX6_copy_X4_hasItems : GoodIn wsX6_copy wsX4_hasItems := goodIn_r _ [20, 21, 31, 32, 33, 34] (by decide +kernel) (by decide +kernel)
set_option maxRecDepth 20000 in
theorem gX6_copy_X4_hasItems : GoodIn wsX6_copy (wsV RX6 270 RX4 yX4_hasItems wsX4_hasItems) := goodIn_app (goodIn_of _ (by decide +kernel)) ggX6_copy_X4_hasItems
theorem dX6_copy_0 : decode cX6_copy 0 = .ok (.iload_n 1, 1) := by decide +kernel
theorem dX6_copy_1 : decode cX6_copy 1 = .ok (.invokestatic 225, 3) := by decide +kernel
theorem dX6_copy_4 : decode cX6_copy 4 = .ok (.ifCond .eq 10, 3) := by decide +kernel
theorem dX6_copy_7 : decode cX6_copy 7 = .ok (.iload_n 3, 1) := by decide +kernel
theorem dX6_copy_8 : decode cX6_copy 8 = .ok (.invokestatic 225, 3) := by decide +kernel
theorem dX6_copy_11 : decode cX6_copy 11 = .ok (.ifCond .ne 5, 3) := by decide +kernel
theorem dX6_copy_14 : decode cX6_copy 14 = .ok (.iconst (-1), 1) := by decide +kernel
theorem dX6_copy_15 : decode cX6_copy 15 = .ok (.ireturn, 1) := by decide +kernel
theorem dX6_copy_16 : decode cX6_copy 16 = .ok (.aload_n 0, 1) := by decide +kernel
theorem dX6_copy_17 : decode cX6_copy 17 = .ok (.getfield 48, 3) := by decide +kernel
theorem dX6_copy_20 : decode cX6_copy 20 = .ok (.iload_n 1, 1) := by decide +kernel
theorem dX6_copy_21 : decode cX6_copy 21 = .ok (.aaload, 1) := by decide +kernel
theorem dX6_copy_22 : decode cX6_copy 22 = .ok (.astore 6, 2) := by decide +kernel
theorem dX6_copy_24 : decode cX6_copy 24 = .ok (.aload_n 0, 1) := by decide +kernel
theorem dX6_copy_25 : decode cX6_copy 25 = .ok (.getfield 48, 3) := by decide +kernel
theorem dX6_copy_28 : decode cX6_copy 28 = .ok (.iload_n 3, 1) := by decide +kernel
theorem dX6_copy_29 : decode cX6_copy 29 = .ok (.aaload, 1) := by decide +kernel
theorem dX6_copy_30 : decode cX6_copy 30 = .ok (.astore 7, 2) := by decide +kernel
theorem dX6_copy_32 : decode cX6_copy 32 = .ok (.aload 6, 2) := by decide +kernel
theorem dX6_copy_34 : decode cX6_copy 34 = .ok (.getfield 263, 3) := by decide +kernel
theorem dX6_copy_37 : decode cX6_copy 37 = .ok (.ifCond .eq 11, 3) := by decide +kernel
theorem dX6_copy_40 : decode cX6_copy 40 = .ok (.aload 7, 2) := by decide +kernel
theorem dX6_copy_42 : decode cX6_copy 42 = .ok (.getfield 263, 3) := by decide +kernel
theorem dX6_copy_45 : decode cX6_copy 45 = .ok (.ifCond .ne 6, 3) := by decide +kernel
theorem dX6_copy_48 : decode cX6_copy 48 = .ok (.bipush (-11), 2) := by decide +kernel
theorem dX6_copy_50 : decode cX6_copy 50 = .ok (.ireturn, 1) := by decide +kernel
theorem dX6_copy_51 : decode cX6_copy 51 = .ok (.aload 6, 2) := by decide +kernel
theorem dX6_copy_53 : decode cX6_copy 53 = .ok (.getfield 267, 3) := by decide +kernel
theorem dX6_copy_56 : decode cX6_copy 56 = .ok (.aload 7, 2) := by decide +kernel
theorem dX6_copy_58 : decode cX6_copy 58 = .ok (.getfield 267, 3) := by decide +kernel
theorem dX6_copy_61 : decode cX6_copy 61 = .ok (.if_icmp .eq 6, 3) := by decide +kernel
theorem dX6_copy_64 : decode cX6_copy 64 = .ok (.bipush (-12), 2) := by decide +kernel
theorem dX6_copy_66 : decode cX6_copy 66 = .ok (.ireturn, 1) := by decide +kernel
theorem dX6_copy_67 : decode cX6_copy 67 = .ok (.aload 6, 2) := by decide +kernel
theorem dX6_copy_69 : decode cX6_copy 69 = .ok (.iload_n 2, 1) := by decide +kernel
theorem dX6_copy_70 : decode cX6_copy 70 = .ok (.iload 5, 2) := by decide +kernel
theorem dX6_copy_72 : decode cX6_copy 72 = .ok (.invokevirtual 270, 3) := by decide +kernel
theorem dX6_copy_75 : decode cX6_copy 75 = .ok (.ifCond .eq 15, 3) := by decide +kernel
theorem dX6_copy_78 : decode cX6_copy 78 = .ok (.aload 7, 2) := by decide +kernel
theorem dX6_copy_80 : decode cX6_copy 80 = .ok (.iload 4, 2) := by decide +kernel
theorem dX6_copy_82 : decode cX6_copy 82 = .ok (.iload 5, 2) := by decide +kernel
theorem dX6_copy_84 : decode cX6_copy 84 = .ok (.invokevirtual 270, 3) := by decide +kernel
theorem dX6_copy_87 : decode cX6_copy 87 = .ok (.ifCond .ne 6, 3) := by decide +kernel
theorem dX6_copy_90 : decode cX6_copy 90 = .ok (.bipush (-13), 2) := by decide +kernel
theorem dX6_copy_92 : decode cX6_copy 92 = .ok (.ireturn, 1) := by decide +kernel
theorem dX6_copy_93 : decode cX6_copy 93 = .ok (.aload 6, 2) := by decide +kernel
theorem dX6_copy_95 : decode cX6_copy 95 = .ok (.getfield 273, 3) := by decide +kernel
theorem dX6_copy_98 : decode cX6_copy 98 = .ok (.iload_n 2, 1) := by decide +kernel
theorem dX6_copy_99 : decode cX6_copy 99 = .ok (.aload 7, 2) := by decide +kernel
theorem dX6_copy_101 : decode cX6_copy 101 = .ok (.getfield 273, 3) := by decide +kernel
theorem dX6_copy_104 : decode cX6_copy 104 = .ok (.iload 4, 2) := by decide +kernel
theorem dX6_copy_106 : decode cX6_copy 106 = .ok (.iload 5, 2) := by decide +kernel
theorem dX6_copy_108 : decode cX6_copy 108 = .ok (.invokestatic 276, 3) := by decide +kernel
theorem dX6_copy_111 : decode cX6_copy 111 = .ok (.iload 5, 2) := by decide +kernel
theorem dX6_copy_113 : decode cX6_copy 113 = .ok (.ireturn, 1) := by decide +kernel
theorem dX6_isWithin_0 : decode cX6_isWithin 0 = .ok (.iload_n 0, 1) := by decide +kernel
theorem dX6_isWithin_1 : decode cX6_isWithin 1 = .ok (.iload_n 1, 1) := by decide +kernel
theorem dX6_isWithin_2 : decode cX6_isWithin 2 = .ok (.if_icmp .lt 12, 3) := by decide +kernel
theorem dX6_isWithin_5 : decode cX6_isWithin 5 = .ok (.iload_n 0, 1) := by decide +kernel
theorem dX6_isWithin_6 : decode cX6_isWithin 6 = .ok (.iload_n 2, 1) := by decide +kernel
theorem dX6_isWithin_7 : decode cX6_isWithin 7 = .ok (.if_icmp .gt 7, 3) := by decide +kernel
theorem dX6_isWithin_10 : decode cX6_isWithin 10 = .ok (.iconst 1, 1) := by decide +kernel
theorem dX6_isWithin_11 : decode cX6_isWithin 11 = .ok (.goto 4, 3) := by decide +kernel
theorem dX6_isWithin_14 : decode cX6_isWithin 14 = .ok (.iconst 0, 1) := by decide +kernel
theorem dX6_isWithin_15 : decode cX6_isWithin 15 = .ok (.ireturn, 1) := by decide +kernel
set_option maxRecDepth 20000 in
theorem ggX6_isField_X6_isWithin : GoodIn wsX6_isField wsX6_isWithin := goodIn_r _ [4] (by decide +kernel) (by decide +kernel)
set_option maxRecDepth 20000 in
theorem gX6_isField_X6_isWithin : GoodIn wsX6_isField (va_wsS RX6 61 yX6_isWithin wsX6_isWithin) := goodIn_app (goodIn_of _ (by decide +kernel)) ggX6_isField_X6_isWithin
theorem dX6_isField_0 : decode cX6_isField 0 = .ok (.iload_n 0, 1) := by decide +kernel
theorem dX6_isField_1 : decode cX6_isField 1 = .ok (.iconst 0, 1) := by decide +kernel
theorem dX6_isField_2 : decode cX6_isField 2 = .ok (.bipush 6, 2) := by decide +kernel
theorem dX6_isField_4 : decode cX6_isField 4 = .ok (.invokestatic 61, 3) := by decide +kernel
theorem dX6_isField_7 : decode cX6_isField 7 = .ok (.ireturn, 1) := by decide +kernel
set_option maxRecDepth 20000 in
theorem ggX6_isForetold_X6_isWithin : GoodIn wsX6_isForetold wsX6_isWithin := goodIn_r _ [4] (by decide +kernel) (by decide +kernel)
set_option maxRecDepth 20000 in
theorem gX6_isForetold_X6_isWithin : GoodIn wsX6_isForetold (va_wsS RX6 61 yX6_isWithin wsX6_isWithin) := goodIn_app (goodIn_of _ (by decide +kernel)) ggX6_isForetold_X6_isWithin
theorem dX6_isForetold_0 : decode cX6_isForetold 0 = .ok (.iload_n 0, 1) := by decide +kernel
theorem dX6_isForetold_1 : decode cX6_isForetold 1 = .ok (.iconst 0, 1) := by decide +kernel
theorem dX6_isForetold_2 : decode cX6_isForetold 2 = .ok (.bipush 9, 2) := by decide +kernel
theorem dX6_isForetold_4 : decode cX6_isForetold 4 = .ok (.invokestatic 61, 3) := by decide +kernel
theorem dX6_isForetold_7 : decode cX6_isForetold 7 = .ok (.ireturn, 1) := by decide +kernel
set_option maxRecDepth 20000 in
theorem ggX6_isSheet_X6_isWithin : GoodIn wsX6_isSheet wsX6_isWithin := goodIn_r _ [4] (by decide +kernel) (by decide +kernel)
set_option maxRecDepth 20000 in
theorem gX6_isSheet_X6_isWithin : GoodIn wsX6_isSheet (va_wsS RX6 61 yX6_isWithin wsX6_isWithin) := goodIn_app (goodIn_of _ (by decide +kernel)) ggX6_isSheet_X6_isWithin
theorem dX6_isSheet_0 : decode cX6_isSheet 0 = .ok (.iload_n 0, 1) := by decide +kernel
theorem dX6_isSheet_1 : decode cX6_isSheet 1 = .ok (.iconst 0, 1) := by decide +kernel
theorem dX6_isSheet_2 : decode cX6_isSheet 2 = .ok (.iconst 3, 1) := by decide +kernel
theorem dX6_isSheet_3 : decode cX6_isSheet 3 = .ok (.invokestatic 61, 3) := by decide +kernel
theorem dX6_isSheet_6 : decode cX6_isSheet 6 = .ok (.ireturn, 1) := by decide +kernel
set_option maxRecDepth 20000 in
theorem ggX6_isLane_X6_isWithin : GoodIn wsX6_isLane wsX6_isWithin := goodIn_r _ [4] (by decide +kernel) (by decide +kernel)
set_option maxRecDepth 20000 in
theorem gX6_isLane_X6_isWithin : GoodIn wsX6_isLane (va_wsS RX6 61 yX6_isWithin wsX6_isWithin) := goodIn_app (goodIn_of _ (by decide +kernel)) ggX6_isLane_X6_isWithin
theorem dX6_isLane_0 : decode cX6_isLane 0 = .ok (.iload_n 0, 1) := by decide +kernel
theorem dX6_isLane_1 : decode cX6_isLane 1 = .ok (.iconst 0, 1) := by decide +kernel
theorem dX6_isLane_2 : decode cX6_isLane 2 = .ok (.iconst 3, 1) := by decide +kernel
theorem dX6_isLane_3 : decode cX6_isLane 3 = .ok (.invokestatic 61, 3) := by decide +kernel
theorem dX6_isLane_6 : decode cX6_isLane 6 = .ok (.ireturn, 1) := by decide +kernel
set_option maxRecDepth 20000 in
theorem ggX6_isClaim_X6_isWithin : GoodIn wsX6_isClaim wsX6_isWithin := goodIn_r _ [6] (by decide +kernel) (by decide +kernel)
set_option maxRecDepth 20000 in
theorem gX6_isClaim_X6_isWithin : GoodIn wsX6_isClaim (va_wsS RX6 61 yX6_isWithin wsX6_isWithin) := goodIn_app (goodIn_of _ (by decide +kernel)) ggX6_isClaim_X6_isWithin
theorem dX6_isClaim_0 : decode cX6_isClaim 0 = .ok (.iload_n 1, 1) := by decide +kernel
theorem dX6_isClaim_1 : decode cX6_isClaim 1 = .ok (.iconst 0, 1) := by decide +kernel
theorem dX6_isClaim_2 : decode cX6_isClaim 2 = .ok (.aload_n 0, 1) := by decide +kernel
theorem dX6_isClaim_3 : decode cX6_isClaim 3 = .ok (.getfield 10, 3) := by decide +kernel
theorem dX6_isClaim_6 : decode cX6_isClaim 6 = .ok (.getfield 75, 3) := by decide +kernel
theorem dX6_isClaim_9 : decode cX6_isClaim 9 = .ok (.iconst 1, 1) := by decide +kernel
theorem dX6_isClaim_10 : decode cX6_isClaim 10 = .ok (.isub, 1) := by decide +kernel
theorem dX6_isClaim_11 : decode cX6_isClaim 11 = .ok (.invokestatic 61, 3) := by decide +kernel
theorem dX6_isClaim_14 : decode cX6_isClaim 14 = .ok (.ireturn, 1) := by decide +kernel
set_option maxRecDepth 20000 in
theorem ggX6_isAhead_X6_isWithin : GoodIn wsX6_isAhead wsX6_isWithin := goodIn_r _ [7] (by decide +kernel) (by decide +kernel)
set_option maxRecDepth 20000 in
theorem gX6_isAhead_X6_isWithin : GoodIn wsX6_isAhead (va_wsS RX6 61 yX6_isWithin wsX6_isWithin) := goodIn_app (goodIn_of _ (by decide +kernel)) ggX6_isAhead_X6_isWithin
theorem dX6_isAhead_0 : decode cX6_isAhead 0 = .ok (.iload_n 1, 1) := by decide +kernel
theorem dX6_isAhead_1 : decode cX6_isAhead 1 = .ok (.aload_n 0, 1) := by decide +kernel
theorem dX6_isAhead_2 : decode cX6_isAhead 2 = .ok (.getfield 10, 3) := by decide +kernel
theorem dX6_isAhead_5 : decode cX6_isAhead 5 = .ok (.getfield 79, 3) := by decide +kernel
theorem dX6_isAhead_8 : decode cX6_isAhead 8 = .ok (.getfield 136, 3) := by decide +kernel
theorem dX6_isAhead_11 : decode cX6_isAhead 11 = .ok (.bipush 6, 2) := by decide +kernel
theorem dX6_isAhead_13 : decode cX6_isAhead 13 = .ok (.invokestatic 61, 3) := by decide +kernel
theorem dX6_isAhead_16 : decode cX6_isAhead 16 = .ok (.ireturn, 1) := by decide +kernel
theorem dX6_sum_0 : decode cX6_sum 0 = .ok (.iconst 0, 1) := by decide +kernel
theorem dX6_sum_1 : decode cX6_sum 1 = .ok (.istore_n 1, 1) := by decide +kernel
theorem dX6_sum_2 : decode cX6_sum 2 = .ok (.aload_n 0, 1) := by decide +kernel
theorem dX6_sum_3 : decode cX6_sum 3 = .ok (.astore_n 2, 1) := by decide +kernel
theorem dX6_sum_4 : decode cX6_sum 4 = .ok (.aload_n 2, 1) := by decide +kernel
theorem dX6_sum_5 : decode cX6_sum 5 = .ok (.arraylength, 1) := by decide +kernel
theorem dX6_sum_6 : decode cX6_sum 6 = .ok (.istore_n 3, 1) := by decide +kernel
theorem dX6_sum_7 : decode cX6_sum 7 = .ok (.iconst 0, 1) := by decide +kernel
theorem dX6_sum_8 : decode cX6_sum 8 = .ok (.istore 4, 2) := by decide +kernel
theorem dX6_sum_10 : decode cX6_sum 10 = .ok (.iload 4, 2) := by decide +kernel
theorem dX6_sum_12 : decode cX6_sum 12 = .ok (.iload_n 3, 1) := by decide +kernel
theorem dX6_sum_13 : decode cX6_sum 13 = .ok (.if_icmp .ge 20, 3) := by decide +kernel
theorem dX6_sum_16 : decode cX6_sum 16 = .ok (.aload_n 2, 1) := by decide +kernel
theorem dX6_sum_17 : decode cX6_sum 17 = .ok (.iload 4, 2) := by decide +kernel
theorem dX6_sum_19 : decode cX6_sum 19 = .ok (.iaload, 1) := by decide +kernel
theorem dX6_sum_20 : decode cX6_sum 20 = .ok (.istore 5, 2) := by decide +kernel
theorem dX6_sum_22 : decode cX6_sum 22 = .ok (.iload_n 1, 1) := by decide +kernel
theorem dX6_sum_23 : decode cX6_sum 23 = .ok (.iload 5, 2) := by decide +kernel
theorem dX6_sum_25 : decode cX6_sum 25 = .ok (.iadd, 1) := by decide +kernel
theorem dX6_sum_26 : decode cX6_sum 26 = .ok (.istore_n 1, 1) := by decide +kernel
theorem dX6_sum_27 : decode cX6_sum 27 = .ok (.iinc 4 1, 3) := by decide +kernel
theorem dX6_sum_30 : decode cX6_sum 30 = .ok (.goto (-20), 3) := by decide +kernel
theorem dX6_sum_33 : decode cX6_sum 33 = .ok (.iload_n 1, 1) := by decide +kernel
theorem dX6_sum_34 : decode cX6_sum 34 = .ok (.ireturn, 1) := by decide +kernel
theorem dX6_power_0 : decode cX6_power 0 = .ok (.lconst 1, 1) := by decide +kernel
theorem dX6_power_1 : decode cX6_power 1 = .ok (.lstore_n 3, 1) := by decide +kernel
theorem dX6_power_2 : decode cX6_power 2 = .ok (.iconst 0, 1) := by decide +kernel
theorem dX6_power_3 : decode cX6_power 3 = .ok (.istore 5, 2) := by decide +kernel
theorem dX6_power_5 : decode cX6_power 5 = .ok (.iload 5, 2) := by decide +kernel
theorem dX6_power_7 : decode cX6_power 7 = .ok (.iload_n 2, 1) := by decide +kernel
theorem dX6_power_8 : decode cX6_power 8 = .ok (.if_icmp .ge 13, 3) := by decide +kernel
theorem dX6_power_11 : decode cX6_power 11 = .ok (.lload_n 3, 1) := by decide +kernel
theorem dX6_power_12 : decode cX6_power 12 = .ok (.lload_n 0, 1) := by decide +kernel
theorem dX6_power_13 : decode cX6_power 13 = .ok (.lmul, 1) := by decide +kernel
theorem dX6_power_14 : decode cX6_power 14 = .ok (.lstore_n 3, 1) := by decide +kernel
theorem dX6_power_15 : decode cX6_power 15 = .ok (.iinc 5 1, 3) := by decide +kernel
theorem dX6_power_18 : decode cX6_power 18 = .ok (.goto (-13), 3) := by decide +kernel
theorem dX6_power_21 : decode cX6_power 21 = .ok (.lload_n 3, 1) := by decide +kernel
theorem dX6_power_22 : decode cX6_power 22 = .ok (.lreturn, 1) := by decide +kernel
set_option maxRecDepth 20000 in
theorem ggX6_foretell_X5_learn : GoodIn wsX6_foretell wsX5_learn := goodIn_r _ [8, 9, 10, 11, 12, 13, 14, 15, 16, 17, 18, 19, 20, 21, 22, 23, 24, 25, 26, 27, 28, 29, 30, 31, 32, 33, 34, 35, 36, 37, 38, 39, 40, 41, 88, 89, 90, 91, 92, 93, 94, 75, 76, 77, 78, 79, 80, 81, 82, 83, 84, 85, 86, 87] (by decide +kernel) (by decide +kernel)
set_option maxRecDepth 20000 in
theorem gX6_foretell_X5_learn : GoodIn wsX6_foretell (wsV RX6 196 RX5 yX5_learn wsX5_learn) := goodIn_app (goodIn_of _ (by decide +kernel)) ggX6_foretell_X5_learn
set_option maxRecDepth 20000 in
theorem ggX6_foretell_X5_spread : GoodIn wsX6_foretell wsX5_spread := goodIn_r _ [45, 46, 9, 47, 48, 49, 50, 7, 51, 52, 10, 11, 53, 54, 55, 56, 57, 58, 59, 60, 61, 25, 62, 63, 24, 26, 64, 65, 88, 89, 90, 91, 92, 93, 94] (by decide +kernel) (by decide +kernel)
set_option maxRecDepth 20000 in
theorem gX6_foretell_X5_spread : GoodIn wsX6_foretell (wsV RX6 218 RX5 yX5_spread wsX5_spread) := goodIn_app (goodIn_of _ (by decide +kernel)) ggX6_foretell_X5_spread
theorem dX6_foretell_0 : decode cX6_foretell 0 = .ok (.aload_n 0, 1) := by decide +kernel
theorem dX6_foretell_1 : decode cX6_foretell 1 = .ok (.getfield 25, 3) := by decide +kernel
theorem dX6_foretell_4 : decode cX6_foretell 4 = .ok (.aload_n 1, 1) := by decide +kernel
theorem dX6_foretell_5 : decode cX6_foretell 5 = .ok (.invokevirtual 196, 3) := by decide +kernel
theorem dX6_foretell_8 : decode cX6_foretell 8 = .ok (.aload_n 0, 1) := by decide +kernel
theorem dX6_foretell_9 : decode cX6_foretell 9 = .ok (.getfield 25, 3) := by decide +kernel
theorem dX6_foretell_12 : decode cX6_foretell 12 = .ok (.aload_n 1, 1) := by decide +kernel
theorem dX6_foretell_13 : decode cX6_foretell 13 = .ok (.getfield 79, 3) := by decide +kernel
theorem dX6_foretell_16 : decode cX6_foretell 16 = .ok (.getfield 136, 3) := by decide +kernel
theorem dX6_foretell_19 : decode cX6_foretell 19 = .ok (.iload_n 2, 1) := by decide +kernel
theorem dX6_foretell_20 : decode cX6_foretell 20 = .ok (.invokevirtual 218, 3) := by decide +kernel
theorem dX6_foretell_23 : decode cX6_foretell 23 = .ok (.return_, 1) := by decide +kernel
set_option maxRecDepth 20000 in
theorem ggX6_hedgeToOpen_X1_takeGround : GoodIn wsX6_hedgeToOpen wsX1_takeGround := goodIn_r _ [15, 16, 17, 18, 19, 20, 21, 22, 23, 24, 25, 26, 27, 28, 29, 30, 31, 32, 104, 105, 106, 107, 108, 109, 110, 111, 112, 113, 114, 115, 116] (by decide +kernel) (by decide +kernel)
set_option maxRecDepth 20000 in
theorem gX6_hedgeToOpen_X1_takeGround : GoodIn wsX6_hedgeToOpen (wsV RX6 116 RX1 yX1_takeGround wsX1_takeGround) := goodIn_app (goodIn_of _ (by decide +kernel)) ggX6_hedgeToOpen_X1_takeGround
set_option maxRecDepth 20000 in
theorem ggX6_hedgeToOpen_X5_learn : GoodIn wsX6_hedgeToOpen wsX5_learn := goodIn_r _ [37, 38, 39, 40, 41, 42, 43, 14, 44, 21, 45, 16, 46, 47, 48, 49, 50, 51, 52, 53, 54, 55, 56, 57, 58, 59, 60, 61, 62, 63, 64, 65, 66, 67, 119, 120, 121, 122, 123, 124, 125, 104, 105, 106, 107, 108, 109, 110, 111, 112, 113, 114, 115, 116] (by decide +kernel) (by decide +kernel)
set_option maxRecDepth 20000 in
theorem gX6_hedgeToOpen_X5_learn : GoodIn wsX6_hedgeToOpen (wsV RX6 196 RX5 yX5_learn wsX5_learn) := goodIn_app (goodIn_of _ (by decide +kernel)) ggX6_hedgeToOpen_X5_learn
set_option maxRecDepth 20000 in
theorem ggX6_hedgeToOpen_X5_average : GoodIn wsX6_hedgeToOpen wsX5_average := goodIn_r _ [71, 72, 38, 73, 40, 74, 39, 75, 76, 77, 78, 79, 80, 81, 82, 83, 84, 85, 86, 87, 88, 89, 119, 120, 121, 122, 123, 124, 125, 117, 118] (by decide +kernel) (by decide +kernel)
set_option maxRecDepth 20000 in
theorem gX6_hedgeToOpen_X5_average : GoodIn wsX6_hedgeToOpen (wsV RX6 199 RX5 yX5_average wsX5_average) := goodIn_app (goodIn_of _ (by decide +kernel)) ggX6_hedgeToOpen_X5_average
set_option maxRecDepth 20000 in
theorem ggX6_hedgeToOpen_X0_isBelow : GoodIn wsX6_hedgeToOpen wsX0_isBelow := goodIn_r _ [93, 80, 81, 117, 118] (by decide +kernel) (by decide +kernel)
set_option maxRecDepth 20000 in
theorem gX6_hedgeToOpen_X0_isBelow : GoodIn wsX6_hedgeToOpen (wsV RX6 282 RX0 yX0_isBelow wsX0_isBelow) := goodIn_app (goodIn_of _ (by decide +kernel)) ggX6_hedgeToOpen_X0_isBelow
set_option maxRecDepth 20000 in
theorem ggX6_hedgeToOpen_X0_become : GoodIn wsX6_hedgeToOpen wsX0_become := goodIn_r _ [79, 80, 81, 82, 83, 78, 84, 117, 118] (by decide +kernel) (by decide +kernel)
set_option maxRecDepth 20000 in
theorem gX6_hedgeToOpen_X0_become : GoodIn wsX6_hedgeToOpen (wsV RX6 183 RX0 yX0_become wsX0_become) := goodIn_app (goodIn_of _ (by decide +kernel)) ggX6_hedgeToOpen_X0_become
theorem dX6_hedgeToOpen_0 : decode cX6_hedgeToOpen 0 = .ok (.iconst 0, 1) := by decide +kernel
theorem dX6_hedgeToOpen_1 : decode cX6_hedgeToOpen 1 = .ok (.istore_n 2, 1) := by decide +kernel
theorem dX6_hedgeToOpen_2 : decode cX6_hedgeToOpen 2 = .ok (.iconst 0, 1) := by decide +kernel
theorem dX6_hedgeToOpen_3 : decode cX6_hedgeToOpen 3 = .ok (.istore_n 3, 1) := by decide +kernel
theorem dX6_hedgeToOpen_4 : decode cX6_hedgeToOpen 4 = .ok (.iload_n 3, 1) := by decide +kernel
theorem dX6_hedgeToOpen_5 : decode cX6_hedgeToOpen 5 = .ok (.bipush 7, 2) := by decide +kernel
theorem dX6_hedgeToOpen_7 : decode cX6_hedgeToOpen 7 = .ok (.if_icmp .ge 107, 3) := by decide +kernel
theorem dX6_hedgeToOpen_10 : decode cX6_hedgeToOpen 10 = .ok (.aload_n 0, 1) := by decide +kernel
theorem dX6_hedgeToOpen_11 : decode cX6_hedgeToOpen 11 = .ok (.getfield 19, 3) := by decide +kernel
theorem dX6_hedgeToOpen_14 : decode cX6_hedgeToOpen 14 = .ok (.aload_n 0, 1) := by decide +kernel
theorem dX6_hedgeToOpen_15 : decode cX6_hedgeToOpen 15 = .ok (.getfield 10, 3) := by decide +kernel
theorem dX6_hedgeToOpen_18 : decode cX6_hedgeToOpen 18 = .ok (.invokevirtual 116, 3) := by decide +kernel
theorem dX6_hedgeToOpen_21 : decode cX6_hedgeToOpen 21 = .ok (.aload_n 0, 1) := by decide +kernel
theorem dX6_hedgeToOpen_22 : decode cX6_hedgeToOpen 22 = .ok (.getfield 19, 3) := by decide +kernel
theorem dX6_hedgeToOpen_25 : decode cX6_hedgeToOpen 25 = .ok (.getfield 79, 3) := by decide +kernel
theorem dX6_hedgeToOpen_28 : decode cX6_hedgeToOpen 28 = .ok (.getfield 88, 3) := by decide +kernel
theorem dX6_hedgeToOpen_31 : decode cX6_hedgeToOpen 31 = .ok (.iload_n 3, 1) := by decide +kernel
theorem dX6_hedgeToOpen_32 : decode cX6_hedgeToOpen 32 = .ok (.iconst 0, 1) := by decide +kernel
theorem dX6_hedgeToOpen_33 : decode cX6_hedgeToOpen 33 = .ok (.iastore, 1) := by decide +kernel
theorem dX6_hedgeToOpen_34 : decode cX6_hedgeToOpen 34 = .ok (.aload_n 0, 1) := by decide +kernel
theorem dX6_hedgeToOpen_35 : decode cX6_hedgeToOpen 35 = .ok (.getfield 25, 3) := by decide +kernel
theorem dX6_hedgeToOpen_38 : decode cX6_hedgeToOpen 38 = .ok (.aload_n 0, 1) := by decide +kernel
theorem dX6_hedgeToOpen_39 : decode cX6_hedgeToOpen 39 = .ok (.getfield 19, 3) := by decide +kernel
theorem dX6_hedgeToOpen_42 : decode cX6_hedgeToOpen 42 = .ok (.invokevirtual 196, 3) := by decide +kernel
theorem dX6_hedgeToOpen_45 : decode cX6_hedgeToOpen 45 = .ok (.aload_n 0, 1) := by decide +kernel
theorem dX6_hedgeToOpen_46 : decode cX6_hedgeToOpen 46 = .ok (.getfield 25, 3) := by decide +kernel
theorem dX6_hedgeToOpen_49 : decode cX6_hedgeToOpen 49 = .ok (.aload_n 0, 1) := by decide +kernel
theorem dX6_hedgeToOpen_50 : decode cX6_hedgeToOpen 50 = .ok (.getfield 10, 3) := by decide +kernel
theorem dX6_hedgeToOpen_53 : decode cX6_hedgeToOpen 53 = .ok (.getfield 79, 3) := by decide +kernel
theorem dX6_hedgeToOpen_56 : decode cX6_hedgeToOpen 56 = .ok (.getfield 136, 3) := by decide +kernel
theorem dX6_hedgeToOpen_59 : decode cX6_hedgeToOpen 59 = .ok (.iload_n 1, 1) := by decide +kernel
theorem dX6_hedgeToOpen_60 : decode cX6_hedgeToOpen 60 = .ok (.aload_n 0, 1) := by decide +kernel
theorem dX6_hedgeToOpen_61 : decode cX6_hedgeToOpen 61 = .ok (.getfield 36, 3) := by decide +kernel
theorem dX6_hedgeToOpen_64 : decode cX6_hedgeToOpen 64 = .ok (.invokevirtual 199, 3) := by decide +kernel
theorem dX6_hedgeToOpen_67 : decode cX6_hedgeToOpen 67 = .ok (.iload_n 3, 1) := by decide +kernel
theorem dX6_hedgeToOpen_68 : decode cX6_hedgeToOpen 68 = .ok (.ifCond .eq 17, 3) := by decide +kernel
theorem dX6_hedgeToOpen_71 : decode cX6_hedgeToOpen 71 = .ok (.aload_n 0, 1) := by decide +kernel
theorem dX6_hedgeToOpen_72 : decode cX6_hedgeToOpen 72 = .ok (.getfield 36, 3) := by decide +kernel
theorem dX6_hedgeToOpen_75 : decode cX6_hedgeToOpen 75 = .ok (.aload_n 0, 1) := by decide +kernel
theorem dX6_hedgeToOpen_76 : decode cX6_hedgeToOpen 76 = .ok (.getfield 32, 3) := by decide +kernel
theorem dX6_hedgeToOpen_79 : decode cX6_hedgeToOpen 79 = .ok (.invokevirtual 282, 3) := by decide +kernel
theorem dX6_hedgeToOpen_82 : decode cX6_hedgeToOpen 82 = .ok (.ifCond .eq 26, 3) := by decide +kernel
theorem dX6_hedgeToOpen_85 : decode cX6_hedgeToOpen 85 = .ok (.iload_n 3, 1) := by decide +kernel
theorem dX6_hedgeToOpen_86 : decode cX6_hedgeToOpen 86 = .ok (.istore_n 2, 1) := by decide +kernel
theorem dX6_hedgeToOpen_87 : decode cX6_hedgeToOpen 87 = .ok (.aload_n 0, 1) := by decide +kernel
theorem dX6_hedgeToOpen_88 : decode cX6_hedgeToOpen 88 = .ok (.getfield 32, 3) := by decide +kernel
theorem dX6_hedgeToOpen_91 : decode cX6_hedgeToOpen 91 = .ok (.aload_n 0, 1) := by decide +kernel
theorem dX6_hedgeToOpen_92 : decode cX6_hedgeToOpen 92 = .ok (.getfield 36, 3) := by decide +kernel
theorem dX6_hedgeToOpen_95 : decode cX6_hedgeToOpen 95 = .ok (.getfield 286, 3) := by decide +kernel
theorem dX6_hedgeToOpen_98 : decode cX6_hedgeToOpen 98 = .ok (.aload_n 0, 1) := by decide +kernel
theorem dX6_hedgeToOpen_99 : decode cX6_hedgeToOpen 99 = .ok (.getfield 36, 3) := by decide +kernel
theorem dX6_hedgeToOpen_102 : decode cX6_hedgeToOpen 102 = .ok (.getfield 289, 3) := by decide +kernel
theorem dX6_hedgeToOpen_105 : decode cX6_hedgeToOpen 105 = .ok (.invokevirtual 183, 3) := by decide +kernel
theorem dX6_hedgeToOpen_108 : decode cX6_hedgeToOpen 108 = .ok (.iinc 3 1, 3) := by decide +kernel
theorem dX6_hedgeToOpen_111 : decode cX6_hedgeToOpen 111 = .ok (.goto (-107), 3) := by decide +kernel
theorem dX6_hedgeToOpen_114 : decode cX6_hedgeToOpen 114 = .ok (.iload_n 2, 1) := by decide +kernel
theorem dX6_hedgeToOpen_115 : decode cX6_hedgeToOpen 115 = .ok (.ireturn, 1) := by decide +kernel
set_option maxRecDepth 20000 in
theorem ggX6_weightOf_X4_fieldAt : GoodIn wsX6_weightOf wsX4_fieldAt := goodIn_r _ [6, 7, 8, 32, 33, 34, 35] (by decide +kernel) (by decide +kernel)
set_option maxRecDepth 20000 in
theorem gX6_weightOf_X4_fieldAt : GoodIn wsX6_weightOf (wsV RX6 292 RX4 yX4_fieldAt wsX4_fieldAt) := goodIn_app (goodIn_of _ (by decide +kernel)) ggX6_weightOf_X4_fieldAt
set_option maxRecDepth 20000 in
theorem ggX6_weightOf_X5_weight : GoodIn wsX6_weightOf wsX5_weight := goodIn_r _ [13, 14, 15, 16, 17, 18, 19, 20, 21, 22, 36, 37, 38, 39, 40, 41, 42] (by decide +kernel) (by decide +kernel)
set_option maxRecDepth 20000 in
theorem gX6_weightOf_X5_weight : GoodIn wsX6_weightOf (wsV RX6 295 RX5 yX5_weight wsX5_weight) := goodIn_app (goodIn_of _ (by decide +kernel)) ggX6_weightOf_X5_weight
theorem dX6_weightOf_0 : decode cX6_weightOf 0 = .ok (.lconst 1, 1) := by decide +kernel
theorem dX6_weightOf_1 : decode cX6_weightOf 1 = .ok (.lstore 5, 2) := by decide +kernel
theorem dX6_weightOf_3 : decode cX6_weightOf 3 = .ok (.iload_n 1, 1) := by decide +kernel
theorem dX6_weightOf_4 : decode cX6_weightOf 4 = .ok (.istore 7, 2) := by decide +kernel
theorem dX6_weightOf_6 : decode cX6_weightOf 6 = .ok (.iconst 0, 1) := by decide +kernel
theorem dX6_weightOf_7 : decode cX6_weightOf 7 = .ok (.istore 8, 2) := by decide +kernel
theorem dX6_weightOf_9 : decode cX6_weightOf 9 = .ok (.iload 8, 2) := by decide +kernel
theorem dX6_weightOf_11 : decode cX6_weightOf 11 = .ok (.iload 4, 2) := by decide +kernel
theorem dX6_weightOf_13 : decode cX6_weightOf 13 = .ok (.if_icmp .ge 40, 3) := by decide +kernel
theorem dX6_weightOf_16 : decode cX6_weightOf 16 = .ok (.aload_n 2, 1) := by decide +kernel
theorem dX6_weightOf_17 : decode cX6_weightOf 17 = .ok (.iload_n 3, 1) := by decide +kernel
theorem dX6_weightOf_18 : decode cX6_weightOf 18 = .ok (.iload 8, 2) := by decide +kernel
theorem dX6_weightOf_20 : decode cX6_weightOf 20 = .ok (.iadd, 1) := by decide +kernel
theorem dX6_weightOf_21 : decode cX6_weightOf 21 = .ok (.invokevirtual 292, 3) := by decide +kernel
theorem dX6_weightOf_24 : decode cX6_weightOf 24 = .ok (.istore 9, 2) := by decide +kernel
theorem dX6_weightOf_26 : decode cX6_weightOf 26 = .ok (.lload 5, 2) := by decide +kernel
theorem dX6_weightOf_28 : decode cX6_weightOf 28 = .ok (.aload_n 0, 1) := by decide +kernel
theorem dX6_weightOf_29 : decode cX6_weightOf 29 = .ok (.getfield 25, 3) := by decide +kernel
theorem dX6_weightOf_32 : decode cX6_weightOf 32 = .ok (.iload 7, 2) := by decide +kernel
theorem dX6_weightOf_34 : decode cX6_weightOf 34 = .ok (.iload 9, 2) := by decide +kernel
theorem dX6_weightOf_36 : decode cX6_weightOf 36 = .ok (.invokevirtual 295, 3) := by decide +kernel
theorem dX6_weightOf_39 : decode cX6_weightOf 39 = .ok (.i2l, 1) := by decide +kernel
theorem dX6_weightOf_40 : decode cX6_weightOf 40 = .ok (.lmul, 1) := by decide +kernel
theorem dX6_weightOf_41 : decode cX6_weightOf 41 = .ok (.lstore 5, 2) := by decide +kernel
theorem dX6_weightOf_43 : decode cX6_weightOf 43 = .ok (.iload 9, 2) := by decide +kernel
theorem dX6_weightOf_45 : decode cX6_weightOf 45 = .ok (.istore 7, 2) := by decide +kernel
theorem dX6_weightOf_47 : decode cX6_weightOf 47 = .ok (.iinc 8 1, 3) := by decide +kernel
theorem dX6_weightOf_50 : decode cX6_weightOf 50 = .ok (.goto (-41), 3) := by decide +kernel
theorem dX6_weightOf_53 : decode cX6_weightOf 53 = .ok (.lload 5, 2) := by decide +kernel
theorem dX6_weightOf_55 : decode cX6_weightOf 55 = .ok (.lreturn, 1) := by decide +kernel
set_option maxRecDepth 20000 in
theorem ggX6_fieldsBefore_X6_weightOf : GoodIn wsX6_fieldsBefore wsX6_weightOf := goodIn_r _ [5, 6, 7, 8, 9, 10, 11, 12, 13, 14, 15, 16, 17, 18, 19, 20, 21, 22, 4, 23, 24, 25, 26, 27, 28, 29, 30, 31, 32, 33, 34, 35, 36, 37, 38, 39, 40, 41, 42, 43, 44, 45, 46] (by decide +kernel) (by decide +kernel)
set_option maxRecDepth 20000 in
theorem gX6_fieldsBefore_X6_weightOf : GoodIn wsX6_fieldsBefore (wsV RX6 239 RX6 yX6_weightOf wsX6_weightOf) := goodIn_app (goodIn_of _ (by decide +kernel)) ggX6_fieldsBefore_X6_weightOf
theorem dX6_fieldsBefore_0 : decode cX6_fieldsBefore 0 = .ok (.iconst 0, 1) := by decide +kernel
theorem dX6_fieldsBefore_1 : decode cX6_fieldsBefore 1 = .ok (.istore 4, 2) := by decide +kernel
theorem dX6_fieldsBefore_3 : decode cX6_fieldsBefore 3 = .ok (.iconst 0, 1) := by decide +kernel
theorem dX6_fieldsBefore_4 : decode cX6_fieldsBefore 4 = .ok (.istore 5, 2) := by decide +kernel
theorem dX6_fieldsBefore_6 : decode cX6_fieldsBefore 6 = .ok (.iload 5, 2) := by decide +kernel
theorem dX6_fieldsBefore_8 : decode cX6_fieldsBefore 8 = .ok (.bipush 7, 2) := by decide +kernel
theorem dX6_fieldsBefore_10 : decode cX6_fieldsBefore 10 = .ok (.if_icmp .ge 32, 3) := by decide +kernel
theorem dX6_fieldsBefore_13 : decode cX6_fieldsBefore 13 = .ok (.aload_n 0, 1) := by decide +kernel
theorem dX6_fieldsBefore_14 : decode cX6_fieldsBefore 14 = .ok (.iload 5, 2) := by decide +kernel
theorem dX6_fieldsBefore_16 : decode cX6_fieldsBefore 16 = .ok (.aload_n 1, 1) := by decide +kernel
theorem dX6_fieldsBefore_17 : decode cX6_fieldsBefore 17 = .ok (.iload_n 2, 1) := by decide +kernel
theorem dX6_fieldsBefore_18 : decode cX6_fieldsBefore 18 = .ok (.iload_n 3, 1) := by decide +kernel
theorem dX6_fieldsBefore_19 : decode cX6_fieldsBefore 19 = .ok (.invokevirtual 239, 3) := by decide +kernel
theorem dX6_fieldsBefore_22 : decode cX6_fieldsBefore 22 = .ok (.lconst 0, 1) := by decide +kernel
theorem dX6_fieldsBefore_23 : decode cX6_fieldsBefore 23 = .ok (.lcmp, 1) := by decide +kernel
theorem dX6_fieldsBefore_24 : decode cX6_fieldsBefore 24 = .ok (.ifCond .le 12, 3) := by decide +kernel
theorem dX6_fieldsBefore_27 : decode cX6_fieldsBefore 27 = .ok (.iload 4, 2) := by decide +kernel
theorem dX6_fieldsBefore_29 : decode cX6_fieldsBefore 29 = .ok (.iconst 1, 1) := by decide +kernel
theorem dX6_fieldsBefore_30 : decode cX6_fieldsBefore 30 = .ok (.iload 5, 2) := by decide +kernel
theorem dX6_fieldsBefore_32 : decode cX6_fieldsBefore 32 = .ok (.ishl, 1) := by decide +kernel
theorem dX6_fieldsBefore_33 : decode cX6_fieldsBefore 33 = .ok (.ior, 1) := by decide +kernel
theorem dX6_fieldsBefore_34 : decode cX6_fieldsBefore 34 = .ok (.istore 4, 2) := by decide +kernel
theorem dX6_fieldsBefore_36 : decode cX6_fieldsBefore 36 = .ok (.iinc 5 1, 3) := by decide +kernel
theorem dX6_fieldsBefore_39 : decode cX6_fieldsBefore 39 = .ok (.goto (-33), 3) := by decide +kernel
theorem dX6_fieldsBefore_42 : decode cX6_fieldsBefore 42 = .ok (.iload 4, 2) := by decide +kernel
theorem dX6_fieldsBefore_44 : decode cX6_fieldsBefore 44 = .ok (.ireturn, 1) := by decide +kernel
set_option maxRecDepth 20000 in
theorem ggX6_kindsFor_X1_takeGround : GoodIn wsX6_kindsFor wsX1_takeGround := goodIn_r _ [8, 9, 10, 11, 12, 13, 14, 15, 16, 17, 18, 19, 20, 21, 22, 23, 24, 25, 91, 92, 93, 94, 95, 96, 97, 98, 99, 100, 101, 102, 103] (by decide +kernel) (by decide +kernel)
set_option maxRecDepth 20000 in
theorem gX6_kindsFor_X1_takeGround : GoodIn wsX6_kindsFor (wsV RX6 116 RX1 yX1_takeGround wsX1_takeGround) := goodIn_app (goodIn_of _ (by decide +kernel)) ggX6_kindsFor_X1_takeGround
set_option maxRecDepth 20000 in
theorem ggX6_kindsFor_X6_goesAsTold : GoodIn wsX6_kindsFor wsX6_goesAsTold := goodIn_r _ [30, 1, 31, 32, 33, 34, 35, 7, 36, 14, 37, 38, 39, 40, 41, 42, 43, 44, 45, 46, 47, 9, 48, 49, 50, 51, 52, 29, 53, 54, 55, 56, 57, 58, 59, 60, 61, 62, 63, 64, 65, 66, 67, 68, 69, 70, 71, 72, 73, 74, 75, 76, 77, 78, 79, 80, 81, 82, 83, 84, 85, 86, 87, 88, 89, 90, 91, 92, 93, 94, 95, 96, 97, 98, 99, 100, 101, 102, 103, 104, 105, 106, 107] (by decide +kernel) (by decide +kernel)
set_option maxRecDepth 20000 in
theorem gX6_kindsFor_X6_goesAsTold : GoodIn wsX6_kindsFor (wsV RX6 298 RX6 yX6_goesAsTold wsX6_goesAsTold) := goodIn_app (goodIn_of _ (by decide +kernel)) ggX6_kindsFor_X6_goesAsTold
theorem dX6_kindsFor_0 : decode cX6_kindsFor 0 = .ok (.iconst 0, 1) := by decide +kernel
theorem dX6_kindsFor_1 : decode cX6_kindsFor 1 = .ok (.istore 5, 2) := by decide +kernel
theorem dX6_kindsFor_3 : decode cX6_kindsFor 3 = .ok (.iconst 0, 1) := by decide +kernel
theorem dX6_kindsFor_4 : decode cX6_kindsFor 4 = .ok (.istore 6, 2) := by decide +kernel
theorem dX6_kindsFor_6 : decode cX6_kindsFor 6 = .ok (.iload 6, 2) := by decide +kernel
theorem dX6_kindsFor_8 : decode cX6_kindsFor 8 = .ok (.iconst 5, 1) := by decide +kernel
theorem dX6_kindsFor_9 : decode cX6_kindsFor 9 = .ok (.if_icmp .ge 51, 3) := by decide +kernel
theorem dX6_kindsFor_12 : decode cX6_kindsFor 12 = .ok (.aload_n 0, 1) := by decide +kernel
theorem dX6_kindsFor_13 : decode cX6_kindsFor 13 = .ok (.getfield 19, 3) := by decide +kernel
theorem dX6_kindsFor_16 : decode cX6_kindsFor 16 = .ok (.aload_n 0, 1) := by decide +kernel
theorem dX6_kindsFor_17 : decode cX6_kindsFor 17 = .ok (.getfield 10, 3) := by decide +kernel
theorem dX6_kindsFor_20 : decode cX6_kindsFor 20 = .ok (.invokevirtual 116, 3) := by decide +kernel
theorem dX6_kindsFor_23 : decode cX6_kindsFor 23 = .ok (.aload_n 0, 1) := by decide +kernel
theorem dX6_kindsFor_24 : decode cX6_kindsFor 24 = .ok (.getfield 19, 3) := by decide +kernel
theorem dX6_kindsFor_27 : decode cX6_kindsFor 27 = .ok (.getfield 65, 3) := by decide +kernel
theorem dX6_kindsFor_30 : decode cX6_kindsFor 30 = .ok (.iload_n 1, 1) := by decide +kernel
theorem dX6_kindsFor_31 : decode cX6_kindsFor 31 = .ok (.iload 6, 2) := by decide +kernel
theorem dX6_kindsFor_33 : decode cX6_kindsFor 33 = .ok (.iastore, 1) := by decide +kernel
theorem dX6_kindsFor_34 : decode cX6_kindsFor 34 = .ok (.aload_n 0, 1) := by decide +kernel
theorem dX6_kindsFor_35 : decode cX6_kindsFor 35 = .ok (.aload_n 2, 1) := by decide +kernel
theorem dX6_kindsFor_36 : decode cX6_kindsFor 36 = .ok (.iload_n 3, 1) := by decide +kernel
theorem dX6_kindsFor_37 : decode cX6_kindsFor 37 = .ok (.iload 4, 2) := by decide +kernel
theorem dX6_kindsFor_39 : decode cX6_kindsFor 39 = .ok (.invokevirtual 298, 3) := by decide +kernel
theorem dX6_kindsFor_42 : decode cX6_kindsFor 42 = .ok (.ifCond .eq 12, 3) := by decide +kernel
theorem dX6_kindsFor_45 : decode cX6_kindsFor 45 = .ok (.iload 5, 2) := by decide +kernel
theorem dX6_kindsFor_47 : decode cX6_kindsFor 47 = .ok (.iconst 1, 1) := by decide +kernel
theorem dX6_kindsFor_48 : decode cX6_kindsFor 48 = .ok (.iload 6, 2) := by decide +kernel
theorem dX6_kindsFor_50 : decode cX6_kindsFor 50 = .ok (.ishl, 1) := by decide +kernel
theorem dX6_kindsFor_51 : decode cX6_kindsFor 51 = .ok (.ior, 1) := by decide +kernel
theorem dX6_kindsFor_52 : decode cX6_kindsFor 52 = .ok (.istore 5, 2) := by decide +kernel
theorem dX6_kindsFor_54 : decode cX6_kindsFor 54 = .ok (.iinc 6 1, 3) := by decide +kernel
theorem dX6_kindsFor_57 : decode cX6_kindsFor 57 = .ok (.goto (-51), 3) := by decide +kernel
theorem dX6_kindsFor_60 : decode cX6_kindsFor 60 = .ok (.iload 5, 2) := by decide +kernel
theorem dX6_kindsFor_62 : decode cX6_kindsFor 62 = .ok (.ireturn, 1) := by decide +kernel
set_option maxRecDepth 20000 in
theorem ggX6_foodsFor_X1_takeGround : GoodIn wsX6_foodsFor wsX1_takeGround := goodIn_r _ [9, 10, 11, 12, 13, 14, 15, 16, 17, 18, 19, 20, 21, 22, 23, 24, 25, 26, 91, 92, 93, 94, 95, 96, 97, 98, 99, 100, 101, 102, 103] (by decide +kernel) (by decide +kernel)
set_option maxRecDepth 20000 in
theorem gX6_foodsFor_X1_takeGround : GoodIn wsX6_foodsFor (wsV RX6 116 RX1 yX1_takeGround wsX1_takeGround) := goodIn_app (goodIn_of _ (by decide +kernel)) ggX6_foodsFor_X1_takeGround
set_option maxRecDepth 20000 in
theorem ggX6_foodsFor_X6_goesAsTold : GoodIn wsX6_foodsFor wsX6_goesAsTold := goodIn_r _ [31, 1, 3, 32, 33, 34, 35, 8, 36, 15, 37, 38, 39, 40, 41, 42, 43, 44, 45, 46, 47, 10, 48, 49, 50, 51, 52, 30, 53, 54, 55, 56, 57, 58, 59, 60, 61, 62, 63, 64, 65, 66, 67, 68, 69, 70, 71, 72, 73, 74, 75, 76, 77, 78, 79, 80, 81, 82, 83, 84, 85, 86, 87, 88, 89, 90, 91, 92, 93, 94, 95, 96, 97, 98, 99, 100, 101, 102, 103, 104, 105, 106, 107] (by decide +kernel) (by decide +kernel)
set_option maxRecDepth 20000 in
theorem gX6_foodsFor_X6_goesAsTold : GoodIn wsX6_foodsFor (wsV RX6 298 RX6 yX6_goesAsTold wsX6_goesAsTold) := goodIn_app (goodIn_of _ (by decide +kernel)) ggX6_foodsFor_X6_goesAsTold
theorem dX6_foodsFor_0 : decode cX6_foodsFor 0 = .ok (.iconst 0, 1) := by decide +kernel
theorem dX6_foodsFor_1 : decode cX6_foodsFor 1 = .ok (.istore 5, 2) := by decide +kernel
theorem dX6_foodsFor_3 : decode cX6_foodsFor 3 = .ok (.iconst 0, 1) := by decide +kernel
theorem dX6_foodsFor_4 : decode cX6_foodsFor 4 = .ok (.istore 6, 2) := by decide +kernel
theorem dX6_foodsFor_6 : decode cX6_foodsFor 6 = .ok (.iload 6, 2) := by decide +kernel
theorem dX6_foodsFor_8 : decode cX6_foodsFor 8 = .ok (.bipush 9, 2) := by decide +kernel
theorem dX6_foodsFor_10 : decode cX6_foodsFor 10 = .ok (.if_icmp .gt 54, 3) := by decide +kernel
theorem dX6_foodsFor_13 : decode cX6_foodsFor 13 = .ok (.aload_n 0, 1) := by decide +kernel
theorem dX6_foodsFor_14 : decode cX6_foodsFor 14 = .ok (.getfield 19, 3) := by decide +kernel
theorem dX6_foodsFor_17 : decode cX6_foodsFor 17 = .ok (.aload_n 0, 1) := by decide +kernel
theorem dX6_foodsFor_18 : decode cX6_foodsFor 18 = .ok (.getfield 10, 3) := by decide +kernel
theorem dX6_foodsFor_21 : decode cX6_foodsFor 21 = .ok (.invokevirtual 116, 3) := by decide +kernel
theorem dX6_foodsFor_24 : decode cX6_foodsFor 24 = .ok (.aload_n 0, 1) := by decide +kernel
theorem dX6_foodsFor_25 : decode cX6_foodsFor 25 = .ok (.getfield 19, 3) := by decide +kernel
theorem dX6_foodsFor_28 : decode cX6_foodsFor 28 = .ok (.getfield 79, 3) := by decide +kernel
theorem dX6_foodsFor_31 : decode cX6_foodsFor 31 = .ok (.getfield 83, 3) := by decide +kernel
theorem dX6_foodsFor_34 : decode cX6_foodsFor 34 = .ok (.iload_n 1, 1) := by decide +kernel
theorem dX6_foodsFor_35 : decode cX6_foodsFor 35 = .ok (.iload 6, 2) := by decide +kernel
theorem dX6_foodsFor_37 : decode cX6_foodsFor 37 = .ok (.iastore, 1) := by decide +kernel
theorem dX6_foodsFor_38 : decode cX6_foodsFor 38 = .ok (.aload_n 0, 1) := by decide +kernel
theorem dX6_foodsFor_39 : decode cX6_foodsFor 39 = .ok (.aload_n 2, 1) := by decide +kernel
theorem dX6_foodsFor_40 : decode cX6_foodsFor 40 = .ok (.iload_n 3, 1) := by decide +kernel
theorem dX6_foodsFor_41 : decode cX6_foodsFor 41 = .ok (.iload 4, 2) := by decide +kernel
theorem dX6_foodsFor_43 : decode cX6_foodsFor 43 = .ok (.invokevirtual 298, 3) := by decide +kernel
theorem dX6_foodsFor_46 : decode cX6_foodsFor 46 = .ok (.ifCond .eq 12, 3) := by decide +kernel
theorem dX6_foodsFor_49 : decode cX6_foodsFor 49 = .ok (.iload 5, 2) := by decide +kernel
theorem dX6_foodsFor_51 : decode cX6_foodsFor 51 = .ok (.iconst 1, 1) := by decide +kernel
theorem dX6_foodsFor_52 : decode cX6_foodsFor 52 = .ok (.iload 6, 2) := by decide +kernel
theorem dX6_foodsFor_54 : decode cX6_foodsFor 54 = .ok (.ishl, 1) := by decide +kernel
theorem dX6_foodsFor_55 : decode cX6_foodsFor 55 = .ok (.ior, 1) := by decide +kernel
theorem dX6_foodsFor_56 : decode cX6_foodsFor 56 = .ok (.istore 5, 2) := by decide +kernel
theorem dX6_foodsFor_58 : decode cX6_foodsFor 58 = .ok (.iinc 6 1, 3) := by decide +kernel
theorem dX6_foodsFor_61 : decode cX6_foodsFor 61 = .ok (.goto (-55), 3) := by decide +kernel
theorem dX6_foodsFor_64 : decode cX6_foodsFor 64 = .ok (.iload 5, 2) := by decide +kernel
theorem dX6_foodsFor_66 : decode cX6_foodsFor 66 = .ok (.ireturn, 1) := by decide +kernel
set_option maxRecDepth 20000 in
theorem ggX6_goesAsTold_X1_passDay : GoodIn wsX6_goesAsTold wsX1_passDay := goodIn_r _ [8, 9, 10, 11, 12, 13, 14, 15, 16, 17, 18, 7, 19, 20, 21, 22, 23, 24, 25, 26, 27, 28, 29, 30, 31, 32, 33, 34, 35, 36, 37, 38, 39, 40, 41, 42, 43, 44, 45, 46, 47, 48, 49, 66, 67, 68, 69, 70, 71, 72, 73, 74, 75, 76, 77, 78] (by decide +kernel) (by decide +kernel)
set_option maxRecDepth 20000 in
theorem gX6_goesAsTold_X1_passDay : GoodIn wsX6_goesAsTold (wsV RX6 152 RX1 yX1_passDay wsX1_passDay) := goodIn_app (goodIn_of _ (by decide +kernel)) ggX6_goesAsTold_X1_passDay
set_option maxRecDepth 20000 in
theorem ggX6_goesAsTold_X4_fieldAt : GoodIn wsX6_goesAsTold wsX4_fieldAt := goodIn_r _ [54, 55, 56, 79, 80, 81, 82] (by decide +kernel) (by decide +kernel)
set_option maxRecDepth 20000 in
theorem gX6_goesAsTold_X4_fieldAt : GoodIn wsX6_goesAsTold (wsV RX6 292 RX4 yX4_fieldAt wsX4_fieldAt) := goodIn_app (goodIn_of _ (by decide +kernel)) ggX6_goesAsTold_X4_fieldAt
theorem dX6_goesAsTold_0 : decode cX6_goesAsTold 0 = .ok (.iconst 0, 1) := by decide +kernel
theorem dX6_goesAsTold_1 : decode cX6_goesAsTold 1 = .ok (.istore 4, 2) := by decide +kernel
theorem dX6_goesAsTold_3 : decode cX6_goesAsTold 3 = .ok (.iload 4, 2) := by decide +kernel
theorem dX6_goesAsTold_5 : decode cX6_goesAsTold 5 = .ok (.iload_n 3, 1) := by decide +kernel
theorem dX6_goesAsTold_6 : decode cX6_goesAsTold 6 = .ok (.if_icmp .ge 39, 3) := by decide +kernel
theorem dX6_goesAsTold_9 : decode cX6_goesAsTold 9 = .ok (.aload_n 0, 1) := by decide +kernel
theorem dX6_goesAsTold_10 : decode cX6_goesAsTold 10 = .ok (.getfield 19, 3) := by decide +kernel
theorem dX6_goesAsTold_13 : decode cX6_goesAsTold 13 = .ok (.invokevirtual 152, 3) := by decide +kernel
theorem dX6_goesAsTold_16 : decode cX6_goesAsTold 16 = .ok (.aload_n 0, 1) := by decide +kernel
theorem dX6_goesAsTold_17 : decode cX6_goesAsTold 17 = .ok (.getfield 19, 3) := by decide +kernel
theorem dX6_goesAsTold_20 : decode cX6_goesAsTold 20 = .ok (.getfield 79, 3) := by decide +kernel
theorem dX6_goesAsTold_23 : decode cX6_goesAsTold 23 = .ok (.getfield 136, 3) := by decide +kernel
theorem dX6_goesAsTold_26 : decode cX6_goesAsTold 26 = .ok (.aload_n 1, 1) := by decide +kernel
theorem dX6_goesAsTold_27 : decode cX6_goesAsTold 27 = .ok (.iload_n 2, 1) := by decide +kernel
theorem dX6_goesAsTold_28 : decode cX6_goesAsTold 28 = .ok (.iload 4, 2) := by decide +kernel
theorem dX6_goesAsTold_30 : decode cX6_goesAsTold 30 = .ok (.iadd, 1) := by decide +kernel
theorem dX6_goesAsTold_31 : decode cX6_goesAsTold 31 = .ok (.invokevirtual 292, 3) := by decide +kernel
theorem dX6_goesAsTold_34 : decode cX6_goesAsTold 34 = .ok (.if_icmp .eq 5, 3) := by decide +kernel
theorem dX6_goesAsTold_37 : decode cX6_goesAsTold 37 = .ok (.iconst 0, 1) := by decide +kernel
theorem dX6_goesAsTold_38 : decode cX6_goesAsTold 38 = .ok (.ireturn, 1) := by decide +kernel
theorem dX6_goesAsTold_39 : decode cX6_goesAsTold 39 = .ok (.iinc 4 1, 3) := by decide +kernel
theorem dX6_goesAsTold_42 : decode cX6_goesAsTold 42 = .ok (.goto (-39), 3) := by decide +kernel
theorem dX6_goesAsTold_45 : decode cX6_goesAsTold 45 = .ok (.iconst 1, 1) := by decide +kernel
theorem dX6_goesAsTold_46 : decode cX6_goesAsTold 46 = .ok (.ireturn, 1) := by decide +kernel
