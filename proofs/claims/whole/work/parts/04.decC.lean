theorem dX7_init_0 : decode cX7_init 0 = .ok (.aload_n 0, 1) := by decide +kernel
theorem dX7_init_1 : decode cX7_init 1 = .ok (.invokespecial 1, 3) := by decide +kernel
theorem dX7_init_4 : decode cX7_init 4 = .ok (.aload_n 0, 1) := by decide +kernel
theorem dX7_init_5 : decode cX7_init 5 = .ok (.iconst 4, 1) := by decide +kernel
theorem dX7_init_6 : decode cX7_init 6 = .ok (.newarray .int, 2) := by decide +kernel
theorem dX7_init_8 : decode cX7_init 8 = .ok (.putfield 7, 3) := by decide +kernel
theorem dX7_init_11 : decode cX7_init 11 = .ok (.aload_n 0, 1) := by decide +kernel
theorem dX7_init_12 : decode cX7_init 12 = .ok (.iconst 4, 1) := by decide +kernel
theorem dX7_init_13 : decode cX7_init 13 = .ok (.newarray .int, 2) := by decide +kernel
theorem dX7_init_15 : decode cX7_init 15 = .ok (.putfield 13, 3) := by decide +kernel
theorem dX7_init_18 : decode cX7_init 18 = .ok (.aload_n 0, 1) := by decide +kernel
theorem dX7_init_19 : decode cX7_init 19 = .ok (.bipush 96, 2) := by decide +kernel
theorem dX7_init_21 : decode cX7_init 21 = .ok (.newarray .long, 2) := by decide +kernel
theorem dX7_init_23 : decode cX7_init 23 = .ok (.putfield 16, 3) := by decide +kernel
theorem dX7_init_26 : decode cX7_init 26 = .ok (.aload_n 0, 1) := by decide +kernel
theorem dX7_init_27 : decode cX7_init 27 = .ok (.bipush 80, 2) := by decide +kernel
theorem dX7_init_29 : decode cX7_init 29 = .ok (.newarray .int, 2) := by decide +kernel
theorem dX7_init_31 : decode cX7_init 31 = .ok (.putfield 20, 3) := by decide +kernel
theorem dX7_init_34 : decode cX7_init 34 = .ok (.aload_n 0, 1) := by decide +kernel
theorem dX7_init_35 : decode cX7_init 35 = .ok (.sipush 177, 3) := by decide +kernel
theorem dX7_init_38 : decode cX7_init 38 = .ok (.newarray .int, 2) := by decide +kernel
theorem dX7_init_40 : decode cX7_init 40 = .ok (.putfield 23, 3) := by decide +kernel
theorem dX7_init_43 : decode cX7_init 43 = .ok (.aload_n 0, 1) := by decide +kernel
theorem dX7_init_44 : decode cX7_init 44 = .ok (.sipush 177, 3) := by decide +kernel
theorem dX7_init_47 : decode cX7_init 47 = .ok (.newarray .int, 2) := by decide +kernel
theorem dX7_init_49 : decode cX7_init 49 = .ok (.putfield 26, 3) := by decide +kernel
theorem dX7_init_52 : decode cX7_init 52 = .ok (.aload_n 0, 1) := by decide +kernel
theorem dX7_init_53 : decode cX7_init 53 = .ok (.sipush 177, 3) := by decide +kernel
theorem dX7_init_56 : decode cX7_init 56 = .ok (.newarray .int, 2) := by decide +kernel
theorem dX7_init_58 : decode cX7_init 58 = .ok (.putfield 29, 3) := by decide +kernel
theorem dX7_init_61 : decode cX7_init 61 = .ok (.aload_n 0, 1) := by decide +kernel
theorem dX7_init_62 : decode cX7_init 62 = .ok (.sipush 177, 3) := by decide +kernel
theorem dX7_init_65 : decode cX7_init 65 = .ok (.newarray .int, 2) := by decide +kernel
theorem dX7_init_67 : decode cX7_init 67 = .ok (.putfield 32, 3) := by decide +kernel
theorem dX7_init_70 : decode cX7_init 70 = .ok (.aload_n 0, 1) := by decide +kernel
theorem dX7_init_71 : decode cX7_init 71 = .ok (.bipush 7, 2) := by decide +kernel
theorem dX7_init_73 : decode cX7_init 73 = .ok (.newarray .long, 2) := by decide +kernel
theorem dX7_init_75 : decode cX7_init 75 = .ok (.putfield 35, 3) := by decide +kernel
theorem dX7_init_78 : decode cX7_init 78 = .ok (.aload_n 0, 1) := by decide +kernel
theorem dX7_init_79 : decode cX7_init 79 = .ok (.bipush 7, 2) := by decide +kernel
theorem dX7_init_81 : decode cX7_init 81 = .ok (.newarray .long, 2) := by decide +kernel
theorem dX7_init_83 : decode cX7_init 83 = .ok (.putfield 38, 3) := by decide +kernel
theorem dX7_init_86 : decode cX7_init 86 = .ok (.iconst 0, 1) := by decide +kernel
theorem dX7_init_87 : decode cX7_init 87 = .ok (.istore_n 1, 1) := by decide +kernel
theorem dX7_init_88 : decode cX7_init 88 = .ok (.iload_n 1, 1) := by decide +kernel
theorem dX7_init_89 : decode cX7_init 89 = .ok (.iconst 4, 1) := by decide +kernel
theorem dX7_init_90 : decode cX7_init 90 = .ok (.if_icmp .ge 16, 3) := by decide +kernel
theorem dX7_init_93 : decode cX7_init 93 = .ok (.aload_n 0, 1) := by decide +kernel
theorem dX7_init_94 : decode cX7_init 94 = .ok (.getfield 7, 3) := by decide +kernel
theorem dX7_init_97 : decode cX7_init 97 = .ok (.iload_n 1, 1) := by decide +kernel
theorem dX7_init_98 : decode cX7_init 98 = .ok (.iconst (-1), 1) := by decide +kernel
theorem dX7_init_99 : decode cX7_init 99 = .ok (.iastore, 1) := by decide +kernel
theorem dX7_init_100 : decode cX7_init 100 = .ok (.iinc 1 1, 3) := by decide +kernel
theorem dX7_init_103 : decode cX7_init 103 = .ok (.goto (-15), 3) := by decide +kernel
theorem dX7_init_106 : decode cX7_init 106 = .ok (.aload_n 0, 1) := by decide +kernel
theorem dX7_init_107 : decode cX7_init 107 = .ok (.getfield 23, 3) := by decide +kernel
theorem dX7_init_110 : decode cX7_init 110 = .ok (.iconst 1, 1) := by decide +kernel
theorem dX7_init_111 : decode cX7_init 111 = .ok (.iconst 1, 1) := by decide +kernel
theorem dX7_init_112 : decode cX7_init 112 = .ok (.iastore, 1) := by decide +kernel
theorem dX7_init_113 : decode cX7_init 113 = .ok (.return_, 1) := by decide +kernel
theorem dX7_in_0 : decode cX7_in 0 = .ok (.iload_n 0, 1) := by decide +kernel
theorem dX7_in_1 : decode cX7_in 1 = .ok (.iload_n 1, 1) := by decide +kernel
theorem dX7_in_2 : decode cX7_in 2 = .ok (.if_icmp .lt 12, 3) := by decide +kernel
theorem dX7_in_5 : decode cX7_in 5 = .ok (.iload_n 0, 1) := by decide +kernel
theorem dX7_in_6 : decode cX7_in 6 = .ok (.iload_n 2, 1) := by decide +kernel
theorem dX7_in_7 : decode cX7_in 7 = .ok (.if_icmp .gt 7, 3) := by decide +kernel
theorem dX7_in_10 : decode cX7_in 10 = .ok (.iconst 1, 1) := by decide +kernel
theorem dX7_in_11 : decode cX7_in 11 = .ok (.goto 4, 3) := by decide +kernel
theorem dX7_in_14 : decode cX7_in 14 = .ok (.iconst 0, 1) := by decide +kernel
theorem dX7_in_15 : decode cX7_in 15 = .ok (.ireturn, 1) := by decide +kernel
theorem dX7_bring_0 : decode cX7_bring 0 = .ok (.iconst 0, 1) := by decide +kernel
theorem dX7_bring_1 : decode cX7_bring 1 = .ok (.istore 5, 2) := by decide +kernel
theorem dX7_bring_3 : decode cX7_bring 3 = .ok (.iload 5, 2) := by decide +kernel
theorem dX7_bring_5 : decode cX7_bring 5 = .ok (.iload 4, 2) := by decide +kernel
theorem dX7_bring_7 : decode cX7_bring 7 = .ok (.if_icmp .ge 21, 3) := by decide +kernel
theorem dX7_bring_10 : decode cX7_bring 10 = .ok (.aload_n 2, 1) := by decide +kernel
theorem dX7_bring_11 : decode cX7_bring 11 = .ok (.iload_n 3, 1) := by decide +kernel
theorem dX7_bring_12 : decode cX7_bring 12 = .ok (.iload 5, 2) := by decide +kernel
theorem dX7_bring_14 : decode cX7_bring 14 = .ok (.iadd, 1) := by decide +kernel
theorem dX7_bring_15 : decode cX7_bring 15 = .ok (.aload_n 0, 1) := by decide +kernel
theorem dX7_bring_16 : decode cX7_bring 16 = .ok (.iload_n 1, 1) := by decide +kernel
theorem dX7_bring_17 : decode cX7_bring 17 = .ok (.iload 5, 2) := by decide +kernel
theorem dX7_bring_19 : decode cX7_bring 19 = .ok (.iadd, 1) := by decide +kernel
theorem dX7_bring_20 : decode cX7_bring 20 = .ok (.iaload, 1) := by decide +kernel
theorem dX7_bring_21 : decode cX7_bring 21 = .ok (.iastore, 1) := by decide +kernel
theorem dX7_bring_22 : decode cX7_bring 22 = .ok (.iinc 5 1, 3) := by decide +kernel
theorem dX7_bring_25 : decode cX7_bring 25 = .ok (.goto (-22), 3) := by decide +kernel
theorem dX7_bring_28 : decode cX7_bring 28 = .ok (.return_, 1) := by decide +kernel
set_option maxRecDepth 20000 in
theorem ggX7_isField_X7_in : GoodIn wsX7_isField wsX7_in := goodIn_r _ [4] (by decide +kernel) (by decide +kernel)
set_option maxRecDepth 20000 in
theorem gX7_isField_X7_in : GoodIn wsX7_isField (va_wsS RX7 41 yX7_in wsX7_in) := goodIn_app (goodIn_of _ (by decide +kernel)) ggX7_isField_X7_in
theorem dX7_isField_0 : decode cX7_isField 0 = .ok (.iload_n 0, 1) := by decide +kernel
theorem dX7_isField_1 : decode cX7_isField 1 = .ok (.iconst 0, 1) := by decide +kernel
theorem dX7_isField_2 : decode cX7_isField 2 = .ok (.bipush 6, 2) := by decide +kernel
theorem dX7_isField_4 : decode cX7_isField 4 = .ok (.invokestatic 41, 3) := by decide +kernel
theorem dX7_isField_7 : decode cX7_isField 7 = .ok (.ireturn, 1) := by decide +kernel
set_option maxRecDepth 20000 in
theorem ggX7_isClaim_X7_in : GoodIn wsX7_isClaim wsX7_in := goodIn_r _ [5] (by decide +kernel) (by decide +kernel)
set_option maxRecDepth 20000 in
theorem gX7_isClaim_X7_in : GoodIn wsX7_isClaim (va_wsS RX7 41 yX7_in wsX7_in) := goodIn_app (goodIn_of _ (by decide +kernel)) ggX7_isClaim_X7_in
theorem dX7_isClaim_0 : decode cX7_isClaim 0 = .ok (.iload_n 1, 1) := by decide +kernel
theorem dX7_isClaim_1 : decode cX7_isClaim 1 = .ok (.iconst 0, 1) := by decide +kernel
theorem dX7_isClaim_2 : decode cX7_isClaim 2 = .ok (.aload_n 0, 1) := by decide +kernel
theorem dX7_isClaim_3 : decode cX7_isClaim 3 = .ok (.getfield 23, 3) := by decide +kernel
theorem dX7_isClaim_6 : decode cX7_isClaim 6 = .ok (.bipush 24, 2) := by decide +kernel
theorem dX7_isClaim_8 : decode cX7_isClaim 8 = .ok (.iaload, 1) := by decide +kernel
theorem dX7_isClaim_9 : decode cX7_isClaim 9 = .ok (.iconst 1, 1) := by decide +kernel
theorem dX7_isClaim_10 : decode cX7_isClaim 10 = .ok (.isub, 1) := by decide +kernel
theorem dX7_isClaim_11 : decode cX7_isClaim 11 = .ok (.invokestatic 41, 3) := by decide +kernel
theorem dX7_isClaim_14 : decode cX7_isClaim 14 = .ok (.ireturn, 1) := by decide +kernel
set_option maxRecDepth 20000 in
theorem ggX7_field_X7_isField : GoodIn wsX7_field wsX7_isField := goodIn_r _ [5, 6, 7, 4, 8] (by decide +kernel) (by decide +kernel)
set_option maxRecDepth 20000 in
theorem gX7_field_X7_isField : GoodIn wsX7_field (va_wsS RX7 45 yX7_isField wsX7_isField) := goodIn_app (goodIn_of _ (by decide +kernel)) ggX7_field_X7_isField
set_option maxRecDepth 20000 in
theorem ggX7_field_X7_in : GoodIn wsX7_field wsX7_in := goodIn_r _ [8] (by decide +kernel) (by decide +kernel)
set_option maxRecDepth 20000 in
theorem gX7_field_X7_in : GoodIn wsX7_field (va_wsS RX7 41 yX7_in wsX7_in) := goodIn_app (goodIn_of _ (by decide +kernel)) ggX7_field_X7_in
theorem dX7_field_0 : decode cX7_field 0 = .ok (.iload_n 1, 1) := by decide +kernel
theorem dX7_field_1 : decode cX7_field 1 = .ok (.invokestatic 45, 3) := by decide +kernel
theorem dX7_field_4 : decode cX7_field 4 = .ok (.ifCond .eq 12, 3) := by decide +kernel
theorem dX7_field_7 : decode cX7_field 7 = .ok (.iload_n 2, 1) := by decide +kernel
theorem dX7_field_8 : decode cX7_field 8 = .ok (.iconst 0, 1) := by decide +kernel
theorem dX7_field_9 : decode cX7_field 9 = .ok (.iconst 4, 1) := by decide +kernel
theorem dX7_field_10 : decode cX7_field 10 = .ok (.invokestatic 41, 3) := by decide +kernel
theorem dX7_field_13 : decode cX7_field 13 = .ok (.ifCond .ne 5, 3) := by decide +kernel
theorem dX7_field_16 : decode cX7_field 16 = .ok (.iconst (-1), 1) := by decide +kernel
theorem dX7_field_17 : decode cX7_field 17 = .ok (.ireturn, 1) := by decide +kernel
theorem dX7_field_18 : decode cX7_field 18 = .ok (.aload_n 0, 1) := by decide +kernel
theorem dX7_field_19 : decode cX7_field 19 = .ok (.getfield 23, 3) := by decide +kernel
theorem dX7_field_22 : decode cX7_field 22 = .ok (.bipush 17, 2) := by decide +kernel
theorem dX7_field_24 : decode cX7_field 24 = .ok (.iload_n 1, 1) := by decide +kernel
theorem dX7_field_25 : decode cX7_field 25 = .ok (.iadd, 1) := by decide +kernel
theorem dX7_field_26 : decode cX7_field 26 = .ok (.iaload, 1) := by decide +kernel
theorem dX7_field_27 : decode cX7_field 27 = .ok (.istore_n 3, 1) := by decide +kernel
theorem dX7_field_28 : decode cX7_field 28 = .ok (.aload_n 0, 1) := by decide +kernel
theorem dX7_field_29 : decode cX7_field 29 = .ok (.getfield 23, 3) := by decide +kernel
theorem dX7_field_32 : decode cX7_field 32 = .ok (.bipush 17, 2) := by decide +kernel
theorem dX7_field_34 : decode cX7_field 34 = .ok (.iload_n 1, 1) := by decide +kernel
theorem dX7_field_35 : decode cX7_field 35 = .ok (.iadd, 1) := by decide +kernel
theorem dX7_field_36 : decode cX7_field 36 = .ok (.iload_n 2, 1) := by decide +kernel
theorem dX7_field_37 : decode cX7_field 37 = .ok (.iastore, 1) := by decide +kernel
theorem dX7_field_38 : decode cX7_field 38 = .ok (.aload_n 0, 1) := by decide +kernel
theorem dX7_field_39 : decode cX7_field 39 = .ok (.getfield 23, 3) := by decide +kernel
theorem dX7_field_42 : decode cX7_field 42 = .ok (.bipush 40, 2) := by decide +kernel
theorem dX7_field_44 : decode cX7_field 44 = .ok (.iconst 0, 1) := by decide +kernel
theorem dX7_field_45 : decode cX7_field 45 = .ok (.iastore, 1) := by decide +kernel
theorem dX7_field_46 : decode cX7_field 46 = .ok (.iload_n 3, 1) := by decide +kernel
theorem dX7_field_47 : decode cX7_field 47 = .ok (.ireturn, 1) := by decide +kernel
theorem dX7_addClaim_0 : decode cX7_addClaim 0 = .ok (.aload_n 0, 1) := by decide +kernel
theorem dX7_addClaim_1 : decode cX7_addClaim 1 = .ok (.bipush 24, 2) := by decide +kernel
theorem dX7_addClaim_3 : decode cX7_addClaim 3 = .ok (.iaload, 1) := by decide +kernel
theorem dX7_addClaim_4 : decode cX7_addClaim 4 = .ok (.istore 4, 2) := by decide +kernel
theorem dX7_addClaim_6 : decode cX7_addClaim 6 = .ok (.aload_n 0, 1) := by decide +kernel
theorem dX7_addClaim_7 : decode cX7_addClaim 7 = .ok (.bipush 25, 2) := by decide +kernel
theorem dX7_addClaim_9 : decode cX7_addClaim 9 = .ok (.iload 4, 2) := by decide +kernel
theorem dX7_addClaim_11 : decode cX7_addClaim 11 = .ok (.iadd, 1) := by decide +kernel
theorem dX7_addClaim_12 : decode cX7_addClaim 12 = .ok (.iload_n 1, 1) := by decide +kernel
theorem dX7_addClaim_13 : decode cX7_addClaim 13 = .ok (.iastore, 1) := by decide +kernel
theorem dX7_addClaim_14 : decode cX7_addClaim 14 = .ok (.aload_n 0, 1) := by decide +kernel
theorem dX7_addClaim_15 : decode cX7_addClaim 15 = .ok (.bipush 30, 2) := by decide +kernel
theorem dX7_addClaim_17 : decode cX7_addClaim 17 = .ok (.iload 4, 2) := by decide +kernel
theorem dX7_addClaim_19 : decode cX7_addClaim 19 = .ok (.iadd, 1) := by decide +kernel
theorem dX7_addClaim_20 : decode cX7_addClaim 20 = .ok (.iload_n 2, 1) := by decide +kernel
theorem dX7_addClaim_21 : decode cX7_addClaim 21 = .ok (.iastore, 1) := by decide +kernel
theorem dX7_addClaim_22 : decode cX7_addClaim 22 = .ok (.aload_n 0, 1) := by decide +kernel
theorem dX7_addClaim_23 : decode cX7_addClaim 23 = .ok (.bipush 35, 2) := by decide +kernel
theorem dX7_addClaim_25 : decode cX7_addClaim 25 = .ok (.iload 4, 2) := by decide +kernel
theorem dX7_addClaim_27 : decode cX7_addClaim 27 = .ok (.iadd, 1) := by decide +kernel
theorem dX7_addClaim_28 : decode cX7_addClaim 28 = .ok (.iload_n 3, 1) := by decide +kernel
theorem dX7_addClaim_29 : decode cX7_addClaim 29 = .ok (.iastore, 1) := by decide +kernel
theorem dX7_addClaim_30 : decode cX7_addClaim 30 = .ok (.aload_n 0, 1) := by decide +kernel
theorem dX7_addClaim_31 : decode cX7_addClaim 31 = .ok (.bipush 24, 2) := by decide +kernel
theorem dX7_addClaim_33 : decode cX7_addClaim 33 = .ok (.dup2, 1) := by decide +kernel
theorem dX7_addClaim_34 : decode cX7_addClaim 34 = .ok (.iaload, 1) := by decide +kernel
theorem dX7_addClaim_35 : decode cX7_addClaim 35 = .ok (.iconst 1, 1) := by decide +kernel
theorem dX7_addClaim_36 : decode cX7_addClaim 36 = .ok (.iadd, 1) := by decide +kernel
theorem dX7_addClaim_37 : decode cX7_addClaim 37 = .ok (.iastore, 1) := by decide +kernel
theorem dX7_addClaim_38 : decode cX7_addClaim 38 = .ok (.iload 4, 2) := by decide +kernel
theorem dX7_addClaim_40 : decode cX7_addClaim 40 = .ok (.ireturn, 1) := by decide +kernel
set_option maxRecDepth 20000 in
theorem ggX7_claim_X7_isField : GoodIn wsX7_claim wsX7_isField := goodIn_r _ [5, 6, 7, 4, 8] (by decide +kernel) (by decide +kernel)
set_option maxRecDepth 20000 in
theorem gX7_claim_X7_isField : GoodIn wsX7_claim (va_wsS RX7 45 yX7_isField wsX7_isField) := goodIn_app (goodIn_of _ (by decide +kernel)) ggX7_claim_X7_isField
set_option maxRecDepth 20000 in
theorem ggX7_claim_X7_in : GoodIn wsX7_claim wsX7_in := goodIn_r _ [8] (by decide +kernel) (by decide +kernel)
set_option maxRecDepth 20000 in
theorem gX7_claim_X7_in : GoodIn wsX7_claim (va_wsS RX7 41 yX7_in wsX7_in) := goodIn_app (goodIn_of _ (by decide +kernel)) ggX7_claim_X7_in
set_option maxRecDepth 20000 in
theorem ggX7_claim_X7_addClaim : GoodIn wsX7_claim wsX7_addClaim := goodIn_r _ [11] (by decide +kernel) (by decide +kernel)
set_option maxRecDepth 20000 in
theorem gX7_claim_X7_addClaim : GoodIn wsX7_claim (va_wsS RX7 49 yX7_addClaim wsX7_addClaim) := goodIn_app (goodIn_of _ (by decide +kernel)) ggX7_claim_X7_addClaim
theorem dX7_claim_0 : decode cX7_claim 0 = .ok (.iload_n 1, 1) := by decide +kernel
theorem dX7_claim_1 : decode cX7_claim 1 = .ok (.invokestatic 45, 3) := by decide +kernel
theorem dX7_claim_4 : decode cX7_claim 4 = .ok (.ifCond .eq 23, 3) := by decide +kernel
theorem dX7_claim_7 : decode cX7_claim 7 = .ok (.iload_n 2, 1) := by decide +kernel
theorem dX7_claim_8 : decode cX7_claim 8 = .ok (.iload_n 1, 1) := by decide +kernel
theorem dX7_claim_9 : decode cX7_claim 9 = .ok (.bipush 6, 2) := by decide +kernel
theorem dX7_claim_11 : decode cX7_claim 11 = .ok (.invokestatic 41, 3) := by decide +kernel
theorem dX7_claim_14 : decode cX7_claim 14 = .ok (.ifCond .eq 13, 3) := by decide +kernel
theorem dX7_claim_17 : decode cX7_claim 17 = .ok (.iload_n 3, 1) := by decide +kernel
theorem dX7_claim_18 : decode cX7_claim 18 = .ok (.iconst 1, 1) := by decide +kernel
theorem dX7_claim_19 : decode cX7_claim 19 = .ok (.bipush 99, 2) := by decide +kernel
theorem dX7_claim_21 : decode cX7_claim 21 = .ok (.invokestatic 41, 3) := by decide +kernel
theorem dX7_claim_24 : decode cX7_claim 24 = .ok (.ifCond .ne 5, 3) := by decide +kernel
theorem dX7_claim_27 : decode cX7_claim 27 = .ok (.iconst (-1), 1) := by decide +kernel
theorem dX7_claim_28 : decode cX7_claim 28 = .ok (.ireturn, 1) := by decide +kernel
theorem dX7_claim_29 : decode cX7_claim 29 = .ok (.aload_n 0, 1) := by decide +kernel
theorem dX7_claim_30 : decode cX7_claim 30 = .ok (.getfield 23, 3) := by decide +kernel
theorem dX7_claim_33 : decode cX7_claim 33 = .ok (.bipush 24, 2) := by decide +kernel
theorem dX7_claim_35 : decode cX7_claim 35 = .ok (.iaload, 1) := by decide +kernel
theorem dX7_claim_36 : decode cX7_claim 36 = .ok (.iconst 5, 1) := by decide +kernel
theorem dX7_claim_37 : decode cX7_claim 37 = .ok (.if_icmp .ne 6, 3) := by decide +kernel
theorem dX7_claim_40 : decode cX7_claim 40 = .ok (.bipush (-3), 2) := by decide +kernel
theorem dX7_claim_42 : decode cX7_claim 42 = .ok (.ireturn, 1) := by decide +kernel
theorem dX7_claim_43 : decode cX7_claim 43 = .ok (.aload_n 0, 1) := by decide +kernel
theorem dX7_claim_44 : decode cX7_claim 44 = .ok (.getfield 23, 3) := by decide +kernel
theorem dX7_claim_47 : decode cX7_claim 47 = .ok (.bipush 40, 2) := by decide +kernel
theorem dX7_claim_49 : decode cX7_claim 49 = .ok (.iconst 0, 1) := by decide +kernel
theorem dX7_claim_50 : decode cX7_claim 50 = .ok (.iastore, 1) := by decide +kernel
theorem dX7_claim_51 : decode cX7_claim 51 = .ok (.aload_n 0, 1) := by decide +kernel
theorem dX7_claim_52 : decode cX7_claim 52 = .ok (.getfield 23, 3) := by decide +kernel
theorem dX7_claim_55 : decode cX7_claim 55 = .ok (.iload_n 1, 1) := by decide +kernel
theorem dX7_claim_56 : decode cX7_claim 56 = .ok (.iload_n 2, 1) := by decide +kernel
theorem dX7_claim_57 : decode cX7_claim 57 = .ok (.iload_n 3, 1) := by decide +kernel
theorem dX7_claim_58 : decode cX7_claim 58 = .ok (.invokestatic 49, 3) := by decide +kernel
theorem dX7_claim_61 : decode cX7_claim 61 = .ok (.ireturn, 1) := by decide +kernel
theorem dX7_onOf_0 : decode cX7_onOf 0 = .ok (.aload_n 0, 1) := by decide +kernel
theorem dX7_onOf_1 : decode cX7_onOf 1 = .ok (.iconst 3, 1) := by decide +kernel
theorem dX7_onOf_2 : decode cX7_onOf 2 = .ok (.iload_n 1, 1) := by decide +kernel
theorem dX7_onOf_3 : decode cX7_onOf 3 = .ok (.iadd, 1) := by decide +kernel
theorem dX7_onOf_4 : decode cX7_onOf 4 = .ok (.iaload, 1) := by decide +kernel
theorem dX7_onOf_5 : decode cX7_onOf 5 = .ok (.istore_n 2, 1) := by decide +kernel
theorem dX7_onOf_6 : decode cX7_onOf 6 = .ok (.iconst 5, 1) := by decide +kernel
theorem dX7_onOf_7 : decode cX7_onOf 7 = .ok (.iload_n 2, 1) := by decide +kernel
theorem dX7_onOf_8 : decode cX7_onOf 8 = .ok (.iconst 2, 1) := by decide +kernel
theorem dX7_onOf_9 : decode cX7_onOf 9 = .ok (.idiv, 1) := by decide +kernel
theorem dX7_onOf_10 : decode cX7_onOf 10 = .ok (.isub, 1) := by decide +kernel
theorem dX7_onOf_11 : decode cX7_onOf 11 = .ok (.istore_n 3, 1) := by decide +kernel
theorem dX7_onOf_12 : decode cX7_onOf 12 = .ok (.iload_n 2, 1) := by decide +kernel
theorem dX7_onOf_13 : decode cX7_onOf 13 = .ok (.ifCond .ne 8, 3) := by decide +kernel
theorem dX7_onOf_16 : decode cX7_onOf 16 = .ok (.bipush 7, 2) := by decide +kernel
theorem dX7_onOf_18 : decode cX7_onOf 18 = .ok (.goto 4, 3) := by decide +kernel
theorem dX7_onOf_21 : decode cX7_onOf 21 = .ok (.iconst 5, 1) := by decide +kernel
theorem dX7_onOf_22 : decode cX7_onOf 22 = .ok (.istore 4, 2) := by decide +kernel
theorem dX7_onOf_24 : decode cX7_onOf 24 = .ok (.iload_n 1, 1) := by decide +kernel
theorem dX7_onOf_25 : decode cX7_onOf 25 = .ok (.bipush 6, 2) := by decide +kernel
theorem dX7_onOf_27 : decode cX7_onOf 27 = .ok (.if_icmp .ne 5, 3) := by decide +kernel
theorem dX7_onOf_30 : decode cX7_onOf 30 = .ok (.iconst 0, 1) := by decide +kernel
theorem dX7_onOf_31 : decode cX7_onOf 31 = .ok (.ireturn, 1) := by decide +kernel
theorem dX7_onOf_32 : decode cX7_onOf 32 = .ok (.aload_n 0, 1) := by decide +kernel
theorem dX7_onOf_33 : decode cX7_onOf 33 = .ok (.bipush 17, 2) := by decide +kernel
theorem dX7_onOf_35 : decode cX7_onOf 35 = .ok (.iload_n 1, 1) := by decide +kernel
theorem dX7_onOf_36 : decode cX7_onOf 36 = .ok (.iadd, 1) := by decide +kernel
theorem dX7_onOf_37 : decode cX7_onOf 37 = .ok (.iaload, 1) := by decide +kernel
theorem dX7_onOf_38 : decode cX7_onOf 38 = .ok (.tableswitch 50 0 3 #[30, 32, 34, 37], 30) := by decide +kernel
theorem dX7_onOf_68 : decode cX7_onOf 68 = .ok (.iconst 5, 1) := by decide +kernel
theorem dX7_onOf_69 : decode cX7_onOf 69 = .ok (.ireturn, 1) := by decide +kernel
theorem dX7_onOf_70 : decode cX7_onOf 70 = .ok (.iload_n 3, 1) := by decide +kernel
theorem dX7_onOf_71 : decode cX7_onOf 71 = .ok (.ireturn, 1) := by decide +kernel
theorem dX7_onOf_72 : decode cX7_onOf 72 = .ok (.iload 4, 2) := by decide +kernel
theorem dX7_onOf_74 : decode cX7_onOf 74 = .ok (.ireturn, 1) := by decide +kernel
theorem dX7_onOf_75 : decode cX7_onOf 75 = .ok (.iload_n 3, 1) := by decide +kernel
theorem dX7_onOf_76 : decode cX7_onOf 76 = .ok (.iconst 4, 1) := by decide +kernel
theorem dX7_onOf_77 : decode cX7_onOf 77 = .ok (.if_icmp .le 9, 3) := by decide +kernel
theorem dX7_onOf_80 : decode cX7_onOf 80 = .ok (.iload_n 3, 1) := by decide +kernel
theorem dX7_onOf_81 : decode cX7_onOf 81 = .ok (.iconst 3, 1) := by decide +kernel
theorem dX7_onOf_82 : decode cX7_onOf 82 = .ok (.isub, 1) := by decide +kernel
theorem dX7_onOf_83 : decode cX7_onOf 83 = .ok (.goto 4, 3) := by decide +kernel
theorem dX7_onOf_86 : decode cX7_onOf 86 = .ok (.iconst 1, 1) := by decide +kernel
theorem dX7_onOf_87 : decode cX7_onOf 87 = .ok (.ireturn, 1) := by decide +kernel
theorem dX7_onOf_88 : decode cX7_onOf 88 = .ok (.iload 4, 2) := by decide +kernel
theorem dX7_onOf_90 : decode cX7_onOf 90 = .ok (.iconst 2, 1) := by decide +kernel
theorem dX7_onOf_91 : decode cX7_onOf 91 = .ok (.iadd, 1) := by decide +kernel
theorem dX7_onOf_92 : decode cX7_onOf 92 = .ok (.ireturn, 1) := by decide +kernel
set_option maxRecDepth 20000 in
theorem ggX7_backOf_X7_onOf : GoodIn wsX7_backOf wsX7_onOf := goodIn_r _ [4] (by decide +kernel) (by decide +kernel)
set_option maxRecDepth 20000 in
theorem gX7_backOf_X7_onOf : GoodIn wsX7_backOf (va_wsS RX7 53 yX7_onOf wsX7_onOf) := goodIn_app (goodIn_of _ (by decide +kernel)) ggX7_backOf_X7_onOf
theorem dX7_backOf_0 : decode cX7_backOf 0 = .ok (.bipush 10, 2) := by decide +kernel
theorem dX7_backOf_2 : decode cX7_backOf 2 = .ok (.aload_n 0, 1) := by decide +kernel
theorem dX7_backOf_3 : decode cX7_backOf 3 = .ok (.iload_n 1, 1) := by decide +kernel
theorem dX7_backOf_4 : decode cX7_backOf 4 = .ok (.invokestatic 53, 3) := by decide +kernel
theorem dX7_backOf_7 : decode cX7_backOf 7 = .ok (.isub, 1) := by decide +kernel
theorem dX7_backOf_8 : decode cX7_backOf 8 = .ok (.istore_n 2, 1) := by decide +kernel
theorem dX7_backOf_9 : decode cX7_backOf 9 = .ok (.iload_n 1, 1) := by decide +kernel
theorem dX7_backOf_10 : decode cX7_backOf 10 = .ok (.ifCond .ne 7, 3) := by decide +kernel
theorem dX7_backOf_13 : decode cX7_backOf 13 = .ok (.iconst 0, 1) := by decide +kernel
theorem dX7_backOf_14 : decode cX7_backOf 14 = .ok (.goto 23, 3) := by decide +kernel
theorem dX7_backOf_17 : decode cX7_backOf 17 = .ok (.aload_n 0, 1) := by decide +kernel
theorem dX7_backOf_18 : decode cX7_backOf 18 = .ok (.bipush 10, 2) := by decide +kernel
theorem dX7_backOf_20 : decode cX7_backOf 20 = .ok (.iload_n 1, 1) := by decide +kernel
theorem dX7_backOf_21 : decode cX7_backOf 21 = .ok (.iadd, 1) := by decide +kernel
theorem dX7_backOf_22 : decode cX7_backOf 22 = .ok (.iaload, 1) := by decide +kernel
theorem dX7_backOf_23 : decode cX7_backOf 23 = .ok (.iload_n 2, 1) := by decide +kernel
theorem dX7_backOf_24 : decode cX7_backOf 24 = .ok (.if_icmp .ge 12, 3) := by decide +kernel
theorem dX7_backOf_27 : decode cX7_backOf 27 = .ok (.aload_n 0, 1) := by decide +kernel
theorem dX7_backOf_28 : decode cX7_backOf 28 = .ok (.bipush 10, 2) := by decide +kernel
theorem dX7_backOf_30 : decode cX7_backOf 30 = .ok (.iload_n 1, 1) := by decide +kernel
theorem dX7_backOf_31 : decode cX7_backOf 31 = .ok (.iadd, 1) := by decide +kernel
theorem dX7_backOf_32 : decode cX7_backOf 32 = .ok (.iaload, 1) := by decide +kernel
theorem dX7_backOf_33 : decode cX7_backOf 33 = .ok (.goto 4, 3) := by decide +kernel
theorem dX7_backOf_36 : decode cX7_backOf 36 = .ok (.iload_n 2, 1) := by decide +kernel
theorem dX7_backOf_37 : decode cX7_backOf 37 = .ok (.ireturn, 1) := by decide +kernel
set_option maxRecDepth 20000 in
theorem ggX7_of_X7_isField : GoodIn wsX7_of wsX7_isField := goodIn_r _ [5, 6, 7, 4, 8] (by decide +kernel) (by decide +kernel)
set_option maxRecDepth 20000 in
theorem gX7_of_X7_isField : GoodIn wsX7_of (va_wsS RX7 45 yX7_isField wsX7_isField) := goodIn_app (goodIn_of _ (by decide +kernel)) ggX7_of_X7_isField
set_option maxRecDepth 20000 in
theorem ggX7_of_X7_onOf : GoodIn wsX7_of wsX7_onOf := goodIn_r _ [11] (by decide +kernel) (by decide +kernel)
set_option maxRecDepth 20000 in
theorem gX7_of_X7_onOf : GoodIn wsX7_of (va_wsS RX7 53 yX7_onOf wsX7_onOf) := goodIn_app (goodIn_of _ (by decide +kernel)) ggX7_of_X7_onOf
set_option maxRecDepth 20000 in
theorem ggX7_of_X7_backOf : GoodIn wsX7_of wsX7_backOf := goodIn_r _ [14, 9, 10, 4, 11] (by decide +kernel) (by decide +kernel)
set_option maxRecDepth 20000 in
theorem gX7_of_X7_backOf : GoodIn wsX7_of (va_wsS RX7 57 yX7_backOf wsX7_backOf) := goodIn_app (goodIn_of _ (by decide +kernel)) ggX7_of_X7_backOf
theorem dX7_of_0 : decode cX7_of 0 = .ok (.iload_n 1, 1) := by decide +kernel
theorem dX7_of_1 : decode cX7_of 1 = .ok (.invokestatic 45, 3) := by decide +kernel
theorem dX7_of_4 : decode cX7_of 4 = .ok (.ifCond .ne 5, 3) := by decide +kernel
theorem dX7_of_7 : decode cX7_of 7 = .ok (.iconst (-1), 1) := by decide +kernel
theorem dX7_of_8 : decode cX7_of 8 = .ok (.ireturn, 1) := by decide +kernel
theorem dX7_of_9 : decode cX7_of 9 = .ok (.iload_n 2, 1) := by decide +kernel
theorem dX7_of_10 : decode cX7_of 10 = .ok (.tableswitch 81 0 4 #[34, 44, 53, 63, 72], 34) := by decide +kernel
theorem dX7_of_44 : decode cX7_of 44 = .ok (.aload_n 0, 1) := by decide +kernel
theorem dX7_of_45 : decode cX7_of 45 = .ok (.getfield 23, 3) := by decide +kernel
theorem dX7_of_48 : decode cX7_of 48 = .ok (.bipush 17, 2) := by decide +kernel
theorem dX7_of_50 : decode cX7_of 50 = .ok (.iload_n 1, 1) := by decide +kernel
theorem dX7_of_51 : decode cX7_of 51 = .ok (.iadd, 1) := by decide +kernel
theorem dX7_of_52 : decode cX7_of 52 = .ok (.iaload, 1) := by decide +kernel
theorem dX7_of_53 : decode cX7_of 53 = .ok (.ireturn, 1) := by decide +kernel
theorem dX7_of_54 : decode cX7_of 54 = .ok (.aload_n 0, 1) := by decide +kernel
theorem dX7_of_55 : decode cX7_of 55 = .ok (.getfield 23, 3) := by decide +kernel
theorem dX7_of_58 : decode cX7_of 58 = .ok (.iconst 3, 1) := by decide +kernel
theorem dX7_of_59 : decode cX7_of 59 = .ok (.iload_n 1, 1) := by decide +kernel
theorem dX7_of_60 : decode cX7_of 60 = .ok (.iadd, 1) := by decide +kernel
theorem dX7_of_61 : decode cX7_of 61 = .ok (.iaload, 1) := by decide +kernel
theorem dX7_of_62 : decode cX7_of 62 = .ok (.ireturn, 1) := by decide +kernel
theorem dX7_of_63 : decode cX7_of 63 = .ok (.aload_n 0, 1) := by decide +kernel
theorem dX7_of_64 : decode cX7_of 64 = .ok (.getfield 23, 3) := by decide +kernel
theorem dX7_of_67 : decode cX7_of 67 = .ok (.bipush 10, 2) := by decide +kernel
theorem dX7_of_69 : decode cX7_of 69 = .ok (.iload_n 1, 1) := by decide +kernel
theorem dX7_of_70 : decode cX7_of 70 = .ok (.iadd, 1) := by decide +kernel
theorem dX7_of_71 : decode cX7_of 71 = .ok (.iaload, 1) := by decide +kernel
theorem dX7_of_72 : decode cX7_of 72 = .ok (.ireturn, 1) := by decide +kernel
theorem dX7_of_73 : decode cX7_of 73 = .ok (.aload_n 0, 1) := by decide +kernel
theorem dX7_of_74 : decode cX7_of 74 = .ok (.getfield 23, 3) := by decide +kernel
theorem dX7_of_77 : decode cX7_of 77 = .ok (.iload_n 1, 1) := by decide +kernel
theorem dX7_of_78 : decode cX7_of 78 = .ok (.invokestatic 53, 3) := by decide +kernel
theorem dX7_of_81 : decode cX7_of 81 = .ok (.ireturn, 1) := by decide +kernel
theorem dX7_of_82 : decode cX7_of 82 = .ok (.aload_n 0, 1) := by decide +kernel
theorem dX7_of_83 : decode cX7_of 83 = .ok (.getfield 23, 3) := by decide +kernel
theorem dX7_of_86 : decode cX7_of 86 = .ok (.iload_n 1, 1) := by decide +kernel
theorem dX7_of_87 : decode cX7_of 87 = .ok (.invokestatic 57, 3) := by decide +kernel
theorem dX7_of_90 : decode cX7_of 90 = .ok (.ireturn, 1) := by decide +kernel
theorem dX7_of_91 : decode cX7_of 91 = .ok (.iconst (-1), 1) := by decide +kernel
theorem dX7_of_92 : decode cX7_of 92 = .ok (.ireturn, 1) := by decide +kernel
set_option maxRecDepth 20000 in
theorem ggX7_at_X7_isClaim : GoodIn wsX7_at wsX7_isClaim := goodIn_r _ [6, 1, 7, 8, 5, 9, 10, 11, 12, 13, 14, 15, 16, 17, 18, 19, 20, 21, 22, 23, 24, 25, 26, 27, 28] (by decide +kernel) (by decide +kernel)
set_option maxRecDepth 20000 in
theorem gX7_at_X7_isClaim : GoodIn wsX7_at (wsV RX7 60 RX7 yX7_isClaim wsX7_isClaim) := goodIn_app (goodIn_of _ (by decide +kernel)) ggX7_at_X7_isClaim
theorem dX7_at_0 : decode cX7_at 0 = .ok (.aload_n 0, 1) := by decide +kernel
theorem dX7_at_1 : decode cX7_at 1 = .ok (.iload_n 1, 1) := by decide +kernel
theorem dX7_at_2 : decode cX7_at 2 = .ok (.invokevirtual 60, 3) := by decide +kernel
theorem dX7_at_5 : decode cX7_at 5 = .ok (.ifCond .ne 5, 3) := by decide +kernel
theorem dX7_at_8 : decode cX7_at 8 = .ok (.iconst (-1), 1) := by decide +kernel
theorem dX7_at_9 : decode cX7_at 9 = .ok (.ireturn, 1) := by decide +kernel
theorem dX7_at_10 : decode cX7_at 10 = .ok (.iload_n 2, 1) := by decide +kernel
theorem dX7_at_11 : decode cX7_at 11 = .ok (.ifCond .ne 15, 3) := by decide +kernel
theorem dX7_at_14 : decode cX7_at 14 = .ok (.aload_n 0, 1) := by decide +kernel
theorem dX7_at_15 : decode cX7_at 15 = .ok (.getfield 23, 3) := by decide +kernel
theorem dX7_at_18 : decode cX7_at 18 = .ok (.bipush 25, 2) := by decide +kernel
theorem dX7_at_20 : decode cX7_at 20 = .ok (.iload_n 1, 1) := by decide +kernel
theorem dX7_at_21 : decode cX7_at 21 = .ok (.iadd, 1) := by decide +kernel
theorem dX7_at_22 : decode cX7_at 22 = .ok (.iaload, 1) := by decide +kernel
theorem dX7_at_23 : decode cX7_at 23 = .ok (.goto 38, 3) := by decide +kernel
theorem dX7_at_26 : decode cX7_at 26 = .ok (.iload_n 2, 1) := by decide +kernel
theorem dX7_at_27 : decode cX7_at 27 = .ok (.iconst 1, 1) := by decide +kernel
theorem dX7_at_28 : decode cX7_at 28 = .ok (.if_icmp .ne 15, 3) := by decide +kernel
theorem dX7_at_31 : decode cX7_at 31 = .ok (.aload_n 0, 1) := by decide +kernel
theorem dX7_at_32 : decode cX7_at 32 = .ok (.getfield 23, 3) := by decide +kernel
theorem dX7_at_35 : decode cX7_at 35 = .ok (.bipush 30, 2) := by decide +kernel
theorem dX7_at_37 : decode cX7_at 37 = .ok (.iload_n 1, 1) := by decide +kernel
theorem dX7_at_38 : decode cX7_at 38 = .ok (.iadd, 1) := by decide +kernel
theorem dX7_at_39 : decode cX7_at 39 = .ok (.iaload, 1) := by decide +kernel
theorem dX7_at_40 : decode cX7_at 40 = .ok (.goto 21, 3) := by decide +kernel
theorem dX7_at_43 : decode cX7_at 43 = .ok (.iload_n 2, 1) := by decide +kernel
theorem dX7_at_44 : decode cX7_at 44 = .ok (.iconst 2, 1) := by decide +kernel
theorem dX7_at_45 : decode cX7_at 45 = .ok (.if_icmp .ne 15, 3) := by decide +kernel
theorem dX7_at_48 : decode cX7_at 48 = .ok (.aload_n 0, 1) := by decide +kernel
theorem dX7_at_49 : decode cX7_at 49 = .ok (.getfield 23, 3) := by decide +kernel
theorem dX7_at_52 : decode cX7_at 52 = .ok (.bipush 35, 2) := by decide +kernel
theorem dX7_at_54 : decode cX7_at 54 = .ok (.iload_n 1, 1) := by decide +kernel
theorem dX7_at_55 : decode cX7_at 55 = .ok (.iadd, 1) := by decide +kernel
theorem dX7_at_56 : decode cX7_at 56 = .ok (.iaload, 1) := by decide +kernel
theorem dX7_at_57 : decode cX7_at 57 = .ok (.goto 4, 3) := by decide +kernel
theorem dX7_at_60 : decode cX7_at 60 = .ok (.iconst (-1), 1) := by decide +kernel
theorem dX7_at_61 : decode cX7_at 61 = .ok (.ireturn, 1) := by decide +kernel
set_option maxRecDepth 20000 in
theorem ggX7_type_X7_in : GoodIn wsX7_type wsX7_in := goodIn_r _ [6] (by decide +kernel) (by decide +kernel)
set_option maxRecDepth 20000 in
theorem gX7_type_X7_in : GoodIn wsX7_type (va_wsS RX7 41 yX7_in wsX7_in) := goodIn_app (goodIn_of _ (by decide +kernel)) ggX7_type_X7_in
theorem dX7_type_0 : decode cX7_type 0 = .ok (.iload_n 1, 1) := by decide +kernel
theorem dX7_type_1 : decode cX7_type 1 = .ok (.bipush 32, 2) := by decide +kernel
theorem dX7_type_3 : decode cX7_type 3 = .ok (.bipush 126, 2) := by decide +kernel
theorem dX7_type_5 : decode cX7_type 5 = .ok (.invokestatic 41, 3) := by decide +kernel
theorem dX7_type_8 : decode cX7_type 8 = .ok (.ifCond .ne 5, 3) := by decide +kernel
theorem dX7_type_11 : decode cX7_type 11 = .ok (.iconst (-1), 1) := by decide +kernel
theorem dX7_type_12 : decode cX7_type 12 = .ok (.ireturn, 1) := by decide +kernel
theorem dX7_type_13 : decode cX7_type 13 = .ok (.aload_n 0, 1) := by decide +kernel
theorem dX7_type_14 : decode cX7_type 14 = .ok (.getfield 63, 3) := by decide +kernel
theorem dX7_type_17 : decode cX7_type 17 = .ok (.bipush 80, 2) := by decide +kernel
theorem dX7_type_19 : decode cX7_type 19 = .ok (.if_icmp .ne 6, 3) := by decide +kernel
theorem dX7_type_22 : decode cX7_type 22 = .ok (.bipush (-3), 2) := by decide +kernel
theorem dX7_type_24 : decode cX7_type 24 = .ok (.ireturn, 1) := by decide +kernel
theorem dX7_type_25 : decode cX7_type 25 = .ok (.aload_n 0, 1) := by decide +kernel
theorem dX7_type_26 : decode cX7_type 26 = .ok (.getfield 20, 3) := by decide +kernel
theorem dX7_type_29 : decode cX7_type 29 = .ok (.aload_n 0, 1) := by decide +kernel
theorem dX7_type_30 : decode cX7_type 30 = .ok (.getfield 63, 3) := by decide +kernel
theorem dX7_type_33 : decode cX7_type 33 = .ok (.iload_n 1, 1) := by decide +kernel
theorem dX7_type_34 : decode cX7_type 34 = .ok (.iastore, 1) := by decide +kernel
theorem dX7_type_35 : decode cX7_type 35 = .ok (.aload_n 0, 1) := by decide +kernel
theorem dX7_type_36 : decode cX7_type 36 = .ok (.dup, 1) := by decide +kernel
theorem dX7_type_37 : decode cX7_type 37 = .ok (.getfield 63, 3) := by decide +kernel
theorem dX7_type_40 : decode cX7_type 40 = .ok (.iconst 1, 1) := by decide +kernel
theorem dX7_type_41 : decode cX7_type 41 = .ok (.iadd, 1) := by decide +kernel
theorem dX7_type_42 : decode cX7_type 42 = .ok (.putfield 63, 3) := by decide +kernel
theorem dX7_type_45 : decode cX7_type 45 = .ok (.aload_n 0, 1) := by decide +kernel
theorem dX7_type_46 : decode cX7_type 46 = .ok (.getfield 63, 3) := by decide +kernel
theorem dX7_type_49 : decode cX7_type 49 = .ok (.ireturn, 1) := by decide +kernel
theorem dX7_peek_0 : decode cX7_peek 0 = .ok (.aload_n 0, 1) := by decide +kernel
theorem dX7_peek_1 : decode cX7_peek 1 = .ok (.getfield 67, 3) := by decide +kernel
theorem dX7_peek_4 : decode cX7_peek 4 = .ok (.aload_n 0, 1) := by decide +kernel
theorem dX7_peek_5 : decode cX7_peek 5 = .ok (.getfield 63, 3) := by decide +kernel
theorem dX7_peek_8 : decode cX7_peek 8 = .ok (.if_icmp .ge 30, 3) := by decide +kernel
theorem dX7_peek_11 : decode cX7_peek 11 = .ok (.aload_n 0, 1) := by decide +kernel
theorem dX7_peek_12 : decode cX7_peek 12 = .ok (.getfield 20, 3) := by decide +kernel
theorem dX7_peek_15 : decode cX7_peek 15 = .ok (.aload_n 0, 1) := by decide +kernel
theorem dX7_peek_16 : decode cX7_peek 16 = .ok (.getfield 67, 3) := by decide +kernel
theorem dX7_peek_19 : decode cX7_peek 19 = .ok (.iaload, 1) := by decide +kernel
theorem dX7_peek_20 : decode cX7_peek 20 = .ok (.bipush 32, 2) := by decide +kernel
theorem dX7_peek_22 : decode cX7_peek 22 = .ok (.if_icmp .ne 16, 3) := by decide +kernel
theorem dX7_peek_25 : decode cX7_peek 25 = .ok (.aload_n 0, 1) := by decide +kernel
theorem dX7_peek_26 : decode cX7_peek 26 = .ok (.dup, 1) := by decide +kernel
theorem dX7_peek_27 : decode cX7_peek 27 = .ok (.getfield 67, 3) := by decide +kernel
theorem dX7_peek_30 : decode cX7_peek 30 = .ok (.iconst 1, 1) := by decide +kernel
theorem dX7_peek_31 : decode cX7_peek 31 = .ok (.iadd, 1) := by decide +kernel
theorem dX7_peek_32 : decode cX7_peek 32 = .ok (.putfield 67, 3) := by decide +kernel
theorem dX7_peek_35 : decode cX7_peek 35 = .ok (.goto (-35), 3) := by decide +kernel
theorem dX7_peek_38 : decode cX7_peek 38 = .ok (.aload_n 0, 1) := by decide +kernel
theorem dX7_peek_39 : decode cX7_peek 39 = .ok (.getfield 67, 3) := by decide +kernel
theorem dX7_peek_42 : decode cX7_peek 42 = .ok (.aload_n 0, 1) := by decide +kernel
theorem dX7_peek_43 : decode cX7_peek 43 = .ok (.getfield 63, 3) := by decide +kernel
theorem dX7_peek_46 : decode cX7_peek 46 = .ok (.if_icmp .ge 15, 3) := by decide +kernel
theorem dX7_peek_49 : decode cX7_peek 49 = .ok (.aload_n 0, 1) := by decide +kernel
theorem dX7_peek_50 : decode cX7_peek 50 = .ok (.getfield 20, 3) := by decide +kernel
theorem dX7_peek_53 : decode cX7_peek 53 = .ok (.aload_n 0, 1) := by decide +kernel
theorem dX7_peek_54 : decode cX7_peek 54 = .ok (.getfield 67, 3) := by decide +kernel
theorem dX7_peek_57 : decode cX7_peek 57 = .ok (.iaload, 1) := by decide +kernel
theorem dX7_peek_58 : decode cX7_peek 58 = .ok (.goto 4, 3) := by decide +kernel
theorem dX7_peek_61 : decode cX7_peek 61 = .ok (.iconst 0, 1) := by decide +kernel
theorem dX7_peek_62 : decode cX7_peek 62 = .ok (.ireturn, 1) := by decide +kernel
set_option maxRecDepth 20000 in
theorem ggX7_isSign_X7_peek : GoodIn wsX7_isSign wsX7_peek := goodIn_r _ [6, 1, 7, 8, 9, 10, 11, 12, 13, 14, 15, 16, 17, 18, 19, 20, 21, 22, 23, 24, 25, 26, 27] (by decide +kernel) (by decide +kernel)
set_option maxRecDepth 20000 in
theorem gX7_isSign_X7_peek : GoodIn wsX7_isSign (wsV RX7 70 RX7 yX7_peek wsX7_peek) := goodIn_app (goodIn_of _ (by decide +kernel)) ggX7_isSign_X7_peek
theorem dX7_isSign_0 : decode cX7_isSign 0 = .ok (.aload_n 0, 1) := by decide +kernel
theorem dX7_isSign_1 : decode cX7_isSign 1 = .ok (.invokevirtual 70, 3) := by decide +kernel
theorem dX7_isSign_4 : decode cX7_isSign 4 = .ok (.iload_n 1, 1) := by decide +kernel
theorem dX7_isSign_5 : decode cX7_isSign 5 = .ok (.if_icmp .eq 5, 3) := by decide +kernel
theorem dX7_isSign_8 : decode cX7_isSign 8 = .ok (.iconst 0, 1) := by decide +kernel
theorem dX7_isSign_9 : decode cX7_isSign 9 = .ok (.ireturn, 1) := by decide +kernel
theorem dX7_isSign_10 : decode cX7_isSign 10 = .ok (.aload_n 0, 1) := by decide +kernel
theorem dX7_isSign_11 : decode cX7_isSign 11 = .ok (.dup, 1) := by decide +kernel
theorem dX7_isSign_12 : decode cX7_isSign 12 = .ok (.getfield 67, 3) := by decide +kernel
theorem dX7_isSign_15 : decode cX7_isSign 15 = .ok (.iconst 1, 1) := by decide +kernel
theorem dX7_isSign_16 : decode cX7_isSign 16 = .ok (.iadd, 1) := by decide +kernel
theorem dX7_isSign_17 : decode cX7_isSign 17 = .ok (.putfield 67, 3) := by decide +kernel
theorem dX7_isSign_20 : decode cX7_isSign 20 = .ok (.iconst 1, 1) := by decide +kernel
theorem dX7_isSign_21 : decode cX7_isSign 21 = .ok (.ireturn, 1) := by decide +kernel
set_option maxRecDepth 20000 in
theorem ggX7_isDigit_X7_peek : GoodIn wsX7_isDigit wsX7_peek := goodIn_r _ [7, 2, 8, 9, 13, 14, 15, 16, 17, 18, 19, 20, 21, 22, 23, 24, 25, 26, 27, 28, 29, 30, 31] (by decide +kernel) (by decide +kernel)
set_option maxRecDepth 20000 in
theorem gX7_isDigit_X7_peek : GoodIn wsX7_isDigit (wsV RX7 70 RX7 yX7_peek wsX7_peek) := goodIn_app (goodIn_of _ (by decide +kernel)) ggX7_isDigit_X7_peek
set_option maxRecDepth 20000 in
theorem ggX7_isDigit_X7_in : GoodIn wsX7_isDigit wsX7_in := goodIn_r _ [12] (by decide +kernel) (by decide +kernel)
set_option maxRecDepth 20000 in
theorem gX7_isDigit_X7_in : GoodIn wsX7_isDigit (va_wsS RX7 41 yX7_in wsX7_in) := goodIn_app (goodIn_of _ (by decide +kernel)) ggX7_isDigit_X7_in
theorem dX7_isDigit_0 : decode cX7_isDigit 0 = .ok (.aload_n 0, 1) := by decide +kernel
theorem dX7_isDigit_1 : decode cX7_isDigit 1 = .ok (.aload_n 0, 1) := by decide +kernel
theorem dX7_isDigit_2 : decode cX7_isDigit 2 = .ok (.invokevirtual 70, 3) := by decide +kernel
theorem dX7_isDigit_5 : decode cX7_isDigit 5 = .ok (.bipush 48, 2) := by decide +kernel
theorem dX7_isDigit_7 : decode cX7_isDigit 7 = .ok (.isub, 1) := by decide +kernel
theorem dX7_isDigit_8 : decode cX7_isDigit 8 = .ok (.putfield 74, 3) := by decide +kernel
theorem dX7_isDigit_11 : decode cX7_isDigit 11 = .ok (.aload_n 0, 1) := by decide +kernel
theorem dX7_isDigit_12 : decode cX7_isDigit 12 = .ok (.getfield 74, 3) := by decide +kernel
theorem dX7_isDigit_15 : decode cX7_isDigit 15 = .ok (.iload_n 1, 1) := by decide +kernel
theorem dX7_isDigit_16 : decode cX7_isDigit 16 = .ok (.iload_n 2, 1) := by decide +kernel
theorem dX7_isDigit_17 : decode cX7_isDigit 17 = .ok (.invokestatic 41, 3) := by decide +kernel
theorem dX7_isDigit_20 : decode cX7_isDigit 20 = .ok (.ifCond .ne 5, 3) := by decide +kernel
theorem dX7_isDigit_23 : decode cX7_isDigit 23 = .ok (.iconst 0, 1) := by decide +kernel
theorem dX7_isDigit_24 : decode cX7_isDigit 24 = .ok (.ireturn, 1) := by decide +kernel
theorem dX7_isDigit_25 : decode cX7_isDigit 25 = .ok (.aload_n 0, 1) := by decide +kernel
theorem dX7_isDigit_26 : decode cX7_isDigit 26 = .ok (.dup, 1) := by decide +kernel
theorem dX7_isDigit_27 : decode cX7_isDigit 27 = .ok (.getfield 67, 3) := by decide +kernel
theorem dX7_isDigit_30 : decode cX7_isDigit 30 = .ok (.iconst 1, 1) := by decide +kernel
theorem dX7_isDigit_31 : decode cX7_isDigit 31 = .ok (.iadd, 1) := by decide +kernel
theorem dX7_isDigit_32 : decode cX7_isDigit 32 = .ok (.putfield 67, 3) := by decide +kernel
theorem dX7_isDigit_35 : decode cX7_isDigit 35 = .ok (.iconst 1, 1) := by decide +kernel
theorem dX7_isDigit_36 : decode cX7_isDigit 36 = .ok (.ireturn, 1) := by decide +kernel
set_option maxRecDepth 20000 in
theorem ggX7_isNumber_X7_isDigit : GoodIn wsX7_isNumber wsX7_isDigit := goodIn_r _ [9, 2, 1, 10, 11, 12, 8, 13, 3, 4, 14, 15, 16, 17, 18, 19, 20, 21, 22, 23, 24, 25, 26, 27, 28, 29, 30, 31, 32, 33, 34, 35] (by decide +kernel) (by decide +kernel)
set_option maxRecDepth 20000 in
theorem gX7_isNumber_X7_isDigit : GoodIn wsX7_isNumber (wsV RX7 77 RX7 yX7_isDigit wsX7_isDigit) := goodIn_app (goodIn_of _ (by decide +kernel)) ggX7_isNumber_X7_isDigit
set_option maxRecDepth 20000 in
theorem ggX7_isNumber_X7_in : GoodIn wsX7_isNumber wsX7_in := goodIn_r _ [16] (by decide +kernel) (by decide +kernel)
set_option maxRecDepth 20000 in
theorem gX7_isNumber_X7_in : GoodIn wsX7_isNumber (va_wsS RX7 41 yX7_in wsX7_in) := goodIn_app (goodIn_of _ (by decide +kernel)) ggX7_isNumber_X7_in
theorem dX7_isNumber_0 : decode cX7_isNumber 0 = .ok (.aload_n 0, 1) := by decide +kernel
theorem dX7_isNumber_1 : decode cX7_isNumber 1 = .ok (.iconst 0, 1) := by decide +kernel
theorem dX7_isNumber_2 : decode cX7_isNumber 2 = .ok (.bipush 9, 2) := by decide +kernel
theorem dX7_isNumber_4 : decode cX7_isNumber 4 = .ok (.invokevirtual 77, 3) := by decide +kernel
theorem dX7_isNumber_7 : decode cX7_isNumber 7 = .ok (.ifCond .ne 5, 3) := by decide +kernel
theorem dX7_isNumber_10 : decode cX7_isNumber 10 = .ok (.iconst 0, 1) := by decide +kernel
theorem dX7_isNumber_11 : decode cX7_isNumber 11 = .ok (.ireturn, 1) := by decide +kernel
theorem dX7_isNumber_12 : decode cX7_isNumber 12 = .ok (.aload_n 0, 1) := by decide +kernel
theorem dX7_isNumber_13 : decode cX7_isNumber 13 = .ok (.getfield 67, 3) := by decide +kernel
theorem dX7_isNumber_16 : decode cX7_isNumber 16 = .ok (.iconst 1, 1) := by decide +kernel
theorem dX7_isNumber_17 : decode cX7_isNumber 17 = .ok (.isub, 1) := by decide +kernel
theorem dX7_isNumber_18 : decode cX7_isNumber 18 = .ok (.istore_n 3, 1) := by decide +kernel
theorem dX7_isNumber_19 : decode cX7_isNumber 19 = .ok (.aload_n 0, 1) := by decide +kernel
theorem dX7_isNumber_20 : decode cX7_isNumber 20 = .ok (.getfield 74, 3) := by decide +kernel
theorem dX7_isNumber_23 : decode cX7_isNumber 23 = .ok (.istore 4, 2) := by decide +kernel
theorem dX7_isNumber_25 : decode cX7_isNumber 25 = .ok (.aload_n 0, 1) := by decide +kernel
theorem dX7_isNumber_26 : decode cX7_isNumber 26 = .ok (.getfield 67, 3) := by decide +kernel
theorem dX7_isNumber_29 : decode cX7_isNumber 29 = .ok (.aload_n 0, 1) := by decide +kernel
theorem dX7_isNumber_30 : decode cX7_isNumber 30 = .ok (.getfield 63, 3) := by decide +kernel
theorem dX7_isNumber_33 : decode cX7_isNumber 33 = .ok (.if_icmp .ge 52, 3) := by decide +kernel
theorem dX7_isNumber_36 : decode cX7_isNumber 36 = .ok (.aload_n 0, 1) := by decide +kernel
theorem dX7_isNumber_37 : decode cX7_isNumber 37 = .ok (.getfield 20, 3) := by decide +kernel
theorem dX7_isNumber_40 : decode cX7_isNumber 40 = .ok (.aload_n 0, 1) := by decide +kernel
theorem dX7_isNumber_41 : decode cX7_isNumber 41 = .ok (.getfield 67, 3) := by decide +kernel
theorem dX7_isNumber_44 : decode cX7_isNumber 44 = .ok (.iaload, 1) := by decide +kernel
theorem dX7_isNumber_45 : decode cX7_isNumber 45 = .ok (.bipush 48, 2) := by decide +kernel
theorem dX7_isNumber_47 : decode cX7_isNumber 47 = .ok (.bipush 57, 2) := by decide +kernel
theorem dX7_isNumber_49 : decode cX7_isNumber 49 = .ok (.invokestatic 41, 3) := by decide +kernel
theorem dX7_isNumber_52 : decode cX7_isNumber 52 = .ok (.ifCond .eq 33, 3) := by decide +kernel
theorem dX7_isNumber_55 : decode cX7_isNumber 55 = .ok (.bipush 10, 2) := by decide +kernel
theorem dX7_isNumber_57 : decode cX7_isNumber 57 = .ok (.iload 4, 2) := by decide +kernel
theorem dX7_isNumber_59 : decode cX7_isNumber 59 = .ok (.imul, 1) := by decide +kernel
theorem dX7_isNumber_60 : decode cX7_isNumber 60 = .ok (.aload_n 0, 1) := by decide +kernel
theorem dX7_isNumber_61 : decode cX7_isNumber 61 = .ok (.getfield 20, 3) := by decide +kernel
theorem dX7_isNumber_64 : decode cX7_isNumber 64 = .ok (.aload_n 0, 1) := by decide +kernel
theorem dX7_isNumber_65 : decode cX7_isNumber 65 = .ok (.getfield 67, 3) := by decide +kernel
theorem dX7_isNumber_68 : decode cX7_isNumber 68 = .ok (.iaload, 1) := by decide +kernel
theorem dX7_isNumber_69 : decode cX7_isNumber 69 = .ok (.iadd, 1) := by decide +kernel
theorem dX7_isNumber_70 : decode cX7_isNumber 70 = .ok (.bipush 48, 2) := by decide +kernel
theorem dX7_isNumber_72 : decode cX7_isNumber 72 = .ok (.isub, 1) := by decide +kernel
theorem dX7_isNumber_73 : decode cX7_isNumber 73 = .ok (.istore 4, 2) := by decide +kernel
theorem dX7_isNumber_75 : decode cX7_isNumber 75 = .ok (.aload_n 0, 1) := by decide +kernel
theorem dX7_isNumber_76 : decode cX7_isNumber 76 = .ok (.dup, 1) := by decide +kernel
theorem dX7_isNumber_77 : decode cX7_isNumber 77 = .ok (.getfield 67, 3) := by decide +kernel
theorem dX7_isNumber_80 : decode cX7_isNumber 80 = .ok (.iconst 1, 1) := by decide +kernel
theorem dX7_isNumber_81 : decode cX7_isNumber 81 = .ok (.iadd, 1) := by decide +kernel
theorem dX7_isNumber_82 : decode cX7_isNumber 82 = .ok (.putfield 67, 3) := by decide +kernel
theorem dX7_isNumber_85 : decode cX7_isNumber 85 = .ok (.aload_n 0, 1) := by decide +kernel
theorem dX7_isNumber_86 : decode cX7_isNumber 86 = .ok (.iload 4, 2) := by decide +kernel
theorem dX7_isNumber_88 : decode cX7_isNumber 88 = .ok (.putfield 74, 3) := by decide +kernel
theorem dX7_isNumber_91 : decode cX7_isNumber 91 = .ok (.iload 4, 2) := by decide +kernel
theorem dX7_isNumber_93 : decode cX7_isNumber 93 = .ok (.iload_n 1, 1) := by decide +kernel
theorem dX7_isNumber_94 : decode cX7_isNumber 94 = .ok (.iload_n 2, 1) := by decide +kernel
theorem dX7_isNumber_95 : decode cX7_isNumber 95 = .ok (.invokestatic 41, 3) := by decide +kernel
theorem dX7_isNumber_98 : decode cX7_isNumber 98 = .ok (.ifCond .ne 10, 3) := by decide +kernel
theorem dX7_isNumber_101 : decode cX7_isNumber 101 = .ok (.aload_n 0, 1) := by decide +kernel
theorem dX7_isNumber_102 : decode cX7_isNumber 102 = .ok (.iload_n 3, 1) := by decide +kernel
theorem dX7_isNumber_103 : decode cX7_isNumber 103 = .ok (.putfield 67, 3) := by decide +kernel
theorem dX7_isNumber_106 : decode cX7_isNumber 106 = .ok (.iconst 0, 1) := by decide +kernel
theorem dX7_isNumber_107 : decode cX7_isNumber 107 = .ok (.ireturn, 1) := by decide +kernel
theorem dX7_isNumber_108 : decode cX7_isNumber 108 = .ok (.aload_n 0, 1) := by decide +kernel
theorem dX7_isNumber_109 : decode cX7_isNumber 109 = .ok (.getfield 67, 3) := by decide +kernel
theorem dX7_isNumber_112 : decode cX7_isNumber 112 = .ok (.aload_n 0, 1) := by decide +kernel
theorem dX7_isNumber_113 : decode cX7_isNumber 113 = .ok (.getfield 63, 3) := by decide +kernel
theorem dX7_isNumber_116 : decode cX7_isNumber 116 = .ok (.if_icmp .eq 22, 3) := by decide +kernel
theorem dX7_isNumber_119 : decode cX7_isNumber 119 = .ok (.aload_n 0, 1) := by decide +kernel
theorem dX7_isNumber_120 : decode cX7_isNumber 120 = .ok (.getfield 20, 3) := by decide +kernel
theorem dX7_isNumber_123 : decode cX7_isNumber 123 = .ok (.aload_n 0, 1) := by decide +kernel
theorem dX7_isNumber_124 : decode cX7_isNumber 124 = .ok (.getfield 67, 3) := by decide +kernel
theorem dX7_isNumber_127 : decode cX7_isNumber 127 = .ok (.iaload, 1) := by decide +kernel
theorem dX7_isNumber_128 : decode cX7_isNumber 128 = .ok (.bipush 48, 2) := by decide +kernel
theorem dX7_isNumber_130 : decode cX7_isNumber 130 = .ok (.bipush 57, 2) := by decide +kernel
theorem dX7_isNumber_132 : decode cX7_isNumber 132 = .ok (.invokestatic 41, 3) := by decide +kernel
theorem dX7_isNumber_135 : decode cX7_isNumber 135 = .ok (.ifCond .ne 7, 3) := by decide +kernel
theorem dX7_isNumber_138 : decode cX7_isNumber 138 = .ok (.iconst 1, 1) := by decide +kernel
theorem dX7_isNumber_139 : decode cX7_isNumber 139 = .ok (.goto 4, 3) := by decide +kernel
theorem dX7_isNumber_142 : decode cX7_isNumber 142 = .ok (.iconst 0, 1) := by decide +kernel
theorem dX7_isNumber_143 : decode cX7_isNumber 143 = .ok (.ireturn, 1) := by decide +kernel
theorem dX7_kindBy_0 : decode cX7_kindBy 0 = .ok (.iload_n 0, 1) := by decide +kernel
theorem dX7_kindBy_1 : decode cX7_kindBy 1 = .ok (.bipush 109, 2) := by decide +kernel
theorem dX7_kindBy_3 : decode cX7_kindBy 3 = .ok (.if_icmp .ne 7, 3) := by decide +kernel
theorem dX7_kindBy_6 : decode cX7_kindBy 6 = .ok (.iconst 0, 1) := by decide +kernel
theorem dX7_kindBy_7 : decode cX7_kindBy 7 = .ok (.goto 44, 3) := by decide +kernel
theorem dX7_kindBy_10 : decode cX7_kindBy 10 = .ok (.iload_n 0, 1) := by decide +kernel
theorem dX7_kindBy_11 : decode cX7_kindBy 11 = .ok (.bipush 99, 2) := by decide +kernel
theorem dX7_kindBy_13 : decode cX7_kindBy 13 = .ok (.if_icmp .ne 7, 3) := by decide +kernel
theorem dX7_kindBy_16 : decode cX7_kindBy 16 = .ok (.iconst 1, 1) := by decide +kernel
theorem dX7_kindBy_17 : decode cX7_kindBy 17 = .ok (.goto 34, 3) := by decide +kernel
theorem dX7_kindBy_20 : decode cX7_kindBy 20 = .ok (.iload_n 0, 1) := by decide +kernel
theorem dX7_kindBy_21 : decode cX7_kindBy 21 = .ok (.bipush 115, 2) := by decide +kernel
theorem dX7_kindBy_23 : decode cX7_kindBy 23 = .ok (.if_icmp .ne 7, 3) := by decide +kernel
theorem dX7_kindBy_26 : decode cX7_kindBy 26 = .ok (.iconst 2, 1) := by decide +kernel
theorem dX7_kindBy_27 : decode cX7_kindBy 27 = .ok (.goto 24, 3) := by decide +kernel
theorem dX7_kindBy_30 : decode cX7_kindBy 30 = .ok (.iload_n 0, 1) := by decide +kernel
theorem dX7_kindBy_31 : decode cX7_kindBy 31 = .ok (.bipush 103, 2) := by decide +kernel
theorem dX7_kindBy_33 : decode cX7_kindBy 33 = .ok (.if_icmp .ne 7, 3) := by decide +kernel
theorem dX7_kindBy_36 : decode cX7_kindBy 36 = .ok (.iconst 3, 1) := by decide +kernel
theorem dX7_kindBy_37 : decode cX7_kindBy 37 = .ok (.goto 14, 3) := by decide +kernel
theorem dX7_kindBy_40 : decode cX7_kindBy 40 = .ok (.iload_n 0, 1) := by decide +kernel
theorem dX7_kindBy_41 : decode cX7_kindBy 41 = .ok (.bipush 108, 2) := by decide +kernel
theorem dX7_kindBy_43 : decode cX7_kindBy 43 = .ok (.if_icmp .ne 7, 3) := by decide +kernel
theorem dX7_kindBy_46 : decode cX7_kindBy 46 = .ok (.iconst 4, 1) := by decide +kernel
theorem dX7_kindBy_47 : decode cX7_kindBy 47 = .ok (.goto 4, 3) := by decide +kernel
theorem dX7_kindBy_50 : decode cX7_kindBy 50 = .ok (.iconst (-1), 1) := by decide +kernel
theorem dX7_kindBy_51 : decode cX7_kindBy 51 = .ok (.ireturn, 1) := by decide +kernel
set_option maxRecDepth 20000 in
theorem ggX7_isFieldItem_X7_peek : GoodIn wsX7_isFieldItem wsX7_peek := goodIn_r _ [8, 1, 9, 10, 25, 26, 27, 28, 29, 30, 31, 32, 33, 34, 35, 36, 37, 38, 39, 40, 41, 42, 43] (by decide +kernel) (by decide +kernel)
set_option maxRecDepth 20000 in
theorem gX7_isFieldItem_X7_peek : GoodIn wsX7_isFieldItem (wsV RX7 70 RX7 yX7_peek wsX7_peek) := goodIn_app (goodIn_of _ (by decide +kernel)) ggX7_isFieldItem_X7_peek
set_option maxRecDepth 20000 in
theorem ggX7_isFieldItem_X7_kindBy : GoodIn wsX7_isFieldItem wsX7_kindBy := goodIn_r _ [13] (by decide +kernel) (by decide +kernel)
set_option maxRecDepth 20000 in
theorem gX7_isFieldItem_X7_kindBy : GoodIn wsX7_isFieldItem (va_wsS RX7 81 yX7_kindBy wsX7_kindBy) := goodIn_app (goodIn_of _ (by decide +kernel)) ggX7_isFieldItem_X7_kindBy
set_option maxRecDepth 20000 in
theorem ggX7_isFieldItem_X7_isDigit : GoodIn wsX7_isFieldItem wsX7_isDigit := goodIn_r _ [17, 3, 1, 4, 5, 6, 7, 8, 9, 10, 18, 19, 20, 25, 26, 27, 28, 29, 30, 31, 32, 33, 34, 35, 36, 37, 38, 39, 40, 41, 42, 43] (by decide +kernel) (by decide +kernel)
set_option maxRecDepth 20000 in
theorem gX7_isFieldItem_X7_isDigit : GoodIn wsX7_isFieldItem (wsV RX7 77 RX7 yX7_isDigit wsX7_isDigit) := goodIn_app (goodIn_of _ (by decide +kernel)) ggX7_isFieldItem_X7_isDigit
set_option maxRecDepth 20000 in
theorem ggX7_isFieldItem_X7_isSign : GoodIn wsX7_isFieldItem wsX7_isSign := goodIn_r _ [24, 1, 4, 5, 6, 7, 8, 9, 10, 25, 26, 27, 28, 29, 30, 31, 32, 33, 34, 35, 36, 37, 38, 39, 40, 41, 42, 43] (by decide +kernel) (by decide +kernel)
set_option maxRecDepth 20000 in
theorem gX7_isFieldItem_X7_isSign : GoodIn wsX7_isFieldItem (wsV RX7 85 RX7 yX7_isSign wsX7_isSign) := goodIn_app (goodIn_of _ (by decide +kernel)) ggX7_isFieldItem_X7_isSign
theorem dX7_isFieldItem_0 : decode cX7_isFieldItem 0 = .ok (.aload_n 0, 1) := by decide +kernel
theorem dX7_isFieldItem_1 : decode cX7_isFieldItem 1 = .ok (.invokevirtual 70, 3) := by decide +kernel
theorem dX7_isFieldItem_4 : decode cX7_isFieldItem 4 = .ok (.invokestatic 81, 3) := by decide +kernel
theorem dX7_isFieldItem_7 : decode cX7_isFieldItem 7 = .ok (.istore_n 2, 1) := by decide +kernel
theorem dX7_isFieldItem_8 : decode cX7_isFieldItem 8 = .ok (.iload_n 2, 1) := by decide +kernel
theorem dX7_isFieldItem_9 : decode cX7_isFieldItem 9 = .ok (.ifCond .ge 5, 3) := by decide +kernel
theorem dX7_isFieldItem_12 : decode cX7_isFieldItem 12 = .ok (.iconst 0, 1) := by decide +kernel
theorem dX7_isFieldItem_13 : decode cX7_isFieldItem 13 = .ok (.ireturn, 1) := by decide +kernel
theorem dX7_isFieldItem_14 : decode cX7_isFieldItem 14 = .ok (.aload_n 0, 1) := by decide +kernel
theorem dX7_isFieldItem_15 : decode cX7_isFieldItem 15 = .ok (.dup, 1) := by decide +kernel
theorem dX7_isFieldItem_16 : decode cX7_isFieldItem 16 = .ok (.getfield 67, 3) := by decide +kernel
theorem dX7_isFieldItem_19 : decode cX7_isFieldItem 19 = .ok (.iconst 1, 1) := by decide +kernel
theorem dX7_isFieldItem_20 : decode cX7_isFieldItem 20 = .ok (.iadd, 1) := by decide +kernel
theorem dX7_isFieldItem_21 : decode cX7_isFieldItem 21 = .ok (.putfield 67, 3) := by decide +kernel
theorem dX7_isFieldItem_24 : decode cX7_isFieldItem 24 = .ok (.aload_n 0, 1) := by decide +kernel
theorem dX7_isFieldItem_25 : decode cX7_isFieldItem 25 = .ok (.getfield 29, 3) := by decide +kernel
theorem dX7_isFieldItem_28 : decode cX7_isFieldItem 28 = .ok (.bipush 17, 2) := by decide +kernel
theorem dX7_isFieldItem_30 : decode cX7_isFieldItem 30 = .ok (.iload_n 1, 1) := by decide +kernel
theorem dX7_isFieldItem_31 : decode cX7_isFieldItem 31 = .ok (.iadd, 1) := by decide +kernel
theorem dX7_isFieldItem_32 : decode cX7_isFieldItem 32 = .ok (.iload_n 2, 1) := by decide +kernel
theorem dX7_isFieldItem_33 : decode cX7_isFieldItem 33 = .ok (.iastore, 1) := by decide +kernel
theorem dX7_isFieldItem_34 : decode cX7_isFieldItem 34 = .ok (.aload_n 0, 1) := by decide +kernel
theorem dX7_isFieldItem_35 : decode cX7_isFieldItem 35 = .ok (.getfield 29, 3) := by decide +kernel
theorem dX7_isFieldItem_38 : decode cX7_isFieldItem 38 = .ok (.iconst 3, 1) := by decide +kernel
theorem dX7_isFieldItem_39 : decode cX7_isFieldItem 39 = .ok (.iload_n 1, 1) := by decide +kernel
theorem dX7_isFieldItem_40 : decode cX7_isFieldItem 40 = .ok (.iadd, 1) := by decide +kernel
theorem dX7_isFieldItem_41 : decode cX7_isFieldItem 41 = .ok (.aload_n 0, 1) := by decide +kernel
theorem dX7_isFieldItem_42 : decode cX7_isFieldItem 42 = .ok (.iconst 0, 1) := by decide +kernel
theorem dX7_isFieldItem_43 : decode cX7_isFieldItem 43 = .ok (.bipush 9, 2) := by decide +kernel
theorem dX7_isFieldItem_45 : decode cX7_isFieldItem 45 = .ok (.invokevirtual 77, 3) := by decide +kernel
theorem dX7_isFieldItem_48 : decode cX7_isFieldItem 48 = .ok (.ifCond .eq 10, 3) := by decide +kernel
theorem dX7_isFieldItem_51 : decode cX7_isFieldItem 51 = .ok (.aload_n 0, 1) := by decide +kernel
theorem dX7_isFieldItem_52 : decode cX7_isFieldItem 52 = .ok (.getfield 74, 3) := by decide +kernel
theorem dX7_isFieldItem_55 : decode cX7_isFieldItem 55 = .ok (.goto 4, 3) := by decide +kernel
theorem dX7_isFieldItem_58 : decode cX7_isFieldItem 58 = .ok (.iconst 0, 1) := by decide +kernel
theorem dX7_isFieldItem_59 : decode cX7_isFieldItem 59 = .ok (.iastore, 1) := by decide +kernel
theorem dX7_isFieldItem_60 : decode cX7_isFieldItem 60 = .ok (.aload_n 0, 1) := by decide +kernel
theorem dX7_isFieldItem_61 : decode cX7_isFieldItem 61 = .ok (.bipush 35, 2) := by decide +kernel
theorem dX7_isFieldItem_63 : decode cX7_isFieldItem 63 = .ok (.invokevirtual 85, 3) := by decide +kernel
theorem dX7_isFieldItem_66 : decode cX7_isFieldItem 66 = .ok (.ifCond .eq 27, 3) := by decide +kernel
theorem dX7_isFieldItem_69 : decode cX7_isFieldItem 69 = .ok (.aload_n 0, 1) := by decide +kernel
theorem dX7_isFieldItem_70 : decode cX7_isFieldItem 70 = .ok (.iconst 1, 1) := by decide +kernel
theorem dX7_isFieldItem_71 : decode cX7_isFieldItem 71 = .ok (.iconst 4, 1) := by decide +kernel
theorem dX7_isFieldItem_72 : decode cX7_isFieldItem 72 = .ok (.invokevirtual 77, 3) := by decide +kernel
theorem dX7_isFieldItem_75 : decode cX7_isFieldItem 75 = .ok (.ifCond .ne 5, 3) := by decide +kernel
theorem dX7_isFieldItem_78 : decode cX7_isFieldItem 78 = .ok (.iconst 0, 1) := by decide +kernel
theorem dX7_isFieldItem_79 : decode cX7_isFieldItem 79 = .ok (.ireturn, 1) := by decide +kernel
theorem dX7_isFieldItem_80 : decode cX7_isFieldItem 80 = .ok (.aload_n 0, 1) := by decide +kernel
theorem dX7_isFieldItem_81 : decode cX7_isFieldItem 81 = .ok (.getfield 29, 3) := by decide +kernel
theorem dX7_isFieldItem_84 : decode cX7_isFieldItem 84 = .ok (.bipush 10, 2) := by decide +kernel
theorem dX7_isFieldItem_86 : decode cX7_isFieldItem 86 = .ok (.iload_n 1, 1) := by decide +kernel
theorem dX7_isFieldItem_87 : decode cX7_isFieldItem 87 = .ok (.iadd, 1) := by decide +kernel
theorem dX7_isFieldItem_88 : decode cX7_isFieldItem 88 = .ok (.aload_n 0, 1) := by decide +kernel
theorem dX7_isFieldItem_89 : decode cX7_isFieldItem 89 = .ok (.getfield 74, 3) := by decide +kernel
theorem dX7_isFieldItem_92 : decode cX7_isFieldItem 92 = .ok (.iastore, 1) := by decide +kernel
theorem dX7_isFieldItem_93 : decode cX7_isFieldItem 93 = .ok (.iconst 1, 1) := by decide +kernel
theorem dX7_isFieldItem_94 : decode cX7_isFieldItem 94 = .ok (.ireturn, 1) := by decide +kernel
set_option maxRecDepth 20000 in
theorem ggX7_isClaimItem_X7_isDigit : GoodIn wsX7_isClaimItem wsX7_isDigit := goodIn_r _ [7, 1, 8, 9, 10, 11, 6, 12, 13, 14, 15, 16, 17, 29, 30, 31, 32, 33, 34, 35, 36, 37, 38, 39, 40, 41, 42, 43, 44, 45, 46, 47] (by decide +kernel) (by decide +kernel)
set_option maxRecDepth 20000 in
theorem gX7_isClaimItem_X7_isDigit : GoodIn wsX7_isClaimItem (wsV RX7 77 RX7 yX7_isDigit wsX7_isDigit) := goodIn_app (goodIn_of _ (by decide +kernel)) ggX7_isClaimItem_X7_isDigit
set_option maxRecDepth 20000 in
theorem ggX7_isClaimItem_X7_isSign : GoodIn wsX7_isClaimItem wsX7_isSign := goodIn_r _ [21, 8, 9, 10, 11, 6, 12, 13, 14, 29, 30, 31, 32, 33, 34, 35, 36, 37, 38, 39, 40, 41, 42, 43, 44, 45, 46, 47] (by decide +kernel) (by decide +kernel)
set_option maxRecDepth 20000 in
theorem gX7_isClaimItem_X7_isSign : GoodIn wsX7_isClaimItem (wsV RX7 85 RX7 yX7_isSign wsX7_isSign) := goodIn_app (goodIn_of _ (by decide +kernel)) ggX7_isClaimItem_X7_isSign
set_option maxRecDepth 20000 in
theorem ggX7_isClaimItem_X7_isNumber : GoodIn wsX7_isClaimItem wsX7_isNumber := goodIn_r _ [25, 8, 1, 13, 14, 3, 4, 5, 6, 7, 9, 10, 11, 12, 15, 16, 17, 29, 30, 31, 32, 33, 34, 35, 36, 37, 38, 39, 40, 41, 42, 43, 44, 45, 46, 47] (by decide +kernel) (by decide +kernel)
set_option maxRecDepth 20000 in
theorem gX7_isClaimItem_X7_isNumber : GoodIn wsX7_isClaimItem (wsV RX7 88 RX7 yX7_isNumber wsX7_isNumber) := goodIn_app (goodIn_of _ (by decide +kernel)) ggX7_isClaimItem_X7_isNumber
set_option maxRecDepth 20000 in
theorem ggX7_isClaimItem_X7_addClaim : GoodIn wsX7_isClaimItem wsX7_addClaim := goodIn_r _ [28] (by decide +kernel) (by decide +kernel)
set_option maxRecDepth 20000 in
theorem gX7_isClaimItem_X7_addClaim : GoodIn wsX7_isClaimItem (va_wsS RX7 49 yX7_addClaim wsX7_addClaim) := goodIn_app (goodIn_of _ (by decide +kernel)) ggX7_isClaimItem_X7_addClaim
theorem dX7_isClaimItem_0 : decode cX7_isClaimItem 0 = .ok (.aload_n 0, 1) := by decide +kernel
theorem dX7_isClaimItem_1 : decode cX7_isClaimItem 1 = .ok (.iconst 0, 1) := by decide +kernel
theorem dX7_isClaimItem_2 : decode cX7_isClaimItem 2 = .ok (.bipush 6, 2) := by decide +kernel
theorem dX7_isClaimItem_4 : decode cX7_isClaimItem 4 = .ok (.invokevirtual 77, 3) := by decide +kernel
theorem dX7_isClaimItem_7 : decode cX7_isClaimItem 7 = .ok (.ifCond .ne 5, 3) := by decide +kernel
theorem dX7_isClaimItem_10 : decode cX7_isClaimItem 10 = .ok (.iconst 0, 1) := by decide +kernel
theorem dX7_isClaimItem_11 : decode cX7_isClaimItem 11 = .ok (.ireturn, 1) := by decide +kernel
theorem dX7_isClaimItem_12 : decode cX7_isClaimItem 12 = .ok (.aload_n 0, 1) := by decide +kernel
theorem dX7_isClaimItem_13 : decode cX7_isClaimItem 13 = .ok (.getfield 74, 3) := by decide +kernel
theorem dX7_isClaimItem_16 : decode cX7_isClaimItem 16 = .ok (.istore_n 1, 1) := by decide +kernel
theorem dX7_isClaimItem_17 : decode cX7_isClaimItem 17 = .ok (.aload_n 0, 1) := by decide +kernel
theorem dX7_isClaimItem_18 : decode cX7_isClaimItem 18 = .ok (.bipush 45, 2) := by decide +kernel
theorem dX7_isClaimItem_20 : decode cX7_isClaimItem 20 = .ok (.invokevirtual 85, 3) := by decide +kernel
theorem dX7_isClaimItem_23 : decode cX7_isClaimItem 23 = .ok (.ifCond .eq 13, 3) := by decide +kernel
theorem dX7_isClaimItem_26 : decode cX7_isClaimItem 26 = .ok (.aload_n 0, 1) := by decide +kernel
theorem dX7_isClaimItem_27 : decode cX7_isClaimItem 27 = .ok (.iload_n 1, 1) := by decide +kernel
theorem dX7_isClaimItem_28 : decode cX7_isClaimItem 28 = .ok (.bipush 6, 2) := by decide +kernel
theorem dX7_isClaimItem_30 : decode cX7_isClaimItem 30 = .ok (.invokevirtual 77, 3) := by decide +kernel
theorem dX7_isClaimItem_33 : decode cX7_isClaimItem 33 = .ok (.ifCond .ne 5, 3) := by decide +kernel
theorem dX7_isClaimItem_36 : decode cX7_isClaimItem 36 = .ok (.iconst 0, 1) := by decide +kernel
theorem dX7_isClaimItem_37 : decode cX7_isClaimItem 37 = .ok (.ireturn, 1) := by decide +kernel
theorem dX7_isClaimItem_38 : decode cX7_isClaimItem 38 = .ok (.aload_n 0, 1) := by decide +kernel
theorem dX7_isClaimItem_39 : decode cX7_isClaimItem 39 = .ok (.getfield 74, 3) := by decide +kernel
theorem dX7_isClaimItem_42 : decode cX7_isClaimItem 42 = .ok (.istore_n 2, 1) := by decide +kernel
theorem dX7_isClaimItem_43 : decode cX7_isClaimItem 43 = .ok (.aload_n 0, 1) := by decide +kernel
theorem dX7_isClaimItem_44 : decode cX7_isClaimItem 44 = .ok (.bipush 61, 2) := by decide +kernel
theorem dX7_isClaimItem_46 : decode cX7_isClaimItem 46 = .ok (.invokevirtual 85, 3) := by decide +kernel
theorem dX7_isClaimItem_49 : decode cX7_isClaimItem 49 = .ok (.ifCond .eq 13, 3) := by decide +kernel
theorem dX7_isClaimItem_52 : decode cX7_isClaimItem 52 = .ok (.aload_n 0, 1) := by decide +kernel
theorem dX7_isClaimItem_53 : decode cX7_isClaimItem 53 = .ok (.iconst 1, 1) := by decide +kernel
theorem dX7_isClaimItem_54 : decode cX7_isClaimItem 54 = .ok (.bipush 99, 2) := by decide +kernel
theorem dX7_isClaimItem_56 : decode cX7_isClaimItem 56 = .ok (.invokevirtual 88, 3) := by decide +kernel
theorem dX7_isClaimItem_59 : decode cX7_isClaimItem 59 = .ok (.ifCond .ne 5, 3) := by decide +kernel
theorem dX7_isClaimItem_62 : decode cX7_isClaimItem 62 = .ok (.iconst 0, 1) := by decide +kernel
theorem dX7_isClaimItem_63 : decode cX7_isClaimItem 63 = .ok (.ireturn, 1) := by decide +kernel
theorem dX7_isClaimItem_64 : decode cX7_isClaimItem 64 = .ok (.aload_n 0, 1) := by decide +kernel
theorem dX7_isClaimItem_65 : decode cX7_isClaimItem 65 = .ok (.getfield 29, 3) := by decide +kernel
theorem dX7_isClaimItem_68 : decode cX7_isClaimItem 68 = .ok (.iload_n 1, 1) := by decide +kernel
theorem dX7_isClaimItem_69 : decode cX7_isClaimItem 69 = .ok (.iload_n 2, 1) := by decide +kernel
theorem dX7_isClaimItem_70 : decode cX7_isClaimItem 70 = .ok (.aload_n 0, 1) := by decide +kernel
theorem dX7_isClaimItem_71 : decode cX7_isClaimItem 71 = .ok (.getfield 74, 3) := by decide +kernel
theorem dX7_isClaimItem_74 : decode cX7_isClaimItem 74 = .ok (.invokestatic 49, 3) := by decide +kernel
theorem dX7_isClaimItem_77 : decode cX7_isClaimItem 77 = .ok (.pop, 1) := by decide +kernel
theorem dX7_isClaimItem_78 : decode cX7_isClaimItem 78 = .ok (.iconst 1, 1) := by decide +kernel
theorem dX7_isClaimItem_79 : decode cX7_isClaimItem 79 = .ok (.ireturn, 1) := by decide +kernel
set_option maxRecDepth 20000 in
theorem ggX7_isValley_X7_isDigit : GoodIn wsX7_isValley wsX7_isDigit := goodIn_r _ [7, 2, 8, 9, 10, 11, 6, 12, 13, 14, 15, 16, 17, 40, 41, 42, 43, 44, 45, 46, 47, 48, 49, 50, 51, 52, 53, 54, 55, 56, 57, 58] (by decide +kernel) (by decide +kernel)
set_option maxRecDepth 20000 in
theorem gX7_isValley_X7_isDigit : GoodIn wsX7_isValley (wsV RX7 77 RX7 yX7_isDigit wsX7_isDigit) := goodIn_app (goodIn_of _ (by decide +kernel)) ggX7_isValley_X7_isDigit
set_option maxRecDepth 20000 in
theorem ggX7_isValley_X7_isSign : GoodIn wsX7_isValley wsX7_isSign := goodIn_r _ [21, 8, 9, 10, 11, 6, 12, 13, 14, 40, 41, 42, 43, 44, 45, 46, 47, 48, 49, 50, 51, 52, 53, 54, 55, 56, 57, 58] (by decide +kernel) (by decide +kernel)
set_option maxRecDepth 20000 in
theorem gX7_isValley_X7_isSign : GoodIn wsX7_isValley (wsV RX7 85 RX7 yX7_isSign wsX7_isSign) := goodIn_app (goodIn_of _ (by decide +kernel)) ggX7_isValley_X7_isSign
set_option maxRecDepth 20000 in
theorem ggX7_isValley_X7_isFieldItem : GoodIn wsX7_isValley wsX7_isFieldItem := goodIn_r _ [25, 8, 1, 2, 9, 10, 11, 6, 12, 13, 14, 26, 27, 28, 3, 4, 5, 7, 15, 16, 17, 18, 19, 20, 21, 40, 41, 42, 43, 44, 45, 46, 47, 48, 49, 50, 51, 52, 53, 54, 55, 56, 57, 58] (by decide +kernel) (by decide +kernel)
set_option maxRecDepth 20000 in
theorem gX7_isValley_X7_isFieldItem : GoodIn wsX7_isValley (wsV RX7 91 RX7 yX7_isFieldItem wsX7_isFieldItem) := goodIn_app (goodIn_of _ (by decide +kernel)) ggX7_isValley_X7_isFieldItem
set_option maxRecDepth 20000 in
theorem ggX7_isValley_X7_isClaimItem : GoodIn wsX7_isValley wsX7_isClaimItem := goodIn_r _ [32, 2, 1, 3, 4, 5, 6, 7, 8, 9, 10, 11, 12, 13, 14, 15, 16, 17, 18, 19, 20, 21, 33, 34, 35, 36, 37, 38, 39, 40, 41, 42, 43, 44, 45, 46, 47, 48, 49, 50, 51, 52, 53, 54, 55, 56, 57, 58] (by decide +kernel) (by decide +kernel)
set_option maxRecDepth 20000 in
theorem gX7_isValley_X7_isClaimItem : GoodIn wsX7_isValley (wsV RX7 94 RX7 yX7_isClaimItem wsX7_isClaimItem) := goodIn_app (goodIn_of _ (by decide +kernel)) ggX7_isValley_X7_isClaimItem
set_option maxRecDepth 20000 in
theorem ggX7_isValley_X7_peek : GoodIn wsX7_isValley wsX7_peek := goodIn_r _ [12, 8, 13, 14, 40, 41, 42, 43, 44, 45, 46, 47, 48, 49, 50, 51, 52, 53, 54, 55, 56, 57, 58] (by decide +kernel) (by decide +kernel)
set_option maxRecDepth 20000 in
theorem gX7_isValley_X7_peek : GoodIn wsX7_isValley (wsV RX7 70 RX7 yX7_peek wsX7_peek) := goodIn_app (goodIn_of _ (by decide +kernel)) ggX7_isValley_X7_peek
theorem dX7_isValley_0 : decode cX7_isValley 0 = .ok (.aload_n 0, 1) := by decide +kernel
theorem dX7_isValley_1 : decode cX7_isValley 1 = .ok (.iconst 0, 1) := by decide +kernel
theorem dX7_isValley_2 : decode cX7_isValley 2 = .ok (.bipush 6, 2) := by decide +kernel
theorem dX7_isValley_4 : decode cX7_isValley 4 = .ok (.invokevirtual 77, 3) := by decide +kernel
theorem dX7_isValley_7 : decode cX7_isValley 7 = .ok (.ifCond .ne 5, 3) := by decide +kernel
theorem dX7_isValley_10 : decode cX7_isValley 10 = .ok (.iconst 0, 1) := by decide +kernel
theorem dX7_isValley_11 : decode cX7_isValley 11 = .ok (.ireturn, 1) := by decide +kernel
theorem dX7_isValley_12 : decode cX7_isValley 12 = .ok (.aload_n 0, 1) := by decide +kernel
theorem dX7_isValley_13 : decode cX7_isValley 13 = .ok (.getfield 29, 3) := by decide +kernel
theorem dX7_isValley_16 : decode cX7_isValley 16 = .ok (.iconst 2, 1) := by decide +kernel
theorem dX7_isValley_17 : decode cX7_isValley 17 = .ok (.aload_n 0, 1) := by decide +kernel
theorem dX7_isValley_18 : decode cX7_isValley 18 = .ok (.getfield 74, 3) := by decide +kernel
theorem dX7_isValley_21 : decode cX7_isValley 21 = .ok (.iastore, 1) := by decide +kernel
theorem dX7_isValley_22 : decode cX7_isValley 22 = .ok (.aload_n 0, 1) := by decide +kernel
theorem dX7_isValley_23 : decode cX7_isValley 23 = .ok (.bipush 58, 2) := by decide +kernel
theorem dX7_isValley_25 : decode cX7_isValley 25 = .ok (.invokevirtual 85, 3) := by decide +kernel
theorem dX7_isValley_28 : decode cX7_isValley 28 = .ok (.ifCond .ne 5, 3) := by decide +kernel
theorem dX7_isValley_31 : decode cX7_isValley 31 = .ok (.iconst 0, 1) := by decide +kernel
theorem dX7_isValley_32 : decode cX7_isValley 32 = .ok (.ireturn, 1) := by decide +kernel
theorem dX7_isValley_33 : decode cX7_isValley 33 = .ok (.iconst 0, 1) := by decide +kernel
theorem dX7_isValley_34 : decode cX7_isValley 34 = .ok (.istore_n 1, 1) := by decide +kernel
theorem dX7_isValley_35 : decode cX7_isValley 35 = .ok (.iload_n 1, 1) := by decide +kernel
theorem dX7_isValley_36 : decode cX7_isValley 36 = .ok (.bipush 7, 2) := by decide +kernel
theorem dX7_isValley_38 : decode cX7_isValley 38 = .ok (.if_icmp .ge 19, 3) := by decide +kernel
theorem dX7_isValley_41 : decode cX7_isValley 41 = .ok (.aload_n 0, 1) := by decide +kernel
theorem dX7_isValley_42 : decode cX7_isValley 42 = .ok (.iload_n 1, 1) := by decide +kernel
theorem dX7_isValley_43 : decode cX7_isValley 43 = .ok (.invokevirtual 91, 3) := by decide +kernel
theorem dX7_isValley_46 : decode cX7_isValley 46 = .ok (.ifCond .ne 5, 3) := by decide +kernel
theorem dX7_isValley_49 : decode cX7_isValley 49 = .ok (.iconst 0, 1) := by decide +kernel
theorem dX7_isValley_50 : decode cX7_isValley 50 = .ok (.ireturn, 1) := by decide +kernel
theorem dX7_isValley_51 : decode cX7_isValley 51 = .ok (.iinc 1 1, 3) := by decide +kernel
theorem dX7_isValley_54 : decode cX7_isValley 54 = .ok (.goto (-19), 3) := by decide +kernel
theorem dX7_isValley_57 : decode cX7_isValley 57 = .ok (.aload_n 0, 1) := by decide +kernel
theorem dX7_isValley_58 : decode cX7_isValley 58 = .ok (.bipush 59, 2) := by decide +kernel
theorem dX7_isValley_60 : decode cX7_isValley 60 = .ok (.invokevirtual 85, 3) := by decide +kernel
theorem dX7_isValley_63 : decode cX7_isValley 63 = .ok (.istore_n 1, 1) := by decide +kernel
theorem dX7_isValley_64 : decode cX7_isValley 64 = .ok (.iload_n 1, 1) := by decide +kernel
theorem dX7_isValley_65 : decode cX7_isValley 65 = .ok (.ifCond .eq 41, 3) := by decide +kernel
theorem dX7_isValley_68 : decode cX7_isValley 68 = .ok (.aload_n 0, 1) := by decide +kernel
theorem dX7_isValley_69 : decode cX7_isValley 69 = .ok (.invokevirtual 94, 3) := by decide +kernel
theorem dX7_isValley_72 : decode cX7_isValley 72 = .ok (.ifCond .ne 5, 3) := by decide +kernel
theorem dX7_isValley_75 : decode cX7_isValley 75 = .ok (.iconst 0, 1) := by decide +kernel
theorem dX7_isValley_76 : decode cX7_isValley 76 = .ok (.ireturn, 1) := by decide +kernel
theorem dX7_isValley_77 : decode cX7_isValley 77 = .ok (.aload_n 0, 1) := by decide +kernel
theorem dX7_isValley_78 : decode cX7_isValley 78 = .ok (.getfield 29, 3) := by decide +kernel
theorem dX7_isValley_81 : decode cX7_isValley 81 = .ok (.bipush 24, 2) := by decide +kernel
theorem dX7_isValley_83 : decode cX7_isValley 83 = .ok (.iaload, 1) := by decide +kernel
theorem dX7_isValley_84 : decode cX7_isValley 84 = .ok (.iconst 5, 1) := by decide +kernel
theorem dX7_isValley_85 : decode cX7_isValley 85 = .ok (.if_icmp .ge 16, 3) := by decide +kernel
theorem dX7_isValley_88 : decode cX7_isValley 88 = .ok (.aload_n 0, 1) := by decide +kernel
theorem dX7_isValley_89 : decode cX7_isValley 89 = .ok (.bipush 44, 2) := by decide +kernel
theorem dX7_isValley_91 : decode cX7_isValley 91 = .ok (.invokevirtual 85, 3) := by decide +kernel
theorem dX7_isValley_94 : decode cX7_isValley 94 = .ok (.ifCond .eq 7, 3) := by decide +kernel
theorem dX7_isValley_97 : decode cX7_isValley 97 = .ok (.iconst 1, 1) := by decide +kernel
theorem dX7_isValley_98 : decode cX7_isValley 98 = .ok (.goto 4, 3) := by decide +kernel
theorem dX7_isValley_101 : decode cX7_isValley 101 = .ok (.iconst 0, 1) := by decide +kernel
theorem dX7_isValley_102 : decode cX7_isValley 102 = .ok (.istore_n 1, 1) := by decide +kernel
theorem dX7_isValley_103 : decode cX7_isValley 103 = .ok (.goto (-39), 3) := by decide +kernel
theorem dX7_isValley_106 : decode cX7_isValley 106 = .ok (.aload_n 0, 1) := by decide +kernel
theorem dX7_isValley_107 : decode cX7_isValley 107 = .ok (.invokevirtual 70, 3) := by decide +kernel
theorem dX7_isValley_110 : decode cX7_isValley 110 = .ok (.ifCond .ne 7, 3) := by decide +kernel
theorem dX7_isValley_113 : decode cX7_isValley 113 = .ok (.iconst 1, 1) := by decide +kernel
theorem dX7_isValley_114 : decode cX7_isValley 114 = .ok (.goto 4, 3) := by decide +kernel
theorem dX7_isValley_117 : decode cX7_isValley 117 = .ok (.iconst 0, 1) := by decide +kernel
theorem dX7_isValley_118 : decode cX7_isValley 118 = .ok (.ireturn, 1) := by decide +kernel
set_option maxRecDepth 20000 in
theorem ggX7_valley_X7_isValley : GoodIn wsX7_valley wsX7_isValley := goodIn_r _ [9, 1, 10, 11, 12, 13, 8, 14, 3, 15, 16, 17, 18, 4, 19, 20, 21, 22, 23, 24, 25, 26, 27, 28, 29, 30, 31, 32, 33, 34, 35, 36, 37, 38, 39, 40, 41, 42, 43, 44, 48, 49, 50, 51, 52, 53, 54, 55, 56, 57, 58, 59, 60, 61, 62, 63, 64, 65, 66] (by decide +kernel) (by decide +kernel)
set_option maxRecDepth 20000 in
theorem gX7_valley_X7_isValley : GoodIn wsX7_valley (wsV RX7 98 RX7 yX7_isValley wsX7_isValley) := goodIn_app (goodIn_of _ (by decide +kernel)) ggX7_valley_X7_isValley
set_option maxRecDepth 20000 in
theorem ggX7_valley_X7_bring : GoodIn wsX7_valley wsX7_bring := goodIn_r _ [47] (by decide +kernel) (by decide +kernel)
set_option maxRecDepth 20000 in
theorem gX7_valley_X7_bring : GoodIn wsX7_valley (va_wsS RX7 101 yX7_bring wsX7_bring) := goodIn_app (goodIn_of _ (by decide +kernel)) ggX7_valley_X7_bring
theorem dX7_valley_0 : decode cX7_valley 0 = .ok (.iconst 0, 1) := by decide +kernel
theorem dX7_valley_1 : decode cX7_valley 1 = .ok (.istore_n 1, 1) := by decide +kernel
theorem dX7_valley_2 : decode cX7_valley 2 = .ok (.iload_n 1, 1) := by decide +kernel
theorem dX7_valley_3 : decode cX7_valley 3 = .ok (.sipush 177, 3) := by decide +kernel
theorem dX7_valley_6 : decode cX7_valley 6 = .ok (.if_icmp .ge 16, 3) := by decide +kernel
theorem dX7_valley_9 : decode cX7_valley 9 = .ok (.aload_n 0, 1) := by decide +kernel
theorem dX7_valley_10 : decode cX7_valley 10 = .ok (.getfield 29, 3) := by decide +kernel
theorem dX7_valley_13 : decode cX7_valley 13 = .ok (.iload_n 1, 1) := by decide +kernel
theorem dX7_valley_14 : decode cX7_valley 14 = .ok (.iconst 0, 1) := by decide +kernel
theorem dX7_valley_15 : decode cX7_valley 15 = .ok (.iastore, 1) := by decide +kernel
theorem dX7_valley_16 : decode cX7_valley 16 = .ok (.iinc 1 1, 3) := by decide +kernel
theorem dX7_valley_19 : decode cX7_valley 19 = .ok (.goto (-17), 3) := by decide +kernel
theorem dX7_valley_22 : decode cX7_valley 22 = .ok (.aload_n 0, 1) := by decide +kernel
theorem dX7_valley_23 : decode cX7_valley 23 = .ok (.getfield 29, 3) := by decide +kernel
theorem dX7_valley_26 : decode cX7_valley 26 = .ok (.iconst 1, 1) := by decide +kernel
theorem dX7_valley_27 : decode cX7_valley 27 = .ok (.aload_n 0, 1) := by decide +kernel
theorem dX7_valley_28 : decode cX7_valley 28 = .ok (.getfield 23, 3) := by decide +kernel
theorem dX7_valley_31 : decode cX7_valley 31 = .ok (.iconst 1, 1) := by decide +kernel
theorem dX7_valley_32 : decode cX7_valley 32 = .ok (.iaload, 1) := by decide +kernel
theorem dX7_valley_33 : decode cX7_valley 33 = .ok (.iastore, 1) := by decide +kernel
theorem dX7_valley_34 : decode cX7_valley 34 = .ok (.aload_n 0, 1) := by decide +kernel
theorem dX7_valley_35 : decode cX7_valley 35 = .ok (.iconst 0, 1) := by decide +kernel
theorem dX7_valley_36 : decode cX7_valley 36 = .ok (.putfield 67, 3) := by decide +kernel
theorem dX7_valley_39 : decode cX7_valley 39 = .ok (.aload_n 0, 1) := by decide +kernel
theorem dX7_valley_40 : decode cX7_valley 40 = .ok (.invokevirtual 98, 3) := by decide +kernel
theorem dX7_valley_43 : decode cX7_valley 43 = .ok (.istore_n 1, 1) := by decide +kernel
theorem dX7_valley_44 : decode cX7_valley 44 = .ok (.aload_n 0, 1) := by decide +kernel
theorem dX7_valley_45 : decode cX7_valley 45 = .ok (.iconst 0, 1) := by decide +kernel
theorem dX7_valley_46 : decode cX7_valley 46 = .ok (.putfield 63, 3) := by decide +kernel
theorem dX7_valley_49 : decode cX7_valley 49 = .ok (.iload_n 1, 1) := by decide +kernel
theorem dX7_valley_50 : decode cX7_valley 50 = .ok (.ifCond .ne 11, 3) := by decide +kernel
theorem dX7_valley_53 : decode cX7_valley 53 = .ok (.bipush (-20), 2) := by decide +kernel
theorem dX7_valley_55 : decode cX7_valley 55 = .ok (.aload_n 0, 1) := by decide +kernel
theorem dX7_valley_56 : decode cX7_valley 56 = .ok (.getfield 67, 3) := by decide +kernel
theorem dX7_valley_59 : decode cX7_valley 59 = .ok (.isub, 1) := by decide +kernel
theorem dX7_valley_60 : decode cX7_valley 60 = .ok (.ireturn, 1) := by decide +kernel
theorem dX7_valley_61 : decode cX7_valley 61 = .ok (.aload_n 0, 1) := by decide +kernel
theorem dX7_valley_62 : decode cX7_valley 62 = .ok (.getfield 29, 3) := by decide +kernel
theorem dX7_valley_65 : decode cX7_valley 65 = .ok (.iconst 0, 1) := by decide +kernel
theorem dX7_valley_66 : decode cX7_valley 66 = .ok (.aload_n 0, 1) := by decide +kernel
theorem dX7_valley_67 : decode cX7_valley 67 = .ok (.getfield 23, 3) := by decide +kernel
theorem dX7_valley_70 : decode cX7_valley 70 = .ok (.iconst 0, 1) := by decide +kernel
theorem dX7_valley_71 : decode cX7_valley 71 = .ok (.sipush 177, 3) := by decide +kernel
theorem dX7_valley_74 : decode cX7_valley 74 = .ok (.invokestatic 101, 3) := by decide +kernel
theorem dX7_valley_77 : decode cX7_valley 77 = .ok (.aload_n 0, 1) := by decide +kernel
theorem dX7_valley_78 : decode cX7_valley 78 = .ok (.getfield 23, 3) := by decide +kernel
theorem dX7_valley_81 : decode cX7_valley 81 = .ok (.bipush 24, 2) := by decide +kernel
theorem dX7_valley_83 : decode cX7_valley 83 = .ok (.iaload, 1) := by decide +kernel
theorem dX7_valley_84 : decode cX7_valley 84 = .ok (.ireturn, 1) := by decide +kernel
theorem dX7_sumOf_0 : decode cX7_sumOf 0 = .ok (.iconst 0, 1) := by decide +kernel
theorem dX7_sumOf_1 : decode cX7_sumOf 1 = .ok (.istore_n 2, 1) := by decide +kernel
theorem dX7_sumOf_2 : decode cX7_sumOf 2 = .ok (.iconst 0, 1) := by decide +kernel
theorem dX7_sumOf_3 : decode cX7_sumOf 3 = .ok (.istore_n 3, 1) := by decide +kernel
theorem dX7_sumOf_4 : decode cX7_sumOf 4 = .ok (.iload_n 3, 1) := by decide +kernel
theorem dX7_sumOf_5 : decode cX7_sumOf 5 = .ok (.bipush 7, 2) := by decide +kernel
theorem dX7_sumOf_7 : decode cX7_sumOf 7 = .ok (.if_icmp .ge 17, 3) := by decide +kernel
theorem dX7_sumOf_10 : decode cX7_sumOf 10 = .ok (.iload_n 2, 1) := by decide +kernel
theorem dX7_sumOf_11 : decode cX7_sumOf 11 = .ok (.aload_n 0, 1) := by decide +kernel
theorem dX7_sumOf_12 : decode cX7_sumOf 12 = .ok (.iload_n 1, 1) := by decide +kernel
theorem dX7_sumOf_13 : decode cX7_sumOf 13 = .ok (.iload_n 3, 1) := by decide +kernel
theorem dX7_sumOf_14 : decode cX7_sumOf 14 = .ok (.iadd, 1) := by decide +kernel
theorem dX7_sumOf_15 : decode cX7_sumOf 15 = .ok (.iaload, 1) := by decide +kernel
theorem dX7_sumOf_16 : decode cX7_sumOf 16 = .ok (.iadd, 1) := by decide +kernel
theorem dX7_sumOf_17 : decode cX7_sumOf 17 = .ok (.istore_n 2, 1) := by decide +kernel
theorem dX7_sumOf_18 : decode cX7_sumOf 18 = .ok (.iinc 3 1, 3) := by decide +kernel
theorem dX7_sumOf_21 : decode cX7_sumOf 21 = .ok (.goto (-17), 3) := by decide +kernel
theorem dX7_sumOf_24 : decode cX7_sumOf 24 = .ok (.iload_n 2, 1) := by decide +kernel
theorem dX7_sumOf_25 : decode cX7_sumOf 25 = .ok (.ireturn, 1) := by decide +kernel
set_option maxRecDepth 20000 in
theorem ggX7_claimsHere_X7_in : GoodIn wsX7_claimsHere wsX7_in := goodIn_r _ [5] (by decide +kernel) (by decide +kernel)
set_option maxRecDepth 20000 in
theorem gX7_claimsHere_X7_in : GoodIn wsX7_claimsHere (va_wsS RX7 41 yX7_in wsX7_in) := goodIn_app (goodIn_of _ (by decide +kernel)) ggX7_claimsHere_X7_in
theorem dX7_claimsHere_0 : decode cX7_claimsHere 0 = .ok (.iconst 0, 1) := by decide +kernel
theorem dX7_claimsHere_1 : decode cX7_claimsHere 1 = .ok (.istore_n 1, 1) := by decide +kernel
theorem dX7_claimsHere_2 : decode cX7_claimsHere 2 = .ok (.iconst 0, 1) := by decide +kernel
theorem dX7_claimsHere_3 : decode cX7_claimsHere 3 = .ok (.istore_n 2, 1) := by decide +kernel
theorem dX7_claimsHere_4 : decode cX7_claimsHere 4 = .ok (.iload_n 2, 1) := by decide +kernel
theorem dX7_claimsHere_5 : decode cX7_claimsHere 5 = .ok (.aload_n 0, 1) := by decide +kernel
theorem dX7_claimsHere_6 : decode cX7_claimsHere 6 = .ok (.getfield 23, 3) := by decide +kernel
theorem dX7_claimsHere_9 : decode cX7_claimsHere 9 = .ok (.bipush 24, 2) := by decide +kernel
theorem dX7_claimsHere_11 : decode cX7_claimsHere 11 = .ok (.iaload, 1) := by decide +kernel
theorem dX7_claimsHere_12 : decode cX7_claimsHere 12 = .ok (.if_icmp .ge 49, 3) := by decide +kernel
theorem dX7_claimsHere_15 : decode cX7_claimsHere 15 = .ok (.iload_n 1, 1) := by decide +kernel
theorem dX7_claimsHere_16 : decode cX7_claimsHere 16 = .ok (.aload_n 0, 1) := by decide +kernel
theorem dX7_claimsHere_17 : decode cX7_claimsHere 17 = .ok (.getfield 23, 3) := by decide +kernel
theorem dX7_claimsHere_20 : decode cX7_claimsHere 20 = .ok (.iconst 2, 1) := by decide +kernel
theorem dX7_claimsHere_21 : decode cX7_claimsHere 21 = .ok (.iaload, 1) := by decide +kernel
theorem dX7_claimsHere_22 : decode cX7_claimsHere 22 = .ok (.aload_n 0, 1) := by decide +kernel
theorem dX7_claimsHere_23 : decode cX7_claimsHere 23 = .ok (.getfield 23, 3) := by decide +kernel
theorem dX7_claimsHere_26 : decode cX7_claimsHere 26 = .ok (.bipush 25, 2) := by decide +kernel
theorem dX7_claimsHere_28 : decode cX7_claimsHere 28 = .ok (.iload_n 2, 1) := by decide +kernel
theorem dX7_claimsHere_29 : decode cX7_claimsHere 29 = .ok (.iadd, 1) := by decide +kernel
theorem dX7_claimsHere_30 : decode cX7_claimsHere 30 = .ok (.iaload, 1) := by decide +kernel
theorem dX7_claimsHere_31 : decode cX7_claimsHere 31 = .ok (.aload_n 0, 1) := by decide +kernel
theorem dX7_claimsHere_32 : decode cX7_claimsHere 32 = .ok (.getfield 23, 3) := by decide +kernel
theorem dX7_claimsHere_35 : decode cX7_claimsHere 35 = .ok (.bipush 30, 2) := by decide +kernel
theorem dX7_claimsHere_37 : decode cX7_claimsHere 37 = .ok (.iload_n 2, 1) := by decide +kernel
theorem dX7_claimsHere_38 : decode cX7_claimsHere 38 = .ok (.iadd, 1) := by decide +kernel
theorem dX7_claimsHere_39 : decode cX7_claimsHere 39 = .ok (.iaload, 1) := by decide +kernel
theorem dX7_claimsHere_40 : decode cX7_claimsHere 40 = .ok (.invokestatic 41, 3) := by decide +kernel
theorem dX7_claimsHere_43 : decode cX7_claimsHere 43 = .ok (.ifCond .eq 9, 3) := by decide +kernel
theorem dX7_claimsHere_46 : decode cX7_claimsHere 46 = .ok (.iconst 1, 1) := by decide +kernel
theorem dX7_claimsHere_47 : decode cX7_claimsHere 47 = .ok (.iload_n 2, 1) := by decide +kernel
theorem dX7_claimsHere_48 : decode cX7_claimsHere 48 = .ok (.ishl, 1) := by decide +kernel
theorem dX7_claimsHere_49 : decode cX7_claimsHere 49 = .ok (.goto 4, 3) := by decide +kernel
theorem dX7_claimsHere_52 : decode cX7_claimsHere 52 = .ok (.iconst 0, 1) := by decide +kernel
theorem dX7_claimsHere_53 : decode cX7_claimsHere 53 = .ok (.ior, 1) := by decide +kernel
theorem dX7_claimsHere_54 : decode cX7_claimsHere 54 = .ok (.istore_n 1, 1) := by decide +kernel
theorem dX7_claimsHere_55 : decode cX7_claimsHere 55 = .ok (.iinc 2 1, 3) := by decide +kernel
theorem dX7_claimsHere_58 : decode cX7_claimsHere 58 = .ok (.goto (-54), 3) := by decide +kernel
theorem dX7_claimsHere_61 : decode cX7_claimsHere 61 = .ok (.iload_n 1, 1) := by decide +kernel
theorem dX7_claimsHere_62 : decode cX7_claimsHere 62 = .ok (.ireturn, 1) := by decide +kernel
set_option maxRecDepth 20000 in
theorem ggX7_count_X7_sumOf : GoodIn wsX7_count wsX7_sumOf := goodIn_r _ [5] (by decide +kernel) (by decide +kernel)
set_option maxRecDepth 20000 in
theorem gX7_count_X7_sumOf : GoodIn wsX7_count (va_wsS RX7 105 yX7_sumOf wsX7_sumOf) := goodIn_app (goodIn_of _ (by decide +kernel)) ggX7_count_X7_sumOf
set_option maxRecDepth 20000 in
theorem ggX7_count_X7_claimsHere : GoodIn wsX7_count wsX7_claimsHere := goodIn_r _ [9, 1, 10, 11, 4, 12, 13, 14, 15, 16, 17, 18, 19, 20, 21, 22, 23, 24, 25, 26, 27, 28, 29, 30, 31] (by decide +kernel) (by decide +kernel)
set_option maxRecDepth 20000 in
theorem gX7_count_X7_claimsHere : GoodIn wsX7_count (wsV RX7 108 RX7 yX7_claimsHere wsX7_claimsHere) := goodIn_app (goodIn_of _ (by decide +kernel)) ggX7_count_X7_claimsHere
theorem dX7_count_0 : decode cX7_count 0 = .ok (.iload_n 1, 1) := by decide +kernel
theorem dX7_count_1 : decode cX7_count 1 = .ok (.tableswitch 97 0 6 #[43, 51, 58, 65, 74, 84, 89], 43) := by decide +kernel
theorem dX7_count_44 : decode cX7_count 44 = .ok (.aload_n 0, 1) := by decide +kernel
theorem dX7_count_45 : decode cX7_count 45 = .ok (.getfield 23, 3) := by decide +kernel
theorem dX7_count_48 : decode cX7_count 48 = .ok (.bipush 24, 2) := by decide +kernel
theorem dX7_count_50 : decode cX7_count 50 = .ok (.iaload, 1) := by decide +kernel
theorem dX7_count_51 : decode cX7_count 51 = .ok (.ireturn, 1) := by decide +kernel
theorem dX7_count_52 : decode cX7_count 52 = .ok (.aload_n 0, 1) := by decide +kernel
theorem dX7_count_53 : decode cX7_count 53 = .ok (.getfield 23, 3) := by decide +kernel
theorem dX7_count_56 : decode cX7_count 56 = .ok (.iconst 2, 1) := by decide +kernel
theorem dX7_count_57 : decode cX7_count 57 = .ok (.iaload, 1) := by decide +kernel
theorem dX7_count_58 : decode cX7_count 58 = .ok (.ireturn, 1) := by decide +kernel
theorem dX7_count_59 : decode cX7_count 59 = .ok (.aload_n 0, 1) := by decide +kernel
theorem dX7_count_60 : decode cX7_count 60 = .ok (.getfield 23, 3) := by decide +kernel
theorem dX7_count_63 : decode cX7_count 63 = .ok (.iconst 0, 1) := by decide +kernel
theorem dX7_count_64 : decode cX7_count 64 = .ok (.iaload, 1) := by decide +kernel
theorem dX7_count_65 : decode cX7_count 65 = .ok (.ireturn, 1) := by decide +kernel
theorem dX7_count_66 : decode cX7_count 66 = .ok (.aload_n 0, 1) := by decide +kernel
theorem dX7_count_67 : decode cX7_count 67 = .ok (.getfield 23, 3) := by decide +kernel
theorem dX7_count_70 : decode cX7_count 70 = .ok (.iconst 3, 1) := by decide +kernel
theorem dX7_count_71 : decode cX7_count 71 = .ok (.invokestatic 105, 3) := by decide +kernel
theorem dX7_count_74 : decode cX7_count 74 = .ok (.ireturn, 1) := by decide +kernel
theorem dX7_count_75 : decode cX7_count 75 = .ok (.aload_n 0, 1) := by decide +kernel
theorem dX7_count_76 : decode cX7_count 76 = .ok (.getfield 23, 3) := by decide +kernel
theorem dX7_count_79 : decode cX7_count 79 = .ok (.bipush 10, 2) := by decide +kernel
theorem dX7_count_81 : decode cX7_count 81 = .ok (.invokestatic 105, 3) := by decide +kernel
theorem dX7_count_84 : decode cX7_count 84 = .ok (.ireturn, 1) := by decide +kernel
theorem dX7_count_85 : decode cX7_count 85 = .ok (.aload_n 0, 1) := by decide +kernel
theorem dX7_count_86 : decode cX7_count 86 = .ok (.invokevirtual 108, 3) := by decide +kernel
theorem dX7_count_89 : decode cX7_count 89 = .ok (.ireturn, 1) := by decide +kernel
theorem dX7_count_90 : decode cX7_count 90 = .ok (.aload_n 0, 1) := by decide +kernel
theorem dX7_count_91 : decode cX7_count 91 = .ok (.getfield 23, 3) := by decide +kernel
theorem dX7_count_94 : decode cX7_count 94 = .ok (.bipush 40, 2) := by decide +kernel
theorem dX7_count_96 : decode cX7_count 96 = .ok (.iaload, 1) := by decide +kernel
theorem dX7_count_97 : decode cX7_count 97 = .ok (.ireturn, 1) := by decide +kernel
theorem dX7_count_98 : decode cX7_count 98 = .ok (.iconst (-1), 1) := by decide +kernel
theorem dX7_count_99 : decode cX7_count 99 = .ok (.ireturn, 1) := by decide +kernel
set_option maxRecDepth 20000 in
theorem ggX7_note_X7_bring : GoodIn wsX7_note wsX7_bring := goodIn_r _ [5] (by decide +kernel) (by decide +kernel)
set_option maxRecDepth 20000 in
theorem gX7_note_X7_bring : GoodIn wsX7_note (va_wsS RX7 101 yX7_bring wsX7_bring) := goodIn_app (goodIn_of _ (by decide +kernel)) ggX7_note_X7_bring
theorem dX7_note_0 : decode cX7_note 0 = .ok (.aload_n 0, 1) := by decide +kernel
theorem dX7_note_1 : decode cX7_note 1 = .ok (.getfield 23, 3) := by decide +kernel
theorem dX7_note_4 : decode cX7_note 4 = .ok (.bipush 40, 2) := by decide +kernel
theorem dX7_note_6 : decode cX7_note 6 = .ok (.iaload, 1) := by decide +kernel
theorem dX7_note_7 : decode cX7_note 7 = .ok (.bipush 8, 2) := by decide +kernel
theorem dX7_note_9 : decode cX7_note 9 = .ok (.if_icmp .ne 31, 3) := by decide +kernel
theorem dX7_note_12 : decode cX7_note 12 = .ok (.aload_n 0, 1) := by decide +kernel
theorem dX7_note_13 : decode cX7_note 13 = .ok (.getfield 23, 3) := by decide +kernel
theorem dX7_note_16 : decode cX7_note 16 = .ok (.bipush 58, 2) := by decide +kernel
theorem dX7_note_18 : decode cX7_note 18 = .ok (.aload_n 0, 1) := by decide +kernel
theorem dX7_note_19 : decode cX7_note 19 = .ok (.getfield 23, 3) := by decide +kernel
theorem dX7_note_22 : decode cX7_note 22 = .ok (.bipush 41, 2) := by decide +kernel
theorem dX7_note_24 : decode cX7_note 24 = .ok (.bipush 119, 2) := by decide +kernel
theorem dX7_note_26 : decode cX7_note 26 = .ok (.invokestatic 101, 3) := by decide +kernel
theorem dX7_note_29 : decode cX7_note 29 = .ok (.aload_n 0, 1) := by decide +kernel
theorem dX7_note_30 : decode cX7_note 30 = .ok (.getfield 23, 3) := by decide +kernel
theorem dX7_note_33 : decode cX7_note 33 = .ok (.bipush 40, 2) := by decide +kernel
theorem dX7_note_35 : decode cX7_note 35 = .ok (.dup2, 1) := by decide +kernel
theorem dX7_note_36 : decode cX7_note 36 = .ok (.iaload, 1) := by decide +kernel
theorem dX7_note_37 : decode cX7_note 37 = .ok (.iconst 1, 1) := by decide +kernel
theorem dX7_note_38 : decode cX7_note 38 = .ok (.isub, 1) := by decide +kernel
theorem dX7_note_39 : decode cX7_note 39 = .ok (.iastore, 1) := by decide +kernel
theorem dX7_note_40 : decode cX7_note 40 = .ok (.aload_n 0, 1) := by decide +kernel
theorem dX7_note_41 : decode cX7_note 41 = .ok (.getfield 23, 3) := by decide +kernel
theorem dX7_note_44 : decode cX7_note 44 = .ok (.iconst 0, 1) := by decide +kernel
theorem dX7_note_45 : decode cX7_note 45 = .ok (.aload_n 0, 1) := by decide +kernel
theorem dX7_note_46 : decode cX7_note 46 = .ok (.getfield 23, 3) := by decide +kernel
theorem dX7_note_49 : decode cX7_note 49 = .ok (.bipush 41, 2) := by decide +kernel
theorem dX7_note_51 : decode cX7_note 51 = .ok (.bipush 17, 2) := by decide +kernel
theorem dX7_note_53 : decode cX7_note 53 = .ok (.aload_n 0, 1) := by decide +kernel
theorem dX7_note_54 : decode cX7_note 54 = .ok (.getfield 23, 3) := by decide +kernel
theorem dX7_note_57 : decode cX7_note 57 = .ok (.bipush 40, 2) := by decide +kernel
theorem dX7_note_59 : decode cX7_note 59 = .ok (.iaload, 1) := by decide +kernel
theorem dX7_note_60 : decode cX7_note 60 = .ok (.imul, 1) := by decide +kernel
theorem dX7_note_61 : decode cX7_note 61 = .ok (.iadd, 1) := by decide +kernel
theorem dX7_note_62 : decode cX7_note 62 = .ok (.bipush 17, 2) := by decide +kernel
theorem dX7_note_64 : decode cX7_note 64 = .ok (.invokestatic 101, 3) := by decide +kernel
theorem dX7_note_67 : decode cX7_note 67 = .ok (.aload_n 0, 1) := by decide +kernel
theorem dX7_note_68 : decode cX7_note 68 = .ok (.getfield 23, 3) := by decide +kernel
theorem dX7_note_71 : decode cX7_note 71 = .ok (.bipush 40, 2) := by decide +kernel
theorem dX7_note_73 : decode cX7_note 73 = .ok (.dup2, 1) := by decide +kernel
theorem dX7_note_74 : decode cX7_note 74 = .ok (.iaload, 1) := by decide +kernel
theorem dX7_note_75 : decode cX7_note 75 = .ok (.iconst 1, 1) := by decide +kernel
theorem dX7_note_76 : decode cX7_note 76 = .ok (.iadd, 1) := by decide +kernel
theorem dX7_note_77 : decode cX7_note 77 = .ok (.iastore, 1) := by decide +kernel
theorem dX7_note_78 : decode cX7_note 78 = .ok (.return_, 1) := by decide +kernel
set_option maxRecDepth 20000 in
theorem ggX7_dayIn_X7_onOf : GoodIn wsX7_dayIn wsX7_onOf := goodIn_r _ [8] (by decide +kernel) (by decide +kernel)
set_option maxRecDepth 20000 in
theorem gX7_dayIn_X7_onOf : GoodIn wsX7_dayIn (va_wsS RX7 53 yX7_onOf wsX7_onOf) := goodIn_app (goodIn_of _ (by decide +kernel)) ggX7_dayIn_X7_onOf
set_option maxRecDepth 20000 in
theorem ggX7_dayIn_X7_backOf : GoodIn wsX7_dayIn wsX7_backOf := goodIn_r _ [11, 5, 6, 7, 8] (by decide +kernel) (by decide +kernel)
set_option maxRecDepth 20000 in
theorem gX7_dayIn_X7_backOf : GoodIn wsX7_dayIn (va_wsS RX7 57 yX7_backOf wsX7_backOf) := goodIn_app (goodIn_of _ (by decide +kernel)) ggX7_dayIn_X7_backOf
theorem dX7_dayIn_0 : decode cX7_dayIn 0 = .ok (.aload_n 0, 1) := by decide +kernel
theorem dX7_dayIn_1 : decode cX7_dayIn 1 = .ok (.iconst 1, 1) := by decide +kernel
theorem dX7_dayIn_2 : decode cX7_dayIn 2 = .ok (.aload_n 0, 1) := by decide +kernel
theorem dX7_dayIn_3 : decode cX7_dayIn 3 = .ok (.iconst 1, 1) := by decide +kernel
theorem dX7_dayIn_4 : decode cX7_dayIn 4 = .ok (.iaload, 1) := by decide +kernel
theorem dX7_dayIn_5 : decode cX7_dayIn 5 = .ok (.i2l, 1) := by decide +kernel
theorem dX7_dayIn_6 : decode cX7_dayIn 6 = .ok (.ldc2_w 111, 3) := by decide +kernel
theorem dX7_dayIn_9 : decode cX7_dayIn 9 = .ok (.lmul, 1) := by decide +kernel
theorem dX7_dayIn_10 : decode cX7_dayIn 10 = .ok (.ldc2_w 113, 3) := by decide +kernel
theorem dX7_dayIn_13 : decode cX7_dayIn 13 = .ok (.ladd, 1) := by decide +kernel
theorem dX7_dayIn_14 : decode cX7_dayIn 14 = .ok (.ldc2_w 115, 3) := by decide +kernel
theorem dX7_dayIn_17 : decode cX7_dayIn 17 = .ok (.lrem, 1) := by decide +kernel
theorem dX7_dayIn_18 : decode cX7_dayIn 18 = .ok (.l2i, 1) := by decide +kernel
theorem dX7_dayIn_19 : decode cX7_dayIn 19 = .ok (.iastore, 1) := by decide +kernel
theorem dX7_dayIn_20 : decode cX7_dayIn 20 = .ok (.aload_n 0, 1) := by decide +kernel
theorem dX7_dayIn_21 : decode cX7_dayIn 21 = .ok (.iconst 1, 1) := by decide +kernel
theorem dX7_dayIn_22 : decode cX7_dayIn 22 = .ok (.iaload, 1) := by decide +kernel
theorem dX7_dayIn_23 : decode cX7_dayIn 23 = .ok (.ldc 117, 2) := by decide +kernel
theorem dX7_dayIn_25 : decode cX7_dayIn 25 = .ok (.idiv, 1) := by decide +kernel
theorem dX7_dayIn_26 : decode cX7_dayIn 26 = .ok (.bipush 10, 2) := by decide +kernel
theorem dX7_dayIn_28 : decode cX7_dayIn 28 = .ok (.irem, 1) := by decide +kernel
theorem dX7_dayIn_29 : decode cX7_dayIn 29 = .ok (.istore_n 1, 1) := by decide +kernel
theorem dX7_dayIn_30 : decode cX7_dayIn 30 = .ok (.aload_n 0, 1) := by decide +kernel
theorem dX7_dayIn_31 : decode cX7_dayIn 31 = .ok (.iconst 2, 1) := by decide +kernel
theorem dX7_dayIn_32 : decode cX7_dayIn 32 = .ok (.iaload, 1) := by decide +kernel
theorem dX7_dayIn_33 : decode cX7_dayIn 33 = .ok (.istore_n 2, 1) := by decide +kernel
theorem dX7_dayIn_34 : decode cX7_dayIn 34 = .ok (.aload_n 0, 1) := by decide +kernel
theorem dX7_dayIn_35 : decode cX7_dayIn 35 = .ok (.iload_n 2, 1) := by decide +kernel
theorem dX7_dayIn_36 : decode cX7_dayIn 36 = .ok (.invokestatic 53, 3) := by decide +kernel
theorem dX7_dayIn_39 : decode cX7_dayIn 39 = .ok (.istore_n 3, 1) := by decide +kernel
theorem dX7_dayIn_40 : decode cX7_dayIn 40 = .ok (.iload_n 1, 1) := by decide +kernel
theorem dX7_dayIn_41 : decode cX7_dayIn 41 = .ok (.iload_n 3, 1) := by decide +kernel
theorem dX7_dayIn_42 : decode cX7_dayIn 42 = .ok (.if_icmp .ge 12, 3) := by decide +kernel
theorem dX7_dayIn_45 : decode cX7_dayIn 45 = .ok (.aload_n 0, 1) := by decide +kernel
theorem dX7_dayIn_46 : decode cX7_dayIn 46 = .ok (.iconst 2, 1) := by decide +kernel
theorem dX7_dayIn_47 : decode cX7_dayIn 47 = .ok (.iload_n 2, 1) := by decide +kernel
theorem dX7_dayIn_48 : decode cX7_dayIn 48 = .ok (.iconst 1, 1) := by decide +kernel
theorem dX7_dayIn_49 : decode cX7_dayIn 49 = .ok (.iadd, 1) := by decide +kernel
theorem dX7_dayIn_50 : decode cX7_dayIn 50 = .ok (.iastore, 1) := by decide +kernel
theorem dX7_dayIn_51 : decode cX7_dayIn 51 = .ok (.goto 40, 3) := by decide +kernel
theorem dX7_dayIn_54 : decode cX7_dayIn 54 = .ok (.iload_n 1, 1) := by decide +kernel
theorem dX7_dayIn_55 : decode cX7_dayIn 55 = .ok (.iload_n 3, 1) := by decide +kernel
theorem dX7_dayIn_56 : decode cX7_dayIn 56 = .ok (.aload_n 0, 1) := by decide +kernel
theorem dX7_dayIn_57 : decode cX7_dayIn 57 = .ok (.iload_n 2, 1) := by decide +kernel
theorem dX7_dayIn_58 : decode cX7_dayIn 58 = .ok (.invokestatic 57, 3) := by decide +kernel
theorem dX7_dayIn_61 : decode cX7_dayIn 61 = .ok (.iadd, 1) := by decide +kernel
theorem dX7_dayIn_62 : decode cX7_dayIn 62 = .ok (.if_icmp .ge 12, 3) := by decide +kernel
theorem dX7_dayIn_65 : decode cX7_dayIn 65 = .ok (.aload_n 0, 1) := by decide +kernel
theorem dX7_dayIn_66 : decode cX7_dayIn 66 = .ok (.iconst 2, 1) := by decide +kernel
theorem dX7_dayIn_67 : decode cX7_dayIn 67 = .ok (.iload_n 2, 1) := by decide +kernel
theorem dX7_dayIn_68 : decode cX7_dayIn 68 = .ok (.iconst 1, 1) := by decide +kernel
theorem dX7_dayIn_69 : decode cX7_dayIn 69 = .ok (.isub, 1) := by decide +kernel
theorem dX7_dayIn_70 : decode cX7_dayIn 70 = .ok (.iastore, 1) := by decide +kernel
theorem dX7_dayIn_71 : decode cX7_dayIn 71 = .ok (.goto 20, 3) := by decide +kernel
theorem dX7_dayIn_74 : decode cX7_dayIn 74 = .ok (.aload_n 0, 1) := by decide +kernel
theorem dX7_dayIn_75 : decode cX7_dayIn 75 = .ok (.iconst 3, 1) := by decide +kernel
theorem dX7_dayIn_76 : decode cX7_dayIn 76 = .ok (.iload_n 2, 1) := by decide +kernel
theorem dX7_dayIn_77 : decode cX7_dayIn 77 = .ok (.iadd, 1) := by decide +kernel
theorem dX7_dayIn_78 : decode cX7_dayIn 78 = .ok (.iaload, 1) := by decide +kernel
theorem dX7_dayIn_79 : decode cX7_dayIn 79 = .ok (.ifCond .le 12, 3) := by decide +kernel
theorem dX7_dayIn_82 : decode cX7_dayIn 82 = .ok (.aload_n 0, 1) := by decide +kernel
theorem dX7_dayIn_83 : decode cX7_dayIn 83 = .ok (.iconst 3, 1) := by decide +kernel
theorem dX7_dayIn_84 : decode cX7_dayIn 84 = .ok (.iload_n 2, 1) := by decide +kernel
theorem dX7_dayIn_85 : decode cX7_dayIn 85 = .ok (.iadd, 1) := by decide +kernel
theorem dX7_dayIn_86 : decode cX7_dayIn 86 = .ok (.dup2, 1) := by decide +kernel
theorem dX7_dayIn_87 : decode cX7_dayIn 87 = .ok (.iaload, 1) := by decide +kernel
theorem dX7_dayIn_88 : decode cX7_dayIn 88 = .ok (.iconst 1, 1) := by decide +kernel
theorem dX7_dayIn_89 : decode cX7_dayIn 89 = .ok (.isub, 1) := by decide +kernel
theorem dX7_dayIn_90 : decode cX7_dayIn 90 = .ok (.iastore, 1) := by decide +kernel
theorem dX7_dayIn_91 : decode cX7_dayIn 91 = .ok (.aload_n 0, 1) := by decide +kernel
theorem dX7_dayIn_92 : decode cX7_dayIn 92 = .ok (.iconst 0, 1) := by decide +kernel
theorem dX7_dayIn_93 : decode cX7_dayIn 93 = .ok (.dup2, 1) := by decide +kernel
theorem dX7_dayIn_94 : decode cX7_dayIn 94 = .ok (.iaload, 1) := by decide +kernel
theorem dX7_dayIn_95 : decode cX7_dayIn 95 = .ok (.iconst 1, 1) := by decide +kernel
theorem dX7_dayIn_96 : decode cX7_dayIn 96 = .ok (.iadd, 1) := by decide +kernel
theorem dX7_dayIn_97 : decode cX7_dayIn 97 = .ok (.iastore, 1) := by decide +kernel
theorem dX7_dayIn_98 : decode cX7_dayIn 98 = .ok (.return_, 1) := by decide +kernel
set_option maxRecDepth 20000 in
theorem ggX7_days_X7_in : GoodIn wsX7_days wsX7_in := goodIn_r _ [5] (by decide +kernel) (by decide +kernel)
set_option maxRecDepth 20000 in
theorem gX7_days_X7_in : GoodIn wsX7_days (va_wsS RX7 41 yX7_in wsX7_in) := goodIn_app (goodIn_of _ (by decide +kernel)) ggX7_days_X7_in
set_option maxRecDepth 20000 in
theorem ggX7_days_X7_note : GoodIn wsX7_days wsX7_note := goodIn_r _ [9, 1, 10, 11, 4, 12, 26, 27, 28, 29, 30, 31, 32, 33, 34, 35, 36, 37, 38, 39, 40, 41, 42, 43, 44] (by decide +kernel) (by decide +kernel)
set_option maxRecDepth 20000 in
theorem gX7_days_X7_note : GoodIn wsX7_days (wsV RX7 118 RX7 yX7_note wsX7_note) := goodIn_app (goodIn_of _ (by decide +kernel)) ggX7_days_X7_note
set_option maxRecDepth 20000 in
theorem ggX7_days_X7_dayIn : GoodIn wsX7_days wsX7_dayIn := goodIn_r _ [15, 16, 17, 18, 19, 20, 21, 4, 22, 23, 24, 25] (by decide +kernel) (by decide +kernel)
set_option maxRecDepth 20000 in
theorem gX7_days_X7_dayIn : GoodIn wsX7_days (va_wsS RX7 121 yX7_dayIn wsX7_dayIn) := goodIn_app (goodIn_of _ (by decide +kernel)) ggX7_days_X7_dayIn
theorem dX7_days_0 : decode cX7_days 0 = .ok (.iload_n 1, 1) := by decide +kernel
theorem dX7_days_1 : decode cX7_days 1 = .ok (.iconst 1, 1) := by decide +kernel
theorem dX7_days_2 : decode cX7_days 2 = .ok (.bipush 40, 2) := by decide +kernel
theorem dX7_days_4 : decode cX7_days 4 = .ok (.invokestatic 41, 3) := by decide +kernel
theorem dX7_days_7 : decode cX7_days 7 = .ok (.ifCond .ne 5, 3) := by decide +kernel
theorem dX7_days_10 : decode cX7_days 10 = .ok (.iconst (-1), 1) := by decide +kernel
theorem dX7_days_11 : decode cX7_days 11 = .ok (.ireturn, 1) := by decide +kernel
theorem dX7_days_12 : decode cX7_days 12 = .ok (.aload_n 0, 1) := by decide +kernel
theorem dX7_days_13 : decode cX7_days 13 = .ok (.getfield 23, 3) := by decide +kernel
theorem dX7_days_16 : decode cX7_days 16 = .ok (.iconst 0, 1) := by decide +kernel
theorem dX7_days_17 : decode cX7_days 17 = .ok (.iaload, 1) := by decide +kernel
theorem dX7_days_18 : decode cX7_days 18 = .ok (.iload_n 1, 1) := by decide +kernel
theorem dX7_days_19 : decode cX7_days 19 = .ok (.iadd, 1) := by decide +kernel
theorem dX7_days_20 : decode cX7_days 20 = .ok (.sipush 9999, 3) := by decide +kernel
theorem dX7_days_23 : decode cX7_days 23 = .ok (.if_icmp .le 6, 3) := by decide +kernel
theorem dX7_days_26 : decode cX7_days 26 = .ok (.bipush (-3), 2) := by decide +kernel
theorem dX7_days_28 : decode cX7_days 28 = .ok (.ireturn, 1) := by decide +kernel
theorem dX7_days_29 : decode cX7_days 29 = .ok (.iconst 0, 1) := by decide +kernel
theorem dX7_days_30 : decode cX7_days 30 = .ok (.istore_n 2, 1) := by decide +kernel
theorem dX7_days_31 : decode cX7_days 31 = .ok (.iload_n 2, 1) := by decide +kernel
theorem dX7_days_32 : decode cX7_days 32 = .ok (.iload_n 1, 1) := by decide +kernel
theorem dX7_days_33 : decode cX7_days 33 = .ok (.if_icmp .ge 20, 3) := by decide +kernel
theorem dX7_days_36 : decode cX7_days 36 = .ok (.aload_n 0, 1) := by decide +kernel
theorem dX7_days_37 : decode cX7_days 37 = .ok (.invokevirtual 118, 3) := by decide +kernel
theorem dX7_days_40 : decode cX7_days 40 = .ok (.aload_n 0, 1) := by decide +kernel
theorem dX7_days_41 : decode cX7_days 41 = .ok (.getfield 23, 3) := by decide +kernel
theorem dX7_days_44 : decode cX7_days 44 = .ok (.invokestatic 121, 3) := by decide +kernel
theorem dX7_days_47 : decode cX7_days 47 = .ok (.iinc 2 1, 3) := by decide +kernel
theorem dX7_days_50 : decode cX7_days 50 = .ok (.goto (-19), 3) := by decide +kernel
theorem dX7_days_53 : decode cX7_days 53 = .ok (.aload_n 0, 1) := by decide +kernel
theorem dX7_days_54 : decode cX7_days 54 = .ok (.getfield 23, 3) := by decide +kernel
theorem dX7_days_57 : decode cX7_days 57 = .ok (.iconst 2, 1) := by decide +kernel
theorem dX7_days_58 : decode cX7_days 58 = .ok (.iaload, 1) := by decide +kernel
theorem dX7_days_59 : decode cX7_days 59 = .ok (.ireturn, 1) := by decide +kernel
set_option maxRecDepth 20000 in
theorem ggX7_carry_X7_isField : GoodIn wsX7_carry wsX7_isField := goodIn_r _ [5, 6, 7, 4, 8] (by decide +kernel) (by decide +kernel)
set_option maxRecDepth 20000 in
theorem gX7_carry_X7_isField : GoodIn wsX7_carry (va_wsS RX7 45 yX7_isField wsX7_isField) := goodIn_app (goodIn_of _ (by decide +kernel)) ggX7_carry_X7_isField
set_option maxRecDepth 20000 in
theorem ggX7_carry_X7_note : GoodIn wsX7_carry wsX7_note := goodIn_r _ [12, 1, 13, 14, 4, 15, 16, 17, 18, 19, 20, 21, 22, 23, 24, 25, 26, 27, 28, 29, 30, 31, 32, 33, 34] (by decide +kernel) (by decide +kernel)
set_option maxRecDepth 20000 in
theorem gX7_carry_X7_note : GoodIn wsX7_carry (wsV RX7 118 RX7 yX7_note wsX7_note) := goodIn_app (goodIn_of _ (by decide +kernel)) ggX7_carry_X7_note
theorem dX7_carry_0 : decode cX7_carry 0 = .ok (.iload_n 1, 1) := by decide +kernel
theorem dX7_carry_1 : decode cX7_carry 1 = .ok (.invokestatic 45, 3) := by decide +kernel
theorem dX7_carry_4 : decode cX7_carry 4 = .ok (.ifCond .ne 5, 3) := by decide +kernel
theorem dX7_carry_7 : decode cX7_carry 7 = .ok (.iconst (-1), 1) := by decide +kernel
theorem dX7_carry_8 : decode cX7_carry 8 = .ok (.ireturn, 1) := by decide +kernel
theorem dX7_carry_9 : decode cX7_carry 9 = .ok (.aload_n 0, 1) := by decide +kernel
theorem dX7_carry_10 : decode cX7_carry 10 = .ok (.getfield 23, 3) := by decide +kernel
theorem dX7_carry_13 : decode cX7_carry 13 = .ok (.iconst 2, 1) := by decide +kernel
theorem dX7_carry_14 : decode cX7_carry 14 = .ok (.iaload, 1) := by decide +kernel
theorem dX7_carry_15 : decode cX7_carry 15 = .ok (.istore_n 2, 1) := by decide +kernel
theorem dX7_carry_16 : decode cX7_carry 16 = .ok (.iload_n 2, 1) := by decide +kernel
theorem dX7_carry_17 : decode cX7_carry 17 = .ok (.iload_n 1, 1) := by decide +kernel
theorem dX7_carry_18 : decode cX7_carry 18 = .ok (.if_icmp .ne 6, 3) := by decide +kernel
theorem dX7_carry_21 : decode cX7_carry 21 = .ok (.bipush (-2), 2) := by decide +kernel
theorem dX7_carry_23 : decode cX7_carry 23 = .ok (.ireturn, 1) := by decide +kernel
theorem dX7_carry_24 : decode cX7_carry 24 = .ok (.aload_n 0, 1) := by decide +kernel
theorem dX7_carry_25 : decode cX7_carry 25 = .ok (.invokevirtual 118, 3) := by decide +kernel
theorem dX7_carry_28 : decode cX7_carry 28 = .ok (.aload_n 0, 1) := by decide +kernel
theorem dX7_carry_29 : decode cX7_carry 29 = .ok (.getfield 23, 3) := by decide +kernel
theorem dX7_carry_32 : decode cX7_carry 32 = .ok (.iconst 2, 1) := by decide +kernel
theorem dX7_carry_33 : decode cX7_carry 33 = .ok (.iload_n 1, 1) := by decide +kernel
theorem dX7_carry_34 : decode cX7_carry 34 = .ok (.iastore, 1) := by decide +kernel
theorem dX7_carry_35 : decode cX7_carry 35 = .ok (.iload_n 2, 1) := by decide +kernel
theorem dX7_carry_36 : decode cX7_carry 36 = .ok (.ireturn, 1) := by decide +kernel
set_option maxRecDepth 20000 in
theorem ggX7_lettuce_X7_isField : GoodIn wsX7_lettuce wsX7_isField := goodIn_r _ [5, 6, 7, 4, 8] (by decide +kernel) (by decide +kernel)
set_option maxRecDepth 20000 in
theorem gX7_lettuce_X7_isField : GoodIn wsX7_lettuce (va_wsS RX7 45 yX7_isField wsX7_isField) := goodIn_app (goodIn_of _ (by decide +kernel)) ggX7_lettuce_X7_isField
set_option maxRecDepth 20000 in
theorem ggX7_lettuce_X7_in : GoodIn wsX7_lettuce wsX7_in := goodIn_r _ [8] (by decide +kernel) (by decide +kernel)
set_option maxRecDepth 20000 in
theorem gX7_lettuce_X7_in : GoodIn wsX7_lettuce (va_wsS RX7 41 yX7_in wsX7_in) := goodIn_app (goodIn_of _ (by decide +kernel)) ggX7_lettuce_X7_in
set_option maxRecDepth 20000 in
theorem ggX7_lettuce_X7_note : GoodIn wsX7_lettuce wsX7_note := goodIn_r _ [12, 1, 13, 14, 4, 15, 16, 17, 18, 19, 20, 21, 22, 23, 24, 25, 26, 27, 28, 29, 30, 31, 32, 33, 34] (by decide +kernel) (by decide +kernel)
set_option maxRecDepth 20000 in
theorem gX7_lettuce_X7_note : GoodIn wsX7_lettuce (wsV RX7 118 RX7 yX7_note wsX7_note) := goodIn_app (goodIn_of _ (by decide +kernel)) ggX7_lettuce_X7_note
theorem dX7_lettuce_0 : decode cX7_lettuce 0 = .ok (.iload_n 1, 1) := by decide +kernel
theorem dX7_lettuce_1 : decode cX7_lettuce 1 = .ok (.invokestatic 45, 3) := by decide +kernel
theorem dX7_lettuce_4 : decode cX7_lettuce 4 = .ok (.ifCond .eq 13, 3) := by decide +kernel
theorem dX7_lettuce_7 : decode cX7_lettuce 7 = .ok (.iload_n 2, 1) := by decide +kernel
theorem dX7_lettuce_8 : decode cX7_lettuce 8 = .ok (.iconst 1, 1) := by decide +kernel
theorem dX7_lettuce_9 : decode cX7_lettuce 9 = .ok (.bipush 9, 2) := by decide +kernel
theorem dX7_lettuce_11 : decode cX7_lettuce 11 = .ok (.invokestatic 41, 3) := by decide +kernel
theorem dX7_lettuce_14 : decode cX7_lettuce 14 = .ok (.ifCond .ne 5, 3) := by decide +kernel
theorem dX7_lettuce_17 : decode cX7_lettuce 17 = .ok (.iconst (-1), 1) := by decide +kernel
theorem dX7_lettuce_18 : decode cX7_lettuce 18 = .ok (.ireturn, 1) := by decide +kernel
theorem dX7_lettuce_19 : decode cX7_lettuce 19 = .ok (.aload_n 0, 1) := by decide +kernel
theorem dX7_lettuce_20 : decode cX7_lettuce 20 = .ok (.getfield 23, 3) := by decide +kernel
theorem dX7_lettuce_23 : decode cX7_lettuce 23 = .ok (.iconst 3, 1) := by decide +kernel
theorem dX7_lettuce_24 : decode cX7_lettuce 24 = .ok (.iload_n 1, 1) := by decide +kernel
theorem dX7_lettuce_25 : decode cX7_lettuce 25 = .ok (.iadd, 1) := by decide +kernel
theorem dX7_lettuce_26 : decode cX7_lettuce 26 = .ok (.iaload, 1) := by decide +kernel
theorem dX7_lettuce_27 : decode cX7_lettuce 27 = .ok (.bipush 9, 2) := by decide +kernel
theorem dX7_lettuce_29 : decode cX7_lettuce 29 = .ok (.if_icmp .ne 6, 3) := by decide +kernel
theorem dX7_lettuce_32 : decode cX7_lettuce 32 = .ok (.bipush (-2), 2) := by decide +kernel
theorem dX7_lettuce_34 : decode cX7_lettuce 34 = .ok (.ireturn, 1) := by decide +kernel
theorem dX7_lettuce_35 : decode cX7_lettuce 35 = .ok (.aload_n 0, 1) := by decide +kernel
theorem dX7_lettuce_36 : decode cX7_lettuce 36 = .ok (.invokevirtual 118, 3) := by decide +kernel
theorem dX7_lettuce_39 : decode cX7_lettuce 39 = .ok (.aload_n 0, 1) := by decide +kernel
theorem dX7_lettuce_40 : decode cX7_lettuce 40 = .ok (.getfield 23, 3) := by decide +kernel
theorem dX7_lettuce_43 : decode cX7_lettuce 43 = .ok (.iconst 3, 1) := by decide +kernel
theorem dX7_lettuce_44 : decode cX7_lettuce 44 = .ok (.iload_n 1, 1) := by decide +kernel
theorem dX7_lettuce_45 : decode cX7_lettuce 45 = .ok (.iadd, 1) := by decide +kernel
theorem dX7_lettuce_46 : decode cX7_lettuce 46 = .ok (.aload_n 0, 1) := by decide +kernel
theorem dX7_lettuce_47 : decode cX7_lettuce 47 = .ok (.getfield 23, 3) := by decide +kernel
theorem dX7_lettuce_50 : decode cX7_lettuce 50 = .ok (.iconst 3, 1) := by decide +kernel
theorem dX7_lettuce_51 : decode cX7_lettuce 51 = .ok (.iload_n 1, 1) := by decide +kernel
theorem dX7_lettuce_52 : decode cX7_lettuce 52 = .ok (.iadd, 1) := by decide +kernel
theorem dX7_lettuce_53 : decode cX7_lettuce 53 = .ok (.iaload, 1) := by decide +kernel
theorem dX7_lettuce_54 : decode cX7_lettuce 54 = .ok (.iload_n 2, 1) := by decide +kernel
theorem dX7_lettuce_55 : decode cX7_lettuce 55 = .ok (.iadd, 1) := by decide +kernel
theorem dX7_lettuce_56 : decode cX7_lettuce 56 = .ok (.bipush 9, 2) := by decide +kernel
theorem dX7_lettuce_58 : decode cX7_lettuce 58 = .ok (.if_icmp .le 8, 3) := by decide +kernel
theorem dX7_lettuce_61 : decode cX7_lettuce 61 = .ok (.bipush 9, 2) := by decide +kernel
theorem dX7_lettuce_63 : decode cX7_lettuce 63 = .ok (.goto 13, 3) := by decide +kernel
theorem dX7_lettuce_66 : decode cX7_lettuce 66 = .ok (.aload_n 0, 1) := by decide +kernel
theorem dX7_lettuce_67 : decode cX7_lettuce 67 = .ok (.getfield 23, 3) := by decide +kernel
theorem dX7_lettuce_70 : decode cX7_lettuce 70 = .ok (.iconst 3, 1) := by decide +kernel
theorem dX7_lettuce_71 : decode cX7_lettuce 71 = .ok (.iload_n 1, 1) := by decide +kernel
theorem dX7_lettuce_72 : decode cX7_lettuce 72 = .ok (.iadd, 1) := by decide +kernel
theorem dX7_lettuce_73 : decode cX7_lettuce 73 = .ok (.iaload, 1) := by decide +kernel
theorem dX7_lettuce_74 : decode cX7_lettuce 74 = .ok (.iload_n 2, 1) := by decide +kernel
theorem dX7_lettuce_75 : decode cX7_lettuce 75 = .ok (.iadd, 1) := by decide +kernel
theorem dX7_lettuce_76 : decode cX7_lettuce 76 = .ok (.iastore, 1) := by decide +kernel
theorem dX7_lettuce_77 : decode cX7_lettuce 77 = .ok (.aload_n 0, 1) := by decide +kernel
theorem dX7_lettuce_78 : decode cX7_lettuce 78 = .ok (.getfield 23, 3) := by decide +kernel
theorem dX7_lettuce_81 : decode cX7_lettuce 81 = .ok (.iconst 3, 1) := by decide +kernel
theorem dX7_lettuce_82 : decode cX7_lettuce 82 = .ok (.iload_n 1, 1) := by decide +kernel
theorem dX7_lettuce_83 : decode cX7_lettuce 83 = .ok (.iadd, 1) := by decide +kernel
theorem dX7_lettuce_84 : decode cX7_lettuce 84 = .ok (.iaload, 1) := by decide +kernel
theorem dX7_lettuce_85 : decode cX7_lettuce 85 = .ok (.ireturn, 1) := by decide +kernel
set_option maxRecDepth 20000 in
theorem ggX7_lay_X7_isField : GoodIn wsX7_lay wsX7_isField := goodIn_r _ [5, 6, 7, 4, 8] (by decide +kernel) (by decide +kernel)
set_option maxRecDepth 20000 in
theorem gX7_lay_X7_isField : GoodIn wsX7_lay (va_wsS RX7 45 yX7_isField wsX7_isField) := goodIn_app (goodIn_of _ (by decide +kernel)) ggX7_lay_X7_isField
set_option maxRecDepth 20000 in
theorem ggX7_lay_X7_in : GoodIn wsX7_lay wsX7_in := goodIn_r _ [8] (by decide +kernel) (by decide +kernel)
set_option maxRecDepth 20000 in
theorem gX7_lay_X7_in : GoodIn wsX7_lay (va_wsS RX7 41 yX7_in wsX7_in) := goodIn_app (goodIn_of _ (by decide +kernel)) ggX7_lay_X7_in
set_option maxRecDepth 20000 in
theorem ggX7_lay_X7_note : GoodIn wsX7_lay wsX7_note := goodIn_r _ [12, 1, 13, 14, 4, 15, 16, 17, 18, 19, 20, 21, 22, 23, 24, 25, 26, 27, 28, 29, 30, 31, 32, 33, 34] (by decide +kernel) (by decide +kernel)
set_option maxRecDepth 20000 in
theorem gX7_lay_X7_note : GoodIn wsX7_lay (wsV RX7 118 RX7 yX7_note wsX7_note) := goodIn_app (goodIn_of _ (by decide +kernel)) ggX7_lay_X7_note
theorem dX7_lay_0 : decode cX7_lay 0 = .ok (.iload_n 1, 1) := by decide +kernel
theorem dX7_lay_1 : decode cX7_lay 1 = .ok (.invokestatic 45, 3) := by decide +kernel
theorem dX7_lay_4 : decode cX7_lay 4 = .ok (.ifCond .eq 12, 3) := by decide +kernel
theorem dX7_lay_7 : decode cX7_lay 7 = .ok (.iload_n 2, 1) := by decide +kernel
theorem dX7_lay_8 : decode cX7_lay 8 = .ok (.iconst 0, 1) := by decide +kernel
theorem dX7_lay_9 : decode cX7_lay 9 = .ok (.iconst 4, 1) := by decide +kernel
theorem dX7_lay_10 : decode cX7_lay 10 = .ok (.invokestatic 41, 3) := by decide +kernel
theorem dX7_lay_13 : decode cX7_lay 13 = .ok (.ifCond .ne 5, 3) := by decide +kernel
theorem dX7_lay_16 : decode cX7_lay 16 = .ok (.iconst (-1), 1) := by decide +kernel
theorem dX7_lay_17 : decode cX7_lay 17 = .ok (.ireturn, 1) := by decide +kernel
theorem dX7_lay_18 : decode cX7_lay 18 = .ok (.aload_n 0, 1) := by decide +kernel
theorem dX7_lay_19 : decode cX7_lay 19 = .ok (.getfield 23, 3) := by decide +kernel
theorem dX7_lay_22 : decode cX7_lay 22 = .ok (.bipush 10, 2) := by decide +kernel
theorem dX7_lay_24 : decode cX7_lay 24 = .ok (.iload_n 1, 1) := by decide +kernel
theorem dX7_lay_25 : decode cX7_lay 25 = .ok (.iadd, 1) := by decide +kernel
theorem dX7_lay_26 : decode cX7_lay 26 = .ok (.iaload, 1) := by decide +kernel
theorem dX7_lay_27 : decode cX7_lay 27 = .ok (.istore_n 3, 1) := by decide +kernel
theorem dX7_lay_28 : decode cX7_lay 28 = .ok (.iload_n 3, 1) := by decide +kernel
theorem dX7_lay_29 : decode cX7_lay 29 = .ok (.iload_n 2, 1) := by decide +kernel
theorem dX7_lay_30 : decode cX7_lay 30 = .ok (.if_icmp .ne 6, 3) := by decide +kernel
theorem dX7_lay_33 : decode cX7_lay 33 = .ok (.bipush (-2), 2) := by decide +kernel
theorem dX7_lay_35 : decode cX7_lay 35 = .ok (.ireturn, 1) := by decide +kernel
theorem dX7_lay_36 : decode cX7_lay 36 = .ok (.aload_n 0, 1) := by decide +kernel
theorem dX7_lay_37 : decode cX7_lay 37 = .ok (.invokevirtual 118, 3) := by decide +kernel
theorem dX7_lay_40 : decode cX7_lay 40 = .ok (.aload_n 0, 1) := by decide +kernel
theorem dX7_lay_41 : decode cX7_lay 41 = .ok (.getfield 23, 3) := by decide +kernel
theorem dX7_lay_44 : decode cX7_lay 44 = .ok (.bipush 10, 2) := by decide +kernel
theorem dX7_lay_46 : decode cX7_lay 46 = .ok (.iload_n 1, 1) := by decide +kernel
theorem dX7_lay_47 : decode cX7_lay 47 = .ok (.iadd, 1) := by decide +kernel
theorem dX7_lay_48 : decode cX7_lay 48 = .ok (.iload_n 2, 1) := by decide +kernel
theorem dX7_lay_49 : decode cX7_lay 49 = .ok (.iastore, 1) := by decide +kernel
theorem dX7_lay_50 : decode cX7_lay 50 = .ok (.iload_n 3, 1) := by decide +kernel
theorem dX7_lay_51 : decode cX7_lay 51 = .ok (.ireturn, 1) := by decide +kernel
set_option maxRecDepth 20000 in
theorem ggX7_undo_X7_bring : GoodIn wsX7_undo wsX7_bring := goodIn_r _ [5] (by decide +kernel) (by decide +kernel)
set_option maxRecDepth 20000 in
theorem gX7_undo_X7_bring : GoodIn wsX7_undo (va_wsS RX7 101 yX7_bring wsX7_bring) := goodIn_app (goodIn_of _ (by decide +kernel)) ggX7_undo_X7_bring
theorem dX7_undo_0 : decode cX7_undo 0 = .ok (.aload_n 0, 1) := by decide +kernel
theorem dX7_undo_1 : decode cX7_undo 1 = .ok (.getfield 23, 3) := by decide +kernel
theorem dX7_undo_4 : decode cX7_undo 4 = .ok (.bipush 40, 2) := by decide +kernel
theorem dX7_undo_6 : decode cX7_undo 6 = .ok (.iaload, 1) := by decide +kernel
theorem dX7_undo_7 : decode cX7_undo 7 = .ok (.ifCond .ne 6, 3) := by decide +kernel
theorem dX7_undo_10 : decode cX7_undo 10 = .ok (.bipush (-4), 2) := by decide +kernel
theorem dX7_undo_12 : decode cX7_undo 12 = .ok (.ireturn, 1) := by decide +kernel
theorem dX7_undo_13 : decode cX7_undo 13 = .ok (.aload_n 0, 1) := by decide +kernel
theorem dX7_undo_14 : decode cX7_undo 14 = .ok (.getfield 23, 3) := by decide +kernel
theorem dX7_undo_17 : decode cX7_undo 17 = .ok (.bipush 40, 2) := by decide +kernel
theorem dX7_undo_19 : decode cX7_undo 19 = .ok (.dup2, 1) := by decide +kernel
theorem dX7_undo_20 : decode cX7_undo 20 = .ok (.iaload, 1) := by decide +kernel
theorem dX7_undo_21 : decode cX7_undo 21 = .ok (.iconst 1, 1) := by decide +kernel
theorem dX7_undo_22 : decode cX7_undo 22 = .ok (.isub, 1) := by decide +kernel
theorem dX7_undo_23 : decode cX7_undo 23 = .ok (.iastore, 1) := by decide +kernel
theorem dX7_undo_24 : decode cX7_undo 24 = .ok (.aload_n 0, 1) := by decide +kernel
theorem dX7_undo_25 : decode cX7_undo 25 = .ok (.getfield 23, 3) := by decide +kernel
theorem dX7_undo_28 : decode cX7_undo 28 = .ok (.bipush 41, 2) := by decide +kernel
theorem dX7_undo_30 : decode cX7_undo 30 = .ok (.bipush 17, 2) := by decide +kernel
theorem dX7_undo_32 : decode cX7_undo 32 = .ok (.aload_n 0, 1) := by decide +kernel
theorem dX7_undo_33 : decode cX7_undo 33 = .ok (.getfield 23, 3) := by decide +kernel
theorem dX7_undo_36 : decode cX7_undo 36 = .ok (.bipush 40, 2) := by decide +kernel
theorem dX7_undo_38 : decode cX7_undo 38 = .ok (.iaload, 1) := by decide +kernel
theorem dX7_undo_39 : decode cX7_undo 39 = .ok (.imul, 1) := by decide +kernel
theorem dX7_undo_40 : decode cX7_undo 40 = .ok (.iadd, 1) := by decide +kernel
theorem dX7_undo_41 : decode cX7_undo 41 = .ok (.aload_n 0, 1) := by decide +kernel
theorem dX7_undo_42 : decode cX7_undo 42 = .ok (.getfield 23, 3) := by decide +kernel
theorem dX7_undo_45 : decode cX7_undo 45 = .ok (.iconst 0, 1) := by decide +kernel
theorem dX7_undo_46 : decode cX7_undo 46 = .ok (.bipush 17, 2) := by decide +kernel
theorem dX7_undo_48 : decode cX7_undo 48 = .ok (.invokestatic 101, 3) := by decide +kernel
theorem dX7_undo_51 : decode cX7_undo 51 = .ok (.aload_n 0, 1) := by decide +kernel
theorem dX7_undo_52 : decode cX7_undo 52 = .ok (.getfield 23, 3) := by decide +kernel
theorem dX7_undo_55 : decode cX7_undo 55 = .ok (.bipush 40, 2) := by decide +kernel
theorem dX7_undo_57 : decode cX7_undo 57 = .ok (.iaload, 1) := by decide +kernel
theorem dX7_undo_58 : decode cX7_undo 58 = .ok (.ireturn, 1) := by decide +kernel
theorem dX7_seed_0 : decode cX7_seed 0 = .ok (.iload_n 1, 1) := by decide +kernel
theorem dX7_seed_1 : decode cX7_seed 1 = .ok (.ifCond .ge 5, 3) := by decide +kernel
theorem dX7_seed_4 : decode cX7_seed 4 = .ok (.iconst (-1), 1) := by decide +kernel
theorem dX7_seed_5 : decode cX7_seed 5 = .ok (.ireturn, 1) := by decide +kernel
theorem dX7_seed_6 : decode cX7_seed 6 = .ok (.aload_n 0, 1) := by decide +kernel
theorem dX7_seed_7 : decode cX7_seed 7 = .ok (.getfield 23, 3) := by decide +kernel
theorem dX7_seed_10 : decode cX7_seed 10 = .ok (.iconst 1, 1) := by decide +kernel
theorem dX7_seed_11 : decode cX7_seed 11 = .ok (.iaload, 1) := by decide +kernel
theorem dX7_seed_12 : decode cX7_seed 12 = .ok (.istore_n 2, 1) := by decide +kernel
theorem dX7_seed_13 : decode cX7_seed 13 = .ok (.aload_n 0, 1) := by decide +kernel
theorem dX7_seed_14 : decode cX7_seed 14 = .ok (.getfield 23, 3) := by decide +kernel
theorem dX7_seed_17 : decode cX7_seed 17 = .ok (.iconst 1, 1) := by decide +kernel
theorem dX7_seed_18 : decode cX7_seed 18 = .ok (.iload_n 1, 1) := by decide +kernel
theorem dX7_seed_19 : decode cX7_seed 19 = .ok (.iastore, 1) := by decide +kernel
theorem dX7_seed_20 : decode cX7_seed 20 = .ok (.iload_n 2, 1) := by decide +kernel
theorem dX7_seed_21 : decode cX7_seed 21 = .ok (.ireturn, 1) := by decide +kernel
set_option maxRecDepth 20000 in
theorem ggX7_begin_X7_bring : GoodIn wsX7_begin wsX7_bring := goodIn_r _ [6] (by decide +kernel) (by decide +kernel)
set_option maxRecDepth 20000 in
theorem gX7_begin_X7_bring : GoodIn wsX7_begin (va_wsS RX7 101 yX7_bring wsX7_bring) := goodIn_app (goodIn_of _ (by decide +kernel)) ggX7_begin_X7_bring
theorem dX7_begin_0 : decode cX7_begin 0 = .ok (.aload_n 0, 1) := by decide +kernel
theorem dX7_begin_1 : decode cX7_begin 1 = .ok (.getfield 23, 3) := by decide +kernel
theorem dX7_begin_4 : decode cX7_begin 4 = .ok (.iconst 0, 1) := by decide +kernel
theorem dX7_begin_5 : decode cX7_begin 5 = .ok (.aload_n 0, 1) := by decide +kernel
theorem dX7_begin_6 : decode cX7_begin 6 = .ok (.getfield 26, 3) := by decide +kernel
theorem dX7_begin_9 : decode cX7_begin 9 = .ok (.iconst 0, 1) := by decide +kernel
theorem dX7_begin_10 : decode cX7_begin 10 = .ok (.bipush 40, 2) := by decide +kernel
theorem dX7_begin_12 : decode cX7_begin 12 = .ok (.invokestatic 101, 3) := by decide +kernel
theorem dX7_begin_15 : decode cX7_begin 15 = .ok (.return_, 1) := by decide +kernel
theorem dX7_part_0 : decode cX7_part 0 = .ok (.lload_n 0, 1) := by decide +kernel
theorem dX7_part_1 : decode cX7_part 1 = .ok (.lstore 5, 2) := by decide +kernel
theorem dX7_part_3 : decode cX7_part 3 = .ok (.lload_n 2, 1) := by decide +kernel
theorem dX7_part_4 : decode cX7_part 4 = .ok (.lstore 7, 2) := by decide +kernel
theorem dX7_part_6 : decode cX7_part 6 = .ok (.lload 7, 2) := by decide +kernel
theorem dX7_part_8 : decode cX7_part 8 = .ok (.lconst 0, 1) := by decide +kernel
theorem dX7_part_9 : decode cX7_part 9 = .ok (.lcmp, 1) := by decide +kernel
theorem dX7_part_10 : decode cX7_part 10 = .ok (.ifCond .le 21, 3) := by decide +kernel
theorem dX7_part_13 : decode cX7_part 13 = .ok (.lload 5, 2) := by decide +kernel
theorem dX7_part_15 : decode cX7_part 15 = .ok (.lload 7, 2) := by decide +kernel
theorem dX7_part_17 : decode cX7_part 17 = .ok (.lrem, 1) := by decide +kernel
theorem dX7_part_18 : decode cX7_part 18 = .ok (.lstore 9, 2) := by decide +kernel
theorem dX7_part_20 : decode cX7_part 20 = .ok (.lload 7, 2) := by decide +kernel
theorem dX7_part_22 : decode cX7_part 22 = .ok (.lstore 5, 2) := by decide +kernel
theorem dX7_part_24 : decode cX7_part 24 = .ok (.lload 9, 2) := by decide +kernel
theorem dX7_part_26 : decode cX7_part 26 = .ok (.lstore 7, 2) := by decide +kernel
theorem dX7_part_28 : decode cX7_part 28 = .ok (.goto (-22), 3) := by decide +kernel
theorem dX7_part_31 : decode cX7_part 31 = .ok (.iload 4, 2) := by decide +kernel
theorem dX7_part_33 : decode cX7_part 33 = .ok (.ifCond .ne 7, 3) := by decide +kernel
theorem dX7_part_36 : decode cX7_part 36 = .ok (.lload_n 0, 1) := by decide +kernel
theorem dX7_part_37 : decode cX7_part 37 = .ok (.goto 4, 3) := by decide +kernel
theorem dX7_part_40 : decode cX7_part 40 = .ok (.lload_n 2, 1) := by decide +kernel
theorem dX7_part_41 : decode cX7_part 41 = .ok (.lload 5, 2) := by decide +kernel
theorem dX7_part_43 : decode cX7_part 43 = .ok (.ldiv, 1) := by decide +kernel
theorem dX7_part_44 : decode cX7_part 44 = .ok (.lreturn, 1) := by decide +kernel
set_option maxRecDepth 20000 in
theorem ggX7_layOdds_X7_onOf : GoodIn wsX7_layOdds wsX7_onOf := goodIn_r _ [9] (by decide +kernel) (by decide +kernel)
set_option maxRecDepth 20000 in
theorem gX7_layOdds_X7_onOf : GoodIn wsX7_layOdds (va_wsS RX7 53 yX7_onOf wsX7_onOf) := goodIn_app (goodIn_of _ (by decide +kernel)) ggX7_layOdds_X7_onOf
set_option maxRecDepth 20000 in
theorem ggX7_layOdds_X7_backOf : GoodIn wsX7_layOdds wsX7_backOf := goodIn_r _ [12, 6, 7, 8, 9] (by decide +kernel) (by decide +kernel)
set_option maxRecDepth 20000 in
theorem gX7_layOdds_X7_backOf : GoodIn wsX7_layOdds (va_wsS RX7 57 yX7_backOf wsX7_backOf) := goodIn_app (goodIn_of _ (by decide +kernel)) ggX7_layOdds_X7_backOf
theorem dX7_layOdds_0 : decode cX7_layOdds 0 = .ok (.iconst 0, 1) := by decide +kernel
theorem dX7_layOdds_1 : decode cX7_layOdds 1 = .ok (.istore 5, 2) := by decide +kernel
theorem dX7_layOdds_3 : decode cX7_layOdds 3 = .ok (.iload 5, 2) := by decide +kernel
theorem dX7_layOdds_5 : decode cX7_layOdds 5 = .ok (.bipush 7, 2) := by decide +kernel
theorem dX7_layOdds_7 : decode cX7_layOdds 7 = .ok (.if_icmp .ge 27, 3) := by decide +kernel
theorem dX7_layOdds_10 : decode cX7_layOdds 10 = .ok (.aload_n 0, 1) := by decide +kernel
theorem dX7_layOdds_11 : decode cX7_layOdds 11 = .ok (.getfield 35, 3) := by decide +kernel
theorem dX7_layOdds_14 : decode cX7_layOdds 14 = .ok (.iload 5, 2) := by decide +kernel
theorem dX7_layOdds_16 : decode cX7_layOdds 16 = .ok (.iload 5, 2) := by decide +kernel
theorem dX7_layOdds_18 : decode cX7_layOdds 18 = .ok (.iload_n 2, 1) := by decide +kernel
theorem dX7_layOdds_19 : decode cX7_layOdds 19 = .ok (.if_icmp .ne 7, 3) := by decide +kernel
theorem dX7_layOdds_22 : decode cX7_layOdds 22 = .ok (.lconst 1, 1) := by decide +kernel
theorem dX7_layOdds_23 : decode cX7_layOdds 23 = .ok (.goto 4, 3) := by decide +kernel
theorem dX7_layOdds_26 : decode cX7_layOdds 26 = .ok (.lconst 0, 1) := by decide +kernel
theorem dX7_layOdds_27 : decode cX7_layOdds 27 = .ok (.lastore, 1) := by decide +kernel
theorem dX7_layOdds_28 : decode cX7_layOdds 28 = .ok (.iinc 5 1, 3) := by decide +kernel
theorem dX7_layOdds_31 : decode cX7_layOdds 31 = .ok (.goto (-28), 3) := by decide +kernel
theorem dX7_layOdds_34 : decode cX7_layOdds 34 = .ok (.iload 4, 2) := by decide +kernel
theorem dX7_layOdds_36 : decode cX7_layOdds 36 = .ok (.ifCond .ne 9, 3) := by decide +kernel
theorem dX7_layOdds_39 : decode cX7_layOdds 39 = .ok (.ldc2_w 125, 3) := by decide +kernel
theorem dX7_layOdds_42 : decode cX7_layOdds 42 = .ok (.goto 6, 3) := by decide +kernel
theorem dX7_layOdds_45 : decode cX7_layOdds 45 = .ok (.ldc2_w 127, 3) := by decide +kernel
theorem dX7_layOdds_48 : decode cX7_layOdds 48 = .ok (.lstore 5, 2) := by decide +kernel
theorem dX7_layOdds_50 : decode cX7_layOdds 50 = .ok (.aload_n 0, 1) := by decide +kernel
theorem dX7_layOdds_51 : decode cX7_layOdds 51 = .ok (.lconst 1, 1) := by decide +kernel
theorem dX7_layOdds_52 : decode cX7_layOdds 52 = .ok (.putfield 129, 3) := by decide +kernel
theorem dX7_layOdds_55 : decode cX7_layOdds 55 = .ok (.iconst 0, 1) := by decide +kernel
theorem dX7_layOdds_56 : decode cX7_layOdds 56 = .ok (.istore 7, 2) := by decide +kernel
theorem dX7_layOdds_58 : decode cX7_layOdds 58 = .ok (.iload 7, 2) := by decide +kernel
theorem dX7_layOdds_60 : decode cX7_layOdds 60 = .ok (.iload_n 3, 1) := by decide +kernel
theorem dX7_layOdds_61 : decode cX7_layOdds 61 = .ok (.if_icmp .ge 216, 3) := by decide +kernel
theorem dX7_layOdds_64 : decode cX7_layOdds 64 = .ok (.iconst 0, 1) := by decide +kernel
theorem dX7_layOdds_65 : decode cX7_layOdds 65 = .ok (.istore 8, 2) := by decide +kernel
theorem dX7_layOdds_67 : decode cX7_layOdds 67 = .ok (.iload 8, 2) := by decide +kernel
theorem dX7_layOdds_69 : decode cX7_layOdds 69 = .ok (.bipush 7, 2) := by decide +kernel
theorem dX7_layOdds_71 : decode cX7_layOdds 71 = .ok (.if_icmp .ge 17, 3) := by decide +kernel
theorem dX7_layOdds_74 : decode cX7_layOdds 74 = .ok (.aload_n 0, 1) := by decide +kernel
theorem dX7_layOdds_75 : decode cX7_layOdds 75 = .ok (.getfield 38, 3) := by decide +kernel
theorem dX7_layOdds_78 : decode cX7_layOdds 78 = .ok (.iload 8, 2) := by decide +kernel
theorem dX7_layOdds_80 : decode cX7_layOdds 80 = .ok (.lconst 0, 1) := by decide +kernel
theorem dX7_layOdds_81 : decode cX7_layOdds 81 = .ok (.lastore, 1) := by decide +kernel
theorem dX7_layOdds_82 : decode cX7_layOdds 82 = .ok (.iinc 8 1, 3) := by decide +kernel
theorem dX7_layOdds_85 : decode cX7_layOdds 85 = .ok (.goto (-18), 3) := by decide +kernel
theorem dX7_layOdds_88 : decode cX7_layOdds 88 = .ok (.iconst 0, 1) := by decide +kernel
theorem dX7_layOdds_89 : decode cX7_layOdds 89 = .ok (.istore 8, 2) := by decide +kernel
theorem dX7_layOdds_91 : decode cX7_layOdds 91 = .ok (.iload 8, 2) := by decide +kernel
theorem dX7_layOdds_93 : decode cX7_layOdds 93 = .ok (.bipush 7, 2) := by decide +kernel
theorem dX7_layOdds_95 : decode cX7_layOdds 95 = .ok (.if_icmp .ge 135, 3) := by decide +kernel
theorem dX7_layOdds_98 : decode cX7_layOdds 98 = .ok (.iload 4, 2) := by decide +kernel
theorem dX7_layOdds_100 : decode cX7_layOdds 100 = .ok (.ifCond .ne 7, 3) := by decide +kernel
theorem dX7_layOdds_103 : decode cX7_layOdds 103 = .ok (.iconst 1, 1) := by decide +kernel
theorem dX7_layOdds_104 : decode cX7_layOdds 104 = .ok (.goto 8, 3) := by decide +kernel
theorem dX7_layOdds_107 : decode cX7_layOdds 107 = .ok (.bipush 10, 2) := by decide +kernel
theorem dX7_layOdds_109 : decode cX7_layOdds 109 = .ok (.iload 4, 2) := by decide +kernel
theorem dX7_layOdds_111 : decode cX7_layOdds 111 = .ok (.isub, 1) := by decide +kernel
theorem dX7_layOdds_112 : decode cX7_layOdds 112 = .ok (.istore 9, 2) := by decide +kernel
theorem dX7_layOdds_114 : decode cX7_layOdds 114 = .ok (.iload 9, 2) := by decide +kernel
theorem dX7_layOdds_116 : decode cX7_layOdds 116 = .ok (.i2l, 1) := by decide +kernel
theorem dX7_layOdds_117 : decode cX7_layOdds 117 = .ok (.aload_n 1, 1) := by decide +kernel
theorem dX7_layOdds_118 : decode cX7_layOdds 118 = .ok (.iload 8, 2) := by decide +kernel
theorem dX7_layOdds_120 : decode cX7_layOdds 120 = .ok (.invokestatic 53, 3) := by decide +kernel
theorem dX7_layOdds_123 : decode cX7_layOdds 123 = .ok (.i2l, 1) := by decide +kernel
theorem dX7_layOdds_124 : decode cX7_layOdds 124 = .ok (.lmul, 1) := by decide +kernel
theorem dX7_layOdds_125 : decode cX7_layOdds 125 = .ok (.lstore 10, 2) := by decide +kernel
theorem dX7_layOdds_127 : decode cX7_layOdds 127 = .ok (.iload 9, 2) := by decide +kernel
theorem dX7_layOdds_129 : decode cX7_layOdds 129 = .ok (.i2l, 1) := by decide +kernel
theorem dX7_layOdds_130 : decode cX7_layOdds 130 = .ok (.aload_n 1, 1) := by decide +kernel
theorem dX7_layOdds_131 : decode cX7_layOdds 131 = .ok (.iload 8, 2) := by decide +kernel
theorem dX7_layOdds_133 : decode cX7_layOdds 133 = .ok (.invokestatic 57, 3) := by decide +kernel
theorem dX7_layOdds_136 : decode cX7_layOdds 136 = .ok (.i2l, 1) := by decide +kernel
theorem dX7_layOdds_137 : decode cX7_layOdds 137 = .ok (.lmul, 1) := by decide +kernel
theorem dX7_layOdds_138 : decode cX7_layOdds 138 = .ok (.lstore 12, 2) := by decide +kernel
theorem dX7_layOdds_140 : decode cX7_layOdds 140 = .ok (.aload_n 0, 1) := by decide +kernel
theorem dX7_layOdds_141 : decode cX7_layOdds 141 = .ok (.getfield 38, 3) := by decide +kernel
theorem dX7_layOdds_144 : decode cX7_layOdds 144 = .ok (.iload 8, 2) := by decide +kernel
theorem dX7_layOdds_146 : decode cX7_layOdds 146 = .ok (.dup2, 1) := by decide +kernel
theorem dX7_layOdds_147 : decode cX7_layOdds 147 = .ok (.laload, 1) := by decide +kernel
theorem dX7_layOdds_148 : decode cX7_layOdds 148 = .ok (.aload_n 0, 1) := by decide +kernel
theorem dX7_layOdds_149 : decode cX7_layOdds 149 = .ok (.getfield 35, 3) := by decide +kernel
theorem dX7_layOdds_152 : decode cX7_layOdds 152 = .ok (.iload 8, 2) := by decide +kernel
theorem dX7_layOdds_154 : decode cX7_layOdds 154 = .ok (.laload, 1) := by decide +kernel
theorem dX7_layOdds_155 : decode cX7_layOdds 155 = .ok (.lload 5, 2) := by decide +kernel
theorem dX7_layOdds_157 : decode cX7_layOdds 157 = .ok (.lload 10, 2) := by decide +kernel
theorem dX7_layOdds_159 : decode cX7_layOdds 159 = .ok (.lsub, 1) := by decide +kernel
theorem dX7_layOdds_160 : decode cX7_layOdds 160 = .ok (.lload 12, 2) := by decide +kernel
theorem dX7_layOdds_162 : decode cX7_layOdds 162 = .ok (.lsub, 1) := by decide +kernel
theorem dX7_layOdds_163 : decode cX7_layOdds 163 = .ok (.lmul, 1) := by decide +kernel
theorem dX7_layOdds_164 : decode cX7_layOdds 164 = .ok (.ladd, 1) := by decide +kernel
theorem dX7_layOdds_165 : decode cX7_layOdds 165 = .ok (.lastore, 1) := by decide +kernel
theorem dX7_layOdds_166 : decode cX7_layOdds 166 = .ok (.lload 10, 2) := by decide +kernel
theorem dX7_layOdds_168 : decode cX7_layOdds 168 = .ok (.lconst 0, 1) := by decide +kernel
theorem dX7_layOdds_169 : decode cX7_layOdds 169 = .ok (.lcmp, 1) := by decide +kernel
theorem dX7_layOdds_170 : decode cX7_layOdds 170 = .ok (.ifCond .le 25, 3) := by decide +kernel
theorem dX7_layOdds_173 : decode cX7_layOdds 173 = .ok (.aload_n 0, 1) := by decide +kernel
theorem dX7_layOdds_174 : decode cX7_layOdds 174 = .ok (.getfield 38, 3) := by decide +kernel
theorem dX7_layOdds_177 : decode cX7_layOdds 177 = .ok (.iload 8, 2) := by decide +kernel
theorem dX7_layOdds_179 : decode cX7_layOdds 179 = .ok (.iconst 1, 1) := by decide +kernel
theorem dX7_layOdds_180 : decode cX7_layOdds 180 = .ok (.iadd, 1) := by decide +kernel
theorem dX7_layOdds_181 : decode cX7_layOdds 181 = .ok (.dup2, 1) := by decide +kernel
theorem dX7_layOdds_182 : decode cX7_layOdds 182 = .ok (.laload, 1) := by decide +kernel
theorem dX7_layOdds_183 : decode cX7_layOdds 183 = .ok (.aload_n 0, 1) := by decide +kernel
theorem dX7_layOdds_184 : decode cX7_layOdds 184 = .ok (.getfield 35, 3) := by decide +kernel
theorem dX7_layOdds_187 : decode cX7_layOdds 187 = .ok (.iload 8, 2) := by decide +kernel
theorem dX7_layOdds_189 : decode cX7_layOdds 189 = .ok (.laload, 1) := by decide +kernel
theorem dX7_layOdds_190 : decode cX7_layOdds 190 = .ok (.lload 10, 2) := by decide +kernel
theorem dX7_layOdds_192 : decode cX7_layOdds 192 = .ok (.lmul, 1) := by decide +kernel
theorem dX7_layOdds_193 : decode cX7_layOdds 193 = .ok (.ladd, 1) := by decide +kernel
theorem dX7_layOdds_194 : decode cX7_layOdds 194 = .ok (.lastore, 1) := by decide +kernel
theorem dX7_layOdds_195 : decode cX7_layOdds 195 = .ok (.lload 12, 2) := by decide +kernel
theorem dX7_layOdds_197 : decode cX7_layOdds 197 = .ok (.lconst 0, 1) := by decide +kernel
theorem dX7_layOdds_198 : decode cX7_layOdds 198 = .ok (.lcmp, 1) := by decide +kernel
theorem dX7_layOdds_199 : decode cX7_layOdds 199 = .ok (.ifCond .le 25, 3) := by decide +kernel
theorem dX7_layOdds_202 : decode cX7_layOdds 202 = .ok (.aload_n 0, 1) := by decide +kernel
theorem dX7_layOdds_203 : decode cX7_layOdds 203 = .ok (.getfield 38, 3) := by decide +kernel
theorem dX7_layOdds_206 : decode cX7_layOdds 206 = .ok (.iload 8, 2) := by decide +kernel
theorem dX7_layOdds_208 : decode cX7_layOdds 208 = .ok (.iconst 1, 1) := by decide +kernel
theorem dX7_layOdds_209 : decode cX7_layOdds 209 = .ok (.isub, 1) := by decide +kernel
theorem dX7_layOdds_210 : decode cX7_layOdds 210 = .ok (.dup2, 1) := by decide +kernel
theorem dX7_layOdds_211 : decode cX7_layOdds 211 = .ok (.laload, 1) := by decide +kernel
theorem dX7_layOdds_212 : decode cX7_layOdds 212 = .ok (.aload_n 0, 1) := by decide +kernel
theorem dX7_layOdds_213 : decode cX7_layOdds 213 = .ok (.getfield 35, 3) := by decide +kernel
theorem dX7_layOdds_216 : decode cX7_layOdds 216 = .ok (.iload 8, 2) := by decide +kernel
theorem dX7_layOdds_218 : decode cX7_layOdds 218 = .ok (.laload, 1) := by decide +kernel
theorem dX7_layOdds_219 : decode cX7_layOdds 219 = .ok (.lload 12, 2) := by decide +kernel
theorem dX7_layOdds_221 : decode cX7_layOdds 221 = .ok (.lmul, 1) := by decide +kernel
theorem dX7_layOdds_222 : decode cX7_layOdds 222 = .ok (.ladd, 1) := by decide +kernel
theorem dX7_layOdds_223 : decode cX7_layOdds 223 = .ok (.lastore, 1) := by decide +kernel
theorem dX7_layOdds_224 : decode cX7_layOdds 224 = .ok (.iinc 8 1, 3) := by decide +kernel
theorem dX7_layOdds_227 : decode cX7_layOdds 227 = .ok (.goto (-136), 3) := by decide +kernel
theorem dX7_layOdds_230 : decode cX7_layOdds 230 = .ok (.iconst 0, 1) := by decide +kernel
theorem dX7_layOdds_231 : decode cX7_layOdds 231 = .ok (.istore 8, 2) := by decide +kernel
theorem dX7_layOdds_233 : decode cX7_layOdds 233 = .ok (.iload 8, 2) := by decide +kernel
theorem dX7_layOdds_235 : decode cX7_layOdds 235 = .ok (.bipush 7, 2) := by decide +kernel
theorem dX7_layOdds_237 : decode cX7_layOdds 237 = .ok (.if_icmp .ge 23, 3) := by decide +kernel
theorem dX7_layOdds_240 : decode cX7_layOdds 240 = .ok (.aload_n 0, 1) := by decide +kernel
theorem dX7_layOdds_241 : decode cX7_layOdds 241 = .ok (.getfield 35, 3) := by decide +kernel
theorem dX7_layOdds_244 : decode cX7_layOdds 244 = .ok (.iload 8, 2) := by decide +kernel
theorem dX7_layOdds_246 : decode cX7_layOdds 246 = .ok (.aload_n 0, 1) := by decide +kernel
theorem dX7_layOdds_247 : decode cX7_layOdds 247 = .ok (.getfield 38, 3) := by decide +kernel
theorem dX7_layOdds_250 : decode cX7_layOdds 250 = .ok (.iload 8, 2) := by decide +kernel
theorem dX7_layOdds_252 : decode cX7_layOdds 252 = .ok (.laload, 1) := by decide +kernel
theorem dX7_layOdds_253 : decode cX7_layOdds 253 = .ok (.lastore, 1) := by decide +kernel
theorem dX7_layOdds_254 : decode cX7_layOdds 254 = .ok (.iinc 8 1, 3) := by decide +kernel
theorem dX7_layOdds_257 : decode cX7_layOdds 257 = .ok (.goto (-24), 3) := by decide +kernel
theorem dX7_layOdds_260 : decode cX7_layOdds 260 = .ok (.aload_n 0, 1) := by decide +kernel
theorem dX7_layOdds_261 : decode cX7_layOdds 261 = .ok (.dup, 1) := by decide +kernel
theorem dX7_layOdds_262 : decode cX7_layOdds 262 = .ok (.getfield 129, 3) := by decide +kernel
theorem dX7_layOdds_265 : decode cX7_layOdds 265 = .ok (.lload 5, 2) := by decide +kernel
theorem dX7_layOdds_267 : decode cX7_layOdds 267 = .ok (.lmul, 1) := by decide +kernel
theorem dX7_layOdds_268 : decode cX7_layOdds 268 = .ok (.putfield 129, 3) := by decide +kernel
theorem dX7_layOdds_271 : decode cX7_layOdds 271 = .ok (.iinc 7 1, 3) := by decide +kernel
theorem dX7_layOdds_274 : decode cX7_layOdds 274 = .ok (.goto (-216), 3) := by decide +kernel
theorem dX7_layOdds_277 : decode cX7_layOdds 277 = .ok (.return_, 1) := by decide +kernel
set_option maxRecDepth 20000 in
theorem ggX7_chance_X7_isField : GoodIn wsX7_chance wsX7_isField := goodIn_r _ [7, 8, 9, 6, 10] (by decide +kernel) (by decide +kernel)
set_option maxRecDepth 20000 in
theorem gX7_chance_X7_isField : GoodIn wsX7_chance (va_wsS RX7 45 yX7_isField wsX7_isField) := goodIn_app (goodIn_of _ (by decide +kernel)) ggX7_chance_X7_isField
set_option maxRecDepth 20000 in
theorem ggX7_chance_X7_in : GoodIn wsX7_chance wsX7_in := goodIn_r _ [10] (by decide +kernel) (by decide +kernel)
set_option maxRecDepth 20000 in
theorem gX7_chance_X7_in : GoodIn wsX7_chance (va_wsS RX7 41 yX7_in wsX7_in) := goodIn_app (goodIn_of _ (by decide +kernel)) ggX7_chance_X7_in
set_option maxRecDepth 20000 in
theorem ggX7_chance_X7_layOdds : GoodIn wsX7_chance wsX7_layOdds := goodIn_r _ [14, 2, 15, 16, 3, 17, 18, 19, 6, 20, 21, 22, 23, 27, 28, 29, 30, 31, 32, 33, 34, 35, 36, 37, 38, 39, 40, 41, 42, 43, 44, 45] (by decide +kernel) (by decide +kernel)
set_option maxRecDepth 20000 in
theorem gX7_chance_X7_layOdds : GoodIn wsX7_chance (wsV RX7 133 RX7 yX7_layOdds wsX7_layOdds) := goodIn_app (goodIn_of _ (by decide +kernel)) ggX7_chance_X7_layOdds
set_option maxRecDepth 20000 in
theorem ggX7_chance_X7_part : GoodIn wsX7_chance wsX7_part := goodIn_r _ [26] (by decide +kernel) (by decide +kernel)
set_option maxRecDepth 20000 in
theorem gX7_chance_X7_part : GoodIn wsX7_chance (va_wsS RX7 137 yX7_part wsX7_part) := goodIn_app (goodIn_of _ (by decide +kernel)) ggX7_chance_X7_part
theorem dX7_chance_0 : decode cX7_chance 0 = .ok (.iload_n 1, 1) := by decide +kernel
theorem dX7_chance_1 : decode cX7_chance 1 = .ok (.invokestatic 45, 3) := by decide +kernel
theorem dX7_chance_4 : decode cX7_chance 4 = .ok (.ifCond .eq 22, 3) := by decide +kernel
theorem dX7_chance_7 : decode cX7_chance 7 = .ok (.iload_n 2, 1) := by decide +kernel
theorem dX7_chance_8 : decode cX7_chance 8 = .ok (.iconst 0, 1) := by decide +kernel
theorem dX7_chance_9 : decode cX7_chance 9 = .ok (.bipush 9, 2) := by decide +kernel
theorem dX7_chance_11 : decode cX7_chance 11 = .ok (.invokestatic 41, 3) := by decide +kernel
theorem dX7_chance_14 : decode cX7_chance 14 = .ok (.ifCond .eq 12, 3) := by decide +kernel
theorem dX7_chance_17 : decode cX7_chance 17 = .ok (.iload_n 3, 1) := by decide +kernel
theorem dX7_chance_18 : decode cX7_chance 18 = .ok (.iconst 0, 1) := by decide +kernel
theorem dX7_chance_19 : decode cX7_chance 19 = .ok (.iconst 1, 1) := by decide +kernel
theorem dX7_chance_20 : decode cX7_chance 20 = .ok (.invokestatic 41, 3) := by decide +kernel
theorem dX7_chance_23 : decode cX7_chance 23 = .ok (.ifCond .ne 5, 3) := by decide +kernel
theorem dX7_chance_26 : decode cX7_chance 26 = .ok (.iconst (-1), 1) := by decide +kernel
theorem dX7_chance_27 : decode cX7_chance 27 = .ok (.ireturn, 1) := by decide +kernel
theorem dX7_chance_28 : decode cX7_chance 28 = .ok (.aload_n 0, 1) := by decide +kernel
theorem dX7_chance_29 : decode cX7_chance 29 = .ok (.aload_n 0, 1) := by decide +kernel
theorem dX7_chance_30 : decode cX7_chance 30 = .ok (.getfield 23, 3) := by decide +kernel
theorem dX7_chance_33 : decode cX7_chance 33 = .ok (.aload_n 0, 1) := by decide +kernel
theorem dX7_chance_34 : decode cX7_chance 34 = .ok (.getfield 23, 3) := by decide +kernel
theorem dX7_chance_37 : decode cX7_chance 37 = .ok (.iconst 2, 1) := by decide +kernel
theorem dX7_chance_38 : decode cX7_chance 38 = .ok (.iaload, 1) := by decide +kernel
theorem dX7_chance_39 : decode cX7_chance 39 = .ok (.iload_n 2, 1) := by decide +kernel
theorem dX7_chance_40 : decode cX7_chance 40 = .ok (.iconst 0, 1) := by decide +kernel
theorem dX7_chance_41 : decode cX7_chance 41 = .ok (.invokevirtual 133, 3) := by decide +kernel
theorem dX7_chance_44 : decode cX7_chance 44 = .ok (.aload_n 0, 1) := by decide +kernel
theorem dX7_chance_45 : decode cX7_chance 45 = .ok (.getfield 35, 3) := by decide +kernel
theorem dX7_chance_48 : decode cX7_chance 48 = .ok (.iload_n 1, 1) := by decide +kernel
theorem dX7_chance_49 : decode cX7_chance 49 = .ok (.laload, 1) := by decide +kernel
theorem dX7_chance_50 : decode cX7_chance 50 = .ok (.aload_n 0, 1) := by decide +kernel
theorem dX7_chance_51 : decode cX7_chance 51 = .ok (.getfield 129, 3) := by decide +kernel
theorem dX7_chance_54 : decode cX7_chance 54 = .ok (.iload_n 3, 1) := by decide +kernel
theorem dX7_chance_55 : decode cX7_chance 55 = .ok (.invokestatic 137, 3) := by decide +kernel
theorem dX7_chance_58 : decode cX7_chance 58 = .ok (.l2i, 1) := by decide +kernel
theorem dX7_chance_59 : decode cX7_chance 59 = .ok (.ireturn, 1) := by decide +kernel
set_option maxRecDepth 20000 in
theorem ggX7_likely_X7_in : GoodIn wsX7_likely wsX7_in := goodIn_r _ [6] (by decide +kernel) (by decide +kernel)
set_option maxRecDepth 20000 in
theorem gX7_likely_X7_in : GoodIn wsX7_likely (va_wsS RX7 41 yX7_in wsX7_in) := goodIn_app (goodIn_of _ (by decide +kernel)) ggX7_likely_X7_in
set_option maxRecDepth 20000 in
theorem ggX7_likely_X7_layOdds : GoodIn wsX7_likely wsX7_layOdds := goodIn_r _ [10, 2, 11, 12, 13, 14, 15, 16, 5, 17, 18, 19, 20, 21, 22, 23, 24, 25, 26, 27, 28, 29, 30, 31, 32, 33, 34, 35, 36, 37, 38, 39] (by decide +kernel) (by decide +kernel)
set_option maxRecDepth 20000 in
theorem gX7_likely_X7_layOdds : GoodIn wsX7_likely (wsV RX7 133 RX7 yX7_layOdds wsX7_layOdds) := goodIn_app (goodIn_of _ (by decide +kernel)) ggX7_likely_X7_layOdds
theorem dX7_likely_0 : decode cX7_likely 0 = .ok (.iload_n 1, 1) := by decide +kernel
theorem dX7_likely_1 : decode cX7_likely 1 = .ok (.iconst 0, 1) := by decide +kernel
theorem dX7_likely_2 : decode cX7_likely 2 = .ok (.bipush 9, 2) := by decide +kernel
theorem dX7_likely_4 : decode cX7_likely 4 = .ok (.invokestatic 41, 3) := by decide +kernel
theorem dX7_likely_7 : decode cX7_likely 7 = .ok (.ifCond .ne 5, 3) := by decide +kernel
theorem dX7_likely_10 : decode cX7_likely 10 = .ok (.iconst (-1), 1) := by decide +kernel
theorem dX7_likely_11 : decode cX7_likely 11 = .ok (.ireturn, 1) := by decide +kernel
theorem dX7_likely_12 : decode cX7_likely 12 = .ok (.aload_n 0, 1) := by decide +kernel
theorem dX7_likely_13 : decode cX7_likely 13 = .ok (.aload_n 0, 1) := by decide +kernel
theorem dX7_likely_14 : decode cX7_likely 14 = .ok (.getfield 23, 3) := by decide +kernel
theorem dX7_likely_17 : decode cX7_likely 17 = .ok (.aload_n 0, 1) := by decide +kernel
theorem dX7_likely_18 : decode cX7_likely 18 = .ok (.getfield 23, 3) := by decide +kernel
theorem dX7_likely_21 : decode cX7_likely 21 = .ok (.iconst 2, 1) := by decide +kernel
theorem dX7_likely_22 : decode cX7_likely 22 = .ok (.iaload, 1) := by decide +kernel
theorem dX7_likely_23 : decode cX7_likely 23 = .ok (.iload_n 1, 1) := by decide +kernel
theorem dX7_likely_24 : decode cX7_likely 24 = .ok (.iconst 0, 1) := by decide +kernel
theorem dX7_likely_25 : decode cX7_likely 25 = .ok (.invokevirtual 133, 3) := by decide +kernel
theorem dX7_likely_28 : decode cX7_likely 28 = .ok (.iconst 0, 1) := by decide +kernel
theorem dX7_likely_29 : decode cX7_likely 29 = .ok (.istore_n 2, 1) := by decide +kernel
theorem dX7_likely_30 : decode cX7_likely 30 = .ok (.iconst 1, 1) := by decide +kernel
theorem dX7_likely_31 : decode cX7_likely 31 = .ok (.istore_n 3, 1) := by decide +kernel
theorem dX7_likely_32 : decode cX7_likely 32 = .ok (.iload_n 3, 1) := by decide +kernel
theorem dX7_likely_33 : decode cX7_likely 33 = .ok (.bipush 7, 2) := by decide +kernel
theorem dX7_likely_35 : decode cX7_likely 35 = .ok (.if_icmp .ge 31, 3) := by decide +kernel
theorem dX7_likely_38 : decode cX7_likely 38 = .ok (.aload_n 0, 1) := by decide +kernel
theorem dX7_likely_39 : decode cX7_likely 39 = .ok (.getfield 35, 3) := by decide +kernel
theorem dX7_likely_42 : decode cX7_likely 42 = .ok (.iload_n 3, 1) := by decide +kernel
theorem dX7_likely_43 : decode cX7_likely 43 = .ok (.laload, 1) := by decide +kernel
theorem dX7_likely_44 : decode cX7_likely 44 = .ok (.aload_n 0, 1) := by decide +kernel
theorem dX7_likely_45 : decode cX7_likely 45 = .ok (.getfield 35, 3) := by decide +kernel
theorem dX7_likely_48 : decode cX7_likely 48 = .ok (.iload_n 2, 1) := by decide +kernel
theorem dX7_likely_49 : decode cX7_likely 49 = .ok (.laload, 1) := by decide +kernel
theorem dX7_likely_50 : decode cX7_likely 50 = .ok (.lcmp, 1) := by decide +kernel
theorem dX7_likely_51 : decode cX7_likely 51 = .ok (.ifCond .le 7, 3) := by decide +kernel
theorem dX7_likely_54 : decode cX7_likely 54 = .ok (.iload_n 3, 1) := by decide +kernel
theorem dX7_likely_55 : decode cX7_likely 55 = .ok (.goto 4, 3) := by decide +kernel
theorem dX7_likely_58 : decode cX7_likely 58 = .ok (.iload_n 2, 1) := by decide +kernel
theorem dX7_likely_59 : decode cX7_likely 59 = .ok (.istore_n 2, 1) := by decide +kernel
theorem dX7_likely_60 : decode cX7_likely 60 = .ok (.iinc 3 1, 3) := by decide +kernel
theorem dX7_likely_63 : decode cX7_likely 63 = .ok (.goto (-31), 3) := by decide +kernel
theorem dX7_likely_66 : decode cX7_likely 66 = .ok (.iload_n 2, 1) := by decide +kernel
theorem dX7_likely_67 : decode cX7_likely 67 = .ok (.ireturn, 1) := by decide +kernel
set_option maxRecDepth 20000 in
theorem ggX7_layMean_X7_backOf : GoodIn wsX7_layMean wsX7_backOf := goodIn_r _ [7, 8, 9, 6, 10] (by decide +kernel) (by decide +kernel)
set_option maxRecDepth 20000 in
theorem gX7_layMean_X7_backOf : GoodIn wsX7_layMean (va_wsS RX7 57 yX7_backOf wsX7_backOf) := goodIn_app (goodIn_of _ (by decide +kernel)) ggX7_layMean_X7_backOf
set_option maxRecDepth 20000 in
theorem ggX7_layMean_X7_onOf : GoodIn wsX7_layMean wsX7_onOf := goodIn_r _ [10] (by decide +kernel) (by decide +kernel)
set_option maxRecDepth 20000 in
theorem gX7_layMean_X7_onOf : GoodIn wsX7_layMean (va_wsS RX7 53 yX7_onOf wsX7_onOf) := goodIn_app (goodIn_of _ (by decide +kernel)) ggX7_layMean_X7_onOf
set_option maxRecDepth 20000 in
theorem ggX7_layMean_X7_part : GoodIn wsX7_layMean wsX7_part := goodIn_r _ [13] (by decide +kernel) (by decide +kernel)
set_option maxRecDepth 20000 in
theorem gX7_layMean_X7_part : GoodIn wsX7_layMean (va_wsS RX7 137 yX7_part wsX7_part) := goodIn_app (goodIn_of _ (by decide +kernel)) ggX7_layMean_X7_part
theorem dX7_layMean_0 : decode cX7_layMean 0 = .ok (.lconst 0, 1) := by decide +kernel
theorem dX7_layMean_1 : decode cX7_layMean 1 = .ok (.lstore_n 3, 1) := by decide +kernel
theorem dX7_layMean_2 : decode cX7_layMean 2 = .ok (.lconst 1, 1) := by decide +kernel
theorem dX7_layMean_3 : decode cX7_layMean 3 = .ok (.lstore 5, 2) := by decide +kernel
theorem dX7_layMean_5 : decode cX7_layMean 5 = .ok (.aload_n 0, 1) := by decide +kernel
theorem dX7_layMean_6 : decode cX7_layMean 6 = .ok (.lconst 0, 1) := by decide +kernel
theorem dX7_layMean_7 : decode cX7_layMean 7 = .ok (.putfield 141, 3) := by decide +kernel
theorem dX7_layMean_10 : decode cX7_layMean 10 = .ok (.aload_n 0, 1) := by decide +kernel
theorem dX7_layMean_11 : decode cX7_layMean 11 = .ok (.lconst 1, 1) := by decide +kernel
theorem dX7_layMean_12 : decode cX7_layMean 12 = .ok (.putfield 144, 3) := by decide +kernel
theorem dX7_layMean_15 : decode cX7_layMean 15 = .ok (.iconst 0, 1) := by decide +kernel
theorem dX7_layMean_16 : decode cX7_layMean 16 = .ok (.istore 7, 2) := by decide +kernel
theorem dX7_layMean_18 : decode cX7_layMean 18 = .ok (.iload 7, 2) := by decide +kernel
theorem dX7_layMean_20 : decode cX7_layMean 20 = .ok (.iload_n 2, 1) := by decide +kernel
theorem dX7_layMean_21 : decode cX7_layMean 21 = .ok (.if_icmp .ge 115, 3) := by decide +kernel
theorem dX7_layMean_24 : decode cX7_layMean 24 = .ok (.ldc2_w 125, 3) := by decide +kernel
theorem dX7_layMean_27 : decode cX7_layMean 27 = .ok (.lload 5, 2) := by decide +kernel
theorem dX7_layMean_29 : decode cX7_layMean 29 = .ok (.lmul, 1) := by decide +kernel
theorem dX7_layMean_30 : decode cX7_layMean 30 = .ok (.aload_n 1, 1) := by decide +kernel
theorem dX7_layMean_31 : decode cX7_layMean 31 = .ok (.iload 7, 2) := by decide +kernel
theorem dX7_layMean_33 : decode cX7_layMean 33 = .ok (.invokestatic 57, 3) := by decide +kernel
theorem dX7_layMean_36 : decode cX7_layMean 36 = .ok (.i2l, 1) := by decide +kernel
theorem dX7_layMean_37 : decode cX7_layMean 37 = .ok (.lload_n 3, 1) := by decide +kernel
theorem dX7_layMean_38 : decode cX7_layMean 38 = .ok (.lmul, 1) := by decide +kernel
theorem dX7_layMean_39 : decode cX7_layMean 39 = .ok (.ladd, 1) := by decide +kernel
theorem dX7_layMean_40 : decode cX7_layMean 40 = .ok (.lstore 8, 2) := by decide +kernel
theorem dX7_layMean_42 : decode cX7_layMean 42 = .ok (.lload 5, 2) := by decide +kernel
theorem dX7_layMean_44 : decode cX7_layMean 44 = .ok (.aload_n 1, 1) := by decide +kernel
theorem dX7_layMean_45 : decode cX7_layMean 45 = .ok (.iload 7, 2) := by decide +kernel
theorem dX7_layMean_47 : decode cX7_layMean 47 = .ok (.invokestatic 53, 3) := by decide +kernel
theorem dX7_layMean_50 : decode cX7_layMean 50 = .ok (.i2l, 1) := by decide +kernel
theorem dX7_layMean_51 : decode cX7_layMean 51 = .ok (.lmul, 1) := by decide +kernel
theorem dX7_layMean_52 : decode cX7_layMean 52 = .ok (.lstore 10, 2) := by decide +kernel
theorem dX7_layMean_54 : decode cX7_layMean 54 = .ok (.lload 8, 2) := by decide +kernel
theorem dX7_layMean_56 : decode cX7_layMean 56 = .ok (.lload 10, 2) := by decide +kernel
theorem dX7_layMean_58 : decode cX7_layMean 58 = .ok (.iconst 0, 1) := by decide +kernel
theorem dX7_layMean_59 : decode cX7_layMean 59 = .ok (.invokestatic 137, 3) := by decide +kernel
theorem dX7_layMean_62 : decode cX7_layMean 62 = .ok (.lstore_n 3, 1) := by decide +kernel
theorem dX7_layMean_63 : decode cX7_layMean 63 = .ok (.lload 8, 2) := by decide +kernel
theorem dX7_layMean_65 : decode cX7_layMean 65 = .ok (.lload 10, 2) := by decide +kernel
theorem dX7_layMean_67 : decode cX7_layMean 67 = .ok (.iconst 1, 1) := by decide +kernel
theorem dX7_layMean_68 : decode cX7_layMean 68 = .ok (.invokestatic 137, 3) := by decide +kernel
theorem dX7_layMean_71 : decode cX7_layMean 71 = .ok (.lstore 5, 2) := by decide +kernel
theorem dX7_layMean_73 : decode cX7_layMean 73 = .ok (.iload 7, 2) := by decide +kernel
theorem dX7_layMean_75 : decode cX7_layMean 75 = .ok (.aload_n 1, 1) := by decide +kernel
theorem dX7_layMean_76 : decode cX7_layMean 76 = .ok (.iconst 2, 1) := by decide +kernel
theorem dX7_layMean_77 : decode cX7_layMean 77 = .ok (.iaload, 1) := by decide +kernel
theorem dX7_layMean_78 : decode cX7_layMean 78 = .ok (.if_icmp .lt 52, 3) := by decide +kernel
theorem dX7_layMean_81 : decode cX7_layMean 81 = .ok (.aload_n 0, 1) := by decide +kernel
theorem dX7_layMean_82 : decode cX7_layMean 82 = .ok (.getfield 141, 3) := by decide +kernel
theorem dX7_layMean_85 : decode cX7_layMean 85 = .ok (.lload 5, 2) := by decide +kernel
theorem dX7_layMean_87 : decode cX7_layMean 87 = .ok (.lmul, 1) := by decide +kernel
theorem dX7_layMean_88 : decode cX7_layMean 88 = .ok (.lload_n 3, 1) := by decide +kernel
theorem dX7_layMean_89 : decode cX7_layMean 89 = .ok (.aload_n 0, 1) := by decide +kernel
theorem dX7_layMean_90 : decode cX7_layMean 90 = .ok (.getfield 144, 3) := by decide +kernel
theorem dX7_layMean_93 : decode cX7_layMean 93 = .ok (.lmul, 1) := by decide +kernel
theorem dX7_layMean_94 : decode cX7_layMean 94 = .ok (.ladd, 1) := by decide +kernel
theorem dX7_layMean_95 : decode cX7_layMean 95 = .ok (.lstore 12, 2) := by decide +kernel
theorem dX7_layMean_97 : decode cX7_layMean 97 = .ok (.aload_n 0, 1) := by decide +kernel
theorem dX7_layMean_98 : decode cX7_layMean 98 = .ok (.getfield 144, 3) := by decide +kernel
theorem dX7_layMean_101 : decode cX7_layMean 101 = .ok (.lload 5, 2) := by decide +kernel
theorem dX7_layMean_103 : decode cX7_layMean 103 = .ok (.lmul, 1) := by decide +kernel
theorem dX7_layMean_104 : decode cX7_layMean 104 = .ok (.lstore 14, 2) := by decide +kernel
theorem dX7_layMean_106 : decode cX7_layMean 106 = .ok (.aload_n 0, 1) := by decide +kernel
theorem dX7_layMean_107 : decode cX7_layMean 107 = .ok (.lload 12, 2) := by decide +kernel
theorem dX7_layMean_109 : decode cX7_layMean 109 = .ok (.lload 14, 2) := by decide +kernel
theorem dX7_layMean_111 : decode cX7_layMean 111 = .ok (.iconst 0, 1) := by decide +kernel
theorem dX7_layMean_112 : decode cX7_layMean 112 = .ok (.invokestatic 137, 3) := by decide +kernel
theorem dX7_layMean_115 : decode cX7_layMean 115 = .ok (.putfield 141, 3) := by decide +kernel
theorem dX7_layMean_118 : decode cX7_layMean 118 = .ok (.aload_n 0, 1) := by decide +kernel
theorem dX7_layMean_119 : decode cX7_layMean 119 = .ok (.lload 12, 2) := by decide +kernel
theorem dX7_layMean_121 : decode cX7_layMean 121 = .ok (.lload 14, 2) := by decide +kernel
theorem dX7_layMean_123 : decode cX7_layMean 123 = .ok (.iconst 1, 1) := by decide +kernel
theorem dX7_layMean_124 : decode cX7_layMean 124 = .ok (.invokestatic 137, 3) := by decide +kernel
theorem dX7_layMean_127 : decode cX7_layMean 127 = .ok (.putfield 144, 3) := by decide +kernel
theorem dX7_layMean_130 : decode cX7_layMean 130 = .ok (.iinc 7 1, 3) := by decide +kernel
theorem dX7_layMean_133 : decode cX7_layMean 133 = .ok (.goto (-115), 3) := by decide +kernel
theorem dX7_layMean_136 : decode cX7_layMean 136 = .ok (.return_, 1) := by decide +kernel
set_option maxRecDepth 20000 in
theorem ggX7_mean_X7_in : GoodIn wsX7_mean wsX7_in := goodIn_r _ [8] (by decide +kernel) (by decide +kernel)
set_option maxRecDepth 20000 in
theorem gX7_mean_X7_in : GoodIn wsX7_mean (va_wsS RX7 41 yX7_in wsX7_in) := goodIn_app (goodIn_of _ (by decide +kernel)) ggX7_mean_X7_in
set_option maxRecDepth 20000 in
theorem ggX7_mean_X7_layMean : GoodIn wsX7_mean wsX7_layMean := goodIn_r _ [12, 3, 4, 13, 14, 15, 7, 16, 17, 18, 19, 20, 21, 22, 23, 24, 25, 26, 27, 28, 29, 30, 31, 32, 33, 34, 35, 36, 37, 38, 39, 40, 41] (by decide +kernel) (by decide +kernel)
set_option maxRecDepth 20000 in
theorem gX7_mean_X7_layMean : GoodIn wsX7_mean (wsV RX7 149 RX7 yX7_layMean wsX7_layMean) := goodIn_app (goodIn_of _ (by decide +kernel)) ggX7_mean_X7_layMean
theorem dX7_mean_0 : decode cX7_mean 0 = .ok (.iload_n 1, 1) := by decide +kernel
theorem dX7_mean_1 : decode cX7_mean 1 = .ok (.aload_n 0, 1) := by decide +kernel
theorem dX7_mean_2 : decode cX7_mean 2 = .ok (.getfield 23, 3) := by decide +kernel
theorem dX7_mean_5 : decode cX7_mean 5 = .ok (.iconst 2, 1) := by decide +kernel
theorem dX7_mean_6 : decode cX7_mean 6 = .ok (.iaload, 1) := by decide +kernel
theorem dX7_mean_7 : decode cX7_mean 7 = .ok (.bipush 6, 2) := by decide +kernel
theorem dX7_mean_9 : decode cX7_mean 9 = .ok (.invokestatic 41, 3) := by decide +kernel
theorem dX7_mean_12 : decode cX7_mean 12 = .ok (.ifCond .eq 12, 3) := by decide +kernel
theorem dX7_mean_15 : decode cX7_mean 15 = .ok (.iload_n 2, 1) := by decide +kernel
theorem dX7_mean_16 : decode cX7_mean 16 = .ok (.iconst 0, 1) := by decide +kernel
theorem dX7_mean_17 : decode cX7_mean 17 = .ok (.iconst 1, 1) := by decide +kernel
theorem dX7_mean_18 : decode cX7_mean 18 = .ok (.invokestatic 41, 3) := by decide +kernel
theorem dX7_mean_21 : decode cX7_mean 21 = .ok (.ifCond .ne 7, 3) := by decide +kernel
theorem dX7_mean_24 : decode cX7_mean 24 = .ok (.ldc2_w 147, 3) := by decide +kernel
theorem dX7_mean_27 : decode cX7_mean 27 = .ok (.lreturn, 1) := by decide +kernel
theorem dX7_mean_28 : decode cX7_mean 28 = .ok (.aload_n 0, 1) := by decide +kernel
theorem dX7_mean_29 : decode cX7_mean 29 = .ok (.aload_n 0, 1) := by decide +kernel
theorem dX7_mean_30 : decode cX7_mean 30 = .ok (.getfield 23, 3) := by decide +kernel
theorem dX7_mean_33 : decode cX7_mean 33 = .ok (.iload_n 1, 1) := by decide +kernel
theorem dX7_mean_34 : decode cX7_mean 34 = .ok (.invokevirtual 149, 3) := by decide +kernel
theorem dX7_mean_37 : decode cX7_mean 37 = .ok (.iload_n 2, 1) := by decide +kernel
theorem dX7_mean_38 : decode cX7_mean 38 = .ok (.ifCond .ne 10, 3) := by decide +kernel
theorem dX7_mean_41 : decode cX7_mean 41 = .ok (.aload_n 0, 1) := by decide +kernel
theorem dX7_mean_42 : decode cX7_mean 42 = .ok (.getfield 141, 3) := by decide +kernel
theorem dX7_mean_45 : decode cX7_mean 45 = .ok (.goto 7, 3) := by decide +kernel
theorem dX7_mean_48 : decode cX7_mean 48 = .ok (.aload_n 0, 1) := by decide +kernel
theorem dX7_mean_49 : decode cX7_mean 49 = .ok (.getfield 144, 3) := by decide +kernel
theorem dX7_mean_52 : decode cX7_mean 52 = .ok (.lreturn, 1) := by decide +kernel
theorem dX7_oddsOf_0 : decode cX7_oddsOf 0 = .ok (.lconst 0, 1) := by decide +kernel
theorem dX7_oddsOf_1 : decode cX7_oddsOf 1 = .ok (.lstore_n 2, 1) := by decide +kernel
theorem dX7_oddsOf_2 : decode cX7_oddsOf 2 = .ok (.aload_n 0, 1) := by decide +kernel
theorem dX7_oddsOf_3 : decode cX7_oddsOf 3 = .ok (.getfield 23, 3) := by decide +kernel
theorem dX7_oddsOf_6 : decode cX7_oddsOf 6 = .ok (.bipush 25, 2) := by decide +kernel
theorem dX7_oddsOf_8 : decode cX7_oddsOf 8 = .ok (.iload_n 1, 1) := by decide +kernel
theorem dX7_oddsOf_9 : decode cX7_oddsOf 9 = .ok (.iadd, 1) := by decide +kernel
theorem dX7_oddsOf_10 : decode cX7_oddsOf 10 = .ok (.iaload, 1) := by decide +kernel
theorem dX7_oddsOf_11 : decode cX7_oddsOf 11 = .ok (.istore 4, 2) := by decide +kernel
theorem dX7_oddsOf_13 : decode cX7_oddsOf 13 = .ok (.iload 4, 2) := by decide +kernel
theorem dX7_oddsOf_15 : decode cX7_oddsOf 15 = .ok (.aload_n 0, 1) := by decide +kernel
theorem dX7_oddsOf_16 : decode cX7_oddsOf 16 = .ok (.getfield 23, 3) := by decide +kernel
theorem dX7_oddsOf_19 : decode cX7_oddsOf 19 = .ok (.bipush 30, 2) := by decide +kernel
theorem dX7_oddsOf_21 : decode cX7_oddsOf 21 = .ok (.iload_n 1, 1) := by decide +kernel
theorem dX7_oddsOf_22 : decode cX7_oddsOf 22 = .ok (.iadd, 1) := by decide +kernel
theorem dX7_oddsOf_23 : decode cX7_oddsOf 23 = .ok (.iaload, 1) := by decide +kernel
theorem dX7_oddsOf_24 : decode cX7_oddsOf 24 = .ok (.if_icmp .gt 19, 3) := by decide +kernel
theorem dX7_oddsOf_27 : decode cX7_oddsOf 27 = .ok (.lload_n 2, 1) := by decide +kernel
theorem dX7_oddsOf_28 : decode cX7_oddsOf 28 = .ok (.aload_n 0, 1) := by decide +kernel
theorem dX7_oddsOf_29 : decode cX7_oddsOf 29 = .ok (.getfield 35, 3) := by decide +kernel
theorem dX7_oddsOf_32 : decode cX7_oddsOf 32 = .ok (.iload 4, 2) := by decide +kernel
theorem dX7_oddsOf_34 : decode cX7_oddsOf 34 = .ok (.laload, 1) := by decide +kernel
theorem dX7_oddsOf_35 : decode cX7_oddsOf 35 = .ok (.ladd, 1) := by decide +kernel
theorem dX7_oddsOf_36 : decode cX7_oddsOf 36 = .ok (.lstore_n 2, 1) := by decide +kernel
theorem dX7_oddsOf_37 : decode cX7_oddsOf 37 = .ok (.iinc 4 1, 3) := by decide +kernel
theorem dX7_oddsOf_40 : decode cX7_oddsOf 40 = .ok (.goto (-27), 3) := by decide +kernel
theorem dX7_oddsOf_43 : decode cX7_oddsOf 43 = .ok (.lload_n 2, 1) := by decide +kernel
theorem dX7_oddsOf_44 : decode cX7_oddsOf 44 = .ok (.lreturn, 1) := by decide +kernel
set_option maxRecDepth 20000 in
theorem ggX7_right_X7_isClaim : GoodIn wsX7_right wsX7_isClaim := goodIn_r _ [7, 1, 8, 9, 6, 10, 32, 33, 34, 35, 36, 37, 38, 39, 40, 41, 42, 43, 44, 45, 46, 47, 48, 49, 50] (by decide +kernel) (by decide +kernel)
set_option maxRecDepth 20000 in
theorem gX7_right_X7_isClaim : GoodIn wsX7_right (wsV RX7 60 RX7 yX7_isClaim wsX7_isClaim) := goodIn_app (goodIn_of _ (by decide +kernel)) ggX7_right_X7_isClaim
set_option maxRecDepth 20000 in
theorem ggX7_right_X7_in : GoodIn wsX7_right wsX7_in := goodIn_r _ [10] (by decide +kernel) (by decide +kernel)
set_option maxRecDepth 20000 in
theorem gX7_right_X7_in : GoodIn wsX7_right (va_wsS RX7 41 yX7_in wsX7_in) := goodIn_app (goodIn_of _ (by decide +kernel)) ggX7_right_X7_in
set_option maxRecDepth 20000 in
theorem ggX7_right_X7_layOdds : GoodIn wsX7_right wsX7_layOdds := goodIn_r _ [14, 15, 16, 17, 2, 18, 19, 20, 6, 21, 22, 23, 24, 32, 33, 34, 35, 36, 37, 38, 39, 40, 41, 42, 43, 44, 45, 46, 47, 48, 49, 50] (by decide +kernel) (by decide +kernel)
set_option maxRecDepth 20000 in
theorem gX7_right_X7_layOdds : GoodIn wsX7_right (wsV RX7 133 RX7 yX7_layOdds wsX7_layOdds) := goodIn_app (goodIn_of _ (by decide +kernel)) ggX7_right_X7_layOdds
set_option maxRecDepth 20000 in
theorem ggX7_right_X7_oddsOf : GoodIn wsX7_right wsX7_oddsOf := goodIn_r _ [28, 1, 15, 32, 33, 34, 35, 36, 37, 38, 39, 40, 41, 42, 43, 44, 45, 46, 47, 48, 49, 50] (by decide +kernel) (by decide +kernel)
set_option maxRecDepth 20000 in
theorem gX7_right_X7_oddsOf : GoodIn wsX7_right (wsV RX7 153 RX7 yX7_oddsOf wsX7_oddsOf) := goodIn_app (goodIn_of _ (by decide +kernel)) ggX7_right_X7_oddsOf
set_option maxRecDepth 20000 in
theorem ggX7_right_X7_part : GoodIn wsX7_right wsX7_part := goodIn_r _ [31] (by decide +kernel) (by decide +kernel)
set_option maxRecDepth 20000 in
theorem gX7_right_X7_part : GoodIn wsX7_right (va_wsS RX7 137 yX7_part wsX7_part) := goodIn_app (goodIn_of _ (by decide +kernel)) ggX7_right_X7_part
theorem dX7_right_0 : decode cX7_right 0 = .ok (.aload_n 0, 1) := by decide +kernel
theorem dX7_right_1 : decode cX7_right 1 = .ok (.iload_n 1, 1) := by decide +kernel
theorem dX7_right_2 : decode cX7_right 2 = .ok (.invokevirtual 60, 3) := by decide +kernel
theorem dX7_right_5 : decode cX7_right 5 = .ok (.ifCond .eq 22, 3) := by decide +kernel
theorem dX7_right_8 : decode cX7_right 8 = .ok (.iload_n 2, 1) := by decide +kernel
theorem dX7_right_9 : decode cX7_right 9 = .ok (.iconst 0, 1) := by decide +kernel
theorem dX7_right_10 : decode cX7_right 10 = .ok (.bipush 9, 2) := by decide +kernel
theorem dX7_right_12 : decode cX7_right 12 = .ok (.invokestatic 41, 3) := by decide +kernel
theorem dX7_right_15 : decode cX7_right 15 = .ok (.ifCond .eq 12, 3) := by decide +kernel
theorem dX7_right_18 : decode cX7_right 18 = .ok (.iload_n 3, 1) := by decide +kernel
theorem dX7_right_19 : decode cX7_right 19 = .ok (.iconst 0, 1) := by decide +kernel
theorem dX7_right_20 : decode cX7_right 20 = .ok (.iconst 2, 1) := by decide +kernel
theorem dX7_right_21 : decode cX7_right 21 = .ok (.invokestatic 41, 3) := by decide +kernel
theorem dX7_right_24 : decode cX7_right 24 = .ok (.ifCond .ne 5, 3) := by decide +kernel
theorem dX7_right_27 : decode cX7_right 27 = .ok (.iconst (-1), 1) := by decide +kernel
theorem dX7_right_28 : decode cX7_right 28 = .ok (.ireturn, 1) := by decide +kernel
theorem dX7_right_29 : decode cX7_right 29 = .ok (.aload_n 0, 1) := by decide +kernel
theorem dX7_right_30 : decode cX7_right 30 = .ok (.aload_n 0, 1) := by decide +kernel
theorem dX7_right_31 : decode cX7_right 31 = .ok (.getfield 23, 3) := by decide +kernel
theorem dX7_right_34 : decode cX7_right 34 = .ok (.aload_n 0, 1) := by decide +kernel
theorem dX7_right_35 : decode cX7_right 35 = .ok (.getfield 23, 3) := by decide +kernel
theorem dX7_right_38 : decode cX7_right 38 = .ok (.iconst 2, 1) := by decide +kernel
theorem dX7_right_39 : decode cX7_right 39 = .ok (.iaload, 1) := by decide +kernel
theorem dX7_right_40 : decode cX7_right 40 = .ok (.iload_n 2, 1) := by decide +kernel
theorem dX7_right_41 : decode cX7_right 41 = .ok (.iconst 0, 1) := by decide +kernel
theorem dX7_right_42 : decode cX7_right 42 = .ok (.invokevirtual 133, 3) := by decide +kernel
theorem dX7_right_45 : decode cX7_right 45 = .ok (.aload_n 0, 1) := by decide +kernel
theorem dX7_right_46 : decode cX7_right 46 = .ok (.iload_n 1, 1) := by decide +kernel
theorem dX7_right_47 : decode cX7_right 47 = .ok (.invokevirtual 153, 3) := by decide +kernel
theorem dX7_right_50 : decode cX7_right 50 = .ok (.lstore 4, 2) := by decide +kernel
theorem dX7_right_52 : decode cX7_right 52 = .ok (.iload_n 3, 1) := by decide +kernel
theorem dX7_right_53 : decode cX7_right 53 = .ok (.iconst 2, 1) := by decide +kernel
theorem dX7_right_54 : decode cX7_right 54 = .ok (.if_icmp .ne 24, 3) := by decide +kernel
theorem dX7_right_57 : decode cX7_right 57 = .ok (.aload_n 0, 1) := by decide +kernel
theorem dX7_right_58 : decode cX7_right 58 = .ok (.getfield 23, 3) := by decide +kernel
theorem dX7_right_61 : decode cX7_right 61 = .ok (.bipush 35, 2) := by decide +kernel
theorem dX7_right_63 : decode cX7_right 63 = .ok (.iload_n 1, 1) := by decide +kernel
theorem dX7_right_64 : decode cX7_right 64 = .ok (.iadd, 1) := by decide +kernel
theorem dX7_right_65 : decode cX7_right 65 = .ok (.iaload, 1) := by decide +kernel
theorem dX7_right_66 : decode cX7_right 66 = .ok (.i2l, 1) := by decide +kernel
theorem dX7_right_67 : decode cX7_right 67 = .ok (.lload 4, 2) := by decide +kernel
theorem dX7_right_69 : decode cX7_right 69 = .ok (.lmul, 1) := by decide +kernel
theorem dX7_right_70 : decode cX7_right 70 = .ok (.aload_n 0, 1) := by decide +kernel
theorem dX7_right_71 : decode cX7_right 71 = .ok (.getfield 129, 3) := by decide +kernel
theorem dX7_right_74 : decode cX7_right 74 = .ok (.ldiv, 1) := by decide +kernel
theorem dX7_right_75 : decode cX7_right 75 = .ok (.goto 13, 3) := by decide +kernel
theorem dX7_right_78 : decode cX7_right 78 = .ok (.lload 4, 2) := by decide +kernel
theorem dX7_right_80 : decode cX7_right 80 = .ok (.aload_n 0, 1) := by decide +kernel
theorem dX7_right_81 : decode cX7_right 81 = .ok (.getfield 129, 3) := by decide +kernel
theorem dX7_right_84 : decode cX7_right 84 = .ok (.iload_n 3, 1) := by decide +kernel
theorem dX7_right_85 : decode cX7_right 85 = .ok (.invokestatic 137, 3) := by decide +kernel
theorem dX7_right_88 : decode cX7_right 88 = .ok (.l2i, 1) := by decide +kernel
theorem dX7_right_89 : decode cX7_right 89 = .ok (.ireturn, 1) := by decide +kernel
set_option maxRecDepth 20000 in
theorem ggX7_sure_X7_in : GoodIn wsX7_sure wsX7_in := goodIn_r _ [6] (by decide +kernel) (by decide +kernel)
set_option maxRecDepth 20000 in
theorem gX7_sure_X7_in : GoodIn wsX7_sure (va_wsS RX7 41 yX7_in wsX7_in) := goodIn_app (goodIn_of _ (by decide +kernel)) ggX7_sure_X7_in
set_option maxRecDepth 20000 in
theorem ggX7_sure_X7_layOdds : GoodIn wsX7_sure wsX7_layOdds := goodIn_r _ [10, 2, 11, 12, 13, 14, 15, 16, 5, 17, 18, 19, 20, 21, 22, 23, 24, 25, 26, 27, 28, 29, 30, 31, 32, 33, 34, 35, 36, 37, 38, 39] (by decide +kernel) (by decide +kernel)
set_option maxRecDepth 20000 in
theorem gX7_sure_X7_layOdds : GoodIn wsX7_sure (wsV RX7 133 RX7 yX7_layOdds wsX7_layOdds) := goodIn_app (goodIn_of _ (by decide +kernel)) ggX7_sure_X7_layOdds
theorem dX7_sure_0 : decode cX7_sure 0 = .ok (.iload_n 1, 1) := by decide +kernel
theorem dX7_sure_1 : decode cX7_sure 1 = .ok (.iconst 0, 1) := by decide +kernel
theorem dX7_sure_2 : decode cX7_sure 2 = .ok (.bipush 9, 2) := by decide +kernel
theorem dX7_sure_4 : decode cX7_sure 4 = .ok (.invokestatic 41, 3) := by decide +kernel
theorem dX7_sure_7 : decode cX7_sure 7 = .ok (.ifCond .ne 5, 3) := by decide +kernel
theorem dX7_sure_10 : decode cX7_sure 10 = .ok (.iconst (-1), 1) := by decide +kernel
theorem dX7_sure_11 : decode cX7_sure 11 = .ok (.ireturn, 1) := by decide +kernel
theorem dX7_sure_12 : decode cX7_sure 12 = .ok (.aload_n 0, 1) := by decide +kernel
theorem dX7_sure_13 : decode cX7_sure 13 = .ok (.aload_n 0, 1) := by decide +kernel
theorem dX7_sure_14 : decode cX7_sure 14 = .ok (.getfield 23, 3) := by decide +kernel
theorem dX7_sure_17 : decode cX7_sure 17 = .ok (.aload_n 0, 1) := by decide +kernel
theorem dX7_sure_18 : decode cX7_sure 18 = .ok (.getfield 23, 3) := by decide +kernel
theorem dX7_sure_21 : decode cX7_sure 21 = .ok (.iconst 2, 1) := by decide +kernel
theorem dX7_sure_22 : decode cX7_sure 22 = .ok (.iaload, 1) := by decide +kernel
theorem dX7_sure_23 : decode cX7_sure 23 = .ok (.iload_n 1, 1) := by decide +kernel
theorem dX7_sure_24 : decode cX7_sure 24 = .ok (.iconst 0, 1) := by decide +kernel
theorem dX7_sure_25 : decode cX7_sure 25 = .ok (.invokevirtual 133, 3) := by decide +kernel
theorem dX7_sure_28 : decode cX7_sure 28 = .ok (.iconst 0, 1) := by decide +kernel
theorem dX7_sure_29 : decode cX7_sure 29 = .ok (.istore_n 2, 1) := by decide +kernel
theorem dX7_sure_30 : decode cX7_sure 30 = .ok (.iconst 0, 1) := by decide +kernel
theorem dX7_sure_31 : decode cX7_sure 31 = .ok (.istore_n 3, 1) := by decide +kernel
theorem dX7_sure_32 : decode cX7_sure 32 = .ok (.iload_n 3, 1) := by decide +kernel
theorem dX7_sure_33 : decode cX7_sure 33 = .ok (.bipush 7, 2) := by decide +kernel
theorem dX7_sure_35 : decode cX7_sure 35 = .ok (.if_icmp .ge 30, 3) := by decide +kernel
theorem dX7_sure_38 : decode cX7_sure 38 = .ok (.iload_n 2, 1) := by decide +kernel
theorem dX7_sure_39 : decode cX7_sure 39 = .ok (.aload_n 0, 1) := by decide +kernel
theorem dX7_sure_40 : decode cX7_sure 40 = .ok (.getfield 35, 3) := by decide +kernel
theorem dX7_sure_43 : decode cX7_sure 43 = .ok (.iload_n 3, 1) := by decide +kernel
theorem dX7_sure_44 : decode cX7_sure 44 = .ok (.laload, 1) := by decide +kernel
theorem dX7_sure_45 : decode cX7_sure 45 = .ok (.lconst 0, 1) := by decide +kernel
theorem dX7_sure_46 : decode cX7_sure 46 = .ok (.lcmp, 1) := by decide +kernel
theorem dX7_sure_47 : decode cX7_sure 47 = .ok (.ifCond .le 9, 3) := by decide +kernel
theorem dX7_sure_50 : decode cX7_sure 50 = .ok (.iconst 1, 1) := by decide +kernel
theorem dX7_sure_51 : decode cX7_sure 51 = .ok (.iload_n 3, 1) := by decide +kernel
theorem dX7_sure_52 : decode cX7_sure 52 = .ok (.ishl, 1) := by decide +kernel
theorem dX7_sure_53 : decode cX7_sure 53 = .ok (.goto 4, 3) := by decide +kernel
theorem dX7_sure_56 : decode cX7_sure 56 = .ok (.iconst 0, 1) := by decide +kernel
theorem dX7_sure_57 : decode cX7_sure 57 = .ok (.ior, 1) := by decide +kernel
theorem dX7_sure_58 : decode cX7_sure 58 = .ok (.istore_n 2, 1) := by decide +kernel
theorem dX7_sure_59 : decode cX7_sure 59 = .ok (.iinc 3 1, 3) := by decide +kernel
theorem dX7_sure_62 : decode cX7_sure 62 = .ok (.goto (-30), 3) := by decide +kernel
theorem dX7_sure_65 : decode cX7_sure 65 = .ok (.iload_n 2, 1) := by decide +kernel
theorem dX7_sure_66 : decode cX7_sure 66 = .ok (.ireturn, 1) := by decide +kernel
set_option maxRecDepth 20000 in
theorem ggX7_down_X7_in : GoodIn wsX7_down wsX7_in := goodIn_r _ [11] (by decide +kernel) (by decide +kernel)
set_option maxRecDepth 20000 in
theorem gX7_down_X7_in : GoodIn wsX7_down (va_wsS RX7 41 yX7_in wsX7_in) := goodIn_app (goodIn_of _ (by decide +kernel)) ggX7_down_X7_in
set_option maxRecDepth 20000 in
theorem ggX7_down_X7_begin : GoodIn wsX7_down wsX7_begin := goodIn_r _ [15, 1, 3, 16, 17, 10, 18, 33, 34, 35, 36, 37, 38, 39, 40, 41, 42, 43, 44, 45, 46, 47, 48, 49, 50, 51] (by decide +kernel) (by decide +kernel)
set_option maxRecDepth 20000 in
theorem gX7_down_X7_begin : GoodIn wsX7_down (wsV RX7 157 RX7 yX7_begin wsX7_begin) := goodIn_app (goodIn_of _ (by decide +kernel)) ggX7_down_X7_begin
set_option maxRecDepth 20000 in
theorem ggX7_down_X7_layMean : GoodIn wsX7_down wsX7_layMean := goodIn_r _ [22, 4, 7, 23, 24, 25, 10, 26, 27, 28, 29, 30, 31, 32, 33, 34, 35, 36, 37, 38, 39, 40, 41, 42, 43, 44, 45, 46, 47, 48, 49, 50, 51] (by decide +kernel) (by decide +kernel)
set_option maxRecDepth 20000 in
theorem gX7_down_X7_layMean : GoodIn wsX7_down (wsV RX7 149 RX7 yX7_layMean wsX7_layMean) := goodIn_app (goodIn_of _ (by decide +kernel)) ggX7_down_X7_layMean
theorem dX7_down_0 : decode cX7_down 0 = .ok (.iload_n 1, 1) := by decide +kernel
theorem dX7_down_1 : decode cX7_down 1 = .ok (.aload_n 0, 1) := by decide +kernel
theorem dX7_down_2 : decode cX7_down 2 = .ok (.getfield 23, 3) := by decide +kernel
theorem dX7_down_5 : decode cX7_down 5 = .ok (.iconst 2, 1) := by decide +kernel
theorem dX7_down_6 : decode cX7_down 6 = .ok (.iaload, 1) := by decide +kernel
theorem dX7_down_7 : decode cX7_down 7 = .ok (.bipush 6, 2) := by decide +kernel
theorem dX7_down_9 : decode cX7_down 9 = .ok (.invokestatic 41, 3) := by decide +kernel
theorem dX7_down_12 : decode cX7_down 12 = .ok (.ifCond .eq 12, 3) := by decide +kernel
theorem dX7_down_15 : decode cX7_down 15 = .ok (.iload_n 2, 1) := by decide +kernel
theorem dX7_down_16 : decode cX7_down 16 = .ok (.iconst 0, 1) := by decide +kernel
theorem dX7_down_17 : decode cX7_down 17 = .ok (.iconst 2, 1) := by decide +kernel
theorem dX7_down_18 : decode cX7_down 18 = .ok (.invokestatic 41, 3) := by decide +kernel
theorem dX7_down_21 : decode cX7_down 21 = .ok (.ifCond .ne 7, 3) := by decide +kernel
theorem dX7_down_24 : decode cX7_down 24 = .ok (.ldc2_w 147, 3) := by decide +kernel
theorem dX7_down_27 : decode cX7_down 27 = .ok (.lreturn, 1) := by decide +kernel
theorem dX7_down_28 : decode cX7_down 28 = .ok (.bipush (-4), 2) := by decide +kernel
theorem dX7_down_30 : decode cX7_down 30 = .ok (.istore_n 3, 1) := by decide +kernel
theorem dX7_down_31 : decode cX7_down 31 = .ok (.iconst 0, 1) := by decide +kernel
theorem dX7_down_32 : decode cX7_down 32 = .ok (.istore 4, 2) := by decide +kernel
theorem dX7_down_34 : decode cX7_down 34 = .ok (.iload 4, 2) := by decide +kernel
theorem dX7_down_36 : decode cX7_down 36 = .ok (.bipush 7, 2) := by decide +kernel
theorem dX7_down_38 : decode cX7_down 38 = .ok (.if_icmp .ge 80, 3) := by decide +kernel
theorem dX7_down_41 : decode cX7_down 41 = .ok (.aload_n 0, 1) := by decide +kernel
theorem dX7_down_42 : decode cX7_down 42 = .ok (.invokevirtual 157, 3) := by decide +kernel
theorem dX7_down_45 : decode cX7_down 45 = .ok (.aload_n 0, 1) := by decide +kernel
theorem dX7_down_46 : decode cX7_down 46 = .ok (.getfield 26, 3) := by decide +kernel
theorem dX7_down_49 : decode cX7_down 49 = .ok (.bipush 10, 2) := by decide +kernel
theorem dX7_down_51 : decode cX7_down 51 = .ok (.iload 4, 2) := by decide +kernel
theorem dX7_down_53 : decode cX7_down 53 = .ok (.iadd, 1) := by decide +kernel
theorem dX7_down_54 : decode cX7_down 54 = .ok (.iconst 0, 1) := by decide +kernel
theorem dX7_down_55 : decode cX7_down 55 = .ok (.iastore, 1) := by decide +kernel
theorem dX7_down_56 : decode cX7_down 56 = .ok (.aload_n 0, 1) := by decide +kernel
theorem dX7_down_57 : decode cX7_down 57 = .ok (.aload_n 0, 1) := by decide +kernel
theorem dX7_down_58 : decode cX7_down 58 = .ok (.getfield 26, 3) := by decide +kernel
theorem dX7_down_61 : decode cX7_down 61 = .ok (.iload_n 1, 1) := by decide +kernel
theorem dX7_down_62 : decode cX7_down 62 = .ok (.invokevirtual 149, 3) := by decide +kernel
theorem dX7_down_65 : decode cX7_down 65 = .ok (.iload_n 3, 1) := by decide +kernel
theorem dX7_down_66 : decode cX7_down 66 = .ok (.bipush (-4), 2) := by decide +kernel
theorem dX7_down_68 : decode cX7_down 68 = .ok (.if_icmp .eq 25, 3) := by decide +kernel
theorem dX7_down_71 : decode cX7_down 71 = .ok (.aload_n 0, 1) := by decide +kernel
theorem dX7_down_72 : decode cX7_down 72 = .ok (.getfield 141, 3) := by decide +kernel
theorem dX7_down_75 : decode cX7_down 75 = .ok (.aload_n 0, 1) := by decide +kernel
theorem dX7_down_76 : decode cX7_down 76 = .ok (.getfield 160, 3) := by decide +kernel
theorem dX7_down_79 : decode cX7_down 79 = .ok (.lmul, 1) := by decide +kernel
theorem dX7_down_80 : decode cX7_down 80 = .ok (.aload_n 0, 1) := by decide +kernel
theorem dX7_down_81 : decode cX7_down 81 = .ok (.getfield 163, 3) := by decide +kernel
theorem dX7_down_84 : decode cX7_down 84 = .ok (.aload_n 0, 1) := by decide +kernel
theorem dX7_down_85 : decode cX7_down 85 = .ok (.getfield 144, 3) := by decide +kernel
theorem dX7_down_88 : decode cX7_down 88 = .ok (.lmul, 1) := by decide +kernel
theorem dX7_down_89 : decode cX7_down 89 = .ok (.lcmp, 1) := by decide +kernel
theorem dX7_down_90 : decode cX7_down 90 = .ok (.ifCond .ge 22, 3) := by decide +kernel
theorem dX7_down_93 : decode cX7_down 93 = .ok (.iload 4, 2) := by decide +kernel
theorem dX7_down_95 : decode cX7_down 95 = .ok (.istore_n 3, 1) := by decide +kernel
theorem dX7_down_96 : decode cX7_down 96 = .ok (.aload_n 0, 1) := by decide +kernel
theorem dX7_down_97 : decode cX7_down 97 = .ok (.aload_n 0, 1) := by decide +kernel
theorem dX7_down_98 : decode cX7_down 98 = .ok (.getfield 141, 3) := by decide +kernel
theorem dX7_down_101 : decode cX7_down 101 = .ok (.putfield 163, 3) := by decide +kernel
theorem dX7_down_104 : decode cX7_down 104 = .ok (.aload_n 0, 1) := by decide +kernel
theorem dX7_down_105 : decode cX7_down 105 = .ok (.aload_n 0, 1) := by decide +kernel
theorem dX7_down_106 : decode cX7_down 106 = .ok (.getfield 144, 3) := by decide +kernel
theorem dX7_down_109 : decode cX7_down 109 = .ok (.putfield 160, 3) := by decide +kernel
theorem dX7_down_112 : decode cX7_down 112 = .ok (.iinc 4 1, 3) := by decide +kernel
theorem dX7_down_115 : decode cX7_down 115 = .ok (.goto (-81), 3) := by decide +kernel
theorem dX7_down_118 : decode cX7_down 118 = .ok (.iload_n 2, 1) := by decide +kernel
theorem dX7_down_119 : decode cX7_down 119 = .ok (.ifCond .ne 8, 3) := by decide +kernel
theorem dX7_down_122 : decode cX7_down 122 = .ok (.iload_n 3, 1) := by decide +kernel
theorem dX7_down_123 : decode cX7_down 123 = .ok (.i2l, 1) := by decide +kernel
theorem dX7_down_124 : decode cX7_down 124 = .ok (.goto 19, 3) := by decide +kernel
theorem dX7_down_127 : decode cX7_down 127 = .ok (.iload_n 2, 1) := by decide +kernel
theorem dX7_down_128 : decode cX7_down 128 = .ok (.iconst 1, 1) := by decide +kernel
theorem dX7_down_129 : decode cX7_down 129 = .ok (.if_icmp .ne 10, 3) := by decide +kernel
theorem dX7_down_132 : decode cX7_down 132 = .ok (.aload_n 0, 1) := by decide +kernel
theorem dX7_down_133 : decode cX7_down 133 = .ok (.getfield 163, 3) := by decide +kernel
theorem dX7_down_136 : decode cX7_down 136 = .ok (.goto 7, 3) := by decide +kernel
theorem dX7_down_139 : decode cX7_down 139 = .ok (.aload_n 0, 1) := by decide +kernel
theorem dX7_down_140 : decode cX7_down 140 = .ok (.getfield 160, 3) := by decide +kernel
theorem dX7_down_143 : decode cX7_down 143 = .ok (.lreturn, 1) := by decide +kernel
set_option maxRecDepth 20000 in
theorem ggX7_keep_X7_in : GoodIn wsX7_keep wsX7_in := goodIn_r _ [9] (by decide +kernel) (by decide +kernel)
set_option maxRecDepth 20000 in
theorem gX7_keep_X7_in : GoodIn wsX7_keep (va_wsS RX7 41 yX7_in wsX7_in) := goodIn_app (goodIn_of _ (by decide +kernel)) ggX7_keep_X7_in
set_option maxRecDepth 20000 in
theorem ggX7_keep_X7_begin : GoodIn wsX7_keep wsX7_begin := goodIn_r _ [13, 2, 1, 14, 15, 8, 16, 29, 30, 31, 32, 33, 34, 35, 36, 37, 38, 39, 40, 41, 42, 43, 44, 45, 46, 47] (by decide +kernel) (by decide +kernel)
set_option maxRecDepth 20000 in
theorem gX7_keep_X7_begin : GoodIn wsX7_keep (wsV RX7 157 RX7 yX7_begin wsX7_begin) := goodIn_app (goodIn_of _ (by decide +kernel)) ggX7_keep_X7_begin
set_option maxRecDepth 20000 in
theorem ggX7_keep_X7_layOdds : GoodIn wsX7_keep wsX7_layOdds := goodIn_r _ [20, 4, 21, 3, 5, 22, 23, 24, 8, 25, 26, 27, 28, 29, 30, 31, 32, 33, 34, 35, 36, 37, 38, 39, 40, 41, 42, 43, 44, 45, 46, 47] (by decide +kernel) (by decide +kernel)
set_option maxRecDepth 20000 in
theorem gX7_keep_X7_layOdds : GoodIn wsX7_keep (wsV RX7 133 RX7 yX7_layOdds wsX7_layOdds) := goodIn_app (goodIn_of _ (by decide +kernel)) ggX7_keep_X7_layOdds
theorem dX7_keep_0 : decode cX7_keep 0 = .ok (.iload_n 1, 1) := by decide +kernel
theorem dX7_keep_1 : decode cX7_keep 1 = .ok (.iconst 1, 1) := by decide +kernel
theorem dX7_keep_2 : decode cX7_keep 2 = .ok (.bipush 9, 2) := by decide +kernel
theorem dX7_keep_4 : decode cX7_keep 4 = .ok (.invokestatic 41, 3) := by decide +kernel
theorem dX7_keep_7 : decode cX7_keep 7 = .ok (.ifCond .eq 13, 3) := by decide +kernel
theorem dX7_keep_10 : decode cX7_keep 10 = .ok (.iload_n 2, 1) := by decide +kernel
theorem dX7_keep_11 : decode cX7_keep 11 = .ok (.iconst 0, 1) := by decide +kernel
theorem dX7_keep_12 : decode cX7_keep 12 = .ok (.bipush 100, 2) := by decide +kernel
theorem dX7_keep_14 : decode cX7_keep 14 = .ok (.invokestatic 41, 3) := by decide +kernel
theorem dX7_keep_17 : decode cX7_keep 17 = .ok (.ifCond .ne 5, 3) := by decide +kernel
theorem dX7_keep_20 : decode cX7_keep 20 = .ok (.iconst (-1), 1) := by decide +kernel
theorem dX7_keep_21 : decode cX7_keep 21 = .ok (.ireturn, 1) := by decide +kernel
theorem dX7_keep_22 : decode cX7_keep 22 = .ok (.iconst 0, 1) := by decide +kernel
theorem dX7_keep_23 : decode cX7_keep 23 = .ok (.istore_n 3, 1) := by decide +kernel
theorem dX7_keep_24 : decode cX7_keep 24 = .ok (.iload_n 3, 1) := by decide +kernel
theorem dX7_keep_25 : decode cX7_keep 25 = .ok (.bipush 9, 2) := by decide +kernel
theorem dX7_keep_27 : decode cX7_keep 27 = .ok (.if_icmp .gt 71, 3) := by decide +kernel
theorem dX7_keep_30 : decode cX7_keep 30 = .ok (.aload_n 0, 1) := by decide +kernel
theorem dX7_keep_31 : decode cX7_keep 31 = .ok (.invokevirtual 157, 3) := by decide +kernel
theorem dX7_keep_34 : decode cX7_keep 34 = .ok (.aload_n 0, 1) := by decide +kernel
theorem dX7_keep_35 : decode cX7_keep 35 = .ok (.getfield 26, 3) := by decide +kernel
theorem dX7_keep_38 : decode cX7_keep 38 = .ok (.iconst 3, 1) := by decide +kernel
theorem dX7_keep_39 : decode cX7_keep 39 = .ok (.aload_n 0, 1) := by decide +kernel
theorem dX7_keep_40 : decode cX7_keep 40 = .ok (.getfield 23, 3) := by decide +kernel
theorem dX7_keep_43 : decode cX7_keep 43 = .ok (.iconst 2, 1) := by decide +kernel
theorem dX7_keep_44 : decode cX7_keep 44 = .ok (.iaload, 1) := by decide +kernel
theorem dX7_keep_45 : decode cX7_keep 45 = .ok (.iadd, 1) := by decide +kernel
theorem dX7_keep_46 : decode cX7_keep 46 = .ok (.iload_n 3, 1) := by decide +kernel
theorem dX7_keep_47 : decode cX7_keep 47 = .ok (.iastore, 1) := by decide +kernel
theorem dX7_keep_48 : decode cX7_keep 48 = .ok (.aload_n 0, 1) := by decide +kernel
theorem dX7_keep_49 : decode cX7_keep 49 = .ok (.aload_n 0, 1) := by decide +kernel
theorem dX7_keep_50 : decode cX7_keep 50 = .ok (.getfield 26, 3) := by decide +kernel
theorem dX7_keep_53 : decode cX7_keep 53 = .ok (.aload_n 0, 1) := by decide +kernel
theorem dX7_keep_54 : decode cX7_keep 54 = .ok (.getfield 23, 3) := by decide +kernel
theorem dX7_keep_57 : decode cX7_keep 57 = .ok (.iconst 2, 1) := by decide +kernel
theorem dX7_keep_58 : decode cX7_keep 58 = .ok (.iaload, 1) := by decide +kernel
theorem dX7_keep_59 : decode cX7_keep 59 = .ok (.iload_n 1, 1) := by decide +kernel
theorem dX7_keep_60 : decode cX7_keep 60 = .ok (.iconst 0, 1) := by decide +kernel
theorem dX7_keep_61 : decode cX7_keep 61 = .ok (.invokevirtual 133, 3) := by decide +kernel
theorem dX7_keep_64 : decode cX7_keep 64 = .ok (.ldc2_w 127, 3) := by decide +kernel
theorem dX7_keep_67 : decode cX7_keep 67 = .ok (.aload_n 0, 1) := by decide +kernel
theorem dX7_keep_68 : decode cX7_keep 68 = .ok (.getfield 35, 3) := by decide +kernel
theorem dX7_keep_71 : decode cX7_keep 71 = .ok (.aload_n 0, 1) := by decide +kernel
theorem dX7_keep_72 : decode cX7_keep 72 = .ok (.getfield 23, 3) := by decide +kernel
theorem dX7_keep_75 : decode cX7_keep 75 = .ok (.iconst 2, 1) := by decide +kernel
theorem dX7_keep_76 : decode cX7_keep 76 = .ok (.iaload, 1) := by decide +kernel
theorem dX7_keep_77 : decode cX7_keep 77 = .ok (.laload, 1) := by decide +kernel
theorem dX7_keep_78 : decode cX7_keep 78 = .ok (.lmul, 1) := by decide +kernel
theorem dX7_keep_79 : decode cX7_keep 79 = .ok (.iload_n 2, 1) := by decide +kernel
theorem dX7_keep_80 : decode cX7_keep 80 = .ok (.i2l, 1) := by decide +kernel
theorem dX7_keep_81 : decode cX7_keep 81 = .ok (.aload_n 0, 1) := by decide +kernel
theorem dX7_keep_82 : decode cX7_keep 82 = .ok (.getfield 129, 3) := by decide +kernel
theorem dX7_keep_85 : decode cX7_keep 85 = .ok (.lmul, 1) := by decide +kernel
theorem dX7_keep_86 : decode cX7_keep 86 = .ok (.lcmp, 1) := by decide +kernel
theorem dX7_keep_87 : decode cX7_keep 87 = .ok (.ifCond .lt 5, 3) := by decide +kernel
theorem dX7_keep_90 : decode cX7_keep 90 = .ok (.iload_n 3, 1) := by decide +kernel
theorem dX7_keep_91 : decode cX7_keep 91 = .ok (.ireturn, 1) := by decide +kernel
theorem dX7_keep_92 : decode cX7_keep 92 = .ok (.iinc 3 1, 3) := by decide +kernel
theorem dX7_keep_95 : decode cX7_keep 95 = .ok (.goto (-71), 3) := by decide +kernel
theorem dX7_keep_98 : decode cX7_keep 98 = .ok (.bipush (-4), 2) := by decide +kernel
theorem dX7_keep_100 : decode cX7_keep 100 = .ok (.ireturn, 1) := by decide +kernel
set_option maxRecDepth 20000 in
theorem ggX7_early_X7_isField : GoodIn wsX7_early wsX7_isField := goodIn_r _ [8, 9, 10, 7, 11] (by decide +kernel) (by decide +kernel)
set_option maxRecDepth 20000 in
theorem gX7_early_X7_isField : GoodIn wsX7_early (va_wsS RX7 45 yX7_isField wsX7_isField) := goodIn_app (goodIn_of _ (by decide +kernel)) ggX7_early_X7_isField
set_option maxRecDepth 20000 in
theorem ggX7_early_X7_in : GoodIn wsX7_early wsX7_in := goodIn_r _ [11] (by decide +kernel) (by decide +kernel)
set_option maxRecDepth 20000 in
theorem gX7_early_X7_in : GoodIn wsX7_early (va_wsS RX7 41 yX7_in wsX7_in) := goodIn_app (goodIn_of _ (by decide +kernel)) ggX7_early_X7_in
set_option maxRecDepth 20000 in
theorem ggX7_early_X7_layOdds : GoodIn wsX7_early wsX7_layOdds := goodIn_r _ [15, 3, 16, 2, 4, 17, 18, 19, 7, 20, 21, 22, 23, 24, 25, 26, 27, 28, 29, 30, 31, 32, 33, 34, 35, 36, 37, 38, 39, 40, 41, 42] (by decide +kernel) (by decide +kernel)
set_option maxRecDepth 20000 in
theorem gX7_early_X7_layOdds : GoodIn wsX7_early (wsV RX7 133 RX7 yX7_layOdds wsX7_layOdds) := goodIn_app (goodIn_of _ (by decide +kernel)) ggX7_early_X7_layOdds
theorem dX7_early_0 : decode cX7_early 0 = .ok (.iload_n 1, 1) := by decide +kernel
theorem dX7_early_1 : decode cX7_early 1 = .ok (.invokestatic 45, 3) := by decide +kernel
theorem dX7_early_4 : decode cX7_early 4 = .ok (.ifCond .eq 13, 3) := by decide +kernel
theorem dX7_early_7 : decode cX7_early 7 = .ok (.iload_n 2, 1) := by decide +kernel
theorem dX7_early_8 : decode cX7_early 8 = .ok (.iconst 0, 1) := by decide +kernel
theorem dX7_early_9 : decode cX7_early 9 = .ok (.bipush 100, 2) := by decide +kernel
theorem dX7_early_11 : decode cX7_early 11 = .ok (.invokestatic 41, 3) := by decide +kernel
theorem dX7_early_14 : decode cX7_early 14 = .ok (.ifCond .ne 5, 3) := by decide +kernel
theorem dX7_early_17 : decode cX7_early 17 = .ok (.iconst (-1), 1) := by decide +kernel
theorem dX7_early_18 : decode cX7_early 18 = .ok (.ireturn, 1) := by decide +kernel
theorem dX7_early_19 : decode cX7_early 19 = .ok (.iconst 0, 1) := by decide +kernel
theorem dX7_early_20 : decode cX7_early 20 = .ok (.istore_n 3, 1) := by decide +kernel
theorem dX7_early_21 : decode cX7_early 21 = .ok (.iload_n 3, 1) := by decide +kernel
theorem dX7_early_22 : decode cX7_early 22 = .ok (.bipush 9, 2) := by decide +kernel
theorem dX7_early_24 : decode cX7_early 24 = .ok (.if_icmp .gt 48, 3) := by decide +kernel
theorem dX7_early_27 : decode cX7_early 27 = .ok (.aload_n 0, 1) := by decide +kernel
theorem dX7_early_28 : decode cX7_early 28 = .ok (.aload_n 0, 1) := by decide +kernel
theorem dX7_early_29 : decode cX7_early 29 = .ok (.getfield 23, 3) := by decide +kernel
theorem dX7_early_32 : decode cX7_early 32 = .ok (.aload_n 0, 1) := by decide +kernel
theorem dX7_early_33 : decode cX7_early 33 = .ok (.getfield 23, 3) := by decide +kernel
theorem dX7_early_36 : decode cX7_early 36 = .ok (.iconst 2, 1) := by decide +kernel
theorem dX7_early_37 : decode cX7_early 37 = .ok (.iaload, 1) := by decide +kernel
theorem dX7_early_38 : decode cX7_early 38 = .ok (.iload_n 3, 1) := by decide +kernel
theorem dX7_early_39 : decode cX7_early 39 = .ok (.iconst 0, 1) := by decide +kernel
theorem dX7_early_40 : decode cX7_early 40 = .ok (.invokevirtual 133, 3) := by decide +kernel
theorem dX7_early_43 : decode cX7_early 43 = .ok (.ldc2_w 127, 3) := by decide +kernel
theorem dX7_early_46 : decode cX7_early 46 = .ok (.aload_n 0, 1) := by decide +kernel
theorem dX7_early_47 : decode cX7_early 47 = .ok (.getfield 35, 3) := by decide +kernel
theorem dX7_early_50 : decode cX7_early 50 = .ok (.iload_n 1, 1) := by decide +kernel
theorem dX7_early_51 : decode cX7_early 51 = .ok (.laload, 1) := by decide +kernel
theorem dX7_early_52 : decode cX7_early 52 = .ok (.lmul, 1) := by decide +kernel
theorem dX7_early_53 : decode cX7_early 53 = .ok (.iload_n 2, 1) := by decide +kernel
theorem dX7_early_54 : decode cX7_early 54 = .ok (.i2l, 1) := by decide +kernel
theorem dX7_early_55 : decode cX7_early 55 = .ok (.aload_n 0, 1) := by decide +kernel
theorem dX7_early_56 : decode cX7_early 56 = .ok (.getfield 129, 3) := by decide +kernel
theorem dX7_early_59 : decode cX7_early 59 = .ok (.lmul, 1) := by decide +kernel
theorem dX7_early_60 : decode cX7_early 60 = .ok (.lcmp, 1) := by decide +kernel
theorem dX7_early_61 : decode cX7_early 61 = .ok (.ifCond .lt 5, 3) := by decide +kernel
theorem dX7_early_64 : decode cX7_early 64 = .ok (.iload_n 3, 1) := by decide +kernel
theorem dX7_early_65 : decode cX7_early 65 = .ok (.ireturn, 1) := by decide +kernel
theorem dX7_early_66 : decode cX7_early 66 = .ok (.iinc 3 1, 3) := by decide +kernel
theorem dX7_early_69 : decode cX7_early 69 = .ok (.goto (-48), 3) := by decide +kernel
theorem dX7_early_72 : decode cX7_early 72 = .ok (.bipush (-4), 2) := by decide +kernel
theorem dX7_early_74 : decode cX7_early 74 = .ok (.ireturn, 1) := by decide +kernel
set_option maxRecDepth 20000 in
theorem ggX7_next_X7_in : GoodIn wsX7_next wsX7_in := goodIn_r _ [5] (by decide +kernel) (by decide +kernel)
set_option maxRecDepth 20000 in
theorem gX7_next_X7_in : GoodIn wsX7_next (va_wsS RX7 41 yX7_in wsX7_in) := goodIn_app (goodIn_of _ (by decide +kernel)) ggX7_next_X7_in
set_option maxRecDepth 20000 in
theorem ggX7_next_X7_begin : GoodIn wsX7_next wsX7_begin := goodIn_r _ [9, 10, 1, 11, 12, 4, 13, 27, 28, 29, 30, 31, 32, 33, 34, 35, 36, 37, 38, 39, 40, 41, 42, 43, 44, 45] (by decide +kernel) (by decide +kernel)
set_option maxRecDepth 20000 in
theorem gX7_next_X7_begin : GoodIn wsX7_next (wsV RX7 157 RX7 yX7_begin wsX7_begin) := goodIn_app (goodIn_of _ (by decide +kernel)) ggX7_next_X7_begin
set_option maxRecDepth 20000 in
theorem ggX7_next_X7_dayIn : GoodIn wsX7_next wsX7_dayIn := goodIn_r _ [16, 17, 18, 19, 20, 21, 22, 4, 23, 24, 25, 26] (by decide +kernel) (by decide +kernel)
set_option maxRecDepth 20000 in
theorem gX7_next_X7_dayIn : GoodIn wsX7_next (va_wsS RX7 121 yX7_dayIn wsX7_dayIn) := goodIn_app (goodIn_of _ (by decide +kernel)) ggX7_next_X7_dayIn
theorem dX7_next_0 : decode cX7_next 0 = .ok (.iload_n 1, 1) := by decide +kernel
theorem dX7_next_1 : decode cX7_next 1 = .ok (.iconst 0, 1) := by decide +kernel
theorem dX7_next_2 : decode cX7_next 2 = .ok (.bipush 40, 2) := by decide +kernel
theorem dX7_next_4 : decode cX7_next 4 = .ok (.invokestatic 41, 3) := by decide +kernel
theorem dX7_next_7 : decode cX7_next 7 = .ok (.ifCond .ne 5, 3) := by decide +kernel
theorem dX7_next_10 : decode cX7_next 10 = .ok (.iconst (-1), 1) := by decide +kernel
theorem dX7_next_11 : decode cX7_next 11 = .ok (.ireturn, 1) := by decide +kernel
theorem dX7_next_12 : decode cX7_next 12 = .ok (.aload_n 0, 1) := by decide +kernel
theorem dX7_next_13 : decode cX7_next 13 = .ok (.invokevirtual 157, 3) := by decide +kernel
theorem dX7_next_16 : decode cX7_next 16 = .ok (.iconst 0, 1) := by decide +kernel
theorem dX7_next_17 : decode cX7_next 17 = .ok (.istore_n 2, 1) := by decide +kernel
theorem dX7_next_18 : decode cX7_next 18 = .ok (.iload_n 2, 1) := by decide +kernel
theorem dX7_next_19 : decode cX7_next 19 = .ok (.iload_n 1, 1) := by decide +kernel
theorem dX7_next_20 : decode cX7_next 20 = .ok (.if_icmp .ge 16, 3) := by decide +kernel
theorem dX7_next_23 : decode cX7_next 23 = .ok (.aload_n 0, 1) := by decide +kernel
theorem dX7_next_24 : decode cX7_next 24 = .ok (.getfield 26, 3) := by decide +kernel
theorem dX7_next_27 : decode cX7_next 27 = .ok (.invokestatic 121, 3) := by decide +kernel
theorem dX7_next_30 : decode cX7_next 30 = .ok (.iinc 2 1, 3) := by decide +kernel
theorem dX7_next_33 : decode cX7_next 33 = .ok (.goto (-15), 3) := by decide +kernel
theorem dX7_next_36 : decode cX7_next 36 = .ok (.aload_n 0, 1) := by decide +kernel
theorem dX7_next_37 : decode cX7_next 37 = .ok (.getfield 26, 3) := by decide +kernel
theorem dX7_next_40 : decode cX7_next 40 = .ok (.iconst 2, 1) := by decide +kernel
theorem dX7_next_41 : decode cX7_next 41 = .ok (.iaload, 1) := by decide +kernel
theorem dX7_next_42 : decode cX7_next 42 = .ok (.ireturn, 1) := by decide +kernel
set_option maxRecDepth 20000 in
theorem ggX7_winter_X7_isField : GoodIn wsX7_winter wsX7_isField := goodIn_r _ [7, 8, 9, 6, 10] (by decide +kernel) (by decide +kernel)
set_option maxRecDepth 20000 in
theorem gX7_winter_X7_isField : GoodIn wsX7_winter (va_wsS RX7 45 yX7_isField wsX7_isField) := goodIn_app (goodIn_of _ (by decide +kernel)) ggX7_winter_X7_isField
set_option maxRecDepth 20000 in
theorem ggX7_winter_X7_in : GoodIn wsX7_winter wsX7_in := goodIn_r _ [10] (by decide +kernel) (by decide +kernel)
set_option maxRecDepth 20000 in
theorem gX7_winter_X7_in : GoodIn wsX7_winter (va_wsS RX7 41 yX7_in wsX7_in) := goodIn_app (goodIn_of _ (by decide +kernel)) ggX7_winter_X7_in
set_option maxRecDepth 20000 in
theorem ggX7_winter_X7_layOdds : GoodIn wsX7_winter wsX7_layOdds := goodIn_r _ [14, 2, 15, 16, 3, 17, 18, 19, 6, 20, 21, 22, 23, 27, 28, 29, 30, 31, 32, 33, 34, 35, 36, 37, 38, 39, 40, 41, 42, 43, 44, 45] (by decide +kernel) (by decide +kernel)
set_option maxRecDepth 20000 in
theorem gX7_winter_X7_layOdds : GoodIn wsX7_winter (wsV RX7 133 RX7 yX7_layOdds wsX7_layOdds) := goodIn_app (goodIn_of _ (by decide +kernel)) ggX7_winter_X7_layOdds
set_option maxRecDepth 20000 in
theorem ggX7_winter_X7_part : GoodIn wsX7_winter wsX7_part := goodIn_r _ [26] (by decide +kernel) (by decide +kernel)
set_option maxRecDepth 20000 in
theorem gX7_winter_X7_part : GoodIn wsX7_winter (va_wsS RX7 137 yX7_part wsX7_part) := goodIn_app (goodIn_of _ (by decide +kernel)) ggX7_winter_X7_part
theorem dX7_winter_0 : decode cX7_winter 0 = .ok (.iload_n 1, 1) := by decide +kernel
theorem dX7_winter_1 : decode cX7_winter 1 = .ok (.invokestatic 45, 3) := by decide +kernel
theorem dX7_winter_4 : decode cX7_winter 4 = .ok (.ifCond .eq 32, 3) := by decide +kernel
theorem dX7_winter_7 : decode cX7_winter 7 = .ok (.iload_n 2, 1) := by decide +kernel
theorem dX7_winter_8 : decode cX7_winter 8 = .ok (.iconst 0, 1) := by decide +kernel
theorem dX7_winter_9 : decode cX7_winter 9 = .ok (.iconst 4, 1) := by decide +kernel
theorem dX7_winter_10 : decode cX7_winter 10 = .ok (.invokestatic 41, 3) := by decide +kernel
theorem dX7_winter_13 : decode cX7_winter 13 = .ok (.ifCond .eq 23, 3) := by decide +kernel
theorem dX7_winter_16 : decode cX7_winter 16 = .ok (.iload_n 3, 1) := by decide +kernel
theorem dX7_winter_17 : decode cX7_winter 17 = .ok (.iconst 0, 1) := by decide +kernel
theorem dX7_winter_18 : decode cX7_winter 18 = .ok (.bipush 10, 2) := by decide +kernel
theorem dX7_winter_20 : decode cX7_winter 20 = .ok (.invokestatic 41, 3) := by decide +kernel
theorem dX7_winter_23 : decode cX7_winter 23 = .ok (.ifCond .eq 13, 3) := by decide +kernel
theorem dX7_winter_26 : decode cX7_winter 26 = .ok (.iload 4, 2) := by decide +kernel
theorem dX7_winter_28 : decode cX7_winter 28 = .ok (.iconst 0, 1) := by decide +kernel
theorem dX7_winter_29 : decode cX7_winter 29 = .ok (.iconst 1, 1) := by decide +kernel
theorem dX7_winter_30 : decode cX7_winter 30 = .ok (.invokestatic 41, 3) := by decide +kernel
theorem dX7_winter_33 : decode cX7_winter 33 = .ok (.ifCond .ne 5, 3) := by decide +kernel
theorem dX7_winter_36 : decode cX7_winter 36 = .ok (.iconst (-1), 1) := by decide +kernel
theorem dX7_winter_37 : decode cX7_winter 37 = .ok (.ireturn, 1) := by decide +kernel
theorem dX7_winter_38 : decode cX7_winter 38 = .ok (.aload_n 0, 1) := by decide +kernel
theorem dX7_winter_39 : decode cX7_winter 39 = .ok (.aload_n 0, 1) := by decide +kernel
theorem dX7_winter_40 : decode cX7_winter 40 = .ok (.getfield 23, 3) := by decide +kernel
theorem dX7_winter_43 : decode cX7_winter 43 = .ok (.aload_n 0, 1) := by decide +kernel
theorem dX7_winter_44 : decode cX7_winter 44 = .ok (.getfield 23, 3) := by decide +kernel
theorem dX7_winter_47 : decode cX7_winter 47 = .ok (.iconst 2, 1) := by decide +kernel
theorem dX7_winter_48 : decode cX7_winter 48 = .ok (.iaload, 1) := by decide +kernel
theorem dX7_winter_49 : decode cX7_winter 49 = .ok (.iload_n 2, 1) := by decide +kernel
theorem dX7_winter_50 : decode cX7_winter 50 = .ok (.iload_n 3, 1) := by decide +kernel
theorem dX7_winter_51 : decode cX7_winter 51 = .ok (.invokevirtual 133, 3) := by decide +kernel
theorem dX7_winter_54 : decode cX7_winter 54 = .ok (.aload_n 0, 1) := by decide +kernel
theorem dX7_winter_55 : decode cX7_winter 55 = .ok (.getfield 35, 3) := by decide +kernel
theorem dX7_winter_58 : decode cX7_winter 58 = .ok (.iload_n 1, 1) := by decide +kernel
theorem dX7_winter_59 : decode cX7_winter 59 = .ok (.laload, 1) := by decide +kernel
theorem dX7_winter_60 : decode cX7_winter 60 = .ok (.aload_n 0, 1) := by decide +kernel
theorem dX7_winter_61 : decode cX7_winter 61 = .ok (.getfield 129, 3) := by decide +kernel
theorem dX7_winter_64 : decode cX7_winter 64 = .ok (.iload 4, 2) := by decide +kernel
theorem dX7_winter_66 : decode cX7_winter 66 = .ok (.invokestatic 137, 3) := by decide +kernel
theorem dX7_winter_69 : decode cX7_winter 69 = .ok (.l2i, 1) := by decide +kernel
theorem dX7_winter_70 : decode cX7_winter 70 = .ok (.ireturn, 1) := by decide +kernel
set_option maxRecDepth 20000 in
theorem ggX7_image_X7_bring : GoodIn wsX7_image wsX7_bring := goodIn_r _ [7] (by decide +kernel) (by decide +kernel)
set_option maxRecDepth 20000 in
theorem gX7_image_X7_bring : GoodIn wsX7_image (va_wsS RX7 101 yX7_bring wsX7_bring) := goodIn_app (goodIn_of _ (by decide +kernel)) ggX7_image_X7_bring
theorem dX7_image_0 : decode cX7_image 0 = .ok (.aload_n 0, 1) := by decide +kernel
theorem dX7_image_1 : decode cX7_image 1 = .ok (.getfield 23, 3) := by decide +kernel
theorem dX7_image_4 : decode cX7_image 4 = .ok (.iconst 0, 1) := by decide +kernel
theorem dX7_image_5 : decode cX7_image 5 = .ok (.aload_n 0, 1) := by decide +kernel
theorem dX7_image_6 : decode cX7_image 6 = .ok (.getfield 32, 3) := by decide +kernel
theorem dX7_image_9 : decode cX7_image 9 = .ok (.iconst 0, 1) := by decide +kernel
theorem dX7_image_10 : decode cX7_image 10 = .ok (.sipush 177, 3) := by decide +kernel
theorem dX7_image_13 : decode cX7_image 13 = .ok (.invokestatic 101, 3) := by decide +kernel
theorem dX7_image_16 : decode cX7_image 16 = .ok (.aload_n 0, 1) := by decide +kernel
theorem dX7_image_17 : decode cX7_image 17 = .ok (.iconst 1, 1) := by decide +kernel
theorem dX7_image_18 : decode cX7_image 18 = .ok (.putfield 166, 3) := by decide +kernel
theorem dX7_image_21 : decode cX7_image 21 = .ok (.iconst 1, 1) := by decide +kernel
theorem dX7_image_22 : decode cX7_image 22 = .ok (.ireturn, 1) := by decide +kernel
set_option maxRecDepth 20000 in
theorem ggX7_restore_X7_bring : GoodIn wsX7_restore wsX7_bring := goodIn_r _ [7] (by decide +kernel) (by decide +kernel)
set_option maxRecDepth 20000 in
theorem gX7_restore_X7_bring : GoodIn wsX7_restore (va_wsS RX7 101 yX7_bring wsX7_bring) := goodIn_app (goodIn_of _ (by decide +kernel)) ggX7_restore_X7_bring
theorem dX7_restore_0 : decode cX7_restore 0 = .ok (.aload_n 0, 1) := by decide +kernel
theorem dX7_restore_1 : decode cX7_restore 1 = .ok (.getfield 166, 3) := by decide +kernel
theorem dX7_restore_4 : decode cX7_restore 4 = .ok (.ifCond .ne 6, 3) := by decide +kernel
theorem dX7_restore_7 : decode cX7_restore 7 = .ok (.bipush (-4), 2) := by decide +kernel
theorem dX7_restore_9 : decode cX7_restore 9 = .ok (.ireturn, 1) := by decide +kernel
theorem dX7_restore_10 : decode cX7_restore 10 = .ok (.aload_n 0, 1) := by decide +kernel
theorem dX7_restore_11 : decode cX7_restore 11 = .ok (.getfield 32, 3) := by decide +kernel
theorem dX7_restore_14 : decode cX7_restore 14 = .ok (.iconst 0, 1) := by decide +kernel
theorem dX7_restore_15 : decode cX7_restore 15 = .ok (.aload_n 0, 1) := by decide +kernel
theorem dX7_restore_16 : decode cX7_restore 16 = .ok (.getfield 23, 3) := by decide +kernel
theorem dX7_restore_19 : decode cX7_restore 19 = .ok (.iconst 0, 1) := by decide +kernel
theorem dX7_restore_20 : decode cX7_restore 20 = .ok (.sipush 177, 3) := by decide +kernel
theorem dX7_restore_23 : decode cX7_restore 23 = .ok (.invokestatic 101, 3) := by decide +kernel
theorem dX7_restore_26 : decode cX7_restore 26 = .ok (.iconst 1, 1) := by decide +kernel
theorem dX7_restore_27 : decode cX7_restore 27 = .ok (.ireturn, 1) := by decide +kernel
set_option maxRecDepth 20000 in
theorem ggX7_isSheet_X7_in : GoodIn wsX7_isSheet wsX7_in := goodIn_r _ [4] (by decide +kernel) (by decide +kernel)
set_option maxRecDepth 20000 in
theorem gX7_isSheet_X7_in : GoodIn wsX7_isSheet (va_wsS RX7 41 yX7_in wsX7_in) := goodIn_app (goodIn_of _ (by decide +kernel)) ggX7_isSheet_X7_in
theorem dX7_isSheet_0 : decode cX7_isSheet 0 = .ok (.iload_n 0, 1) := by decide +kernel
theorem dX7_isSheet_1 : decode cX7_isSheet 1 = .ok (.iconst 0, 1) := by decide +kernel
theorem dX7_isSheet_2 : decode cX7_isSheet 2 = .ok (.iconst 3, 1) := by decide +kernel
theorem dX7_isSheet_3 : decode cX7_isSheet 3 = .ok (.invokestatic 41, 3) := by decide +kernel
theorem dX7_isSheet_6 : decode cX7_isSheet 6 = .ok (.ireturn, 1) := by decide +kernel
theorem dX7_isPart_0 : decode cX7_isPart 0 = .ok (.iload_n 1, 1) := by decide +kernel
theorem dX7_isPart_1 : decode cX7_isPart 1 = .ok (.ifCond .lt 23, 3) := by decide +kernel
theorem dX7_isPart_4 : decode cX7_isPart 4 = .ok (.iload_n 0, 1) := by decide +kernel
theorem dX7_isPart_5 : decode cX7_isPart 5 = .ok (.ifCond .lt 19, 3) := by decide +kernel
theorem dX7_isPart_8 : decode cX7_isPart 8 = .ok (.iload_n 1, 1) := by decide +kernel
theorem dX7_isPart_9 : decode cX7_isPart 9 = .ok (.iload_n 2, 1) := by decide +kernel
theorem dX7_isPart_10 : decode cX7_isPart 10 = .ok (.if_icmp .gt 14, 3) := by decide +kernel
theorem dX7_isPart_13 : decode cX7_isPart 13 = .ok (.iload_n 0, 1) := by decide +kernel
theorem dX7_isPart_14 : decode cX7_isPart 14 = .ok (.iload_n 2, 1) := by decide +kernel
theorem dX7_isPart_15 : decode cX7_isPart 15 = .ok (.iload_n 1, 1) := by decide +kernel
theorem dX7_isPart_16 : decode cX7_isPart 16 = .ok (.isub, 1) := by decide +kernel
theorem dX7_isPart_17 : decode cX7_isPart 17 = .ok (.if_icmp .gt 7, 3) := by decide +kernel
theorem dX7_isPart_20 : decode cX7_isPart 20 = .ok (.iconst 1, 1) := by decide +kernel
theorem dX7_isPart_21 : decode cX7_isPart 21 = .ok (.goto 4, 3) := by decide +kernel
theorem dX7_isPart_24 : decode cX7_isPart 24 = .ok (.iconst 0, 1) := by decide +kernel
theorem dX7_isPart_25 : decode cX7_isPart 25 = .ok (.ireturn, 1) := by decide +kernel
set_option maxRecDepth 20000 in
theorem ggX7_wrong_X7_isPart : GoodIn wsX7_wrong wsX7_isPart := goodIn_r _ [6] (by decide +kernel) (by decide +kernel)
set_option maxRecDepth 20000 in
theorem gX7_wrong_X7_isPart : GoodIn wsX7_wrong (va_wsS RX7 170 yX7_isPart wsX7_isPart) := goodIn_app (goodIn_of _ (by decide +kernel)) ggX7_wrong_X7_isPart
theorem dX7_wrong_0 : decode cX7_wrong 0 = .ok (.aload_n 0, 1) := by decide +kernel
theorem dX7_wrong_1 : decode cX7_wrong 1 = .ok (.getfield 7, 3) := by decide +kernel
theorem dX7_wrong_4 : decode cX7_wrong 4 = .ok (.iload_n 1, 1) := by decide +kernel
theorem dX7_wrong_5 : decode cX7_wrong 5 = .ok (.iaload, 1) := by decide +kernel
theorem dX7_wrong_6 : decode cX7_wrong 6 = .ok (.ifCond .ge 8, 3) := by decide +kernel
theorem dX7_wrong_9 : decode cX7_wrong 9 = .ok (.bipush (-11), 2) := by decide +kernel
theorem dX7_wrong_11 : decode cX7_wrong 11 = .ok (.goto 39, 3) := by decide +kernel
theorem dX7_wrong_14 : decode cX7_wrong 14 = .ok (.aload_n 0, 1) := by decide +kernel
theorem dX7_wrong_15 : decode cX7_wrong 15 = .ok (.getfield 7, 3) := by decide +kernel
theorem dX7_wrong_18 : decode cX7_wrong 18 = .ok (.iload_n 1, 1) := by decide +kernel
theorem dX7_wrong_19 : decode cX7_wrong 19 = .ok (.iaload, 1) := by decide +kernel
theorem dX7_wrong_20 : decode cX7_wrong 20 = .ok (.iload_n 2, 1) := by decide +kernel
theorem dX7_wrong_21 : decode cX7_wrong 21 = .ok (.if_icmp .eq 8, 3) := by decide +kernel
theorem dX7_wrong_24 : decode cX7_wrong 24 = .ok (.bipush (-12), 2) := by decide +kernel
theorem dX7_wrong_26 : decode cX7_wrong 26 = .ok (.goto 24, 3) := by decide +kernel
theorem dX7_wrong_29 : decode cX7_wrong 29 = .ok (.iload_n 3, 1) := by decide +kernel
theorem dX7_wrong_30 : decode cX7_wrong 30 = .ok (.iload 4, 2) := by decide +kernel
theorem dX7_wrong_32 : decode cX7_wrong 32 = .ok (.aload_n 0, 1) := by decide +kernel
theorem dX7_wrong_33 : decode cX7_wrong 33 = .ok (.getfield 13, 3) := by decide +kernel
theorem dX7_wrong_36 : decode cX7_wrong 36 = .ok (.iload_n 1, 1) := by decide +kernel
theorem dX7_wrong_37 : decode cX7_wrong 37 = .ok (.iaload, 1) := by decide +kernel
theorem dX7_wrong_38 : decode cX7_wrong 38 = .ok (.invokestatic 170, 3) := by decide +kernel
theorem dX7_wrong_41 : decode cX7_wrong 41 = .ok (.ifCond .eq 7, 3) := by decide +kernel
theorem dX7_wrong_44 : decode cX7_wrong 44 = .ok (.iconst 0, 1) := by decide +kernel
theorem dX7_wrong_45 : decode cX7_wrong 45 = .ok (.goto 5, 3) := by decide +kernel
theorem dX7_wrong_48 : decode cX7_wrong 48 = .ok (.bipush (-13), 2) := by decide +kernel
theorem dX7_wrong_50 : decode cX7_wrong 50 = .ok (.ireturn, 1) := by decide +kernel
set_option maxRecDepth 20000 in
theorem ggX7_wayOdds_X7_onOf : GoodIn wsX7_wayOdds wsX7_onOf := goodIn_r _ [7] (by decide +kernel) (by decide +kernel)
set_option maxRecDepth 20000 in
theorem gX7_wayOdds_X7_onOf : GoodIn wsX7_wayOdds (va_wsS RX7 53 yX7_onOf wsX7_onOf) := goodIn_app (goodIn_of _ (by decide +kernel)) ggX7_wayOdds_X7_onOf
set_option maxRecDepth 20000 in
theorem ggX7_wayOdds_X7_backOf : GoodIn wsX7_wayOdds wsX7_backOf := goodIn_r _ [10, 4, 5, 6, 7] (by decide +kernel) (by decide +kernel)
set_option maxRecDepth 20000 in
theorem gX7_wayOdds_X7_backOf : GoodIn wsX7_wayOdds (va_wsS RX7 57 yX7_backOf wsX7_backOf) := goodIn_app (goodIn_of _ (by decide +kernel)) ggX7_wayOdds_X7_backOf
theorem dX7_wayOdds_0 : decode cX7_wayOdds 0 = .ok (.lconst 1, 1) := by decide +kernel
theorem dX7_wayOdds_1 : decode cX7_wayOdds 1 = .ok (.lstore 5, 2) := by decide +kernel
theorem dX7_wayOdds_3 : decode cX7_wayOdds 3 = .ok (.iload_n 1, 1) := by decide +kernel
theorem dX7_wayOdds_4 : decode cX7_wayOdds 4 = .ok (.istore 7, 2) := by decide +kernel
theorem dX7_wayOdds_6 : decode cX7_wayOdds 6 = .ok (.iconst 0, 1) := by decide +kernel
theorem dX7_wayOdds_7 : decode cX7_wayOdds 7 = .ok (.istore 8, 2) := by decide +kernel
theorem dX7_wayOdds_9 : decode cX7_wayOdds 9 = .ok (.iload 8, 2) := by decide +kernel
theorem dX7_wayOdds_11 : decode cX7_wayOdds 11 = .ok (.iload 4, 2) := by decide +kernel
theorem dX7_wayOdds_13 : decode cX7_wayOdds 13 = .ok (.if_icmp .ge 159, 3) := by decide +kernel
theorem dX7_wayOdds_16 : decode cX7_wayOdds 16 = .ok (.aload_n 0, 1) := by decide +kernel
theorem dX7_wayOdds_17 : decode cX7_wayOdds 17 = .ok (.getfield 16, 3) := by decide +kernel
theorem dX7_wayOdds_20 : decode cX7_wayOdds 20 = .ok (.bipush 24, 2) := by decide +kernel
theorem dX7_wayOdds_22 : decode cX7_wayOdds 22 = .ok (.iload_n 2, 1) := by decide +kernel
theorem dX7_wayOdds_23 : decode cX7_wayOdds 23 = .ok (.imul, 1) := by decide +kernel
theorem dX7_wayOdds_24 : decode cX7_wayOdds 24 = .ok (.iload_n 3, 1) := by decide +kernel
theorem dX7_wayOdds_25 : decode cX7_wayOdds 25 = .ok (.iadd, 1) := by decide +kernel
theorem dX7_wayOdds_26 : decode cX7_wayOdds 26 = .ok (.iload 8, 2) := by decide +kernel
theorem dX7_wayOdds_28 : decode cX7_wayOdds 28 = .ok (.iadd, 1) := by decide +kernel
theorem dX7_wayOdds_29 : decode cX7_wayOdds 29 = .ok (.laload, 1) := by decide +kernel
theorem dX7_wayOdds_30 : decode cX7_wayOdds 30 = .ok (.lstore 9, 2) := by decide +kernel
theorem dX7_wayOdds_32 : decode cX7_wayOdds 32 = .ok (.lload 9, 2) := by decide +kernel
theorem dX7_wayOdds_34 : decode cX7_wayOdds 34 = .ok (.lconst 0, 1) := by decide +kernel
theorem dX7_wayOdds_35 : decode cX7_wayOdds 35 = .ok (.lcmp, 1) := by decide +kernel
theorem dX7_wayOdds_36 : decode cX7_wayOdds 36 = .ok (.ifCond .lt 16, 3) := by decide +kernel
theorem dX7_wayOdds_39 : decode cX7_wayOdds 39 = .ok (.lload 9, 2) := by decide +kernel
theorem dX7_wayOdds_41 : decode cX7_wayOdds 41 = .ok (.ldc2_w 173, 3) := by decide +kernel
theorem dX7_wayOdds_44 : decode cX7_wayOdds 44 = .ok (.lcmp, 1) := by decide +kernel
theorem dX7_wayOdds_45 : decode cX7_wayOdds 45 = .ok (.ifCond .gt 7, 3) := by decide +kernel
theorem dX7_wayOdds_48 : decode cX7_wayOdds 48 = .ok (.iconst 1, 1) := by decide +kernel
theorem dX7_wayOdds_49 : decode cX7_wayOdds 49 = .ok (.goto 4, 3) := by decide +kernel
theorem dX7_wayOdds_52 : decode cX7_wayOdds 52 = .ok (.iconst 0, 1) := by decide +kernel
theorem dX7_wayOdds_53 : decode cX7_wayOdds 53 = .ok (.istore 11, 2) := by decide +kernel
theorem dX7_wayOdds_55 : decode cX7_wayOdds 55 = .ok (.aload_n 0, 1) := by decide +kernel
theorem dX7_wayOdds_56 : decode cX7_wayOdds 56 = .ok (.getfield 23, 3) := by decide +kernel
theorem dX7_wayOdds_59 : decode cX7_wayOdds 59 = .ok (.iload 7, 2) := by decide +kernel
theorem dX7_wayOdds_61 : decode cX7_wayOdds 61 = .ok (.invokestatic 53, 3) := by decide +kernel
theorem dX7_wayOdds_64 : decode cX7_wayOdds 64 = .ok (.istore 12, 2) := by decide +kernel
theorem dX7_wayOdds_66 : decode cX7_wayOdds 66 = .ok (.aload_n 0, 1) := by decide +kernel
theorem dX7_wayOdds_67 : decode cX7_wayOdds 67 = .ok (.getfield 23, 3) := by decide +kernel
theorem dX7_wayOdds_70 : decode cX7_wayOdds 70 = .ok (.iload 7, 2) := by decide +kernel
theorem dX7_wayOdds_72 : decode cX7_wayOdds 72 = .ok (.invokestatic 57, 3) := by decide +kernel
theorem dX7_wayOdds_75 : decode cX7_wayOdds 75 = .ok (.istore 13, 2) := by decide +kernel
theorem dX7_wayOdds_77 : decode cX7_wayOdds 77 = .ok (.lload 5, 2) := by decide +kernel
theorem dX7_wayOdds_79 : decode cX7_wayOdds 79 = .ok (.lload 9, 2) := by decide +kernel
theorem dX7_wayOdds_81 : decode cX7_wayOdds 81 = .ok (.iload 7, 2) := by decide +kernel
theorem dX7_wayOdds_83 : decode cX7_wayOdds 83 = .ok (.iconst 1, 1) := by decide +kernel
theorem dX7_wayOdds_84 : decode cX7_wayOdds 84 = .ok (.iadd, 1) := by decide +kernel
theorem dX7_wayOdds_85 : decode cX7_wayOdds 85 = .ok (.i2l, 1) := by decide +kernel
theorem dX7_wayOdds_86 : decode cX7_wayOdds 86 = .ok (.lcmp, 1) := by decide +kernel
theorem dX7_wayOdds_87 : decode cX7_wayOdds 87 = .ok (.ifCond .ne 9, 3) := by decide +kernel
theorem dX7_wayOdds_90 : decode cX7_wayOdds 90 = .ok (.iload 12, 2) := by decide +kernel
theorem dX7_wayOdds_92 : decode cX7_wayOdds 92 = .ok (.i2l, 1) := by decide +kernel
theorem dX7_wayOdds_93 : decode cX7_wayOdds 93 = .ok (.goto 42, 3) := by decide +kernel
theorem dX7_wayOdds_96 : decode cX7_wayOdds 96 = .ok (.lload 9, 2) := by decide +kernel
theorem dX7_wayOdds_98 : decode cX7_wayOdds 98 = .ok (.iload 7, 2) := by decide +kernel
theorem dX7_wayOdds_100 : decode cX7_wayOdds 100 = .ok (.iconst 1, 1) := by decide +kernel
theorem dX7_wayOdds_101 : decode cX7_wayOdds 101 = .ok (.isub, 1) := by decide +kernel
theorem dX7_wayOdds_102 : decode cX7_wayOdds 102 = .ok (.i2l, 1) := by decide +kernel
theorem dX7_wayOdds_103 : decode cX7_wayOdds 103 = .ok (.lcmp, 1) := by decide +kernel
theorem dX7_wayOdds_104 : decode cX7_wayOdds 104 = .ok (.ifCond .ne 9, 3) := by decide +kernel
theorem dX7_wayOdds_107 : decode cX7_wayOdds 107 = .ok (.iload 13, 2) := by decide +kernel
theorem dX7_wayOdds_109 : decode cX7_wayOdds 109 = .ok (.i2l, 1) := by decide +kernel
theorem dX7_wayOdds_110 : decode cX7_wayOdds 110 = .ok (.goto 25, 3) := by decide +kernel
theorem dX7_wayOdds_113 : decode cX7_wayOdds 113 = .ok (.lload 9, 2) := by decide +kernel
theorem dX7_wayOdds_115 : decode cX7_wayOdds 115 = .ok (.iload 7, 2) := by decide +kernel
theorem dX7_wayOdds_117 : decode cX7_wayOdds 117 = .ok (.i2l, 1) := by decide +kernel
theorem dX7_wayOdds_118 : decode cX7_wayOdds 118 = .ok (.lcmp, 1) := by decide +kernel
theorem dX7_wayOdds_119 : decode cX7_wayOdds 119 = .ok (.ifCond .ne 15, 3) := by decide +kernel
theorem dX7_wayOdds_122 : decode cX7_wayOdds 122 = .ok (.bipush 10, 2) := by decide +kernel
theorem dX7_wayOdds_124 : decode cX7_wayOdds 124 = .ok (.iload 12, 2) := by decide +kernel
theorem dX7_wayOdds_126 : decode cX7_wayOdds 126 = .ok (.isub, 1) := by decide +kernel
theorem dX7_wayOdds_127 : decode cX7_wayOdds 127 = .ok (.iload 13, 2) := by decide +kernel
theorem dX7_wayOdds_129 : decode cX7_wayOdds 129 = .ok (.isub, 1) := by decide +kernel
theorem dX7_wayOdds_130 : decode cX7_wayOdds 130 = .ok (.i2l, 1) := by decide +kernel
theorem dX7_wayOdds_131 : decode cX7_wayOdds 131 = .ok (.goto 4, 3) := by decide +kernel
theorem dX7_wayOdds_134 : decode cX7_wayOdds 134 = .ok (.lconst 0, 1) := by decide +kernel
theorem dX7_wayOdds_135 : decode cX7_wayOdds 135 = .ok (.lmul, 1) := by decide +kernel
theorem dX7_wayOdds_136 : decode cX7_wayOdds 136 = .ok (.lstore 5, 2) := by decide +kernel
theorem dX7_wayOdds_138 : decode cX7_wayOdds 138 = .ok (.iload 11, 2) := by decide +kernel
theorem dX7_wayOdds_140 : decode cX7_wayOdds 140 = .ok (.ifCond .eq 9, 3) := by decide +kernel
theorem dX7_wayOdds_143 : decode cX7_wayOdds 143 = .ok (.lload 9, 2) := by decide +kernel
theorem dX7_wayOdds_145 : decode cX7_wayOdds 145 = .ok (.l2i, 1) := by decide +kernel
theorem dX7_wayOdds_146 : decode cX7_wayOdds 146 = .ok (.goto 5, 3) := by decide +kernel
theorem dX7_wayOdds_149 : decode cX7_wayOdds 149 = .ok (.iload 7, 2) := by decide +kernel
theorem dX7_wayOdds_151 : decode cX7_wayOdds 151 = .ok (.istore 7, 2) := by decide +kernel
theorem dX7_wayOdds_153 : decode cX7_wayOdds 153 = .ok (.iload 11, 2) := by decide +kernel
theorem dX7_wayOdds_155 : decode cX7_wayOdds 155 = .ok (.ifCond .eq 8, 3) := by decide +kernel
theorem dX7_wayOdds_158 : decode cX7_wayOdds 158 = .ok (.lload 5, 2) := by decide +kernel
theorem dX7_wayOdds_160 : decode cX7_wayOdds 160 = .ok (.goto 4, 3) := by decide +kernel
theorem dX7_wayOdds_163 : decode cX7_wayOdds 163 = .ok (.lconst 0, 1) := by decide +kernel
theorem dX7_wayOdds_164 : decode cX7_wayOdds 164 = .ok (.lstore 5, 2) := by decide +kernel
theorem dX7_wayOdds_166 : decode cX7_wayOdds 166 = .ok (.iinc 8 1, 3) := by decide +kernel
theorem dX7_wayOdds_169 : decode cX7_wayOdds 169 = .ok (.goto (-160), 3) := by decide +kernel
theorem dX7_wayOdds_172 : decode cX7_wayOdds 172 = .ok (.lload 5, 2) := by decide +kernel
theorem dX7_wayOdds_174 : decode cX7_wayOdds 174 = .ok (.lreturn, 1) := by decide +kernel
set_option maxRecDepth 20000 in
theorem ggX7_seen_X7_isSheet : GoodIn wsX7_seen wsX7_isSheet := goodIn_r _ [6, 7, 8, 5, 9] (by decide +kernel) (by decide +kernel)
set_option maxRecDepth 20000 in
theorem gX7_seen_X7_isSheet : GoodIn wsX7_seen (va_wsS RX7 175 yX7_isSheet wsX7_isSheet) := goodIn_app (goodIn_of _ (by decide +kernel)) ggX7_seen_X7_isSheet
set_option maxRecDepth 20000 in
theorem ggX7_seen_X7_in : GoodIn wsX7_seen wsX7_in := goodIn_r _ [9] (by decide +kernel) (by decide +kernel)
set_option maxRecDepth 20000 in
theorem gX7_seen_X7_in : GoodIn wsX7_seen (va_wsS RX7 41 yX7_in wsX7_in) := goodIn_app (goodIn_of _ (by decide +kernel)) ggX7_seen_X7_in
set_option maxRecDepth 20000 in
theorem ggX7_seen_X7_wrong : GoodIn wsX7_seen wsX7_wrong := goodIn_r _ [13, 14, 15, 16, 17, 5, 18, 34, 35, 36, 37, 38, 39, 40, 41, 42, 43, 44, 45, 46, 47, 48, 49, 50, 51, 52] (by decide +kernel) (by decide +kernel)
set_option maxRecDepth 20000 in
theorem gX7_seen_X7_wrong : GoodIn wsX7_seen (wsV RX7 178 RX7 yX7_wrong wsX7_wrong) := goodIn_app (goodIn_of _ (by decide +kernel)) ggX7_seen_X7_wrong
set_option maxRecDepth 20000 in
theorem ggX7_seen_X7_wayOdds : GoodIn wsX7_seen wsX7_wayOdds := goodIn_r _ [22, 23, 24, 2, 25, 26, 5, 27, 28, 29, 30, 34, 35, 36, 37, 38, 39, 40, 41, 42, 43, 44, 45, 46, 47, 48, 49, 50, 51, 52] (by decide +kernel) (by decide +kernel)
set_option maxRecDepth 20000 in
theorem gX7_seen_X7_wayOdds : GoodIn wsX7_seen (wsV RX7 182 RX7 yX7_wayOdds wsX7_wayOdds) := goodIn_app (goodIn_of _ (by decide +kernel)) ggX7_seen_X7_wayOdds
set_option maxRecDepth 20000 in
theorem ggX7_seen_X7_part : GoodIn wsX7_seen wsX7_part := goodIn_r _ [33] (by decide +kernel) (by decide +kernel)
set_option maxRecDepth 20000 in
theorem gX7_seen_X7_part : GoodIn wsX7_seen (va_wsS RX7 137 yX7_part wsX7_part) := goodIn_app (goodIn_of _ (by decide +kernel)) ggX7_seen_X7_part
theorem dX7_seen_0 : decode cX7_seen 0 = .ok (.iload_n 1, 1) := by decide +kernel
theorem dX7_seen_1 : decode cX7_seen 1 = .ok (.invokestatic 175, 3) := by decide +kernel
theorem dX7_seen_4 : decode cX7_seen 4 = .ok (.ifCond .eq 33, 3) := by decide +kernel
theorem dX7_seen_7 : decode cX7_seen 7 = .ok (.iload_n 2, 1) := by decide +kernel
theorem dX7_seen_8 : decode cX7_seen 8 = .ok (.iconst 0, 1) := by decide +kernel
theorem dX7_seen_9 : decode cX7_seen 9 = .ok (.iconst 3, 1) := by decide +kernel
theorem dX7_seen_10 : decode cX7_seen 10 = .ok (.invokestatic 41, 3) := by decide +kernel
theorem dX7_seen_13 : decode cX7_seen 13 = .ok (.ifCond .eq 24, 3) := by decide +kernel
theorem dX7_seen_16 : decode cX7_seen 16 = .ok (.iload 4, 2) := by decide +kernel
theorem dX7_seen_18 : decode cX7_seen 18 = .ok (.iconst 1, 1) := by decide +kernel
theorem dX7_seen_19 : decode cX7_seen 19 = .ok (.bipush 8, 2) := by decide +kernel
theorem dX7_seen_21 : decode cX7_seen 21 = .ok (.invokestatic 41, 3) := by decide +kernel
theorem dX7_seen_24 : decode cX7_seen 24 = .ok (.ifCond .eq 13, 3) := by decide +kernel
theorem dX7_seen_27 : decode cX7_seen 27 = .ok (.iload 5, 2) := by decide +kernel
theorem dX7_seen_29 : decode cX7_seen 29 = .ok (.iconst 0, 1) := by decide +kernel
theorem dX7_seen_30 : decode cX7_seen 30 = .ok (.iconst 2, 1) := by decide +kernel
theorem dX7_seen_31 : decode cX7_seen 31 = .ok (.invokestatic 41, 3) := by decide +kernel
theorem dX7_seen_34 : decode cX7_seen 34 = .ok (.ifCond .ne 5, 3) := by decide +kernel
theorem dX7_seen_37 : decode cX7_seen 37 = .ok (.iconst (-1), 1) := by decide +kernel
theorem dX7_seen_38 : decode cX7_seen 38 = .ok (.ireturn, 1) := by decide +kernel
theorem dX7_seen_39 : decode cX7_seen 39 = .ok (.aload_n 0, 1) := by decide +kernel
theorem dX7_seen_40 : decode cX7_seen 40 = .ok (.iload_n 1, 1) := by decide +kernel
theorem dX7_seen_41 : decode cX7_seen 41 = .ok (.iload_n 2, 1) := by decide +kernel
theorem dX7_seen_42 : decode cX7_seen 42 = .ok (.iload_n 3, 1) := by decide +kernel
theorem dX7_seen_43 : decode cX7_seen 43 = .ok (.iload 4, 2) := by decide +kernel
theorem dX7_seen_45 : decode cX7_seen 45 = .ok (.invokevirtual 178, 3) := by decide +kernel
theorem dX7_seen_48 : decode cX7_seen 48 = .ok (.istore 6, 2) := by decide +kernel
theorem dX7_seen_50 : decode cX7_seen 50 = .ok (.iload 6, 2) := by decide +kernel
theorem dX7_seen_52 : decode cX7_seen 52 = .ok (.ifCond .eq 6, 3) := by decide +kernel
theorem dX7_seen_55 : decode cX7_seen 55 = .ok (.iload 6, 2) := by decide +kernel
theorem dX7_seen_57 : decode cX7_seen 57 = .ok (.ireturn, 1) := by decide +kernel
theorem dX7_seen_58 : decode cX7_seen 58 = .ok (.iload 5, 2) := by decide +kernel
theorem dX7_seen_60 : decode cX7_seen 60 = .ok (.iconst 2, 1) := by decide +kernel
theorem dX7_seen_61 : decode cX7_seen 61 = .ok (.if_icmp .ge 53, 3) := by decide +kernel
theorem dX7_seen_64 : decode cX7_seen 64 = .ok (.lconst 1, 1) := by decide +kernel
theorem dX7_seen_65 : decode cX7_seen 65 = .ok (.lstore 7, 2) := by decide +kernel
theorem dX7_seen_67 : decode cX7_seen 67 = .ok (.iconst 0, 1) := by decide +kernel
theorem dX7_seen_68 : decode cX7_seen 68 = .ok (.istore 9, 2) := by decide +kernel
theorem dX7_seen_70 : decode cX7_seen 70 = .ok (.iload 9, 2) := by decide +kernel
theorem dX7_seen_72 : decode cX7_seen 72 = .ok (.iload 4, 2) := by decide +kernel
theorem dX7_seen_74 : decode cX7_seen 74 = .ok (.if_icmp .ge 17, 3) := by decide +kernel
theorem dX7_seen_77 : decode cX7_seen 77 = .ok (.lload 7, 2) := by decide +kernel
theorem dX7_seen_79 : decode cX7_seen 79 = .ok (.ldc2_w 125, 3) := by decide +kernel
theorem dX7_seen_82 : decode cX7_seen 82 = .ok (.lmul, 1) := by decide +kernel
theorem dX7_seen_83 : decode cX7_seen 83 = .ok (.lstore 7, 2) := by decide +kernel
theorem dX7_seen_85 : decode cX7_seen 85 = .ok (.iinc 9 1, 3) := by decide +kernel
theorem dX7_seen_88 : decode cX7_seen 88 = .ok (.goto (-18), 3) := by decide +kernel
theorem dX7_seen_91 : decode cX7_seen 91 = .ok (.aload_n 0, 1) := by decide +kernel
theorem dX7_seen_92 : decode cX7_seen 92 = .ok (.aload_n 0, 1) := by decide +kernel
theorem dX7_seen_93 : decode cX7_seen 93 = .ok (.getfield 23, 3) := by decide +kernel
theorem dX7_seen_96 : decode cX7_seen 96 = .ok (.iconst 2, 1) := by decide +kernel
theorem dX7_seen_97 : decode cX7_seen 97 = .ok (.iaload, 1) := by decide +kernel
theorem dX7_seen_98 : decode cX7_seen 98 = .ok (.iload_n 1, 1) := by decide +kernel
theorem dX7_seen_99 : decode cX7_seen 99 = .ok (.iload_n 3, 1) := by decide +kernel
theorem dX7_seen_100 : decode cX7_seen 100 = .ok (.iload 4, 2) := by decide +kernel
theorem dX7_seen_102 : decode cX7_seen 102 = .ok (.invokevirtual 182, 3) := by decide +kernel
theorem dX7_seen_105 : decode cX7_seen 105 = .ok (.lload 7, 2) := by decide +kernel
theorem dX7_seen_107 : decode cX7_seen 107 = .ok (.iload 5, 2) := by decide +kernel
theorem dX7_seen_109 : decode cX7_seen 109 = .ok (.invokestatic 137, 3) := by decide +kernel
theorem dX7_seen_112 : decode cX7_seen 112 = .ok (.l2i, 1) := by decide +kernel
theorem dX7_seen_113 : decode cX7_seen 113 = .ok (.ireturn, 1) := by decide +kernel
theorem dX7_seen_114 : decode cX7_seen 114 = .ok (.iconst 0, 1) := by decide +kernel
theorem dX7_seen_115 : decode cX7_seen 115 = .ok (.istore 7, 2) := by decide +kernel
theorem dX7_seen_117 : decode cX7_seen 117 = .ok (.iconst 0, 1) := by decide +kernel
theorem dX7_seen_118 : decode cX7_seen 118 = .ok (.istore 8, 2) := by decide +kernel
theorem dX7_seen_120 : decode cX7_seen 120 = .ok (.iload 8, 2) := by decide +kernel
theorem dX7_seen_122 : decode cX7_seen 122 = .ok (.bipush 7, 2) := by decide +kernel
theorem dX7_seen_124 : decode cX7_seen 124 = .ok (.if_icmp .ge 37, 3) := by decide +kernel
theorem dX7_seen_127 : decode cX7_seen 127 = .ok (.iload 7, 2) := by decide +kernel
theorem dX7_seen_129 : decode cX7_seen 129 = .ok (.aload_n 0, 1) := by decide +kernel
theorem dX7_seen_130 : decode cX7_seen 130 = .ok (.iload 8, 2) := by decide +kernel
theorem dX7_seen_132 : decode cX7_seen 132 = .ok (.iload_n 1, 1) := by decide +kernel
theorem dX7_seen_133 : decode cX7_seen 133 = .ok (.iload_n 3, 1) := by decide +kernel
theorem dX7_seen_134 : decode cX7_seen 134 = .ok (.iload 4, 2) := by decide +kernel
theorem dX7_seen_136 : decode cX7_seen 136 = .ok (.invokevirtual 182, 3) := by decide +kernel
theorem dX7_seen_139 : decode cX7_seen 139 = .ok (.lconst 0, 1) := by decide +kernel
theorem dX7_seen_140 : decode cX7_seen 140 = .ok (.lcmp, 1) := by decide +kernel
theorem dX7_seen_141 : decode cX7_seen 141 = .ok (.ifCond .le 10, 3) := by decide +kernel
theorem dX7_seen_144 : decode cX7_seen 144 = .ok (.iconst 1, 1) := by decide +kernel
theorem dX7_seen_145 : decode cX7_seen 145 = .ok (.iload 8, 2) := by decide +kernel
theorem dX7_seen_147 : decode cX7_seen 147 = .ok (.ishl, 1) := by decide +kernel
theorem dX7_seen_148 : decode cX7_seen 148 = .ok (.goto 4, 3) := by decide +kernel
theorem dX7_seen_151 : decode cX7_seen 151 = .ok (.iconst 0, 1) := by decide +kernel
theorem dX7_seen_152 : decode cX7_seen 152 = .ok (.ior, 1) := by decide +kernel
theorem dX7_seen_153 : decode cX7_seen 153 = .ok (.istore 7, 2) := by decide +kernel
theorem dX7_seen_155 : decode cX7_seen 155 = .ok (.iinc 8 1, 3) := by decide +kernel
theorem dX7_seen_158 : decode cX7_seen 158 = .ok (.goto (-38), 3) := by decide +kernel
theorem dX7_seen_161 : decode cX7_seen 161 = .ok (.iload 7, 2) := by decide +kernel
theorem dX7_seen_163 : decode cX7_seen 163 = .ok (.ireturn, 1) := by decide +kernel
set_option maxRecDepth 20000 in
theorem ggX7_isBorne_X7_dayIn : GoodIn wsX7_isBorne wsX7_dayIn := goodIn_r _ [6, 7, 8, 9, 10, 11, 12, 5, 13, 14, 15, 16] (by decide +kernel) (by decide +kernel)
set_option maxRecDepth 20000 in
theorem gX7_isBorne_X7_dayIn : GoodIn wsX7_isBorne (va_wsS RX7 121 yX7_dayIn wsX7_dayIn) := goodIn_app (goodIn_of _ (by decide +kernel)) ggX7_isBorne_X7_dayIn
theorem dX7_isBorne_0 : decode cX7_isBorne 0 = .ok (.iconst 1, 1) := by decide +kernel
theorem dX7_isBorne_1 : decode cX7_isBorne 1 = .ok (.istore 4, 2) := by decide +kernel
theorem dX7_isBorne_3 : decode cX7_isBorne 3 = .ok (.iconst 0, 1) := by decide +kernel
theorem dX7_isBorne_4 : decode cX7_isBorne 4 = .ok (.istore 5, 2) := by decide +kernel
theorem dX7_isBorne_6 : decode cX7_isBorne 6 = .ok (.iload 5, 2) := by decide +kernel
theorem dX7_isBorne_8 : decode cX7_isBorne 8 = .ok (.iload_n 3, 1) := by decide +kernel
theorem dX7_isBorne_9 : decode cX7_isBorne 9 = .ok (.if_icmp .ge 53, 3) := by decide +kernel
theorem dX7_isBorne_12 : decode cX7_isBorne 12 = .ok (.aload_n 0, 1) := by decide +kernel
theorem dX7_isBorne_13 : decode cX7_isBorne 13 = .ok (.getfield 26, 3) := by decide +kernel
theorem dX7_isBorne_16 : decode cX7_isBorne 16 = .ok (.invokestatic 121, 3) := by decide +kernel
theorem dX7_isBorne_19 : decode cX7_isBorne 19 = .ok (.iload 4, 2) := by decide +kernel
theorem dX7_isBorne_21 : decode cX7_isBorne 21 = .ok (.ifCond .eq 32, 3) := by decide +kernel
theorem dX7_isBorne_24 : decode cX7_isBorne 24 = .ok (.aload_n 0, 1) := by decide +kernel
theorem dX7_isBorne_25 : decode cX7_isBorne 25 = .ok (.getfield 26, 3) := by decide +kernel
theorem dX7_isBorne_28 : decode cX7_isBorne 28 = .ok (.iconst 2, 1) := by decide +kernel
theorem dX7_isBorne_29 : decode cX7_isBorne 29 = .ok (.iaload, 1) := by decide +kernel
theorem dX7_isBorne_30 : decode cX7_isBorne 30 = .ok (.i2l, 1) := by decide +kernel
theorem dX7_isBorne_31 : decode cX7_isBorne 31 = .ok (.aload_n 0, 1) := by decide +kernel
theorem dX7_isBorne_32 : decode cX7_isBorne 32 = .ok (.getfield 16, 3) := by decide +kernel
theorem dX7_isBorne_35 : decode cX7_isBorne 35 = .ok (.bipush 24, 2) := by decide +kernel
theorem dX7_isBorne_37 : decode cX7_isBorne 37 = .ok (.iload_n 1, 1) := by decide +kernel
theorem dX7_isBorne_38 : decode cX7_isBorne 38 = .ok (.imul, 1) := by decide +kernel
theorem dX7_isBorne_39 : decode cX7_isBorne 39 = .ok (.iload_n 2, 1) := by decide +kernel
theorem dX7_isBorne_40 : decode cX7_isBorne 40 = .ok (.iadd, 1) := by decide +kernel
theorem dX7_isBorne_41 : decode cX7_isBorne 41 = .ok (.iload 5, 2) := by decide +kernel
theorem dX7_isBorne_43 : decode cX7_isBorne 43 = .ok (.iadd, 1) := by decide +kernel
theorem dX7_isBorne_44 : decode cX7_isBorne 44 = .ok (.laload, 1) := by decide +kernel
theorem dX7_isBorne_45 : decode cX7_isBorne 45 = .ok (.lcmp, 1) := by decide +kernel
theorem dX7_isBorne_46 : decode cX7_isBorne 46 = .ok (.ifCond .ne 7, 3) := by decide +kernel
theorem dX7_isBorne_49 : decode cX7_isBorne 49 = .ok (.iconst 1, 1) := by decide +kernel
theorem dX7_isBorne_50 : decode cX7_isBorne 50 = .ok (.goto 4, 3) := by decide +kernel
theorem dX7_isBorne_53 : decode cX7_isBorne 53 = .ok (.iconst 0, 1) := by decide +kernel
theorem dX7_isBorne_54 : decode cX7_isBorne 54 = .ok (.istore 4, 2) := by decide +kernel
theorem dX7_isBorne_56 : decode cX7_isBorne 56 = .ok (.iinc 5 1, 3) := by decide +kernel
theorem dX7_isBorne_59 : decode cX7_isBorne 59 = .ok (.goto (-53), 3) := by decide +kernel
theorem dX7_isBorne_62 : decode cX7_isBorne 62 = .ok (.iload 4, 2) := by decide +kernel
theorem dX7_isBorne_64 : decode cX7_isBorne 64 = .ok (.ireturn, 1) := by decide +kernel
set_option maxRecDepth 20000 in
theorem ggX7_bore_X7_isField : GoodIn wsX7_bore wsX7_isField := goodIn_r _ [5, 6, 7, 4, 8] (by decide +kernel) (by decide +kernel)
set_option maxRecDepth 20000 in
theorem gX7_bore_X7_isField : GoodIn wsX7_bore (va_wsS RX7 45 yX7_isField wsX7_isField) := goodIn_app (goodIn_of _ (by decide +kernel)) ggX7_bore_X7_isField
set_option maxRecDepth 20000 in
theorem ggX7_bore_X7_isSheet : GoodIn wsX7_bore wsX7_isSheet := goodIn_r _ [11, 6, 7, 4, 8] (by decide +kernel) (by decide +kernel)
set_option maxRecDepth 20000 in
theorem gX7_bore_X7_isSheet : GoodIn wsX7_bore (va_wsS RX7 175 yX7_isSheet wsX7_isSheet) := goodIn_app (goodIn_of _ (by decide +kernel)) ggX7_bore_X7_isSheet
set_option maxRecDepth 20000 in
theorem ggX7_bore_X7_in : GoodIn wsX7_bore wsX7_in := goodIn_r _ [8] (by decide +kernel) (by decide +kernel)
set_option maxRecDepth 20000 in
theorem gX7_bore_X7_in : GoodIn wsX7_bore (va_wsS RX7 41 yX7_in wsX7_in) := goodIn_app (goodIn_of _ (by decide +kernel)) ggX7_bore_X7_in
set_option maxRecDepth 20000 in
theorem ggX7_bore_X7_wrong : GoodIn wsX7_bore wsX7_wrong := goodIn_r _ [15, 16, 17, 18, 19, 4, 20, 47, 48, 49, 50, 51, 52, 53, 54, 55, 56, 57, 58, 59, 60, 61, 62, 63, 64, 65] (by decide +kernel) (by decide +kernel)
set_option maxRecDepth 20000 in
theorem gX7_bore_X7_wrong : GoodIn wsX7_bore (wsV RX7 178 RX7 yX7_wrong wsX7_wrong) := goodIn_app (goodIn_of _ (by decide +kernel)) ggX7_bore_X7_wrong
set_option maxRecDepth 20000 in
theorem ggX7_bore_X7_begin : GoodIn wsX7_bore wsX7_begin := goodIn_r _ [24, 25, 1, 26, 27, 4, 28, 47, 48, 49, 50, 51, 52, 53, 54, 55, 56, 57, 58, 59, 60, 61, 62, 63, 64, 65] (by decide +kernel) (by decide +kernel)
set_option maxRecDepth 20000 in
theorem gX7_bore_X7_begin : GoodIn wsX7_bore (wsV RX7 157 RX7 yX7_begin wsX7_begin) := goodIn_app (goodIn_of _ (by decide +kernel)) ggX7_bore_X7_begin
set_option maxRecDepth 20000 in
theorem ggX7_bore_X7_isBorne : GoodIn wsX7_bore wsX7_isBorne := goodIn_r _ [32, 1, 33, 34, 35, 4, 36, 37, 38, 39, 40, 41, 42, 43, 44, 45, 46, 47, 48, 49, 50, 51, 52, 53, 54, 55, 56, 57, 58, 59, 60, 61, 62, 63, 64, 65] (by decide +kernel) (by decide +kernel)
set_option maxRecDepth 20000 in
theorem gX7_bore_X7_isBorne : GoodIn wsX7_bore (wsV RX7 186 RX7 yX7_isBorne wsX7_isBorne) := goodIn_app (goodIn_of _ (by decide +kernel)) ggX7_bore_X7_isBorne
theorem dX7_bore_0 : decode cX7_bore 0 = .ok (.iload_n 1, 1) := by decide +kernel
theorem dX7_bore_1 : decode cX7_bore 1 = .ok (.invokestatic 45, 3) := by decide +kernel
theorem dX7_bore_4 : decode cX7_bore 4 = .ok (.ifCond .eq 40, 3) := by decide +kernel
theorem dX7_bore_7 : decode cX7_bore 7 = .ok (.iload_n 2, 1) := by decide +kernel
theorem dX7_bore_8 : decode cX7_bore 8 = .ok (.invokestatic 175, 3) := by decide +kernel
theorem dX7_bore_11 : decode cX7_bore 11 = .ok (.ifCond .eq 33, 3) := by decide +kernel
theorem dX7_bore_14 : decode cX7_bore 14 = .ok (.iload_n 3, 1) := by decide +kernel
theorem dX7_bore_15 : decode cX7_bore 15 = .ok (.iconst 0, 1) := by decide +kernel
theorem dX7_bore_16 : decode cX7_bore 16 = .ok (.iconst 3, 1) := by decide +kernel
theorem dX7_bore_17 : decode cX7_bore 17 = .ok (.invokestatic 41, 3) := by decide +kernel
theorem dX7_bore_20 : decode cX7_bore 20 = .ok (.ifCond .eq 24, 3) := by decide +kernel
theorem dX7_bore_23 : decode cX7_bore 23 = .ok (.iload 5, 2) := by decide +kernel
theorem dX7_bore_25 : decode cX7_bore 25 = .ok (.iconst 1, 1) := by decide +kernel
theorem dX7_bore_26 : decode cX7_bore 26 = .ok (.bipush 8, 2) := by decide +kernel
theorem dX7_bore_28 : decode cX7_bore 28 = .ok (.invokestatic 41, 3) := by decide +kernel
theorem dX7_bore_31 : decode cX7_bore 31 = .ok (.ifCond .eq 13, 3) := by decide +kernel
theorem dX7_bore_34 : decode cX7_bore 34 = .ok (.iload 6, 2) := by decide +kernel
theorem dX7_bore_36 : decode cX7_bore 36 = .ok (.iconst 0, 1) := by decide +kernel
theorem dX7_bore_37 : decode cX7_bore 37 = .ok (.iconst 1, 1) := by decide +kernel
theorem dX7_bore_38 : decode cX7_bore 38 = .ok (.invokestatic 41, 3) := by decide +kernel
theorem dX7_bore_41 : decode cX7_bore 41 = .ok (.ifCond .ne 5, 3) := by decide +kernel
theorem dX7_bore_44 : decode cX7_bore 44 = .ok (.iconst (-1), 1) := by decide +kernel
theorem dX7_bore_45 : decode cX7_bore 45 = .ok (.ireturn, 1) := by decide +kernel
theorem dX7_bore_46 : decode cX7_bore 46 = .ok (.aload_n 0, 1) := by decide +kernel
theorem dX7_bore_47 : decode cX7_bore 47 = .ok (.iload_n 2, 1) := by decide +kernel
theorem dX7_bore_48 : decode cX7_bore 48 = .ok (.iload_n 3, 1) := by decide +kernel
theorem dX7_bore_49 : decode cX7_bore 49 = .ok (.iload 4, 2) := by decide +kernel
theorem dX7_bore_51 : decode cX7_bore 51 = .ok (.iload 5, 2) := by decide +kernel
theorem dX7_bore_53 : decode cX7_bore 53 = .ok (.invokevirtual 178, 3) := by decide +kernel
theorem dX7_bore_56 : decode cX7_bore 56 = .ok (.istore 7, 2) := by decide +kernel
theorem dX7_bore_58 : decode cX7_bore 58 = .ok (.iload 7, 2) := by decide +kernel
theorem dX7_bore_60 : decode cX7_bore 60 = .ok (.ifCond .eq 6, 3) := by decide +kernel
theorem dX7_bore_63 : decode cX7_bore 63 = .ok (.iload 7, 2) := by decide +kernel
theorem dX7_bore_65 : decode cX7_bore 65 = .ok (.ireturn, 1) := by decide +kernel
theorem dX7_bore_66 : decode cX7_bore 66 = .ok (.iconst 0, 1) := by decide +kernel
theorem dX7_bore_67 : decode cX7_bore 67 = .ok (.istore 8, 2) := by decide +kernel
theorem dX7_bore_69 : decode cX7_bore 69 = .ok (.iconst 0, 1) := by decide +kernel
theorem dX7_bore_70 : decode cX7_bore 70 = .ok (.istore 9, 2) := by decide +kernel
theorem dX7_bore_72 : decode cX7_bore 72 = .ok (.iload 9, 2) := by decide +kernel
theorem dX7_bore_74 : decode cX7_bore 74 = .ok (.iload 6, 2) := by decide +kernel
theorem dX7_bore_76 : decode cX7_bore 76 = .ok (.ifCond .ne 7, 3) := by decide +kernel
theorem dX7_bore_79 : decode cX7_bore 79 = .ok (.iconst 4, 1) := by decide +kernel
theorem dX7_bore_80 : decode cX7_bore 80 = .ok (.goto 5, 3) := by decide +kernel
theorem dX7_bore_83 : decode cX7_bore 83 = .ok (.bipush 9, 2) := by decide +kernel
theorem dX7_bore_85 : decode cX7_bore 85 = .ok (.if_icmp .gt 58, 3) := by decide +kernel
theorem dX7_bore_88 : decode cX7_bore 88 = .ok (.aload_n 0, 1) := by decide +kernel
theorem dX7_bore_89 : decode cX7_bore 89 = .ok (.invokevirtual 157, 3) := by decide +kernel
theorem dX7_bore_92 : decode cX7_bore 92 = .ok (.aload_n 0, 1) := by decide +kernel
theorem dX7_bore_93 : decode cX7_bore 93 = .ok (.getfield 26, 3) := by decide +kernel
theorem dX7_bore_96 : decode cX7_bore 96 = .ok (.iload 6, 2) := by decide +kernel
theorem dX7_bore_98 : decode cX7_bore 98 = .ok (.ifCond .ne 8, 3) := by decide +kernel
theorem dX7_bore_101 : decode cX7_bore 101 = .ok (.bipush 17, 2) := by decide +kernel
theorem dX7_bore_103 : decode cX7_bore 103 = .ok (.goto 4, 3) := by decide +kernel
theorem dX7_bore_106 : decode cX7_bore 106 = .ok (.iconst 3, 1) := by decide +kernel
theorem dX7_bore_107 : decode cX7_bore 107 = .ok (.iload_n 1, 1) := by decide +kernel
theorem dX7_bore_108 : decode cX7_bore 108 = .ok (.iadd, 1) := by decide +kernel
theorem dX7_bore_109 : decode cX7_bore 109 = .ok (.iload 9, 2) := by decide +kernel
theorem dX7_bore_111 : decode cX7_bore 111 = .ok (.iastore, 1) := by decide +kernel
theorem dX7_bore_112 : decode cX7_bore 112 = .ok (.iload 8, 2) := by decide +kernel
theorem dX7_bore_114 : decode cX7_bore 114 = .ok (.aload_n 0, 1) := by decide +kernel
theorem dX7_bore_115 : decode cX7_bore 115 = .ok (.iload_n 2, 1) := by decide +kernel
theorem dX7_bore_116 : decode cX7_bore 116 = .ok (.iload 4, 2) := by decide +kernel
theorem dX7_bore_118 : decode cX7_bore 118 = .ok (.iload 5, 2) := by decide +kernel
theorem dX7_bore_120 : decode cX7_bore 120 = .ok (.invokevirtual 186, 3) := by decide +kernel
theorem dX7_bore_123 : decode cX7_bore 123 = .ok (.ifCond .eq 10, 3) := by decide +kernel
theorem dX7_bore_126 : decode cX7_bore 126 = .ok (.iconst 1, 1) := by decide +kernel
theorem dX7_bore_127 : decode cX7_bore 127 = .ok (.iload 9, 2) := by decide +kernel
theorem dX7_bore_129 : decode cX7_bore 129 = .ok (.ishl, 1) := by decide +kernel
theorem dX7_bore_130 : decode cX7_bore 130 = .ok (.goto 4, 3) := by decide +kernel
theorem dX7_bore_133 : decode cX7_bore 133 = .ok (.iconst 0, 1) := by decide +kernel
theorem dX7_bore_134 : decode cX7_bore 134 = .ok (.ior, 1) := by decide +kernel
theorem dX7_bore_135 : decode cX7_bore 135 = .ok (.istore 8, 2) := by decide +kernel
theorem dX7_bore_137 : decode cX7_bore 137 = .ok (.iinc 9 1, 3) := by decide +kernel
theorem dX7_bore_140 : decode cX7_bore 140 = .ok (.goto (-68), 3) := by decide +kernel
theorem dX7_bore_143 : decode cX7_bore 143 = .ok (.iload 8, 2) := by decide +kernel
theorem dX7_bore_145 : decode cX7_bore 145 = .ok (.ireturn, 1) := by decide +kernel
theorem dX7_cutTo_0 : decode cX7_cutTo 0 = .ok (.iload_n 0, 1) := by decide +kernel
theorem dX7_cutTo_1 : decode cX7_cutTo 1 = .ok (.ifCond .ne 10, 3) := by decide +kernel
theorem dX7_cutTo_4 : decode cX7_cutTo 4 = .ok (.lload_n 1, 1) := by decide +kernel
theorem dX7_cutTo_5 : decode cX7_cutTo 5 = .ok (.l2i, 1) := by decide +kernel
theorem dX7_cutTo_6 : decode cX7_cutTo 6 = .ok (.i2b, 1) := by decide +kernel
theorem dX7_cutTo_7 : decode cX7_cutTo 7 = .ok (.i2l, 1) := by decide +kernel
theorem dX7_cutTo_8 : decode cX7_cutTo 8 = .ok (.goto 27, 3) := by decide +kernel
theorem dX7_cutTo_11 : decode cX7_cutTo 11 = .ok (.iload_n 0, 1) := by decide +kernel
theorem dX7_cutTo_12 : decode cX7_cutTo 12 = .ok (.iconst 1, 1) := by decide +kernel
theorem dX7_cutTo_13 : decode cX7_cutTo 13 = .ok (.if_icmp .ne 10, 3) := by decide +kernel
theorem dX7_cutTo_16 : decode cX7_cutTo 16 = .ok (.lload_n 1, 1) := by decide +kernel
theorem dX7_cutTo_17 : decode cX7_cutTo 17 = .ok (.l2i, 1) := by decide +kernel
theorem dX7_cutTo_18 : decode cX7_cutTo 18 = .ok (.i2s, 1) := by decide +kernel
theorem dX7_cutTo_19 : decode cX7_cutTo 19 = .ok (.i2l, 1) := by decide +kernel
theorem dX7_cutTo_20 : decode cX7_cutTo 20 = .ok (.goto 15, 3) := by decide +kernel
theorem dX7_cutTo_23 : decode cX7_cutTo 23 = .ok (.iload_n 0, 1) := by decide +kernel
theorem dX7_cutTo_24 : decode cX7_cutTo 24 = .ok (.iconst 2, 1) := by decide +kernel
theorem dX7_cutTo_25 : decode cX7_cutTo 25 = .ok (.if_icmp .ne 9, 3) := by decide +kernel
theorem dX7_cutTo_28 : decode cX7_cutTo 28 = .ok (.lload_n 1, 1) := by decide +kernel
theorem dX7_cutTo_29 : decode cX7_cutTo 29 = .ok (.l2i, 1) := by decide +kernel
theorem dX7_cutTo_30 : decode cX7_cutTo 30 = .ok (.i2l, 1) := by decide +kernel
theorem dX7_cutTo_31 : decode cX7_cutTo 31 = .ok (.goto 4, 3) := by decide +kernel
theorem dX7_cutTo_34 : decode cX7_cutTo 34 = .ok (.lload_n 1, 1) := by decide +kernel
theorem dX7_cutTo_35 : decode cX7_cutTo 35 = .ok (.lreturn, 1) := by decide +kernel
set_option maxRecDepth 20000 in
theorem ggX7_film_X7_in : GoodIn wsX7_film wsX7_in := goodIn_r _ [6] (by decide +kernel) (by decide +kernel)
set_option maxRecDepth 20000 in
theorem gX7_film_X7_in : GoodIn wsX7_film (va_wsS RX7 41 yX7_in wsX7_in) := goodIn_app (goodIn_of _ (by decide +kernel)) ggX7_film_X7_in
set_option maxRecDepth 20000 in
theorem ggX7_film_X7_isSheet : GoodIn wsX7_film wsX7_isSheet := goodIn_r _ [9, 3, 4, 5, 6] (by decide +kernel) (by decide +kernel)
set_option maxRecDepth 20000 in
theorem gX7_film_X7_isSheet : GoodIn wsX7_film (va_wsS RX7 175 yX7_isSheet wsX7_isSheet) := goodIn_app (goodIn_of _ (by decide +kernel)) ggX7_film_X7_isSheet
set_option maxRecDepth 20000 in
theorem ggX7_film_X7_wrong : GoodIn wsX7_film wsX7_wrong := goodIn_r _ [13, 14, 15, 16, 17, 5, 18, 43, 44, 45, 46, 47, 48, 49, 50, 51, 52, 53, 54, 55, 56, 57, 58, 59, 60, 61] (by decide +kernel) (by decide +kernel)
set_option maxRecDepth 20000 in
theorem gX7_film_X7_wrong : GoodIn wsX7_film (wsV RX7 178 RX7 yX7_wrong wsX7_wrong) := goodIn_app (goodIn_of _ (by decide +kernel)) ggX7_film_X7_wrong
set_option maxRecDepth 20000 in
theorem ggX7_film_X7_begin : GoodIn wsX7_film wsX7_begin := goodIn_r _ [22, 23, 1, 24, 25, 5, 26, 43, 44, 45, 46, 47, 48, 49, 50, 51, 52, 53, 54, 55, 56, 57, 58, 59, 60, 61] (by decide +kernel) (by decide +kernel)
set_option maxRecDepth 20000 in
theorem gX7_film_X7_begin : GoodIn wsX7_film (wsV RX7 157 RX7 yX7_begin wsX7_begin) := goodIn_app (goodIn_of _ (by decide +kernel)) ggX7_film_X7_begin
set_option maxRecDepth 20000 in
theorem ggX7_film_X7_dayIn : GoodIn wsX7_film wsX7_dayIn := goodIn_r _ [29, 30, 31, 32, 33, 34, 35, 5, 36, 37, 38, 39] (by decide +kernel) (by decide +kernel)
set_option maxRecDepth 20000 in
theorem gX7_film_X7_dayIn : GoodIn wsX7_film (va_wsS RX7 121 yX7_dayIn wsX7_dayIn) := goodIn_app (goodIn_of _ (by decide +kernel)) ggX7_film_X7_dayIn
set_option maxRecDepth 20000 in
theorem ggX7_film_X7_cutTo : GoodIn wsX7_film wsX7_cutTo := goodIn_r _ [42] (by decide +kernel) (by decide +kernel)
set_option maxRecDepth 20000 in
theorem gX7_film_X7_cutTo : GoodIn wsX7_film (va_wsS RX7 189 yX7_cutTo wsX7_cutTo) := goodIn_app (goodIn_of _ (by decide +kernel)) ggX7_film_X7_cutTo
theorem dX7_film_0 : decode cX7_film 0 = .ok (.iload_n 1, 1) := by decide +kernel
theorem dX7_film_1 : decode cX7_film 1 = .ok (.iconst 1, 1) := by decide +kernel
theorem dX7_film_2 : decode cX7_film 2 = .ok (.bipush 24, 2) := by decide +kernel
theorem dX7_film_4 : decode cX7_film 4 = .ok (.invokestatic 41, 3) := by decide +kernel
theorem dX7_film_7 : decode cX7_film 7 = .ok (.ifCond .eq 19, 3) := by decide +kernel
theorem dX7_film_10 : decode cX7_film 10 = .ok (.iload_n 2, 1) := by decide +kernel
theorem dX7_film_11 : decode cX7_film 11 = .ok (.invokestatic 175, 3) := by decide +kernel
theorem dX7_film_14 : decode cX7_film 14 = .ok (.ifCond .eq 12, 3) := by decide +kernel
theorem dX7_film_17 : decode cX7_film 17 = .ok (.iload_n 3, 1) := by decide +kernel
theorem dX7_film_18 : decode cX7_film 18 = .ok (.iconst 0, 1) := by decide +kernel
theorem dX7_film_19 : decode cX7_film 19 = .ok (.iconst 3, 1) := by decide +kernel
theorem dX7_film_20 : decode cX7_film 20 = .ok (.invokestatic 41, 3) := by decide +kernel
theorem dX7_film_23 : decode cX7_film 23 = .ok (.ifCond .ne 5, 3) := by decide +kernel
theorem dX7_film_26 : decode cX7_film 26 = .ok (.iconst (-1), 1) := by decide +kernel
theorem dX7_film_27 : decode cX7_film 27 = .ok (.ireturn, 1) := by decide +kernel
theorem dX7_film_28 : decode cX7_film 28 = .ok (.aload_n 0, 1) := by decide +kernel
theorem dX7_film_29 : decode cX7_film 29 = .ok (.iload_n 2, 1) := by decide +kernel
theorem dX7_film_30 : decode cX7_film 30 = .ok (.iload_n 3, 1) := by decide +kernel
theorem dX7_film_31 : decode cX7_film 31 = .ok (.iload 4, 2) := by decide +kernel
theorem dX7_film_33 : decode cX7_film 33 = .ok (.iload_n 1, 1) := by decide +kernel
theorem dX7_film_34 : decode cX7_film 34 = .ok (.invokevirtual 178, 3) := by decide +kernel
theorem dX7_film_37 : decode cX7_film 37 = .ok (.istore 5, 2) := by decide +kernel
theorem dX7_film_39 : decode cX7_film 39 = .ok (.iload 5, 2) := by decide +kernel
theorem dX7_film_41 : decode cX7_film 41 = .ok (.ifCond .eq 6, 3) := by decide +kernel
theorem dX7_film_44 : decode cX7_film 44 = .ok (.iload 5, 2) := by decide +kernel
theorem dX7_film_46 : decode cX7_film 46 = .ok (.ireturn, 1) := by decide +kernel
theorem dX7_film_47 : decode cX7_film 47 = .ok (.aload_n 0, 1) := by decide +kernel
theorem dX7_film_48 : decode cX7_film 48 = .ok (.invokevirtual 157, 3) := by decide +kernel
theorem dX7_film_51 : decode cX7_film 51 = .ok (.iconst 0, 1) := by decide +kernel
theorem dX7_film_52 : decode cX7_film 52 = .ok (.istore 6, 2) := by decide +kernel
theorem dX7_film_54 : decode cX7_film 54 = .ok (.iload 6, 2) := by decide +kernel
theorem dX7_film_56 : decode cX7_film 56 = .ok (.iload_n 1, 1) := by decide +kernel
theorem dX7_film_57 : decode cX7_film 57 = .ok (.if_icmp .ge 42, 3) := by decide +kernel
theorem dX7_film_60 : decode cX7_film 60 = .ok (.aload_n 0, 1) := by decide +kernel
theorem dX7_film_61 : decode cX7_film 61 = .ok (.getfield 26, 3) := by decide +kernel
theorem dX7_film_64 : decode cX7_film 64 = .ok (.invokestatic 121, 3) := by decide +kernel
theorem dX7_film_67 : decode cX7_film 67 = .ok (.aload_n 0, 1) := by decide +kernel
theorem dX7_film_68 : decode cX7_film 68 = .ok (.getfield 16, 3) := by decide +kernel
theorem dX7_film_71 : decode cX7_film 71 = .ok (.bipush 24, 2) := by decide +kernel
theorem dX7_film_73 : decode cX7_film 73 = .ok (.iload_n 2, 1) := by decide +kernel
theorem dX7_film_74 : decode cX7_film 74 = .ok (.imul, 1) := by decide +kernel
theorem dX7_film_75 : decode cX7_film 75 = .ok (.iload 4, 2) := by decide +kernel
theorem dX7_film_77 : decode cX7_film 77 = .ok (.iadd, 1) := by decide +kernel
theorem dX7_film_78 : decode cX7_film 78 = .ok (.iload 6, 2) := by decide +kernel
theorem dX7_film_80 : decode cX7_film 80 = .ok (.iadd, 1) := by decide +kernel
theorem dX7_film_81 : decode cX7_film 81 = .ok (.iload_n 3, 1) := by decide +kernel
theorem dX7_film_82 : decode cX7_film 82 = .ok (.aload_n 0, 1) := by decide +kernel
theorem dX7_film_83 : decode cX7_film 83 = .ok (.getfield 26, 3) := by decide +kernel
theorem dX7_film_86 : decode cX7_film 86 = .ok (.iconst 2, 1) := by decide +kernel
theorem dX7_film_87 : decode cX7_film 87 = .ok (.iaload, 1) := by decide +kernel
theorem dX7_film_88 : decode cX7_film 88 = .ok (.i2l, 1) := by decide +kernel
theorem dX7_film_89 : decode cX7_film 89 = .ok (.invokestatic 189, 3) := by decide +kernel
theorem dX7_film_92 : decode cX7_film 92 = .ok (.lastore, 1) := by decide +kernel
theorem dX7_film_93 : decode cX7_film 93 = .ok (.iinc 6 1, 3) := by decide +kernel
theorem dX7_film_96 : decode cX7_film 96 = .ok (.goto (-42), 3) := by decide +kernel
theorem dX7_film_99 : decode cX7_film 99 = .ok (.iload_n 1, 1) := by decide +kernel
theorem dX7_film_100 : decode cX7_film 100 = .ok (.ireturn, 1) := by decide +kernel
set_option maxRecDepth 20000 in
theorem ggX7_sheet_X7_isSheet : GoodIn wsX7_sheet wsX7_isSheet := goodIn_r _ [7, 8, 9, 6, 10] (by decide +kernel) (by decide +kernel)
set_option maxRecDepth 20000 in
theorem gX7_sheet_X7_isSheet : GoodIn wsX7_sheet (va_wsS RX7 175 yX7_isSheet wsX7_isSheet) := goodIn_app (goodIn_of _ (by decide +kernel)) ggX7_sheet_X7_isSheet
set_option maxRecDepth 20000 in
theorem ggX7_sheet_X7_in : GoodIn wsX7_sheet wsX7_in := goodIn_r _ [10] (by decide +kernel) (by decide +kernel)
set_option maxRecDepth 20000 in
theorem gX7_sheet_X7_in : GoodIn wsX7_sheet (va_wsS RX7 41 yX7_in wsX7_in) := goodIn_app (goodIn_of _ (by decide +kernel)) ggX7_sheet_X7_in
theorem dX7_sheet_0 : decode cX7_sheet 0 = .ok (.iload_n 1, 1) := by decide +kernel
theorem dX7_sheet_1 : decode cX7_sheet 1 = .ok (.invokestatic 175, 3) := by decide +kernel
theorem dX7_sheet_4 : decode cX7_sheet 4 = .ok (.ifCond .eq 18, 3) := by decide +kernel
theorem dX7_sheet_7 : decode cX7_sheet 7 = .ok (.iload_n 2, 1) := by decide +kernel
theorem dX7_sheet_8 : decode cX7_sheet 8 = .ok (.iconst 0, 1) := by decide +kernel
theorem dX7_sheet_9 : decode cX7_sheet 9 = .ok (.iconst 3, 1) := by decide +kernel
theorem dX7_sheet_10 : decode cX7_sheet 10 = .ok (.invokestatic 41, 3) := by decide +kernel
theorem dX7_sheet_13 : decode cX7_sheet 13 = .ok (.ifCond .eq 9, 3) := by decide +kernel
theorem dX7_sheet_16 : decode cX7_sheet 16 = .ok (.iload_n 3, 1) := by decide +kernel
theorem dX7_sheet_17 : decode cX7_sheet 17 = .ok (.bipush 24, 2) := by decide +kernel
theorem dX7_sheet_19 : decode cX7_sheet 19 = .ok (.if_icmp .le 5, 3) := by decide +kernel
theorem dX7_sheet_22 : decode cX7_sheet 22 = .ok (.iconst (-1), 1) := by decide +kernel
theorem dX7_sheet_23 : decode cX7_sheet 23 = .ok (.ireturn, 1) := by decide +kernel
theorem dX7_sheet_24 : decode cX7_sheet 24 = .ok (.iload_n 3, 1) := by decide +kernel
theorem dX7_sheet_25 : decode cX7_sheet 25 = .ok (.ifCond .ge 6, 3) := by decide +kernel
theorem dX7_sheet_28 : decode cX7_sheet 28 = .ok (.bipush (-14), 2) := by decide +kernel
theorem dX7_sheet_30 : decode cX7_sheet 30 = .ok (.ireturn, 1) := by decide +kernel
theorem dX7_sheet_31 : decode cX7_sheet 31 = .ok (.aload_n 0, 1) := by decide +kernel
theorem dX7_sheet_32 : decode cX7_sheet 32 = .ok (.getfield 7, 3) := by decide +kernel
theorem dX7_sheet_35 : decode cX7_sheet 35 = .ok (.iload_n 1, 1) := by decide +kernel
theorem dX7_sheet_36 : decode cX7_sheet 36 = .ok (.iload_n 2, 1) := by decide +kernel
theorem dX7_sheet_37 : decode cX7_sheet 37 = .ok (.iastore, 1) := by decide +kernel
theorem dX7_sheet_38 : decode cX7_sheet 38 = .ok (.aload_n 0, 1) := by decide +kernel
theorem dX7_sheet_39 : decode cX7_sheet 39 = .ok (.getfield 13, 3) := by decide +kernel
theorem dX7_sheet_42 : decode cX7_sheet 42 = .ok (.iload_n 1, 1) := by decide +kernel
theorem dX7_sheet_43 : decode cX7_sheet 43 = .ok (.iload_n 3, 1) := by decide +kernel
theorem dX7_sheet_44 : decode cX7_sheet 44 = .ok (.iastore, 1) := by decide +kernel
theorem dX7_sheet_45 : decode cX7_sheet 45 = .ok (.iconst 0, 1) := by decide +kernel
theorem dX7_sheet_46 : decode cX7_sheet 46 = .ok (.istore 4, 2) := by decide +kernel
theorem dX7_sheet_48 : decode cX7_sheet 48 = .ok (.iload 4, 2) := by decide +kernel
theorem dX7_sheet_50 : decode cX7_sheet 50 = .ok (.bipush 24, 2) := by decide +kernel
theorem dX7_sheet_52 : decode cX7_sheet 52 = .ok (.if_icmp .ge 22, 3) := by decide +kernel
theorem dX7_sheet_55 : decode cX7_sheet 55 = .ok (.aload_n 0, 1) := by decide +kernel
theorem dX7_sheet_56 : decode cX7_sheet 56 = .ok (.getfield 16, 3) := by decide +kernel
theorem dX7_sheet_59 : decode cX7_sheet 59 = .ok (.bipush 24, 2) := by decide +kernel
theorem dX7_sheet_61 : decode cX7_sheet 61 = .ok (.iload_n 1, 1) := by decide +kernel
theorem dX7_sheet_62 : decode cX7_sheet 62 = .ok (.imul, 1) := by decide +kernel
theorem dX7_sheet_63 : decode cX7_sheet 63 = .ok (.iload 4, 2) := by decide +kernel
theorem dX7_sheet_65 : decode cX7_sheet 65 = .ok (.iadd, 1) := by decide +kernel
theorem dX7_sheet_66 : decode cX7_sheet 66 = .ok (.lconst 0, 1) := by decide +kernel
theorem dX7_sheet_67 : decode cX7_sheet 67 = .ok (.lastore, 1) := by decide +kernel
theorem dX7_sheet_68 : decode cX7_sheet 68 = .ok (.iinc 4 1, 3) := by decide +kernel
theorem dX7_sheet_71 : decode cX7_sheet 71 = .ok (.goto (-23), 3) := by decide +kernel
theorem dX7_sheet_74 : decode cX7_sheet 74 = .ok (.iload_n 3, 1) := by decide +kernel
theorem dX7_sheet_75 : decode cX7_sheet 75 = .ok (.ireturn, 1) := by decide +kernel
set_option maxRecDepth 20000 in
theorem ggX7_drop_X7_isSheet : GoodIn wsX7_drop wsX7_isSheet := goodIn_r _ [6, 7, 8, 5, 9] (by decide +kernel) (by decide +kernel)
set_option maxRecDepth 20000 in
theorem gX7_drop_X7_isSheet : GoodIn wsX7_drop (va_wsS RX7 175 yX7_isSheet wsX7_isSheet) := goodIn_app (goodIn_of _ (by decide +kernel)) ggX7_drop_X7_isSheet
theorem dX7_drop_0 : decode cX7_drop 0 = .ok (.iload_n 1, 1) := by decide +kernel
theorem dX7_drop_1 : decode cX7_drop 1 = .ok (.invokestatic 175, 3) := by decide +kernel
theorem dX7_drop_4 : decode cX7_drop 4 = .ok (.ifCond .ne 5, 3) := by decide +kernel
theorem dX7_drop_7 : decode cX7_drop 7 = .ok (.iconst (-1), 1) := by decide +kernel
theorem dX7_drop_8 : decode cX7_drop 8 = .ok (.ireturn, 1) := by decide +kernel
theorem dX7_drop_9 : decode cX7_drop 9 = .ok (.aload_n 0, 1) := by decide +kernel
theorem dX7_drop_10 : decode cX7_drop 10 = .ok (.getfield 7, 3) := by decide +kernel
theorem dX7_drop_13 : decode cX7_drop 13 = .ok (.iload_n 1, 1) := by decide +kernel
theorem dX7_drop_14 : decode cX7_drop 14 = .ok (.iaload, 1) := by decide +kernel
theorem dX7_drop_15 : decode cX7_drop 15 = .ok (.ifCond .ge 6, 3) := by decide +kernel
theorem dX7_drop_18 : decode cX7_drop 18 = .ok (.bipush (-11), 2) := by decide +kernel
theorem dX7_drop_20 : decode cX7_drop 20 = .ok (.ireturn, 1) := by decide +kernel
theorem dX7_drop_21 : decode cX7_drop 21 = .ok (.aload_n 0, 1) := by decide +kernel
theorem dX7_drop_22 : decode cX7_drop 22 = .ok (.getfield 7, 3) := by decide +kernel
theorem dX7_drop_25 : decode cX7_drop 25 = .ok (.iload_n 1, 1) := by decide +kernel
theorem dX7_drop_26 : decode cX7_drop 26 = .ok (.iconst (-1), 1) := by decide +kernel
theorem dX7_drop_27 : decode cX7_drop 27 = .ok (.iastore, 1) := by decide +kernel
theorem dX7_drop_28 : decode cX7_drop 28 = .ok (.aload_n 0, 1) := by decide +kernel
theorem dX7_drop_29 : decode cX7_drop 29 = .ok (.getfield 13, 3) := by decide +kernel
theorem dX7_drop_32 : decode cX7_drop 32 = .ok (.iload_n 1, 1) := by decide +kernel
theorem dX7_drop_33 : decode cX7_drop 33 = .ok (.iaload, 1) := by decide +kernel
theorem dX7_drop_34 : decode cX7_drop 34 = .ok (.ireturn, 1) := by decide +kernel
set_option maxRecDepth 20000 in
theorem ggX7_item_X7_isSheet : GoodIn wsX7_item wsX7_isSheet := goodIn_r _ [5, 6, 7, 4, 8] (by decide +kernel) (by decide +kernel)
set_option maxRecDepth 20000 in
theorem gX7_item_X7_isSheet : GoodIn wsX7_item (va_wsS RX7 175 yX7_isSheet wsX7_isSheet) := goodIn_app (goodIn_of _ (by decide +kernel)) ggX7_item_X7_isSheet
set_option maxRecDepth 20000 in
theorem ggX7_item_X7_in : GoodIn wsX7_item wsX7_in := goodIn_r _ [8] (by decide +kernel) (by decide +kernel)
set_option maxRecDepth 20000 in
theorem gX7_item_X7_in : GoodIn wsX7_item (va_wsS RX7 41 yX7_in wsX7_in) := goodIn_app (goodIn_of _ (by decide +kernel)) ggX7_item_X7_in
set_option maxRecDepth 20000 in
theorem ggX7_item_X7_wrong : GoodIn wsX7_item wsX7_wrong := goodIn_r _ [12, 13, 14, 15, 16, 4, 17, 18, 19, 20, 21, 22, 23, 24, 25, 26, 27, 28, 29, 30, 31, 32, 33, 34, 35, 36] (by decide +kernel) (by decide +kernel)
set_option maxRecDepth 20000 in
theorem gX7_item_X7_wrong : GoodIn wsX7_item (wsV RX7 178 RX7 yX7_wrong wsX7_wrong) := goodIn_app (goodIn_of _ (by decide +kernel)) ggX7_item_X7_wrong
theorem dX7_item_0 : decode cX7_item 0 = .ok (.iload_n 1, 1) := by decide +kernel
theorem dX7_item_1 : decode cX7_item 1 = .ok (.invokestatic 175, 3) := by decide +kernel
theorem dX7_item_4 : decode cX7_item 4 = .ok (.ifCond .eq 12, 3) := by decide +kernel
theorem dX7_item_7 : decode cX7_item 7 = .ok (.iload_n 2, 1) := by decide +kernel
theorem dX7_item_8 : decode cX7_item 8 = .ok (.iconst 0, 1) := by decide +kernel
theorem dX7_item_9 : decode cX7_item 9 = .ok (.iconst 3, 1) := by decide +kernel
theorem dX7_item_10 : decode cX7_item 10 = .ok (.invokestatic 41, 3) := by decide +kernel
theorem dX7_item_13 : decode cX7_item 13 = .ok (.ifCond .ne 5, 3) := by decide +kernel
theorem dX7_item_16 : decode cX7_item 16 = .ok (.iconst (-1), 1) := by decide +kernel
theorem dX7_item_17 : decode cX7_item 17 = .ok (.ireturn, 1) := by decide +kernel
theorem dX7_item_18 : decode cX7_item 18 = .ok (.aload_n 0, 1) := by decide +kernel
theorem dX7_item_19 : decode cX7_item 19 = .ok (.iload_n 1, 1) := by decide +kernel
theorem dX7_item_20 : decode cX7_item 20 = .ok (.iload_n 2, 1) := by decide +kernel
theorem dX7_item_21 : decode cX7_item 21 = .ok (.iload_n 3, 1) := by decide +kernel
theorem dX7_item_22 : decode cX7_item 22 = .ok (.iconst 1, 1) := by decide +kernel
theorem dX7_item_23 : decode cX7_item 23 = .ok (.invokevirtual 178, 3) := by decide +kernel
theorem dX7_item_26 : decode cX7_item 26 = .ok (.istore 6, 2) := by decide +kernel
theorem dX7_item_28 : decode cX7_item 28 = .ok (.iload 6, 2) := by decide +kernel
theorem dX7_item_30 : decode cX7_item 30 = .ok (.ifCond .eq 6, 3) := by decide +kernel
theorem dX7_item_33 : decode cX7_item 33 = .ok (.iload 6, 2) := by decide +kernel
theorem dX7_item_35 : decode cX7_item 35 = .ok (.ireturn, 1) := by decide +kernel
theorem dX7_item_36 : decode cX7_item 36 = .ok (.aload_n 0, 1) := by decide +kernel
theorem dX7_item_37 : decode cX7_item 37 = .ok (.getfield 16, 3) := by decide +kernel
theorem dX7_item_40 : decode cX7_item 40 = .ok (.bipush 24, 2) := by decide +kernel
theorem dX7_item_42 : decode cX7_item 42 = .ok (.iload_n 1, 1) := by decide +kernel
theorem dX7_item_43 : decode cX7_item 43 = .ok (.imul, 1) := by decide +kernel
theorem dX7_item_44 : decode cX7_item 44 = .ok (.iload_n 3, 1) := by decide +kernel
theorem dX7_item_45 : decode cX7_item 45 = .ok (.iadd, 1) := by decide +kernel
theorem dX7_item_46 : decode cX7_item 46 = .ok (.iload_n 2, 1) := by decide +kernel
theorem dX7_item_47 : decode cX7_item 47 = .ok (.ifCond .ne 11, 3) := by decide +kernel
theorem dX7_item_50 : decode cX7_item 50 = .ok (.lload 4, 2) := by decide +kernel
theorem dX7_item_52 : decode cX7_item 52 = .ok (.l2i, 1) := by decide +kernel
theorem dX7_item_53 : decode cX7_item 53 = .ok (.i2b, 1) := by decide +kernel
theorem dX7_item_54 : decode cX7_item 54 = .ok (.i2l, 1) := by decide +kernel
theorem dX7_item_55 : decode cX7_item 55 = .ok (.goto 30, 3) := by decide +kernel
theorem dX7_item_58 : decode cX7_item 58 = .ok (.iload_n 2, 1) := by decide +kernel
theorem dX7_item_59 : decode cX7_item 59 = .ok (.iconst 1, 1) := by decide +kernel
theorem dX7_item_60 : decode cX7_item 60 = .ok (.if_icmp .ne 11, 3) := by decide +kernel
theorem dX7_item_63 : decode cX7_item 63 = .ok (.lload 4, 2) := by decide +kernel
theorem dX7_item_65 : decode cX7_item 65 = .ok (.l2i, 1) := by decide +kernel
theorem dX7_item_66 : decode cX7_item 66 = .ok (.i2s, 1) := by decide +kernel
theorem dX7_item_67 : decode cX7_item 67 = .ok (.i2l, 1) := by decide +kernel
theorem dX7_item_68 : decode cX7_item 68 = .ok (.goto 17, 3) := by decide +kernel
theorem dX7_item_71 : decode cX7_item 71 = .ok (.iload_n 2, 1) := by decide +kernel
theorem dX7_item_72 : decode cX7_item 72 = .ok (.iconst 2, 1) := by decide +kernel
theorem dX7_item_73 : decode cX7_item 73 = .ok (.if_icmp .ne 10, 3) := by decide +kernel
theorem dX7_item_76 : decode cX7_item 76 = .ok (.lload 4, 2) := by decide +kernel
theorem dX7_item_78 : decode cX7_item 78 = .ok (.l2i, 1) := by decide +kernel
theorem dX7_item_79 : decode cX7_item 79 = .ok (.i2l, 1) := by decide +kernel
theorem dX7_item_80 : decode cX7_item 80 = .ok (.goto 5, 3) := by decide +kernel
theorem dX7_item_83 : decode cX7_item 83 = .ok (.lload 4, 2) := by decide +kernel
theorem dX7_item_85 : decode cX7_item 85 = .ok (.lastore, 1) := by decide +kernel
theorem dX7_item_86 : decode cX7_item 86 = .ok (.iconst 1, 1) := by decide +kernel
theorem dX7_item_87 : decode cX7_item 87 = .ok (.ireturn, 1) := by decide +kernel
set_option maxRecDepth 20000 in
theorem ggX7_copy_X7_isSheet : GoodIn wsX7_copy wsX7_isSheet := goodIn_r _ [7, 8, 9, 6, 10] (by decide +kernel) (by decide +kernel)
set_option maxRecDepth 20000 in
theorem gX7_copy_X7_isSheet : GoodIn wsX7_copy (va_wsS RX7 175 yX7_isSheet wsX7_isSheet) := goodIn_app (goodIn_of _ (by decide +kernel)) ggX7_copy_X7_isSheet
set_option maxRecDepth 20000 in
theorem ggX7_copy_X7_isPart : GoodIn wsX7_copy wsX7_isPart := goodIn_r _ [13] (by decide +kernel) (by decide +kernel)
set_option maxRecDepth 20000 in
theorem gX7_copy_X7_isPart : GoodIn wsX7_copy (va_wsS RX7 170 yX7_isPart wsX7_isPart) := goodIn_app (goodIn_of _ (by decide +kernel)) ggX7_copy_X7_isPart
theorem dX7_copy_0 : decode cX7_copy 0 = .ok (.iload_n 1, 1) := by decide +kernel
theorem dX7_copy_1 : decode cX7_copy 1 = .ok (.invokestatic 175, 3) := by decide +kernel
theorem dX7_copy_4 : decode cX7_copy 4 = .ok (.ifCond .eq 10, 3) := by decide +kernel
theorem dX7_copy_7 : decode cX7_copy 7 = .ok (.iload_n 3, 1) := by decide +kernel
theorem dX7_copy_8 : decode cX7_copy 8 = .ok (.invokestatic 175, 3) := by decide +kernel
theorem dX7_copy_11 : decode cX7_copy 11 = .ok (.ifCond .ne 5, 3) := by decide +kernel
theorem dX7_copy_14 : decode cX7_copy 14 = .ok (.iconst (-1), 1) := by decide +kernel
theorem dX7_copy_15 : decode cX7_copy 15 = .ok (.ireturn, 1) := by decide +kernel
theorem dX7_copy_16 : decode cX7_copy 16 = .ok (.aload_n 0, 1) := by decide +kernel
theorem dX7_copy_17 : decode cX7_copy 17 = .ok (.getfield 7, 3) := by decide +kernel
theorem dX7_copy_20 : decode cX7_copy 20 = .ok (.iload_n 1, 1) := by decide +kernel
theorem dX7_copy_21 : decode cX7_copy 21 = .ok (.iaload, 1) := by decide +kernel
theorem dX7_copy_22 : decode cX7_copy 22 = .ok (.ifCond .lt 12, 3) := by decide +kernel
theorem dX7_copy_25 : decode cX7_copy 25 = .ok (.aload_n 0, 1) := by decide +kernel
theorem dX7_copy_26 : decode cX7_copy 26 = .ok (.getfield 7, 3) := by decide +kernel
theorem dX7_copy_29 : decode cX7_copy 29 = .ok (.iload_n 3, 1) := by decide +kernel
theorem dX7_copy_30 : decode cX7_copy 30 = .ok (.iaload, 1) := by decide +kernel
theorem dX7_copy_31 : decode cX7_copy 31 = .ok (.ifCond .ge 6, 3) := by decide +kernel
theorem dX7_copy_34 : decode cX7_copy 34 = .ok (.bipush (-11), 2) := by decide +kernel
theorem dX7_copy_36 : decode cX7_copy 36 = .ok (.ireturn, 1) := by decide +kernel
theorem dX7_copy_37 : decode cX7_copy 37 = .ok (.aload_n 0, 1) := by decide +kernel
theorem dX7_copy_38 : decode cX7_copy 38 = .ok (.getfield 7, 3) := by decide +kernel
theorem dX7_copy_41 : decode cX7_copy 41 = .ok (.iload_n 1, 1) := by decide +kernel
theorem dX7_copy_42 : decode cX7_copy 42 = .ok (.iaload, 1) := by decide +kernel
theorem dX7_copy_43 : decode cX7_copy 43 = .ok (.aload_n 0, 1) := by decide +kernel
theorem dX7_copy_44 : decode cX7_copy 44 = .ok (.getfield 7, 3) := by decide +kernel
theorem dX7_copy_47 : decode cX7_copy 47 = .ok (.iload_n 3, 1) := by decide +kernel
theorem dX7_copy_48 : decode cX7_copy 48 = .ok (.iaload, 1) := by decide +kernel
theorem dX7_copy_49 : decode cX7_copy 49 = .ok (.if_icmp .eq 6, 3) := by decide +kernel
theorem dX7_copy_52 : decode cX7_copy 52 = .ok (.bipush (-12), 2) := by decide +kernel
theorem dX7_copy_54 : decode cX7_copy 54 = .ok (.ireturn, 1) := by decide +kernel
theorem dX7_copy_55 : decode cX7_copy 55 = .ok (.iload_n 2, 1) := by decide +kernel
theorem dX7_copy_56 : decode cX7_copy 56 = .ok (.iload 5, 2) := by decide +kernel
theorem dX7_copy_58 : decode cX7_copy 58 = .ok (.aload_n 0, 1) := by decide +kernel
theorem dX7_copy_59 : decode cX7_copy 59 = .ok (.getfield 13, 3) := by decide +kernel
theorem dX7_copy_62 : decode cX7_copy 62 = .ok (.iload_n 1, 1) := by decide +kernel
theorem dX7_copy_63 : decode cX7_copy 63 = .ok (.iaload, 1) := by decide +kernel
theorem dX7_copy_64 : decode cX7_copy 64 = .ok (.invokestatic 170, 3) := by decide +kernel
theorem dX7_copy_67 : decode cX7_copy 67 = .ok (.ifCond .eq 19, 3) := by decide +kernel
theorem dX7_copy_70 : decode cX7_copy 70 = .ok (.iload 4, 2) := by decide +kernel
theorem dX7_copy_72 : decode cX7_copy 72 = .ok (.iload 5, 2) := by decide +kernel
theorem dX7_copy_74 : decode cX7_copy 74 = .ok (.aload_n 0, 1) := by decide +kernel
theorem dX7_copy_75 : decode cX7_copy 75 = .ok (.getfield 13, 3) := by decide +kernel
theorem dX7_copy_78 : decode cX7_copy 78 = .ok (.iload_n 3, 1) := by decide +kernel
theorem dX7_copy_79 : decode cX7_copy 79 = .ok (.iaload, 1) := by decide +kernel
theorem dX7_copy_80 : decode cX7_copy 80 = .ok (.invokestatic 170, 3) := by decide +kernel
theorem dX7_copy_83 : decode cX7_copy 83 = .ok (.ifCond .ne 6, 3) := by decide +kernel
theorem dX7_copy_86 : decode cX7_copy 86 = .ok (.bipush (-13), 2) := by decide +kernel
theorem dX7_copy_88 : decode cX7_copy 88 = .ok (.ireturn, 1) := by decide +kernel
theorem dX7_copy_89 : decode cX7_copy 89 = .ok (.iload_n 1, 1) := by decide +kernel
theorem dX7_copy_90 : decode cX7_copy 90 = .ok (.iload_n 3, 1) := by decide +kernel
theorem dX7_copy_91 : decode cX7_copy 91 = .ok (.if_icmp .ne 13, 3) := by decide +kernel
theorem dX7_copy_94 : decode cX7_copy 94 = .ok (.iload 4, 2) := by decide +kernel
theorem dX7_copy_96 : decode cX7_copy 96 = .ok (.iload_n 2, 1) := by decide +kernel
theorem dX7_copy_97 : decode cX7_copy 97 = .ok (.if_icmp .le 7, 3) := by decide +kernel
theorem dX7_copy_100 : decode cX7_copy 100 = .ok (.iconst 1, 1) := by decide +kernel
theorem dX7_copy_101 : decode cX7_copy 101 = .ok (.goto 4, 3) := by decide +kernel
theorem dX7_copy_104 : decode cX7_copy 104 = .ok (.iconst 0, 1) := by decide +kernel
theorem dX7_copy_105 : decode cX7_copy 105 = .ok (.istore 6, 2) := by decide +kernel
theorem dX7_copy_107 : decode cX7_copy 107 = .ok (.iconst 0, 1) := by decide +kernel
theorem dX7_copy_108 : decode cX7_copy 108 = .ok (.istore 7, 2) := by decide +kernel
theorem dX7_copy_110 : decode cX7_copy 110 = .ok (.iload 7, 2) := by decide +kernel
theorem dX7_copy_112 : decode cX7_copy 112 = .ok (.iload 5, 2) := by decide +kernel
theorem dX7_copy_114 : decode cX7_copy 114 = .ok (.if_icmp .ge 57, 3) := by decide +kernel
theorem dX7_copy_117 : decode cX7_copy 117 = .ok (.iload 6, 2) := by decide +kernel
theorem dX7_copy_119 : decode cX7_copy 119 = .ok (.ifCond .eq 13, 3) := by decide +kernel
theorem dX7_copy_122 : decode cX7_copy 122 = .ok (.iload 5, 2) := by decide +kernel
theorem dX7_copy_124 : decode cX7_copy 124 = .ok (.iconst 1, 1) := by decide +kernel
theorem dX7_copy_125 : decode cX7_copy 125 = .ok (.isub, 1) := by decide +kernel
theorem dX7_copy_126 : decode cX7_copy 126 = .ok (.iload 7, 2) := by decide +kernel
theorem dX7_copy_128 : decode cX7_copy 128 = .ok (.isub, 1) := by decide +kernel
theorem dX7_copy_129 : decode cX7_copy 129 = .ok (.goto 5, 3) := by decide +kernel
theorem dX7_copy_132 : decode cX7_copy 132 = .ok (.iload 7, 2) := by decide +kernel
theorem dX7_copy_134 : decode cX7_copy 134 = .ok (.istore 8, 2) := by decide +kernel
theorem dX7_copy_136 : decode cX7_copy 136 = .ok (.aload_n 0, 1) := by decide +kernel
theorem dX7_copy_137 : decode cX7_copy 137 = .ok (.getfield 16, 3) := by decide +kernel
theorem dX7_copy_140 : decode cX7_copy 140 = .ok (.bipush 24, 2) := by decide +kernel
theorem dX7_copy_142 : decode cX7_copy 142 = .ok (.iload_n 3, 1) := by decide +kernel
theorem dX7_copy_143 : decode cX7_copy 143 = .ok (.imul, 1) := by decide +kernel
theorem dX7_copy_144 : decode cX7_copy 144 = .ok (.iload 4, 2) := by decide +kernel
theorem dX7_copy_146 : decode cX7_copy 146 = .ok (.iadd, 1) := by decide +kernel
theorem dX7_copy_147 : decode cX7_copy 147 = .ok (.iload 8, 2) := by decide +kernel
theorem dX7_copy_149 : decode cX7_copy 149 = .ok (.iadd, 1) := by decide +kernel
theorem dX7_copy_150 : decode cX7_copy 150 = .ok (.aload_n 0, 1) := by decide +kernel
theorem dX7_copy_151 : decode cX7_copy 151 = .ok (.getfield 16, 3) := by decide +kernel
theorem dX7_copy_154 : decode cX7_copy 154 = .ok (.bipush 24, 2) := by decide +kernel
theorem dX7_copy_156 : decode cX7_copy 156 = .ok (.iload_n 1, 1) := by decide +kernel
theorem dX7_copy_157 : decode cX7_copy 157 = .ok (.imul, 1) := by decide +kernel
theorem dX7_copy_158 : decode cX7_copy 158 = .ok (.iload_n 2, 1) := by decide +kernel
theorem dX7_copy_159 : decode cX7_copy 159 = .ok (.iadd, 1) := by decide +kernel
theorem dX7_copy_160 : decode cX7_copy 160 = .ok (.iload 8, 2) := by decide +kernel
theorem dX7_copy_162 : decode cX7_copy 162 = .ok (.iadd, 1) := by decide +kernel
theorem dX7_copy_163 : decode cX7_copy 163 = .ok (.laload, 1) := by decide +kernel
theorem dX7_copy_164 : decode cX7_copy 164 = .ok (.lastore, 1) := by decide +kernel
theorem dX7_copy_165 : decode cX7_copy 165 = .ok (.iinc 7 1, 3) := by decide +kernel
theorem dX7_copy_168 : decode cX7_copy 168 = .ok (.goto (-58), 3) := by decide +kernel
theorem dX7_copy_171 : decode cX7_copy 171 = .ok (.iload 5, 2) := by decide +kernel
theorem dX7_copy_173 : decode cX7_copy 173 = .ok (.ireturn, 1) := by decide +kernel
