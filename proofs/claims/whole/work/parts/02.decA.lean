theorem dX0_init_0 : decode cX0_init 0 = .ok (.aload_n 0, 1) := by decide +kernel
theorem dX0_init_1 : decode cX0_init 1 = .ok (.invokespecial 1, 3) := by decide +kernel
theorem dX0_init_4 : decode cX0_init 4 = .ok (.aload_n 0, 1) := by decide +kernel
theorem dX0_init_5 : decode cX0_init 5 = .ok (.lconst 0, 1) := by decide +kernel
theorem dX0_init_6 : decode cX0_init 6 = .ok (.putfield 7, 3) := by decide +kernel
theorem dX0_init_9 : decode cX0_init 9 = .ok (.aload_n 0, 1) := by decide +kernel
theorem dX0_init_10 : decode cX0_init 10 = .ok (.lconst 1, 1) := by decide +kernel
theorem dX0_init_11 : decode cX0_init 11 = .ok (.putfield 13, 3) := by decide +kernel
theorem dX0_init_14 : decode cX0_init 14 = .ok (.return_, 1) := by decide +kernel
set_option maxRecDepth 20000 in
theorem ggX0_become_X0_commonDivisor : GoodIn wsX0_become wsX0_commonDivisor := goodIn_r _ [6] (by decide +kernel) (by decide +kernel)
set_option maxRecDepth 20000 in
theorem gX0_become_X0_commonDivisor : GoodIn wsX0_become (va_wsS RX0 16 yX0_commonDivisor wsX0_commonDivisor) := goodIn_app (goodIn_of _ (by decide +kernel)) ggX0_become_X0_commonDivisor
theorem dX0_become_0 : decode cX0_become 0 = .ok (.lload_n 1, 1) := by decide +kernel
theorem dX0_become_1 : decode cX0_become 1 = .ok (.lload_n 3, 1) := by decide +kernel
theorem dX0_become_2 : decode cX0_become 2 = .ok (.invokestatic 16, 3) := by decide +kernel
theorem dX0_become_5 : decode cX0_become 5 = .ok (.lstore 5, 2) := by decide +kernel
theorem dX0_become_7 : decode cX0_become 7 = .ok (.lload 5, 2) := by decide +kernel
theorem dX0_become_9 : decode cX0_become 9 = .ok (.lconst 0, 1) := by decide +kernel
theorem dX0_become_10 : decode cX0_become 10 = .ok (.lcmp, 1) := by decide +kernel
theorem dX0_become_11 : decode cX0_become 11 = .ok (.ifCond .le 19, 3) := by decide +kernel
theorem dX0_become_14 : decode cX0_become 14 = .ok (.aload_n 0, 1) := by decide +kernel
theorem dX0_become_15 : decode cX0_become 15 = .ok (.lload_n 1, 1) := by decide +kernel
theorem dX0_become_16 : decode cX0_become 16 = .ok (.lload 5, 2) := by decide +kernel
theorem dX0_become_18 : decode cX0_become 18 = .ok (.ldiv, 1) := by decide +kernel
theorem dX0_become_19 : decode cX0_become 19 = .ok (.putfield 7, 3) := by decide +kernel
theorem dX0_become_22 : decode cX0_become 22 = .ok (.aload_n 0, 1) := by decide +kernel
theorem dX0_become_23 : decode cX0_become 23 = .ok (.lload_n 3, 1) := by decide +kernel
theorem dX0_become_24 : decode cX0_become 24 = .ok (.lload 5, 2) := by decide +kernel
theorem dX0_become_26 : decode cX0_become 26 = .ok (.ldiv, 1) := by decide +kernel
theorem dX0_become_27 : decode cX0_become 27 = .ok (.putfield 13, 3) := by decide +kernel
theorem dX0_become_30 : decode cX0_become 30 = .ok (.return_, 1) := by decide +kernel
theorem dX0_commonDivisor_0 : decode cX0_commonDivisor 0 = .ok (.iconst 0, 1) := by decide +kernel
theorem dX0_commonDivisor_1 : decode cX0_commonDivisor 1 = .ok (.istore 4, 2) := by decide +kernel
theorem dX0_commonDivisor_3 : decode cX0_commonDivisor 3 = .ok (.iload 4, 2) := by decide +kernel
theorem dX0_commonDivisor_5 : decode cX0_commonDivisor 5 = .ok (.sipush 1000, 3) := by decide +kernel
theorem dX0_commonDivisor_8 : decode cX0_commonDivisor 8 = .ok (.if_icmp .ge 25, 3) := by decide +kernel
theorem dX0_commonDivisor_11 : decode cX0_commonDivisor 11 = .ok (.lload_n 2, 1) := by decide +kernel
theorem dX0_commonDivisor_12 : decode cX0_commonDivisor 12 = .ok (.lconst 0, 1) := by decide +kernel
theorem dX0_commonDivisor_13 : decode cX0_commonDivisor 13 = .ok (.lcmp, 1) := by decide +kernel
theorem dX0_commonDivisor_14 : decode cX0_commonDivisor 14 = .ok (.ifCond .eq 19, 3) := by decide +kernel
theorem dX0_commonDivisor_17 : decode cX0_commonDivisor 17 = .ok (.lload_n 0, 1) := by decide +kernel
theorem dX0_commonDivisor_18 : decode cX0_commonDivisor 18 = .ok (.lload_n 2, 1) := by decide +kernel
theorem dX0_commonDivisor_19 : decode cX0_commonDivisor 19 = .ok (.lrem, 1) := by decide +kernel
theorem dX0_commonDivisor_20 : decode cX0_commonDivisor 20 = .ok (.lstore 5, 2) := by decide +kernel
theorem dX0_commonDivisor_22 : decode cX0_commonDivisor 22 = .ok (.lload_n 2, 1) := by decide +kernel
theorem dX0_commonDivisor_23 : decode cX0_commonDivisor 23 = .ok (.lstore_n 0, 1) := by decide +kernel
theorem dX0_commonDivisor_24 : decode cX0_commonDivisor 24 = .ok (.lload 5, 2) := by decide +kernel
theorem dX0_commonDivisor_26 : decode cX0_commonDivisor 26 = .ok (.lstore_n 2, 1) := by decide +kernel
theorem dX0_commonDivisor_27 : decode cX0_commonDivisor 27 = .ok (.iinc 4 1, 3) := by decide +kernel
theorem dX0_commonDivisor_30 : decode cX0_commonDivisor 30 = .ok (.goto (-27), 3) := by decide +kernel
theorem dX0_commonDivisor_33 : decode cX0_commonDivisor 33 = .ok (.lload_n 0, 1) := by decide +kernel
theorem dX0_commonDivisor_34 : decode cX0_commonDivisor 34 = .ok (.lreturn, 1) := by decide +kernel
set_option maxRecDepth 20000 in
theorem ggX0_add_X0_become : GoodIn wsX0_add wsX0_become := goodIn_r _ [7, 1, 2, 8, 9, 6, 10, 11, 12] (by decide +kernel) (by decide +kernel)
set_option maxRecDepth 20000 in
theorem gX0_add_X0_become : GoodIn wsX0_add (wsV RX0 20 RX0 yX0_become wsX0_become) := goodIn_app (goodIn_of _ (by decide +kernel)) ggX0_add_X0_become
theorem dX0_add_0 : decode cX0_add 0 = .ok (.aload_n 0, 1) := by decide +kernel
theorem dX0_add_1 : decode cX0_add 1 = .ok (.aload_n 0, 1) := by decide +kernel
theorem dX0_add_2 : decode cX0_add 2 = .ok (.getfield 7, 3) := by decide +kernel
theorem dX0_add_5 : decode cX0_add 5 = .ok (.aload_n 1, 1) := by decide +kernel
theorem dX0_add_6 : decode cX0_add 6 = .ok (.getfield 13, 3) := by decide +kernel
theorem dX0_add_9 : decode cX0_add 9 = .ok (.lmul, 1) := by decide +kernel
theorem dX0_add_10 : decode cX0_add 10 = .ok (.aload_n 1, 1) := by decide +kernel
theorem dX0_add_11 : decode cX0_add 11 = .ok (.getfield 7, 3) := by decide +kernel
theorem dX0_add_14 : decode cX0_add 14 = .ok (.aload_n 0, 1) := by decide +kernel
theorem dX0_add_15 : decode cX0_add 15 = .ok (.getfield 13, 3) := by decide +kernel
theorem dX0_add_18 : decode cX0_add 18 = .ok (.lmul, 1) := by decide +kernel
theorem dX0_add_19 : decode cX0_add 19 = .ok (.ladd, 1) := by decide +kernel
theorem dX0_add_20 : decode cX0_add 20 = .ok (.aload_n 0, 1) := by decide +kernel
theorem dX0_add_21 : decode cX0_add 21 = .ok (.getfield 13, 3) := by decide +kernel
theorem dX0_add_24 : decode cX0_add 24 = .ok (.aload_n 1, 1) := by decide +kernel
theorem dX0_add_25 : decode cX0_add 25 = .ok (.getfield 13, 3) := by decide +kernel
theorem dX0_add_28 : decode cX0_add 28 = .ok (.lmul, 1) := by decide +kernel
theorem dX0_add_29 : decode cX0_add 29 = .ok (.invokevirtual 20, 3) := by decide +kernel
theorem dX0_add_32 : decode cX0_add 32 = .ok (.return_, 1) := by decide +kernel
theorem dX0_isBelow_0 : decode cX0_isBelow 0 = .ok (.aload_n 0, 1) := by decide +kernel
theorem dX0_isBelow_1 : decode cX0_isBelow 1 = .ok (.getfield 7, 3) := by decide +kernel
theorem dX0_isBelow_4 : decode cX0_isBelow 4 = .ok (.aload_n 1, 1) := by decide +kernel
theorem dX0_isBelow_5 : decode cX0_isBelow 5 = .ok (.getfield 13, 3) := by decide +kernel
theorem dX0_isBelow_8 : decode cX0_isBelow 8 = .ok (.lmul, 1) := by decide +kernel
theorem dX0_isBelow_9 : decode cX0_isBelow 9 = .ok (.aload_n 1, 1) := by decide +kernel
theorem dX0_isBelow_10 : decode cX0_isBelow 10 = .ok (.getfield 7, 3) := by decide +kernel
theorem dX0_isBelow_13 : decode cX0_isBelow 13 = .ok (.aload_n 0, 1) := by decide +kernel
theorem dX0_isBelow_14 : decode cX0_isBelow 14 = .ok (.getfield 13, 3) := by decide +kernel
theorem dX0_isBelow_17 : decode cX0_isBelow 17 = .ok (.lmul, 1) := by decide +kernel
theorem dX0_isBelow_18 : decode cX0_isBelow 18 = .ok (.lcmp, 1) := by decide +kernel
theorem dX0_isBelow_19 : decode cX0_isBelow 19 = .ok (.ifCond .ge 7, 3) := by decide +kernel
theorem dX0_isBelow_22 : decode cX0_isBelow 22 = .ok (.iconst 1, 1) := by decide +kernel
theorem dX0_isBelow_23 : decode cX0_isBelow 23 = .ok (.goto 4, 3) := by decide +kernel
theorem dX0_isBelow_26 : decode cX0_isBelow 26 = .ok (.iconst 0, 1) := by decide +kernel
theorem dX0_isBelow_27 : decode cX0_isBelow 27 = .ok (.ireturn, 1) := by decide +kernel
theorem dX0_told_0 : decode cX0_told 0 = .ok (.iload_n 1, 1) := by decide +kernel
theorem dX0_told_1 : decode cX0_told 1 = .ok (.ifCond .ne 10, 3) := by decide +kernel
theorem dX0_told_4 : decode cX0_told 4 = .ok (.aload_n 0, 1) := by decide +kernel
theorem dX0_told_5 : decode cX0_told 5 = .ok (.getfield 7, 3) := by decide +kernel
theorem dX0_told_8 : decode cX0_told 8 = .ok (.goto 7, 3) := by decide +kernel
theorem dX0_told_11 : decode cX0_told 11 = .ok (.aload_n 0, 1) := by decide +kernel
theorem dX0_told_12 : decode cX0_told 12 = .ok (.getfield 13, 3) := by decide +kernel
theorem dX0_told_15 : decode cX0_told 15 = .ok (.lreturn, 1) := by decide +kernel
theorem dX0_partOf_0 : decode cX0_partOf 0 = .ok (.aload_n 0, 1) := by decide +kernel
theorem dX0_partOf_1 : decode cX0_partOf 1 = .ok (.getfield 13, 3) := by decide +kernel
theorem dX0_partOf_4 : decode cX0_partOf 4 = .ok (.lconst 0, 1) := by decide +kernel
theorem dX0_partOf_5 : decode cX0_partOf 5 = .ok (.lcmp, 1) := by decide +kernel
theorem dX0_partOf_6 : decode cX0_partOf 6 = .ok (.ifCond .le 17, 3) := by decide +kernel
theorem dX0_partOf_9 : decode cX0_partOf 9 = .ok (.lload_n 1, 1) := by decide +kernel
theorem dX0_partOf_10 : decode cX0_partOf 10 = .ok (.aload_n 0, 1) := by decide +kernel
theorem dX0_partOf_11 : decode cX0_partOf 11 = .ok (.getfield 7, 3) := by decide +kernel
theorem dX0_partOf_14 : decode cX0_partOf 14 = .ok (.lmul, 1) := by decide +kernel
theorem dX0_partOf_15 : decode cX0_partOf 15 = .ok (.aload_n 0, 1) := by decide +kernel
theorem dX0_partOf_16 : decode cX0_partOf 16 = .ok (.getfield 13, 3) := by decide +kernel
theorem dX0_partOf_19 : decode cX0_partOf 19 = .ok (.ldiv, 1) := by decide +kernel
theorem dX0_partOf_20 : decode cX0_partOf 20 = .ok (.goto 4, 3) := by decide +kernel
theorem dX0_partOf_23 : decode cX0_partOf 23 = .ok (.lconst 0, 1) := by decide +kernel
theorem dX0_partOf_24 : decode cX0_partOf 24 = .ok (.lreturn, 1) := by decide +kernel
set_option maxRecDepth 20000 in
theorem ggX1_init_X2_init : GoodIn wsX1_init wsX2_init := goodIn_r _ [17, 18, 2, 3, 19, 20, 21, 4, 22, 23, 32, 33, 34, 35, 36] (by decide +kernel) (by decide +kernel)
set_option maxRecDepth 20000 in
theorem gX1_init_X2_init_n17 : GoodIn wsX1_init (wsX2_init) := ggX1_init_X2_init
theorem dX1_init_0 : decode cX1_init 0 = .ok (.aload_n 0, 1) := by decide +kernel
theorem dX1_init_1 : decode cX1_init 1 = .ok (.invokespecial 3, 3) := by decide +kernel
theorem dX1_init_4 : decode cX1_init 4 = .ok (.aload_n 0, 1) := by decide +kernel
theorem dX1_init_5 : decode cX1_init 5 = .ok (.bipush 7, 2) := by decide +kernel
theorem dX1_init_7 : decode cX1_init 7 = .ok (.newarray .int, 2) := by decide +kernel
theorem dX1_init_9 : decode cX1_init 9 = .ok (.putfield 9, 3) := by decide +kernel
theorem dX1_init_12 : decode cX1_init 12 = .ok (.aload_n 0, 1) := by decide +kernel
theorem dX1_init_13 : decode cX1_init 13 = .ok (.new 15, 3) := by decide +kernel
theorem dX1_init_16 : decode cX1_init 16 = .ok (.dup, 1) := by decide +kernel
theorem dX1_init_17 : decode cX1_init 17 = .ok (.invokespecial 17, 3) := by decide +kernel
theorem dX1_init_20 : decode cX1_init 20 = .ok (.putfield 18, 3) := by decide +kernel
theorem dX1_init_23 : decode cX1_init 23 = .ok (.aload_n 0, 1) := by decide +kernel
theorem dX1_init_24 : decode cX1_init 24 = .ok (.bipush 8, 2) := by decide +kernel
theorem dX1_init_26 : decode cX1_init 26 = .ok (.anewarray 15, 3) := by decide +kernel
theorem dX1_init_29 : decode cX1_init 29 = .ok (.putfield 22, 3) := by decide +kernel
theorem dX1_init_32 : decode cX1_init 32 = .ok (.aload_n 0, 1) := by decide +kernel
theorem dX1_init_33 : decode cX1_init 33 = .ok (.iconst 0, 1) := by decide +kernel
theorem dX1_init_34 : decode cX1_init 34 = .ok (.putfield 26, 3) := by decide +kernel
theorem dX1_init_37 : decode cX1_init 37 = .ok (.aload_n 0, 1) := by decide +kernel
theorem dX1_init_38 : decode cX1_init 38 = .ok (.iconst 5, 1) := by decide +kernel
theorem dX1_init_39 : decode cX1_init 39 = .ok (.newarray .int, 2) := by decide +kernel
theorem dX1_init_41 : decode cX1_init 41 = .ok (.putfield 30, 3) := by decide +kernel
theorem dX1_init_44 : decode cX1_init 44 = .ok (.aload_n 0, 1) := by decide +kernel
theorem dX1_init_45 : decode cX1_init 45 = .ok (.iconst 5, 1) := by decide +kernel
theorem dX1_init_46 : decode cX1_init 46 = .ok (.newarray .int, 2) := by decide +kernel
theorem dX1_init_48 : decode cX1_init 48 = .ok (.putfield 33, 3) := by decide +kernel
theorem dX1_init_51 : decode cX1_init 51 = .ok (.aload_n 0, 1) := by decide +kernel
theorem dX1_init_52 : decode cX1_init 52 = .ok (.iconst 5, 1) := by decide +kernel
theorem dX1_init_53 : decode cX1_init 53 = .ok (.newarray .int, 2) := by decide +kernel
theorem dX1_init_55 : decode cX1_init 55 = .ok (.putfield 36, 3) := by decide +kernel
theorem dX1_init_58 : decode cX1_init 58 = .ok (.aload_n 0, 1) := by decide +kernel
theorem dX1_init_59 : decode cX1_init 59 = .ok (.iconst 0, 1) := by decide +kernel
theorem dX1_init_60 : decode cX1_init 60 = .ok (.putfield 39, 3) := by decide +kernel
theorem dX1_init_63 : decode cX1_init 63 = .ok (.iconst 0, 1) := by decide +kernel
theorem dX1_init_64 : decode cX1_init 64 = .ok (.istore_n 1, 1) := by decide +kernel
theorem dX1_init_65 : decode cX1_init 65 = .ok (.iload_n 1, 1) := by decide +kernel
theorem dX1_init_66 : decode cX1_init 66 = .ok (.bipush 8, 2) := by decide +kernel
theorem dX1_init_68 : decode cX1_init 68 = .ok (.if_icmp .ge 22, 3) := by decide +kernel
theorem dX1_init_71 : decode cX1_init 71 = .ok (.aload_n 0, 1) := by decide +kernel
theorem dX1_init_72 : decode cX1_init 72 = .ok (.getfield 22, 3) := by decide +kernel
theorem dX1_init_75 : decode cX1_init 75 = .ok (.iload_n 1, 1) := by decide +kernel
theorem dX1_init_76 : decode cX1_init 76 = .ok (.new 15, 3) := by decide +kernel
theorem dX1_init_79 : decode cX1_init 79 = .ok (.dup, 1) := by decide +kernel
theorem dX1_init_80 : decode cX1_init 80 = .ok (.invokespecial 17, 3) := by decide +kernel
theorem dX1_init_83 : decode cX1_init 83 = .ok (.aastore, 1) := by decide +kernel
theorem dX1_init_84 : decode cX1_init 84 = .ok (.iinc 1 1, 3) := by decide +kernel
theorem dX1_init_87 : decode cX1_init 87 = .ok (.goto (-22), 3) := by decide +kernel
theorem dX1_init_90 : decode cX1_init 90 = .ok (.return_, 1) := by decide +kernel
set_option maxRecDepth 20000 in
theorem ggX1_onFrom_X6_isWithin : GoodIn wsX1_onFrom wsX6_isWithin := goodIn_r _ [10] (by decide +kernel) (by decide +kernel)
set_option maxRecDepth 20000 in
theorem gX1_onFrom_X6_isWithin_n42 : GoodIn wsX1_onFrom (wsX6_isWithin) := ggX1_onFrom_X6_isWithin
set_option maxRecDepth 20000 in
theorem ggX1_onFrom_X1_onFromClover : GoodIn wsX1_onFrom wsX1_onFromClover := goodIn_r _ [14] (by decide +kernel) (by decide +kernel)
set_option maxRecDepth 20000 in
theorem gX1_onFrom_X1_onFromClover : GoodIn wsX1_onFrom (va_wsS RX1 49 yX1_onFromClover wsX1_onFromClover) := goodIn_app (goodIn_of _ (by decide +kernel)) ggX1_onFrom_X1_onFromClover
set_option maxRecDepth 20000 in
theorem ggX1_onFrom_X1_onFromStubble : GoodIn wsX1_onFrom wsX1_onFromStubble := goodIn_r _ [17] (by decide +kernel) (by decide +kernel)
set_option maxRecDepth 20000 in
theorem gX1_onFrom_X1_onFromStubble : GoodIn wsX1_onFrom (va_wsS RX1 53 yX1_onFromStubble wsX1_onFromStubble) := goodIn_app (goodIn_of _ (by decide +kernel)) ggX1_onFrom_X1_onFromStubble
theorem dX1_onFrom_0 : decode cX1_onFrom 0 = .ok (.iload_n 1, 1) := by decide +kernel
theorem dX1_onFrom_1 : decode cX1_onFrom 1 = .ok (.iconst 0, 1) := by decide +kernel
theorem dX1_onFrom_2 : decode cX1_onFrom 2 = .ok (.iconst 5, 1) := by decide +kernel
theorem dX1_onFrom_3 : decode cX1_onFrom 3 = .ok (.invokestatic 42, 3) := by decide +kernel
theorem dX1_onFrom_6 : decode cX1_onFrom 6 = .ok (.ifCond .ne 5, 3) := by decide +kernel
theorem dX1_onFrom_9 : decode cX1_onFrom 9 = .ok (.iconst 0, 1) := by decide +kernel
theorem dX1_onFrom_10 : decode cX1_onFrom 10 = .ok (.ireturn, 1) := by decide +kernel
theorem dX1_onFrom_11 : decode cX1_onFrom 11 = .ok (.aload_n 0, 1) := by decide +kernel
theorem dX1_onFrom_12 : decode cX1_onFrom 12 = .ok (.getfield 18, 3) := by decide +kernel
theorem dX1_onFrom_15 : decode cX1_onFrom 15 = .ok (.getfield 46, 3) := by decide +kernel
theorem dX1_onFrom_18 : decode cX1_onFrom 18 = .ok (.iload_n 1, 1) := by decide +kernel
theorem dX1_onFrom_19 : decode cX1_onFrom 19 = .ok (.iaload, 1) := by decide +kernel
theorem dX1_onFrom_20 : decode cX1_onFrom 20 = .ok (.istore_n 2, 1) := by decide +kernel
theorem dX1_onFrom_21 : decode cX1_onFrom 21 = .ok (.aload_n 0, 1) := by decide +kernel
theorem dX1_onFrom_22 : decode cX1_onFrom 22 = .ok (.getfield 9, 3) := by decide +kernel
theorem dX1_onFrom_25 : decode cX1_onFrom 25 = .ok (.iload_n 1, 1) := by decide +kernel
theorem dX1_onFrom_26 : decode cX1_onFrom 26 = .ok (.iaload, 1) := by decide +kernel
theorem dX1_onFrom_27 : decode cX1_onFrom 27 = .ok (.tableswitch 61 0 4 #[61, 33, 38, 43, 54], 33) := by decide +kernel
theorem dX1_onFrom_60 : decode cX1_onFrom 60 = .ok (.iload_n 2, 1) := by decide +kernel
theorem dX1_onFrom_61 : decode cX1_onFrom 61 = .ok (.invokestatic 49, 3) := by decide +kernel
theorem dX1_onFrom_64 : decode cX1_onFrom 64 = .ok (.ireturn, 1) := by decide +kernel
theorem dX1_onFrom_65 : decode cX1_onFrom 65 = .ok (.iload_n 2, 1) := by decide +kernel
theorem dX1_onFrom_66 : decode cX1_onFrom 66 = .ok (.invokestatic 53, 3) := by decide +kernel
theorem dX1_onFrom_69 : decode cX1_onFrom 69 = .ok (.ireturn, 1) := by decide +kernel
theorem dX1_onFrom_70 : decode cX1_onFrom 70 = .ok (.iconst 1, 1) := by decide +kernel
theorem dX1_onFrom_71 : decode cX1_onFrom 71 = .ok (.iload_n 2, 1) := by decide +kernel
theorem dX1_onFrom_72 : decode cX1_onFrom 72 = .ok (.invokestatic 49, 3) := by decide +kernel
theorem dX1_onFrom_75 : decode cX1_onFrom 75 = .ok (.iconst 3, 1) := by decide +kernel
theorem dX1_onFrom_76 : decode cX1_onFrom 76 = .ok (.isub, 1) := by decide +kernel
theorem dX1_onFrom_77 : decode cX1_onFrom 77 = .ok (.invokestatic 56, 3) := by decide +kernel
theorem dX1_onFrom_80 : decode cX1_onFrom 80 = .ok (.ireturn, 1) := by decide +kernel
theorem dX1_onFrom_81 : decode cX1_onFrom 81 = .ok (.iload_n 2, 1) := by decide +kernel
theorem dX1_onFrom_82 : decode cX1_onFrom 82 = .ok (.invokestatic 53, 3) := by decide +kernel
theorem dX1_onFrom_85 : decode cX1_onFrom 85 = .ok (.iconst 2, 1) := by decide +kernel
theorem dX1_onFrom_86 : decode cX1_onFrom 86 = .ok (.iadd, 1) := by decide +kernel
theorem dX1_onFrom_87 : decode cX1_onFrom 87 = .ok (.ireturn, 1) := by decide +kernel
theorem dX1_onFrom_88 : decode cX1_onFrom 88 = .ok (.iconst 5, 1) := by decide +kernel
theorem dX1_onFrom_89 : decode cX1_onFrom 89 = .ok (.ireturn, 1) := by decide +kernel
theorem dX1_onFromClover_0 : decode cX1_onFromClover 0 = .ok (.iconst 5, 1) := by decide +kernel
theorem dX1_onFromClover_1 : decode cX1_onFromClover 1 = .ok (.iload_n 0, 1) := by decide +kernel
theorem dX1_onFromClover_2 : decode cX1_onFromClover 2 = .ok (.iconst 2, 1) := by decide +kernel
theorem dX1_onFromClover_3 : decode cX1_onFromClover 3 = .ok (.idiv, 1) := by decide +kernel
theorem dX1_onFromClover_4 : decode cX1_onFromClover 4 = .ok (.isub, 1) := by decide +kernel
theorem dX1_onFromClover_5 : decode cX1_onFromClover 5 = .ok (.ireturn, 1) := by decide +kernel
theorem dX1_onFromStubble_0 : decode cX1_onFromStubble 0 = .ok (.iconst 5, 1) := by decide +kernel
theorem dX1_onFromStubble_1 : decode cX1_onFromStubble 1 = .ok (.iload_n 0, 1) := by decide +kernel
theorem dX1_onFromStubble_2 : decode cX1_onFromStubble 2 = .ok (.ifCond .ne 7, 3) := by decide +kernel
theorem dX1_onFromStubble_5 : decode cX1_onFromStubble 5 = .ok (.iconst 2, 1) := by decide +kernel
theorem dX1_onFromStubble_6 : decode cX1_onFromStubble 6 = .ok (.goto 4, 3) := by decide +kernel
theorem dX1_onFromStubble_9 : decode cX1_onFromStubble 9 = .ok (.iconst 0, 1) := by decide +kernel
theorem dX1_onFromStubble_10 : decode cX1_onFromStubble 10 = .ok (.iadd, 1) := by decide +kernel
theorem dX1_onFromStubble_11 : decode cX1_onFromStubble 11 = .ok (.ireturn, 1) := by decide +kernel
set_option maxRecDepth 20000 in
theorem ggX1_backFrom_X6_isWithin : GoodIn wsX1_backFrom wsX6_isWithin := goodIn_r _ [9] (by decide +kernel) (by decide +kernel)
set_option maxRecDepth 20000 in
theorem gX1_backFrom_X6_isWithin_n42 : GoodIn wsX1_backFrom (wsX6_isWithin) := ggX1_backFrom_X6_isWithin
set_option maxRecDepth 20000 in
theorem ggX1_backFrom_X1_onFrom : GoodIn wsX1_backFrom wsX1_onFrom := goodIn_r _ [14, 1, 15, 16, 17, 18, 5, 19, 7, 8, 9, 20, 21, 13, 22, 23, 24, 25, 26, 27, 28, 29, 30, 31, 32, 33, 34, 35, 36, 37, 38] (by decide +kernel) (by decide +kernel)
set_option maxRecDepth 20000 in
theorem gX1_backFrom_X1_onFrom : GoodIn wsX1_backFrom (wsV RX1 65 RX1 yX1_onFrom wsX1_onFrom) := goodIn_app (goodIn_of _ (by decide +kernel)) ggX1_backFrom_X1_onFrom
theorem dX1_backFrom_0 : decode cX1_backFrom 0 = .ok (.iload_n 1, 1) := by decide +kernel
theorem dX1_backFrom_1 : decode cX1_backFrom 1 = .ok (.iconst 1, 1) := by decide +kernel
theorem dX1_backFrom_2 : decode cX1_backFrom 2 = .ok (.bipush 6, 2) := by decide +kernel
theorem dX1_backFrom_4 : decode cX1_backFrom 4 = .ok (.invokestatic 42, 3) := by decide +kernel
theorem dX1_backFrom_7 : decode cX1_backFrom 7 = .ok (.ifCond .ne 5, 3) := by decide +kernel
theorem dX1_backFrom_10 : decode cX1_backFrom 10 = .ok (.iconst 0, 1) := by decide +kernel
theorem dX1_backFrom_11 : decode cX1_backFrom 11 = .ok (.ireturn, 1) := by decide +kernel
theorem dX1_backFrom_12 : decode cX1_backFrom 12 = .ok (.aload_n 0, 1) := by decide +kernel
theorem dX1_backFrom_13 : decode cX1_backFrom 13 = .ok (.getfield 18, 3) := by decide +kernel
theorem dX1_backFrom_16 : decode cX1_backFrom 16 = .ok (.getfield 62, 3) := by decide +kernel
theorem dX1_backFrom_19 : decode cX1_backFrom 19 = .ok (.iload_n 1, 1) := by decide +kernel
theorem dX1_backFrom_20 : decode cX1_backFrom 20 = .ok (.iaload, 1) := by decide +kernel
theorem dX1_backFrom_21 : decode cX1_backFrom 21 = .ok (.bipush 10, 2) := by decide +kernel
theorem dX1_backFrom_23 : decode cX1_backFrom 23 = .ok (.aload_n 0, 1) := by decide +kernel
theorem dX1_backFrom_24 : decode cX1_backFrom 24 = .ok (.iload_n 1, 1) := by decide +kernel
theorem dX1_backFrom_25 : decode cX1_backFrom 25 = .ok (.invokevirtual 65, 3) := by decide +kernel
theorem dX1_backFrom_28 : decode cX1_backFrom 28 = .ok (.isub, 1) := by decide +kernel
theorem dX1_backFrom_29 : decode cX1_backFrom 29 = .ok (.invokestatic 68, 3) := by decide +kernel
theorem dX1_backFrom_32 : decode cX1_backFrom 32 = .ok (.ireturn, 1) := by decide +kernel
set_option maxRecDepth 20000 in
theorem ggX1_passDay_X1_onFrom : GoodIn wsX1_passDay wsX1_onFrom := goodIn_r _ [12, 1, 13, 14, 15, 16, 17, 18, 19, 20, 21, 22, 23, 11, 24, 25, 26, 27, 43, 44, 45, 46, 47, 48, 49, 50, 51, 52, 53, 54, 55] (by decide +kernel) (by decide +kernel)
set_option maxRecDepth 20000 in
theorem gX1_passDay_X1_onFrom : GoodIn wsX1_passDay (wsV RX1 65 RX1 yX1_onFrom wsX1_onFrom) := goodIn_app (goodIn_of _ (by decide +kernel)) ggX1_passDay_X1_onFrom
set_option maxRecDepth 20000 in
theorem ggX1_passDay_X1_backFrom : GoodIn wsX1_passDay wsX1_backFrom := goodIn_r _ [31, 1, 32, 33, 34, 17, 35, 19, 20, 21, 8, 9, 10, 11, 12, 13, 14, 15, 16, 18, 22, 23, 24, 25, 26, 27, 43, 44, 45, 46, 47, 48, 49, 50, 51, 52, 53, 54, 55] (by decide +kernel) (by decide +kernel)
set_option maxRecDepth 20000 in
theorem gX1_passDay_X1_backFrom : GoodIn wsX1_passDay (wsV RX1 74 RX1 yX1_backFrom wsX1_backFrom) := goodIn_app (goodIn_of _ (by decide +kernel)) ggX1_passDay_X1_backFrom
set_option maxRecDepth 20000 in
theorem ggX1_passDay_X1_eat : GoodIn wsX1_passDay wsX1_eat := goodIn_r _ [39, 1, 13, 40, 20, 41, 42, 19, 21, 43, 44, 45, 46, 47, 48, 49, 50, 51, 52, 53, 54, 55] (by decide +kernel) (by decide +kernel)
set_option maxRecDepth 20000 in
theorem gX1_passDay_X1_eat : GoodIn wsX1_passDay (wsV RX1 83 RX1 yX1_eat wsX1_eat) := goodIn_app (goodIn_of _ (by decide +kernel)) ggX1_passDay_X1_eat
theorem dX1_passDay_0 : decode cX1_passDay 0 = .ok (.aload_n 0, 1) := by decide +kernel
theorem dX1_passDay_1 : decode cX1_passDay 1 = .ok (.getfield 18, 3) := by decide +kernel
theorem dX1_passDay_4 : decode cX1_passDay 4 = .ok (.getfield 71, 3) := by decide +kernel
theorem dX1_passDay_7 : decode cX1_passDay 7 = .ok (.istore_n 1, 1) := by decide +kernel
theorem dX1_passDay_8 : decode cX1_passDay 8 = .ok (.aload_n 0, 1) := by decide +kernel
theorem dX1_passDay_9 : decode cX1_passDay 9 = .ok (.iload_n 1, 1) := by decide +kernel
theorem dX1_passDay_10 : decode cX1_passDay 10 = .ok (.invokevirtual 65, 3) := by decide +kernel
theorem dX1_passDay_13 : decode cX1_passDay 13 = .ok (.istore_n 2, 1) := by decide +kernel
theorem dX1_passDay_14 : decode cX1_passDay 14 = .ok (.aload_n 0, 1) := by decide +kernel
theorem dX1_passDay_15 : decode cX1_passDay 15 = .ok (.iload_n 1, 1) := by decide +kernel
theorem dX1_passDay_16 : decode cX1_passDay 16 = .ok (.invokevirtual 74, 3) := by decide +kernel
theorem dX1_passDay_19 : decode cX1_passDay 19 = .ok (.istore_n 3, 1) := by decide +kernel
theorem dX1_passDay_20 : decode cX1_passDay 20 = .ok (.aload_n 0, 1) := by decide +kernel
theorem dX1_passDay_21 : decode cX1_passDay 21 = .ok (.getfield 18, 3) := by decide +kernel
theorem dX1_passDay_24 : decode cX1_passDay 24 = .ok (.aload_n 0, 1) := by decide +kernel
theorem dX1_passDay_25 : decode cX1_passDay 25 = .ok (.getfield 18, 3) := by decide +kernel
theorem dX1_passDay_28 : decode cX1_passDay 28 = .ok (.getfield 77, 3) := by decide +kernel
theorem dX1_passDay_31 : decode cX1_passDay 31 = .ok (.ldc 80, 2) := by decide +kernel
theorem dX1_passDay_33 : decode cX1_passDay 33 = .ok (.imul, 1) := by decide +kernel
theorem dX1_passDay_34 : decode cX1_passDay 34 = .ok (.sipush 12345, 3) := by decide +kernel
theorem dX1_passDay_37 : decode cX1_passDay 37 = .ok (.iadd, 1) := by decide +kernel
theorem dX1_passDay_38 : decode cX1_passDay 38 = .ok (.ldc 81, 2) := by decide +kernel
theorem dX1_passDay_40 : decode cX1_passDay 40 = .ok (.iand, 1) := by decide +kernel
theorem dX1_passDay_41 : decode cX1_passDay 41 = .ok (.putfield 77, 3) := by decide +kernel
theorem dX1_passDay_44 : decode cX1_passDay 44 = .ok (.aload_n 0, 1) := by decide +kernel
theorem dX1_passDay_45 : decode cX1_passDay 45 = .ok (.getfield 18, 3) := by decide +kernel
theorem dX1_passDay_48 : decode cX1_passDay 48 = .ok (.getfield 77, 3) := by decide +kernel
theorem dX1_passDay_51 : decode cX1_passDay 51 = .ok (.ldc 82, 2) := by decide +kernel
theorem dX1_passDay_53 : decode cX1_passDay 53 = .ok (.idiv, 1) := by decide +kernel
theorem dX1_passDay_54 : decode cX1_passDay 54 = .ok (.bipush 10, 2) := by decide +kernel
theorem dX1_passDay_56 : decode cX1_passDay 56 = .ok (.irem, 1) := by decide +kernel
theorem dX1_passDay_57 : decode cX1_passDay 57 = .ok (.istore 4, 2) := by decide +kernel
theorem dX1_passDay_59 : decode cX1_passDay 59 = .ok (.iload 4, 2) := by decide +kernel
theorem dX1_passDay_61 : decode cX1_passDay 61 = .ok (.iload_n 2, 1) := by decide +kernel
theorem dX1_passDay_62 : decode cX1_passDay 62 = .ok (.if_icmp .ge 16, 3) := by decide +kernel
theorem dX1_passDay_65 : decode cX1_passDay 65 = .ok (.aload_n 0, 1) := by decide +kernel
theorem dX1_passDay_66 : decode cX1_passDay 66 = .ok (.getfield 18, 3) := by decide +kernel
theorem dX1_passDay_69 : decode cX1_passDay 69 = .ok (.iload_n 1, 1) := by decide +kernel
theorem dX1_passDay_70 : decode cX1_passDay 70 = .ok (.iconst 1, 1) := by decide +kernel
theorem dX1_passDay_71 : decode cX1_passDay 71 = .ok (.iadd, 1) := by decide +kernel
theorem dX1_passDay_72 : decode cX1_passDay 72 = .ok (.putfield 71, 3) := by decide +kernel
theorem dX1_passDay_75 : decode cX1_passDay 75 = .ok (.goto 29, 3) := by decide +kernel
theorem dX1_passDay_78 : decode cX1_passDay 78 = .ok (.iload 4, 2) := by decide +kernel
theorem dX1_passDay_80 : decode cX1_passDay 80 = .ok (.iload_n 2, 1) := by decide +kernel
theorem dX1_passDay_81 : decode cX1_passDay 81 = .ok (.iload_n 3, 1) := by decide +kernel
theorem dX1_passDay_82 : decode cX1_passDay 82 = .ok (.iadd, 1) := by decide +kernel
theorem dX1_passDay_83 : decode cX1_passDay 83 = .ok (.if_icmp .ge 16, 3) := by decide +kernel
theorem dX1_passDay_86 : decode cX1_passDay 86 = .ok (.aload_n 0, 1) := by decide +kernel
theorem dX1_passDay_87 : decode cX1_passDay 87 = .ok (.getfield 18, 3) := by decide +kernel
theorem dX1_passDay_90 : decode cX1_passDay 90 = .ok (.iload_n 1, 1) := by decide +kernel
theorem dX1_passDay_91 : decode cX1_passDay 91 = .ok (.iconst 1, 1) := by decide +kernel
theorem dX1_passDay_92 : decode cX1_passDay 92 = .ok (.isub, 1) := by decide +kernel
theorem dX1_passDay_93 : decode cX1_passDay 93 = .ok (.putfield 71, 3) := by decide +kernel
theorem dX1_passDay_96 : decode cX1_passDay 96 = .ok (.goto 8, 3) := by decide +kernel
theorem dX1_passDay_99 : decode cX1_passDay 99 = .ok (.aload_n 0, 1) := by decide +kernel
theorem dX1_passDay_100 : decode cX1_passDay 100 = .ok (.iload_n 1, 1) := by decide +kernel
theorem dX1_passDay_101 : decode cX1_passDay 101 = .ok (.invokevirtual 83, 3) := by decide +kernel
theorem dX1_passDay_104 : decode cX1_passDay 104 = .ok (.aload_n 0, 1) := by decide +kernel
theorem dX1_passDay_105 : decode cX1_passDay 105 = .ok (.getfield 18, 3) := by decide +kernel
theorem dX1_passDay_108 : decode cX1_passDay 108 = .ok (.dup, 1) := by decide +kernel
theorem dX1_passDay_109 : decode cX1_passDay 109 = .ok (.getfield 87, 3) := by decide +kernel
theorem dX1_passDay_112 : decode cX1_passDay 112 = .ok (.iconst 1, 1) := by decide +kernel
theorem dX1_passDay_113 : decode cX1_passDay 113 = .ok (.iadd, 1) := by decide +kernel
theorem dX1_passDay_114 : decode cX1_passDay 114 = .ok (.putfield 87, 3) := by decide +kernel
theorem dX1_passDay_117 : decode cX1_passDay 117 = .ok (.return_, 1) := by decide +kernel
set_option maxRecDepth 20000 in
theorem ggX1_eat_X6_isField : GoodIn wsX1_eat wsX6_isField := goodIn_r _ [5, 6, 7, 4, 8] (by decide +kernel) (by decide +kernel)
set_option maxRecDepth 20000 in
theorem gX1_eat_X6_isField_n90 : GoodIn wsX1_eat (wsX6_isField) := ggX1_eat_X6_isField
theorem dX1_eat_0 : decode cX1_eat 0 = .ok (.iload_n 1, 1) := by decide +kernel
theorem dX1_eat_1 : decode cX1_eat 1 = .ok (.invokestatic 90, 3) := by decide +kernel
theorem dX1_eat_4 : decode cX1_eat 4 = .ok (.ifCond .eq 28, 3) := by decide +kernel
theorem dX1_eat_7 : decode cX1_eat 7 = .ok (.aload_n 0, 1) := by decide +kernel
theorem dX1_eat_8 : decode cX1_eat 8 = .ok (.getfield 18, 3) := by decide +kernel
theorem dX1_eat_11 : decode cX1_eat 11 = .ok (.getfield 46, 3) := by decide +kernel
theorem dX1_eat_14 : decode cX1_eat 14 = .ok (.iload_n 1, 1) := by decide +kernel
theorem dX1_eat_15 : decode cX1_eat 15 = .ok (.iaload, 1) := by decide +kernel
theorem dX1_eat_16 : decode cX1_eat 16 = .ok (.ifCond .le 16, 3) := by decide +kernel
theorem dX1_eat_19 : decode cX1_eat 19 = .ok (.aload_n 0, 1) := by decide +kernel
theorem dX1_eat_20 : decode cX1_eat 20 = .ok (.getfield 18, 3) := by decide +kernel
theorem dX1_eat_23 : decode cX1_eat 23 = .ok (.getfield 46, 3) := by decide +kernel
theorem dX1_eat_26 : decode cX1_eat 26 = .ok (.iload_n 1, 1) := by decide +kernel
theorem dX1_eat_27 : decode cX1_eat 27 = .ok (.dup2, 1) := by decide +kernel
theorem dX1_eat_28 : decode cX1_eat 28 = .ok (.iaload, 1) := by decide +kernel
theorem dX1_eat_29 : decode cX1_eat 29 = .ok (.iconst 1, 1) := by decide +kernel
theorem dX1_eat_30 : decode cX1_eat 30 = .ok (.isub, 1) := by decide +kernel
theorem dX1_eat_31 : decode cX1_eat 31 = .ok (.iastore, 1) := by decide +kernel
theorem dX1_eat_32 : decode cX1_eat 32 = .ok (.return_, 1) := by decide +kernel
set_option maxRecDepth 20000 in
theorem ggX1_remember_X1_loseOldest : GoodIn wsX1_remember wsX1_loseOldest := goodIn_r _ [8, 2, 1, 23, 24, 25, 26, 27, 28, 29, 30] (by decide +kernel) (by decide +kernel)
set_option maxRecDepth 20000 in
theorem gX1_remember_X1_loseOldest : GoodIn wsX1_remember (wsV RX1 94 RX1 yX1_loseOldest wsX1_loseOldest) := goodIn_app (goodIn_of _ (by decide +kernel)) ggX1_remember_X1_loseOldest
set_option maxRecDepth 20000 in
theorem ggX1_remember_X2_take : GoodIn wsX1_remember wsX2_take := goodIn_r _ [13, 14, 15, 16, 17, 18, 19, 20, 21, 22, 31, 32, 33, 34, 35] (by decide +kernel) (by decide +kernel)
set_option maxRecDepth 20000 in
theorem gX1_remember_X2_take : GoodIn wsX1_remember (wsV RX1 97 RX2 yX2_take wsX2_take) := goodIn_app (goodIn_of _ (by decide +kernel)) ggX1_remember_X2_take
theorem dX1_remember_0 : decode cX1_remember 0 = .ok (.aload_n 0, 1) := by decide +kernel
theorem dX1_remember_1 : decode cX1_remember 1 = .ok (.getfield 26, 3) := by decide +kernel
theorem dX1_remember_4 : decode cX1_remember 4 = .ok (.bipush 8, 2) := by decide +kernel
theorem dX1_remember_6 : decode cX1_remember 6 = .ok (.if_icmp .lt 7, 3) := by decide +kernel
theorem dX1_remember_9 : decode cX1_remember 9 = .ok (.aload_n 0, 1) := by decide +kernel
theorem dX1_remember_10 : decode cX1_remember 10 = .ok (.invokevirtual 94, 3) := by decide +kernel
theorem dX1_remember_13 : decode cX1_remember 13 = .ok (.aload_n 0, 1) := by decide +kernel
theorem dX1_remember_14 : decode cX1_remember 14 = .ok (.getfield 22, 3) := by decide +kernel
theorem dX1_remember_17 : decode cX1_remember 17 = .ok (.aload_n 0, 1) := by decide +kernel
theorem dX1_remember_18 : decode cX1_remember 18 = .ok (.getfield 26, 3) := by decide +kernel
theorem dX1_remember_21 : decode cX1_remember 21 = .ok (.aaload, 1) := by decide +kernel
theorem dX1_remember_22 : decode cX1_remember 22 = .ok (.aload_n 0, 1) := by decide +kernel
theorem dX1_remember_23 : decode cX1_remember 23 = .ok (.getfield 18, 3) := by decide +kernel
theorem dX1_remember_26 : decode cX1_remember 26 = .ok (.invokevirtual 97, 3) := by decide +kernel
theorem dX1_remember_29 : decode cX1_remember 29 = .ok (.aload_n 0, 1) := by decide +kernel
theorem dX1_remember_30 : decode cX1_remember 30 = .ok (.dup, 1) := by decide +kernel
theorem dX1_remember_31 : decode cX1_remember 31 = .ok (.getfield 26, 3) := by decide +kernel
theorem dX1_remember_34 : decode cX1_remember 34 = .ok (.iconst 1, 1) := by decide +kernel
theorem dX1_remember_35 : decode cX1_remember 35 = .ok (.iadd, 1) := by decide +kernel
theorem dX1_remember_36 : decode cX1_remember 36 = .ok (.putfield 26, 3) := by decide +kernel
theorem dX1_remember_39 : decode cX1_remember 39 = .ok (.return_, 1) := by decide +kernel
theorem dX1_loseOldest_0 : decode cX1_loseOldest 0 = .ok (.aload_n 0, 1) := by decide +kernel
theorem dX1_loseOldest_1 : decode cX1_loseOldest 1 = .ok (.getfield 22, 3) := by decide +kernel
theorem dX1_loseOldest_4 : decode cX1_loseOldest 4 = .ok (.iconst 0, 1) := by decide +kernel
theorem dX1_loseOldest_5 : decode cX1_loseOldest 5 = .ok (.aaload, 1) := by decide +kernel
theorem dX1_loseOldest_6 : decode cX1_loseOldest 6 = .ok (.astore_n 1, 1) := by decide +kernel
theorem dX1_loseOldest_7 : decode cX1_loseOldest 7 = .ok (.iconst 1, 1) := by decide +kernel
theorem dX1_loseOldest_8 : decode cX1_loseOldest 8 = .ok (.istore_n 2, 1) := by decide +kernel
theorem dX1_loseOldest_9 : decode cX1_loseOldest 9 = .ok (.iload_n 2, 1) := by decide +kernel
theorem dX1_loseOldest_10 : decode cX1_loseOldest 10 = .ok (.bipush 8, 2) := by decide +kernel
theorem dX1_loseOldest_12 : decode cX1_loseOldest 12 = .ok (.if_icmp .ge 23, 3) := by decide +kernel
theorem dX1_loseOldest_15 : decode cX1_loseOldest 15 = .ok (.aload_n 0, 1) := by decide +kernel
theorem dX1_loseOldest_16 : decode cX1_loseOldest 16 = .ok (.getfield 22, 3) := by decide +kernel
theorem dX1_loseOldest_19 : decode cX1_loseOldest 19 = .ok (.iload_n 2, 1) := by decide +kernel
theorem dX1_loseOldest_20 : decode cX1_loseOldest 20 = .ok (.iconst 1, 1) := by decide +kernel
theorem dX1_loseOldest_21 : decode cX1_loseOldest 21 = .ok (.isub, 1) := by decide +kernel
theorem dX1_loseOldest_22 : decode cX1_loseOldest 22 = .ok (.aload_n 0, 1) := by decide +kernel
theorem dX1_loseOldest_23 : decode cX1_loseOldest 23 = .ok (.getfield 22, 3) := by decide +kernel
theorem dX1_loseOldest_26 : decode cX1_loseOldest 26 = .ok (.iload_n 2, 1) := by decide +kernel
theorem dX1_loseOldest_27 : decode cX1_loseOldest 27 = .ok (.aaload, 1) := by decide +kernel
theorem dX1_loseOldest_28 : decode cX1_loseOldest 28 = .ok (.aastore, 1) := by decide +kernel
theorem dX1_loseOldest_29 : decode cX1_loseOldest 29 = .ok (.iinc 2 1, 3) := by decide +kernel
theorem dX1_loseOldest_32 : decode cX1_loseOldest 32 = .ok (.goto (-23), 3) := by decide +kernel
theorem dX1_loseOldest_35 : decode cX1_loseOldest 35 = .ok (.aload_n 0, 1) := by decide +kernel
theorem dX1_loseOldest_36 : decode cX1_loseOldest 36 = .ok (.getfield 22, 3) := by decide +kernel
theorem dX1_loseOldest_39 : decode cX1_loseOldest 39 = .ok (.bipush 7, 2) := by decide +kernel
theorem dX1_loseOldest_41 : decode cX1_loseOldest 41 = .ok (.aload_n 1, 1) := by decide +kernel
theorem dX1_loseOldest_42 : decode cX1_loseOldest 42 = .ok (.aastore, 1) := by decide +kernel
theorem dX1_loseOldest_43 : decode cX1_loseOldest 43 = .ok (.aload_n 0, 1) := by decide +kernel
theorem dX1_loseOldest_44 : decode cX1_loseOldest 44 = .ok (.bipush 7, 2) := by decide +kernel
theorem dX1_loseOldest_46 : decode cX1_loseOldest 46 = .ok (.putfield 26, 3) := by decide +kernel
theorem dX1_loseOldest_49 : decode cX1_loseOldest 49 = .ok (.return_, 1) := by decide +kernel
set_option maxRecDepth 20000 in
theorem ggX1_recall_X2_take : GoodIn wsX1_recall wsX2_take := goodIn_r _ [8, 9, 10, 11, 12, 13, 14, 15, 16, 17, 26, 27, 28, 29, 30] (by decide +kernel) (by decide +kernel)
set_option maxRecDepth 20000 in
theorem gX1_recall_X2_take : GoodIn wsX1_recall (wsV RX1 97 RX2 yX2_take wsX2_take) := goodIn_app (goodIn_of _ (by decide +kernel)) ggX1_recall_X2_take
theorem dX1_recall_0 : decode cX1_recall 0 = .ok (.aload_n 0, 1) := by decide +kernel
theorem dX1_recall_1 : decode cX1_recall 1 = .ok (.getfield 26, 3) := by decide +kernel
theorem dX1_recall_4 : decode cX1_recall 4 = .ok (.ifCond .gt 5, 3) := by decide +kernel
theorem dX1_recall_7 : decode cX1_recall 7 = .ok (.iconst 0, 1) := by decide +kernel
theorem dX1_recall_8 : decode cX1_recall 8 = .ok (.ireturn, 1) := by decide +kernel
theorem dX1_recall_9 : decode cX1_recall 9 = .ok (.aload_n 0, 1) := by decide +kernel
theorem dX1_recall_10 : decode cX1_recall 10 = .ok (.dup, 1) := by decide +kernel
theorem dX1_recall_11 : decode cX1_recall 11 = .ok (.getfield 26, 3) := by decide +kernel
theorem dX1_recall_14 : decode cX1_recall 14 = .ok (.iconst 1, 1) := by decide +kernel
theorem dX1_recall_15 : decode cX1_recall 15 = .ok (.isub, 1) := by decide +kernel
theorem dX1_recall_16 : decode cX1_recall 16 = .ok (.putfield 26, 3) := by decide +kernel
theorem dX1_recall_19 : decode cX1_recall 19 = .ok (.aload_n 0, 1) := by decide +kernel
theorem dX1_recall_20 : decode cX1_recall 20 = .ok (.getfield 18, 3) := by decide +kernel
theorem dX1_recall_23 : decode cX1_recall 23 = .ok (.aload_n 0, 1) := by decide +kernel
theorem dX1_recall_24 : decode cX1_recall 24 = .ok (.getfield 22, 3) := by decide +kernel
theorem dX1_recall_27 : decode cX1_recall 27 = .ok (.aload_n 0, 1) := by decide +kernel
theorem dX1_recall_28 : decode cX1_recall 28 = .ok (.getfield 26, 3) := by decide +kernel
theorem dX1_recall_31 : decode cX1_recall 31 = .ok (.aaload, 1) := by decide +kernel
theorem dX1_recall_32 : decode cX1_recall 32 = .ok (.invokevirtual 97, 3) := by decide +kernel
theorem dX1_recall_35 : decode cX1_recall 35 = .ok (.iconst 1, 1) := by decide +kernel
theorem dX1_recall_36 : decode cX1_recall 36 = .ok (.ireturn, 1) := by decide +kernel
theorem dX1_forget_0 : decode cX1_forget 0 = .ok (.aload_n 0, 1) := by decide +kernel
theorem dX1_forget_1 : decode cX1_forget 1 = .ok (.iconst 0, 1) := by decide +kernel
theorem dX1_forget_2 : decode cX1_forget 2 = .ok (.putfield 26, 3) := by decide +kernel
theorem dX1_forget_5 : decode cX1_forget 5 = .ok (.return_, 1) := by decide +kernel
theorem dX1_addClaim_0 : decode cX1_addClaim 0 = .ok (.aload_n 0, 1) := by decide +kernel
theorem dX1_addClaim_1 : decode cX1_addClaim 1 = .ok (.getfield 39, 3) := by decide +kernel
theorem dX1_addClaim_4 : decode cX1_addClaim 4 = .ok (.iconst 5, 1) := by decide +kernel
theorem dX1_addClaim_5 : decode cX1_addClaim 5 = .ok (.if_icmp .lt 5, 3) := by decide +kernel
theorem dX1_addClaim_8 : decode cX1_addClaim 8 = .ok (.iconst 0, 1) := by decide +kernel
theorem dX1_addClaim_9 : decode cX1_addClaim 9 = .ok (.ireturn, 1) := by decide +kernel
theorem dX1_addClaim_10 : decode cX1_addClaim 10 = .ok (.aload_n 0, 1) := by decide +kernel
theorem dX1_addClaim_11 : decode cX1_addClaim 11 = .ok (.getfield 30, 3) := by decide +kernel
theorem dX1_addClaim_14 : decode cX1_addClaim 14 = .ok (.aload_n 0, 1) := by decide +kernel
theorem dX1_addClaim_15 : decode cX1_addClaim 15 = .ok (.getfield 39, 3) := by decide +kernel
theorem dX1_addClaim_18 : decode cX1_addClaim 18 = .ok (.iload_n 1, 1) := by decide +kernel
theorem dX1_addClaim_19 : decode cX1_addClaim 19 = .ok (.iastore, 1) := by decide +kernel
theorem dX1_addClaim_20 : decode cX1_addClaim 20 = .ok (.aload_n 0, 1) := by decide +kernel
theorem dX1_addClaim_21 : decode cX1_addClaim 21 = .ok (.getfield 33, 3) := by decide +kernel
theorem dX1_addClaim_24 : decode cX1_addClaim 24 = .ok (.aload_n 0, 1) := by decide +kernel
theorem dX1_addClaim_25 : decode cX1_addClaim 25 = .ok (.getfield 39, 3) := by decide +kernel
theorem dX1_addClaim_28 : decode cX1_addClaim 28 = .ok (.iload_n 2, 1) := by decide +kernel
theorem dX1_addClaim_29 : decode cX1_addClaim 29 = .ok (.iastore, 1) := by decide +kernel
theorem dX1_addClaim_30 : decode cX1_addClaim 30 = .ok (.aload_n 0, 1) := by decide +kernel
theorem dX1_addClaim_31 : decode cX1_addClaim 31 = .ok (.getfield 36, 3) := by decide +kernel
theorem dX1_addClaim_34 : decode cX1_addClaim 34 = .ok (.aload_n 0, 1) := by decide +kernel
theorem dX1_addClaim_35 : decode cX1_addClaim 35 = .ok (.getfield 39, 3) := by decide +kernel
theorem dX1_addClaim_38 : decode cX1_addClaim 38 = .ok (.iload_n 3, 1) := by decide +kernel
theorem dX1_addClaim_39 : decode cX1_addClaim 39 = .ok (.iastore, 1) := by decide +kernel
theorem dX1_addClaim_40 : decode cX1_addClaim 40 = .ok (.aload_n 0, 1) := by decide +kernel
theorem dX1_addClaim_41 : decode cX1_addClaim 41 = .ok (.dup, 1) := by decide +kernel
theorem dX1_addClaim_42 : decode cX1_addClaim 42 = .ok (.getfield 39, 3) := by decide +kernel
theorem dX1_addClaim_45 : decode cX1_addClaim 45 = .ok (.iconst 1, 1) := by decide +kernel
theorem dX1_addClaim_46 : decode cX1_addClaim 46 = .ok (.iadd, 1) := by decide +kernel
theorem dX1_addClaim_47 : decode cX1_addClaim 47 = .ok (.putfield 39, 3) := by decide +kernel
theorem dX1_addClaim_50 : decode cX1_addClaim 50 = .ok (.iconst 1, 1) := by decide +kernel
theorem dX1_addClaim_51 : decode cX1_addClaim 51 = .ok (.ireturn, 1) := by decide +kernel
set_option maxRecDepth 20000 in
theorem ggX1_claimsOn_X6_isWithin : GoodIn wsX1_claimsOn wsX6_isWithin := goodIn_r _ [6] (by decide +kernel) (by decide +kernel)
set_option maxRecDepth 20000 in
theorem gX1_claimsOn_X6_isWithin_n42 : GoodIn wsX1_claimsOn (wsX6_isWithin) := ggX1_claimsOn_X6_isWithin
theorem dX1_claimsOn_0 : decode cX1_claimsOn 0 = .ok (.iconst 0, 1) := by decide +kernel
theorem dX1_claimsOn_1 : decode cX1_claimsOn 1 = .ok (.istore_n 2, 1) := by decide +kernel
theorem dX1_claimsOn_2 : decode cX1_claimsOn 2 = .ok (.iconst 0, 1) := by decide +kernel
theorem dX1_claimsOn_3 : decode cX1_claimsOn 3 = .ok (.istore_n 3, 1) := by decide +kernel
theorem dX1_claimsOn_4 : decode cX1_claimsOn 4 = .ok (.iload_n 3, 1) := by decide +kernel
theorem dX1_claimsOn_5 : decode cX1_claimsOn 5 = .ok (.aload_n 0, 1) := by decide +kernel
theorem dX1_claimsOn_6 : decode cX1_claimsOn 6 = .ok (.getfield 39, 3) := by decide +kernel
theorem dX1_claimsOn_9 : decode cX1_claimsOn 9 = .ok (.if_icmp .ge 34, 3) := by decide +kernel
theorem dX1_claimsOn_12 : decode cX1_claimsOn 12 = .ok (.iload_n 1, 1) := by decide +kernel
theorem dX1_claimsOn_13 : decode cX1_claimsOn 13 = .ok (.aload_n 0, 1) := by decide +kernel
theorem dX1_claimsOn_14 : decode cX1_claimsOn 14 = .ok (.getfield 30, 3) := by decide +kernel
theorem dX1_claimsOn_17 : decode cX1_claimsOn 17 = .ok (.iload_n 3, 1) := by decide +kernel
theorem dX1_claimsOn_18 : decode cX1_claimsOn 18 = .ok (.iaload, 1) := by decide +kernel
theorem dX1_claimsOn_19 : decode cX1_claimsOn 19 = .ok (.aload_n 0, 1) := by decide +kernel
theorem dX1_claimsOn_20 : decode cX1_claimsOn 20 = .ok (.getfield 33, 3) := by decide +kernel
theorem dX1_claimsOn_23 : decode cX1_claimsOn 23 = .ok (.iload_n 3, 1) := by decide +kernel
theorem dX1_claimsOn_24 : decode cX1_claimsOn 24 = .ok (.iaload, 1) := by decide +kernel
theorem dX1_claimsOn_25 : decode cX1_claimsOn 25 = .ok (.invokestatic 42, 3) := by decide +kernel
theorem dX1_claimsOn_28 : decode cX1_claimsOn 28 = .ok (.ifCond .eq 9, 3) := by decide +kernel
theorem dX1_claimsOn_31 : decode cX1_claimsOn 31 = .ok (.iload_n 2, 1) := by decide +kernel
theorem dX1_claimsOn_32 : decode cX1_claimsOn 32 = .ok (.iconst 1, 1) := by decide +kernel
theorem dX1_claimsOn_33 : decode cX1_claimsOn 33 = .ok (.iload_n 3, 1) := by decide +kernel
theorem dX1_claimsOn_34 : decode cX1_claimsOn 34 = .ok (.ishl, 1) := by decide +kernel
theorem dX1_claimsOn_35 : decode cX1_claimsOn 35 = .ok (.ior, 1) := by decide +kernel
theorem dX1_claimsOn_36 : decode cX1_claimsOn 36 = .ok (.istore_n 2, 1) := by decide +kernel
theorem dX1_claimsOn_37 : decode cX1_claimsOn 37 = .ok (.iinc 3 1, 3) := by decide +kernel
theorem dX1_claimsOn_40 : decode cX1_claimsOn 40 = .ok (.goto (-36), 3) := by decide +kernel
theorem dX1_claimsOn_43 : decode cX1_claimsOn 43 = .ok (.iload_n 2, 1) := by decide +kernel
theorem dX1_claimsOn_44 : decode cX1_claimsOn 44 = .ok (.ireturn, 1) := by decide +kernel
set_option maxRecDepth 20000 in
theorem ggX1_takeGround_X2_take : GoodIn wsX1_takeGround wsX2_take := goodIn_r _ [11, 12, 13, 14, 15, 16, 3, 4, 5, 17, 26, 27, 28, 29, 30] (by decide +kernel) (by decide +kernel)
set_option maxRecDepth 20000 in
theorem gX1_takeGround_X2_take : GoodIn wsX1_takeGround (wsV RX1 97 RX2 yX2_take wsX2_take) := goodIn_app (goodIn_of _ (by decide +kernel)) ggX1_takeGround_X2_take
theorem dX1_takeGround_0 : decode cX1_takeGround 0 = .ok (.aload_n 1, 1) := by decide +kernel
theorem dX1_takeGround_1 : decode cX1_takeGround 1 = .ok (.getfield 9, 3) := by decide +kernel
theorem dX1_takeGround_4 : decode cX1_takeGround 4 = .ok (.iconst 0, 1) := by decide +kernel
theorem dX1_takeGround_5 : decode cX1_takeGround 5 = .ok (.aload_n 0, 1) := by decide +kernel
theorem dX1_takeGround_6 : decode cX1_takeGround 6 = .ok (.getfield 9, 3) := by decide +kernel
theorem dX1_takeGround_9 : decode cX1_takeGround 9 = .ok (.iconst 0, 1) := by decide +kernel
theorem dX1_takeGround_10 : decode cX1_takeGround 10 = .ok (.bipush 7, 2) := by decide +kernel
theorem dX1_takeGround_12 : decode cX1_takeGround 12 = .ok (.invokestatic 101, 3) := by decide +kernel
theorem dX1_takeGround_15 : decode cX1_takeGround 15 = .ok (.aload_n 0, 1) := by decide +kernel
theorem dX1_takeGround_16 : decode cX1_takeGround 16 = .ok (.getfield 18, 3) := by decide +kernel
theorem dX1_takeGround_19 : decode cX1_takeGround 19 = .ok (.aload_n 1, 1) := by decide +kernel
theorem dX1_takeGround_20 : decode cX1_takeGround 20 = .ok (.getfield 18, 3) := by decide +kernel
theorem dX1_takeGround_23 : decode cX1_takeGround 23 = .ok (.invokevirtual 97, 3) := by decide +kernel
theorem dX1_takeGround_26 : decode cX1_takeGround 26 = .ok (.return_, 1) := by decide +kernel
theorem dX1_takeClaims_0 : decode cX1_takeClaims 0 = .ok (.aload_n 1, 1) := by decide +kernel
theorem dX1_takeClaims_1 : decode cX1_takeClaims 1 = .ok (.getfield 30, 3) := by decide +kernel
theorem dX1_takeClaims_4 : decode cX1_takeClaims 4 = .ok (.iconst 0, 1) := by decide +kernel
theorem dX1_takeClaims_5 : decode cX1_takeClaims 5 = .ok (.aload_n 0, 1) := by decide +kernel
theorem dX1_takeClaims_6 : decode cX1_takeClaims 6 = .ok (.getfield 30, 3) := by decide +kernel
theorem dX1_takeClaims_9 : decode cX1_takeClaims 9 = .ok (.iconst 0, 1) := by decide +kernel
theorem dX1_takeClaims_10 : decode cX1_takeClaims 10 = .ok (.iconst 5, 1) := by decide +kernel
theorem dX1_takeClaims_11 : decode cX1_takeClaims 11 = .ok (.invokestatic 101, 3) := by decide +kernel
theorem dX1_takeClaims_14 : decode cX1_takeClaims 14 = .ok (.aload_n 1, 1) := by decide +kernel
theorem dX1_takeClaims_15 : decode cX1_takeClaims 15 = .ok (.getfield 33, 3) := by decide +kernel
theorem dX1_takeClaims_18 : decode cX1_takeClaims 18 = .ok (.iconst 0, 1) := by decide +kernel
theorem dX1_takeClaims_19 : decode cX1_takeClaims 19 = .ok (.aload_n 0, 1) := by decide +kernel
theorem dX1_takeClaims_20 : decode cX1_takeClaims 20 = .ok (.getfield 33, 3) := by decide +kernel
theorem dX1_takeClaims_23 : decode cX1_takeClaims 23 = .ok (.iconst 0, 1) := by decide +kernel
theorem dX1_takeClaims_24 : decode cX1_takeClaims 24 = .ok (.iconst 5, 1) := by decide +kernel
theorem dX1_takeClaims_25 : decode cX1_takeClaims 25 = .ok (.invokestatic 101, 3) := by decide +kernel
theorem dX1_takeClaims_28 : decode cX1_takeClaims 28 = .ok (.aload_n 1, 1) := by decide +kernel
theorem dX1_takeClaims_29 : decode cX1_takeClaims 29 = .ok (.getfield 36, 3) := by decide +kernel
theorem dX1_takeClaims_32 : decode cX1_takeClaims 32 = .ok (.iconst 0, 1) := by decide +kernel
theorem dX1_takeClaims_33 : decode cX1_takeClaims 33 = .ok (.aload_n 0, 1) := by decide +kernel
theorem dX1_takeClaims_34 : decode cX1_takeClaims 34 = .ok (.getfield 36, 3) := by decide +kernel
theorem dX1_takeClaims_37 : decode cX1_takeClaims 37 = .ok (.iconst 0, 1) := by decide +kernel
theorem dX1_takeClaims_38 : decode cX1_takeClaims 38 = .ok (.iconst 5, 1) := by decide +kernel
theorem dX1_takeClaims_39 : decode cX1_takeClaims 39 = .ok (.invokestatic 101, 3) := by decide +kernel
theorem dX1_takeClaims_42 : decode cX1_takeClaims 42 = .ok (.aload_n 0, 1) := by decide +kernel
theorem dX1_takeClaims_43 : decode cX1_takeClaims 43 = .ok (.aload_n 1, 1) := by decide +kernel
theorem dX1_takeClaims_44 : decode cX1_takeClaims 44 = .ok (.getfield 39, 3) := by decide +kernel
theorem dX1_takeClaims_47 : decode cX1_takeClaims 47 = .ok (.putfield 39, 3) := by decide +kernel
theorem dX1_takeClaims_50 : decode cX1_takeClaims 50 = .ok (.return_, 1) := by decide +kernel
set_option maxRecDepth 20000 in
theorem ggX1_takeAll_X1_takeGround : GoodIn wsX1_takeAll wsX1_takeGround := goodIn_r _ [7, 8, 9, 10, 11, 12, 13, 14, 15, 16, 17, 18, 19, 20, 21, 22, 23, 24, 33, 34, 35, 36, 37, 38, 39, 40, 41, 42, 43, 44, 45] (by decide +kernel) (by decide +kernel)
set_option maxRecDepth 20000 in
theorem gX1_takeAll_X1_takeGround : GoodIn wsX1_takeAll (wsV RX1 107 RX1 yX1_takeGround wsX1_takeGround) := goodIn_app (goodIn_of _ (by decide +kernel)) ggX1_takeAll_X1_takeGround
set_option maxRecDepth 20000 in
theorem ggX1_takeAll_X1_takeClaims : GoodIn wsX1_takeAll wsX1_takeClaims := goodIn_r _ [28, 29, 9, 10, 11, 12, 30, 31, 32, 33, 34, 35, 36, 37, 38, 39, 40] (by decide +kernel) (by decide +kernel)
set_option maxRecDepth 20000 in
theorem gX1_takeAll_X1_takeClaims : GoodIn wsX1_takeAll (wsV RX1 111 RX1 yX1_takeClaims wsX1_takeClaims) := goodIn_app (goodIn_of _ (by decide +kernel)) ggX1_takeAll_X1_takeClaims
set_option maxRecDepth 20000 in
theorem ggX1_takeAll_X2_take : GoodIn wsX1_takeAll wsX2_take := goodIn_r _ [18, 19, 20, 21, 22, 23, 10, 11, 12, 24, 41, 42, 43, 44, 45] (by decide +kernel) (by decide +kernel)
set_option maxRecDepth 20000 in
theorem gX1_takeAll_X2_take : GoodIn wsX1_takeAll (wsV RX1 97 RX2 yX2_take wsX2_take) := goodIn_app (goodIn_of _ (by decide +kernel)) ggX1_takeAll_X2_take
theorem dX1_takeAll_0 : decode cX1_takeAll 0 = .ok (.aload_n 0, 1) := by decide +kernel
theorem dX1_takeAll_1 : decode cX1_takeAll 1 = .ok (.aload_n 1, 1) := by decide +kernel
theorem dX1_takeAll_2 : decode cX1_takeAll 2 = .ok (.invokevirtual 107, 3) := by decide +kernel
theorem dX1_takeAll_5 : decode cX1_takeAll 5 = .ok (.aload_n 0, 1) := by decide +kernel
theorem dX1_takeAll_6 : decode cX1_takeAll 6 = .ok (.aload_n 1, 1) := by decide +kernel
theorem dX1_takeAll_7 : decode cX1_takeAll 7 = .ok (.invokevirtual 111, 3) := by decide +kernel
theorem dX1_takeAll_10 : decode cX1_takeAll 10 = .ok (.iconst 0, 1) := by decide +kernel
theorem dX1_takeAll_11 : decode cX1_takeAll 11 = .ok (.istore_n 2, 1) := by decide +kernel
theorem dX1_takeAll_12 : decode cX1_takeAll 12 = .ok (.iload_n 2, 1) := by decide +kernel
theorem dX1_takeAll_13 : decode cX1_takeAll 13 = .ok (.aload_n 1, 1) := by decide +kernel
theorem dX1_takeAll_14 : decode cX1_takeAll 14 = .ok (.getfield 26, 3) := by decide +kernel
theorem dX1_takeAll_17 : decode cX1_takeAll 17 = .ok (.if_icmp .ge 24, 3) := by decide +kernel
theorem dX1_takeAll_20 : decode cX1_takeAll 20 = .ok (.aload_n 0, 1) := by decide +kernel
theorem dX1_takeAll_21 : decode cX1_takeAll 21 = .ok (.getfield 22, 3) := by decide +kernel
theorem dX1_takeAll_24 : decode cX1_takeAll 24 = .ok (.iload_n 2, 1) := by decide +kernel
theorem dX1_takeAll_25 : decode cX1_takeAll 25 = .ok (.aaload, 1) := by decide +kernel
theorem dX1_takeAll_26 : decode cX1_takeAll 26 = .ok (.aload_n 1, 1) := by decide +kernel
theorem dX1_takeAll_27 : decode cX1_takeAll 27 = .ok (.getfield 22, 3) := by decide +kernel
theorem dX1_takeAll_30 : decode cX1_takeAll 30 = .ok (.iload_n 2, 1) := by decide +kernel
theorem dX1_takeAll_31 : decode cX1_takeAll 31 = .ok (.aaload, 1) := by decide +kernel
theorem dX1_takeAll_32 : decode cX1_takeAll 32 = .ok (.invokevirtual 97, 3) := by decide +kernel
theorem dX1_takeAll_35 : decode cX1_takeAll 35 = .ok (.iinc 2 1, 3) := by decide +kernel
theorem dX1_takeAll_38 : decode cX1_takeAll 38 = .ok (.goto (-26), 3) := by decide +kernel
theorem dX1_takeAll_41 : decode cX1_takeAll 41 = .ok (.aload_n 0, 1) := by decide +kernel
theorem dX1_takeAll_42 : decode cX1_takeAll 42 = .ok (.aload_n 1, 1) := by decide +kernel
theorem dX1_takeAll_43 : decode cX1_takeAll 43 = .ok (.getfield 26, 3) := by decide +kernel
theorem dX1_takeAll_46 : decode cX1_takeAll 46 = .ok (.putfield 26, 3) := by decide +kernel
theorem dX1_takeAll_49 : decode cX1_takeAll 49 = .ok (.return_, 1) := by decide +kernel
theorem dX2_init_0 : decode cX2_init 0 = .ok (.aload_n 0, 1) := by decide +kernel
theorem dX2_init_1 : decode cX2_init 1 = .ok (.invokespecial 3, 3) := by decide +kernel
theorem dX2_init_4 : decode cX2_init 4 = .ok (.aload_n 0, 1) := by decide +kernel
theorem dX2_init_5 : decode cX2_init 5 = .ok (.iconst 0, 1) := by decide +kernel
theorem dX2_init_6 : decode cX2_init 6 = .ok (.putfield 9, 3) := by decide +kernel
theorem dX2_init_9 : decode cX2_init 9 = .ok (.aload_n 0, 1) := by decide +kernel
theorem dX2_init_10 : decode cX2_init 10 = .ok (.iconst 0, 1) := by decide +kernel
theorem dX2_init_11 : decode cX2_init 11 = .ok (.putfield 15, 3) := by decide +kernel
theorem dX2_init_14 : decode cX2_init 14 = .ok (.aload_n 0, 1) := by decide +kernel
theorem dX2_init_15 : decode cX2_init 15 = .ok (.iconst 1, 1) := by decide +kernel
theorem dX2_init_16 : decode cX2_init 16 = .ok (.putfield 18, 3) := by decide +kernel
theorem dX2_init_19 : decode cX2_init 19 = .ok (.aload_n 0, 1) := by decide +kernel
theorem dX2_init_20 : decode cX2_init 20 = .ok (.bipush 7, 2) := by decide +kernel
theorem dX2_init_22 : decode cX2_init 22 = .ok (.newarray .int, 2) := by decide +kernel
theorem dX2_init_24 : decode cX2_init 24 = .ok (.putfield 21, 3) := by decide +kernel
theorem dX2_init_27 : decode cX2_init 27 = .ok (.aload_n 0, 1) := by decide +kernel
theorem dX2_init_28 : decode cX2_init 28 = .ok (.bipush 7, 2) := by decide +kernel
theorem dX2_init_30 : decode cX2_init 30 = .ok (.newarray .int, 2) := by decide +kernel
theorem dX2_init_32 : decode cX2_init 32 = .ok (.putfield 25, 3) := by decide +kernel
theorem dX2_init_35 : decode cX2_init 35 = .ok (.return_, 1) := by decide +kernel
theorem dX2_take_0 : decode cX2_take 0 = .ok (.aload_n 0, 1) := by decide +kernel
theorem dX2_take_1 : decode cX2_take 1 = .ok (.aload_n 1, 1) := by decide +kernel
theorem dX2_take_2 : decode cX2_take 2 = .ok (.getfield 9, 3) := by decide +kernel
theorem dX2_take_5 : decode cX2_take 5 = .ok (.putfield 9, 3) := by decide +kernel
theorem dX2_take_8 : decode cX2_take 8 = .ok (.aload_n 0, 1) := by decide +kernel
theorem dX2_take_9 : decode cX2_take 9 = .ok (.aload_n 1, 1) := by decide +kernel
theorem dX2_take_10 : decode cX2_take 10 = .ok (.getfield 15, 3) := by decide +kernel
theorem dX2_take_13 : decode cX2_take 13 = .ok (.putfield 15, 3) := by decide +kernel
theorem dX2_take_16 : decode cX2_take 16 = .ok (.aload_n 0, 1) := by decide +kernel
theorem dX2_take_17 : decode cX2_take 17 = .ok (.aload_n 1, 1) := by decide +kernel
theorem dX2_take_18 : decode cX2_take 18 = .ok (.getfield 18, 3) := by decide +kernel
theorem dX2_take_21 : decode cX2_take 21 = .ok (.putfield 18, 3) := by decide +kernel
theorem dX2_take_24 : decode cX2_take 24 = .ok (.aload_n 1, 1) := by decide +kernel
theorem dX2_take_25 : decode cX2_take 25 = .ok (.getfield 21, 3) := by decide +kernel
theorem dX2_take_28 : decode cX2_take 28 = .ok (.iconst 0, 1) := by decide +kernel
theorem dX2_take_29 : decode cX2_take 29 = .ok (.aload_n 0, 1) := by decide +kernel
theorem dX2_take_30 : decode cX2_take 30 = .ok (.getfield 21, 3) := by decide +kernel
theorem dX2_take_33 : decode cX2_take 33 = .ok (.iconst 0, 1) := by decide +kernel
theorem dX2_take_34 : decode cX2_take 34 = .ok (.bipush 7, 2) := by decide +kernel
theorem dX2_take_36 : decode cX2_take 36 = .ok (.invokestatic 28, 3) := by decide +kernel
theorem dX2_take_39 : decode cX2_take 39 = .ok (.aload_n 1, 1) := by decide +kernel
theorem dX2_take_40 : decode cX2_take 40 = .ok (.getfield 25, 3) := by decide +kernel
theorem dX2_take_43 : decode cX2_take 43 = .ok (.iconst 0, 1) := by decide +kernel
theorem dX2_take_44 : decode cX2_take 44 = .ok (.aload_n 0, 1) := by decide +kernel
theorem dX2_take_45 : decode cX2_take 45 = .ok (.getfield 25, 3) := by decide +kernel
theorem dX2_take_48 : decode cX2_take 48 = .ok (.iconst 0, 1) := by decide +kernel
theorem dX2_take_49 : decode cX2_take 49 = .ok (.bipush 7, 2) := by decide +kernel
theorem dX2_take_51 : decode cX2_take 51 = .ok (.invokestatic 28, 3) := by decide +kernel
theorem dX2_take_54 : decode cX2_take 54 = .ok (.return_, 1) := by decide +kernel
theorem dX3_init_0 : decode cX3_init 0 = .ok (.aload_n 0, 1) := by decide +kernel
theorem dX3_init_1 : decode cX3_init 1 = .ok (.invokespecial 3, 3) := by decide +kernel
theorem dX3_init_4 : decode cX3_init 4 = .ok (.aload_n 0, 1) := by decide +kernel
theorem dX3_init_5 : decode cX3_init 5 = .ok (.bipush 80, 2) := by decide +kernel
theorem dX3_init_7 : decode cX3_init 7 = .ok (.newarray .int, 2) := by decide +kernel
theorem dX3_init_9 : decode cX3_init 9 = .ok (.putfield 9, 3) := by decide +kernel
theorem dX3_init_12 : decode cX3_init 12 = .ok (.aload_n 0, 1) := by decide +kernel
theorem dX3_init_13 : decode cX3_init 13 = .ok (.iconst 0, 1) := by decide +kernel
theorem dX3_init_14 : decode cX3_init 14 = .ok (.putfield 15, 3) := by decide +kernel
theorem dX3_init_17 : decode cX3_init 17 = .ok (.aload_n 0, 1) := by decide +kernel
theorem dX3_init_18 : decode cX3_init 18 = .ok (.iconst 0, 1) := by decide +kernel
theorem dX3_init_19 : decode cX3_init 19 = .ok (.putfield 19, 3) := by decide +kernel
theorem dX3_init_22 : decode cX3_init 22 = .ok (.return_, 1) := by decide +kernel
theorem dX3_add_0 : decode cX3_add 0 = .ok (.aload_n 0, 1) := by decide +kernel
theorem dX3_add_1 : decode cX3_add 1 = .ok (.getfield 15, 3) := by decide +kernel
theorem dX3_add_4 : decode cX3_add 4 = .ok (.bipush 80, 2) := by decide +kernel
theorem dX3_add_6 : decode cX3_add 6 = .ok (.if_icmp .lt 5, 3) := by decide +kernel
theorem dX3_add_9 : decode cX3_add 9 = .ok (.iconst 0, 1) := by decide +kernel
theorem dX3_add_10 : decode cX3_add 10 = .ok (.ireturn, 1) := by decide +kernel
theorem dX3_add_11 : decode cX3_add 11 = .ok (.aload_n 0, 1) := by decide +kernel
theorem dX3_add_12 : decode cX3_add 12 = .ok (.getfield 9, 3) := by decide +kernel
theorem dX3_add_15 : decode cX3_add 15 = .ok (.aload_n 0, 1) := by decide +kernel
theorem dX3_add_16 : decode cX3_add 16 = .ok (.getfield 15, 3) := by decide +kernel
theorem dX3_add_19 : decode cX3_add 19 = .ok (.iload_n 1, 1) := by decide +kernel
theorem dX3_add_20 : decode cX3_add 20 = .ok (.iastore, 1) := by decide +kernel
theorem dX3_add_21 : decode cX3_add 21 = .ok (.aload_n 0, 1) := by decide +kernel
theorem dX3_add_22 : decode cX3_add 22 = .ok (.dup, 1) := by decide +kernel
theorem dX3_add_23 : decode cX3_add 23 = .ok (.getfield 15, 3) := by decide +kernel
theorem dX3_add_26 : decode cX3_add 26 = .ok (.iconst 1, 1) := by decide +kernel
theorem dX3_add_27 : decode cX3_add 27 = .ok (.iadd, 1) := by decide +kernel
theorem dX3_add_28 : decode cX3_add 28 = .ok (.putfield 15, 3) := by decide +kernel
theorem dX3_add_31 : decode cX3_add 31 = .ok (.iconst 1, 1) := by decide +kernel
theorem dX3_add_32 : decode cX3_add 32 = .ok (.ireturn, 1) := by decide +kernel
theorem dX3_clear_0 : decode cX3_clear 0 = .ok (.aload_n 0, 1) := by decide +kernel
theorem dX3_clear_1 : decode cX3_clear 1 = .ok (.iconst 0, 1) := by decide +kernel
theorem dX3_clear_2 : decode cX3_clear 2 = .ok (.putfield 15, 3) := by decide +kernel
theorem dX3_clear_5 : decode cX3_clear 5 = .ok (.return_, 1) := by decide +kernel
set_option maxRecDepth 20000 in
theorem ggX3_readValley_X3_readDigit : GoodIn wsX3_readValley wsX3_readDigit := goodIn_r _ [9, 1, 10, 11, 12, 8, 13, 14, 15, 16, 17, 18, 58, 59, 60] (by decide +kernel) (by decide +kernel)
set_option maxRecDepth 20000 in
theorem gX3_readValley_X3_readDigit : GoodIn wsX3_readValley (wsV RX3 27 RX3 yX3_readDigit wsX3_readDigit) := goodIn_app (goodIn_of _ (by decide +kernel)) ggX3_readValley_X3_readDigit
set_option maxRecDepth 20000 in
theorem ggX3_readValley_X3_accepts : GoodIn wsX3_readValley wsX3_accepts := goodIn_r _ [22, 1, 10, 11, 12, 8, 13, 14, 15, 58, 59, 60] (by decide +kernel) (by decide +kernel)
set_option maxRecDepth 20000 in
theorem gX3_readValley_X3_accepts : GoodIn wsX3_readValley (wsV RX3 31 RX3 yX3_accepts wsX3_accepts) := goodIn_app (goodIn_of _ (by decide +kernel)) ggX3_readValley_X3_accepts
set_option maxRecDepth 20000 in
theorem ggX3_readValley_X3_readField : GoodIn wsX3_readValley wsX3_readField := goodIn_r _ [26, 1, 27, 3, 28, 29, 30, 31, 32, 33, 10, 11, 12, 8, 13, 14, 15, 34, 35, 36, 5, 6, 7, 9, 16, 17, 18, 19, 20, 21, 22, 58, 59, 60, 61, 62, 63, 64, 65, 66, 67, 68, 69, 70, 71, 72, 73] (by decide +kernel) (by decide +kernel)
set_option maxRecDepth 20000 in
theorem gX3_readValley_X3_readField : GoodIn wsX3_readValley (wsV RX3 44 RX3 yX3_readField wsX3_readField) := goodIn_app (goodIn_of _ (by decide +kernel)) ggX3_readValley_X3_readField
set_option maxRecDepth 20000 in
theorem ggX3_readValley_X3_readClaims : GoodIn wsX3_readValley wsX3_readClaims := goodIn_r _ [40, 19, 20, 21, 8, 22, 1, 10, 11, 12, 13, 14, 15, 41, 42, 43, 44, 5, 6, 7, 9, 16, 17, 18, 45, 46, 47, 48, 49, 50, 51, 52, 53, 54, 55, 56, 57, 58, 59, 60, 61, 62, 63, 64, 65, 66, 67, 68] (by decide +kernel) (by decide +kernel)
set_option maxRecDepth 20000 in
theorem gX3_readValley_X3_readClaims : GoodIn wsX3_readValley (wsV RX3 48 RX3 yX3_readClaims wsX3_readClaims) := goodIn_app (goodIn_of _ (by decide +kernel)) ggX3_readValley_X3_readClaims
set_option maxRecDepth 20000 in
theorem ggX3_readValley_X3_look : GoodIn wsX3_readValley wsX3_look := goodIn_r _ [13, 1, 14, 15, 58, 59, 60] (by decide +kernel) (by decide +kernel)
set_option maxRecDepth 20000 in
theorem gX3_readValley_X3_look : GoodIn wsX3_readValley (wsV RX3 52 RX3 yX3_look wsX3_look) := goodIn_app (goodIn_of _ (by decide +kernel)) ggX3_readValley_X3_look
theorem dX3_readValley_0 : decode cX3_readValley 0 = .ok (.aload_n 0, 1) := by decide +kernel
theorem dX3_readValley_1 : decode cX3_readValley 1 = .ok (.iconst 0, 1) := by decide +kernel
theorem dX3_readValley_2 : decode cX3_readValley 2 = .ok (.putfield 19, 3) := by decide +kernel
theorem dX3_readValley_5 : decode cX3_readValley 5 = .ok (.aload_n 1, 1) := by decide +kernel
theorem dX3_readValley_6 : decode cX3_readValley 6 = .ok (.iconst 0, 1) := by decide +kernel
theorem dX3_readValley_7 : decode cX3_readValley 7 = .ok (.putfield 22, 3) := by decide +kernel
theorem dX3_readValley_10 : decode cX3_readValley 10 = .ok (.aload_n 0, 1) := by decide +kernel
theorem dX3_readValley_11 : decode cX3_readValley 11 = .ok (.iconst 0, 1) := by decide +kernel
theorem dX3_readValley_12 : decode cX3_readValley 12 = .ok (.bipush 6, 2) := by decide +kernel
theorem dX3_readValley_14 : decode cX3_readValley 14 = .ok (.invokevirtual 27, 3) := by decide +kernel
theorem dX3_readValley_17 : decode cX3_readValley 17 = .ok (.istore_n 2, 1) := by decide +kernel
theorem dX3_readValley_18 : decode cX3_readValley 18 = .ok (.iload_n 2, 1) := by decide +kernel
theorem dX3_readValley_19 : decode cX3_readValley 19 = .ok (.ifCond .lt 12, 3) := by decide +kernel
theorem dX3_readValley_22 : decode cX3_readValley 22 = .ok (.aload_n 0, 1) := by decide +kernel
theorem dX3_readValley_23 : decode cX3_readValley 23 = .ok (.bipush 58, 2) := by decide +kernel
theorem dX3_readValley_25 : decode cX3_readValley 25 = .ok (.invokevirtual 31, 3) := by decide +kernel
theorem dX3_readValley_28 : decode cX3_readValley 28 = .ok (.ifCond .ne 5, 3) := by decide +kernel
theorem dX3_readValley_31 : decode cX3_readValley 31 = .ok (.iconst 0, 1) := by decide +kernel
theorem dX3_readValley_32 : decode cX3_readValley 32 = .ok (.ireturn, 1) := by decide +kernel
theorem dX3_readValley_33 : decode cX3_readValley 33 = .ok (.aload_n 1, 1) := by decide +kernel
theorem dX3_readValley_34 : decode cX3_readValley 34 = .ok (.getfield 35, 3) := by decide +kernel
theorem dX3_readValley_37 : decode cX3_readValley 37 = .ok (.iload_n 2, 1) := by decide +kernel
theorem dX3_readValley_38 : decode cX3_readValley 38 = .ok (.putfield 39, 3) := by decide +kernel
theorem dX3_readValley_41 : decode cX3_readValley 41 = .ok (.iconst 0, 1) := by decide +kernel
theorem dX3_readValley_42 : decode cX3_readValley 42 = .ok (.istore_n 3, 1) := by decide +kernel
theorem dX3_readValley_43 : decode cX3_readValley 43 = .ok (.iload_n 3, 1) := by decide +kernel
theorem dX3_readValley_44 : decode cX3_readValley 44 = .ok (.bipush 7, 2) := by decide +kernel
theorem dX3_readValley_46 : decode cX3_readValley 46 = .ok (.if_icmp .ge 20, 3) := by decide +kernel
theorem dX3_readValley_49 : decode cX3_readValley 49 = .ok (.aload_n 0, 1) := by decide +kernel
theorem dX3_readValley_50 : decode cX3_readValley 50 = .ok (.aload_n 1, 1) := by decide +kernel
theorem dX3_readValley_51 : decode cX3_readValley 51 = .ok (.iload_n 3, 1) := by decide +kernel
theorem dX3_readValley_52 : decode cX3_readValley 52 = .ok (.invokevirtual 44, 3) := by decide +kernel
theorem dX3_readValley_55 : decode cX3_readValley 55 = .ok (.ifCond .ne 5, 3) := by decide +kernel
theorem dX3_readValley_58 : decode cX3_readValley 58 = .ok (.iconst 0, 1) := by decide +kernel
theorem dX3_readValley_59 : decode cX3_readValley 59 = .ok (.ireturn, 1) := by decide +kernel
theorem dX3_readValley_60 : decode cX3_readValley 60 = .ok (.iinc 3 1, 3) := by decide +kernel
theorem dX3_readValley_63 : decode cX3_readValley 63 = .ok (.goto (-20), 3) := by decide +kernel
theorem dX3_readValley_66 : decode cX3_readValley 66 = .ok (.aload_n 0, 1) := by decide +kernel
theorem dX3_readValley_67 : decode cX3_readValley 67 = .ok (.bipush 59, 2) := by decide +kernel
theorem dX3_readValley_69 : decode cX3_readValley 69 = .ok (.invokevirtual 31, 3) := by decide +kernel
theorem dX3_readValley_72 : decode cX3_readValley 72 = .ok (.ifCond .eq 13, 3) := by decide +kernel
theorem dX3_readValley_75 : decode cX3_readValley 75 = .ok (.aload_n 0, 1) := by decide +kernel
theorem dX3_readValley_76 : decode cX3_readValley 76 = .ok (.aload_n 1, 1) := by decide +kernel
theorem dX3_readValley_77 : decode cX3_readValley 77 = .ok (.invokevirtual 48, 3) := by decide +kernel
theorem dX3_readValley_80 : decode cX3_readValley 80 = .ok (.ifCond .ne 5, 3) := by decide +kernel
theorem dX3_readValley_83 : decode cX3_readValley 83 = .ok (.iconst 0, 1) := by decide +kernel
theorem dX3_readValley_84 : decode cX3_readValley 84 = .ok (.ireturn, 1) := by decide +kernel
theorem dX3_readValley_85 : decode cX3_readValley 85 = .ok (.aload_n 0, 1) := by decide +kernel
theorem dX3_readValley_86 : decode cX3_readValley 86 = .ok (.invokevirtual 52, 3) := by decide +kernel
theorem dX3_readValley_89 : decode cX3_readValley 89 = .ok (.iconst (-1), 1) := by decide +kernel
theorem dX3_readValley_90 : decode cX3_readValley 90 = .ok (.if_icmp .ne 7, 3) := by decide +kernel
theorem dX3_readValley_93 : decode cX3_readValley 93 = .ok (.iconst 1, 1) := by decide +kernel
theorem dX3_readValley_94 : decode cX3_readValley 94 = .ok (.goto 4, 3) := by decide +kernel
theorem dX3_readValley_97 : decode cX3_readValley 97 = .ok (.iconst 0, 1) := by decide +kernel
theorem dX3_readValley_98 : decode cX3_readValley 98 = .ok (.ireturn, 1) := by decide +kernel
set_option maxRecDepth 20000 in
theorem ggX3_readField_X3_look : GoodIn wsX3_readField wsX3_look := goodIn_r _ [14, 1, 15, 16, 31, 32, 33] (by decide +kernel) (by decide +kernel)
set_option maxRecDepth 20000 in
theorem gX3_readField_X3_look : GoodIn wsX3_readField (wsV RX3 52 RX3 yX3_look wsX3_look) := goodIn_app (goodIn_of _ (by decide +kernel)) ggX3_readField_X3_look
set_option maxRecDepth 20000 in
theorem ggX3_readField_X3_kindOf : GoodIn wsX3_readField wsX3_kindOf := goodIn_r _ [19] (by decide +kernel) (by decide +kernel)
set_option maxRecDepth 20000 in
theorem gX3_readField_X3_kindOf : GoodIn wsX3_readField (va_wsS RX3 56 yX3_kindOf wsX3_kindOf) := goodIn_app (goodIn_of _ (by decide +kernel)) ggX3_readField_X3_kindOf
set_option maxRecDepth 20000 in
theorem ggX3_readField_X3_readDigit : GoodIn wsX3_readField wsX3_readDigit := goodIn_r _ [23, 1, 10, 11, 12, 13, 14, 15, 16, 24, 25, 26, 31, 32, 33] (by decide +kernel) (by decide +kernel)
set_option maxRecDepth 20000 in
theorem gX3_readField_X3_readDigit : GoodIn wsX3_readField (wsV RX3 27 RX3 yX3_readDigit wsX3_readDigit) := goodIn_app (goodIn_of _ (by decide +kernel)) ggX3_readField_X3_readDigit
set_option maxRecDepth 20000 in
theorem ggX3_readField_X3_accepts : GoodIn wsX3_readField wsX3_accepts := goodIn_r _ [30, 1, 10, 11, 12, 13, 14, 15, 16, 31, 32, 33] (by decide +kernel) (by decide +kernel)
set_option maxRecDepth 20000 in
theorem gX3_readField_X3_accepts : GoodIn wsX3_readField (wsV RX3 31 RX3 yX3_accepts wsX3_accepts) := goodIn_app (goodIn_of _ (by decide +kernel)) ggX3_readField_X3_accepts
theorem dX3_readField_0 : decode cX3_readField 0 = .ok (.aload_n 0, 1) := by decide +kernel
theorem dX3_readField_1 : decode cX3_readField 1 = .ok (.invokevirtual 52, 3) := by decide +kernel
theorem dX3_readField_4 : decode cX3_readField 4 = .ok (.invokestatic 56, 3) := by decide +kernel
theorem dX3_readField_7 : decode cX3_readField 7 = .ok (.istore_n 3, 1) := by decide +kernel
theorem dX3_readField_8 : decode cX3_readField 8 = .ok (.iload_n 3, 1) := by decide +kernel
theorem dX3_readField_9 : decode cX3_readField 9 = .ok (.ifCond .ge 5, 3) := by decide +kernel
theorem dX3_readField_12 : decode cX3_readField 12 = .ok (.iconst 0, 1) := by decide +kernel
theorem dX3_readField_13 : decode cX3_readField 13 = .ok (.ireturn, 1) := by decide +kernel
theorem dX3_readField_14 : decode cX3_readField 14 = .ok (.aload_n 0, 1) := by decide +kernel
theorem dX3_readField_15 : decode cX3_readField 15 = .ok (.dup, 1) := by decide +kernel
theorem dX3_readField_16 : decode cX3_readField 16 = .ok (.getfield 19, 3) := by decide +kernel
theorem dX3_readField_19 : decode cX3_readField 19 = .ok (.iconst 1, 1) := by decide +kernel
theorem dX3_readField_20 : decode cX3_readField 20 = .ok (.iadd, 1) := by decide +kernel
theorem dX3_readField_21 : decode cX3_readField 21 = .ok (.putfield 19, 3) := by decide +kernel
theorem dX3_readField_24 : decode cX3_readField 24 = .ok (.aload_n 1, 1) := by decide +kernel
theorem dX3_readField_25 : decode cX3_readField 25 = .ok (.getfield 60, 3) := by decide +kernel
theorem dX3_readField_28 : decode cX3_readField 28 = .ok (.iload_n 2, 1) := by decide +kernel
theorem dX3_readField_29 : decode cX3_readField 29 = .ok (.iload_n 3, 1) := by decide +kernel
theorem dX3_readField_30 : decode cX3_readField 30 = .ok (.iastore, 1) := by decide +kernel
theorem dX3_readField_31 : decode cX3_readField 31 = .ok (.aload_n 1, 1) := by decide +kernel
theorem dX3_readField_32 : decode cX3_readField 32 = .ok (.getfield 35, 3) := by decide +kernel
theorem dX3_readField_35 : decode cX3_readField 35 = .ok (.getfield 63, 3) := by decide +kernel
theorem dX3_readField_38 : decode cX3_readField 38 = .ok (.iload_n 2, 1) := by decide +kernel
theorem dX3_readField_39 : decode cX3_readField 39 = .ok (.iconst 0, 1) := by decide +kernel
theorem dX3_readField_40 : decode cX3_readField 40 = .ok (.aload_n 0, 1) := by decide +kernel
theorem dX3_readField_41 : decode cX3_readField 41 = .ok (.iconst 0, 1) := by decide +kernel
theorem dX3_readField_42 : decode cX3_readField 42 = .ok (.bipush 9, 2) := by decide +kernel
theorem dX3_readField_44 : decode cX3_readField 44 = .ok (.invokevirtual 27, 3) := by decide +kernel
theorem dX3_readField_47 : decode cX3_readField 47 = .ok (.invokestatic 66, 3) := by decide +kernel
theorem dX3_readField_50 : decode cX3_readField 50 = .ok (.iastore, 1) := by decide +kernel
theorem dX3_readField_51 : decode cX3_readField 51 = .ok (.aload_n 1, 1) := by decide +kernel
theorem dX3_readField_52 : decode cX3_readField 52 = .ok (.getfield 35, 3) := by decide +kernel
theorem dX3_readField_55 : decode cX3_readField 55 = .ok (.getfield 71, 3) := by decide +kernel
theorem dX3_readField_58 : decode cX3_readField 58 = .ok (.iload_n 2, 1) := by decide +kernel
theorem dX3_readField_59 : decode cX3_readField 59 = .ok (.iconst 0, 1) := by decide +kernel
theorem dX3_readField_60 : decode cX3_readField 60 = .ok (.iastore, 1) := by decide +kernel
theorem dX3_readField_61 : decode cX3_readField 61 = .ok (.aload_n 0, 1) := by decide +kernel
theorem dX3_readField_62 : decode cX3_readField 62 = .ok (.bipush 35, 2) := by decide +kernel
theorem dX3_readField_64 : decode cX3_readField 64 = .ok (.invokevirtual 31, 3) := by decide +kernel
theorem dX3_readField_67 : decode cX3_readField 67 = .ok (.ifCond .ne 5, 3) := by decide +kernel
theorem dX3_readField_70 : decode cX3_readField 70 = .ok (.iconst 1, 1) := by decide +kernel
theorem dX3_readField_71 : decode cX3_readField 71 = .ok (.ireturn, 1) := by decide +kernel
theorem dX3_readField_72 : decode cX3_readField 72 = .ok (.aload_n 0, 1) := by decide +kernel
theorem dX3_readField_73 : decode cX3_readField 73 = .ok (.iconst 1, 1) := by decide +kernel
theorem dX3_readField_74 : decode cX3_readField 74 = .ok (.iconst 4, 1) := by decide +kernel
theorem dX3_readField_75 : decode cX3_readField 75 = .ok (.invokevirtual 27, 3) := by decide +kernel
theorem dX3_readField_78 : decode cX3_readField 78 = .ok (.istore 4, 2) := by decide +kernel
theorem dX3_readField_80 : decode cX3_readField 80 = .ok (.iload 4, 2) := by decide +kernel
theorem dX3_readField_82 : decode cX3_readField 82 = .ok (.ifCond .ge 5, 3) := by decide +kernel
theorem dX3_readField_85 : decode cX3_readField 85 = .ok (.iconst 0, 1) := by decide +kernel
theorem dX3_readField_86 : decode cX3_readField 86 = .ok (.ireturn, 1) := by decide +kernel
theorem dX3_readField_87 : decode cX3_readField 87 = .ok (.aload_n 1, 1) := by decide +kernel
theorem dX3_readField_88 : decode cX3_readField 88 = .ok (.getfield 35, 3) := by decide +kernel
theorem dX3_readField_91 : decode cX3_readField 91 = .ok (.getfield 71, 3) := by decide +kernel
theorem dX3_readField_94 : decode cX3_readField 94 = .ok (.iload_n 2, 1) := by decide +kernel
theorem dX3_readField_95 : decode cX3_readField 95 = .ok (.iload 4, 2) := by decide +kernel
theorem dX3_readField_97 : decode cX3_readField 97 = .ok (.iastore, 1) := by decide +kernel
theorem dX3_readField_98 : decode cX3_readField 98 = .ok (.iconst 1, 1) := by decide +kernel
theorem dX3_readField_99 : decode cX3_readField 99 = .ok (.ireturn, 1) := by decide +kernel
theorem dX3_kindOf_0 : decode cX3_kindOf 0 = .ok (.iload_n 0, 1) := by decide +kernel
theorem dX3_kindOf_1 : decode cX3_kindOf 1 = .ok (.lookupswitch 61 #[(99, 53), (103, 57), (108, 59), (109, 51), (115, 55)], 51) := by decide +kernel
theorem dX3_kindOf_52 : decode cX3_kindOf 52 = .ok (.iconst 0, 1) := by decide +kernel
theorem dX3_kindOf_53 : decode cX3_kindOf 53 = .ok (.ireturn, 1) := by decide +kernel
theorem dX3_kindOf_54 : decode cX3_kindOf 54 = .ok (.iconst 1, 1) := by decide +kernel
theorem dX3_kindOf_55 : decode cX3_kindOf 55 = .ok (.ireturn, 1) := by decide +kernel
theorem dX3_kindOf_56 : decode cX3_kindOf 56 = .ok (.iconst 2, 1) := by decide +kernel
theorem dX3_kindOf_57 : decode cX3_kindOf 57 = .ok (.ireturn, 1) := by decide +kernel
theorem dX3_kindOf_58 : decode cX3_kindOf 58 = .ok (.iconst 3, 1) := by decide +kernel
theorem dX3_kindOf_59 : decode cX3_kindOf 59 = .ok (.ireturn, 1) := by decide +kernel
theorem dX3_kindOf_60 : decode cX3_kindOf 60 = .ok (.iconst 4, 1) := by decide +kernel
theorem dX3_kindOf_61 : decode cX3_kindOf 61 = .ok (.ireturn, 1) := by decide +kernel
theorem dX3_kindOf_62 : decode cX3_kindOf 62 = .ok (.iconst (-1), 1) := by decide +kernel
theorem dX3_kindOf_63 : decode cX3_kindOf 63 = .ok (.ireturn, 1) := by decide +kernel
set_option maxRecDepth 20000 in
theorem ggX3_readClaims_X3_accepts : GoodIn wsX3_readClaims wsX3_accepts := goodIn_r _ [5, 6, 7, 8, 9, 4, 10, 11, 12, 37, 38, 39] (by decide +kernel) (by decide +kernel)
set_option maxRecDepth 20000 in
theorem gX3_readClaims_X3_accepts : GoodIn wsX3_readClaims (wsV RX3 31 RX3 yX3_accepts wsX3_accepts) := goodIn_app (goodIn_of _ (by decide +kernel)) ggX3_readClaims_X3_accepts
set_option maxRecDepth 20000 in
theorem ggX3_readClaims_X3_readClaim : GoodIn wsX3_readClaims wsX3_readClaim := goodIn_r _ [16, 17, 18, 19, 4, 20, 6, 7, 8, 9, 10, 11, 12, 21, 22, 23, 1, 2, 3, 5, 24, 25, 26, 27, 28, 29, 30, 31, 32, 33, 34, 35, 36, 37, 38, 39, 40, 41, 42, 43, 44, 45, 46, 47] (by decide +kernel) (by decide +kernel)
set_option maxRecDepth 20000 in
theorem gX3_readClaims_X3_readClaim : GoodIn wsX3_readClaims (wsV RX3 74 RX3 yX3_readClaim wsX3_readClaim) := goodIn_app (goodIn_of _ (by decide +kernel)) ggX3_readClaims_X3_readClaim
theorem dX3_readClaims_0 : decode cX3_readClaims 0 = .ok (.iconst 0, 1) := by decide +kernel
theorem dX3_readClaims_1 : decode cX3_readClaims 1 = .ok (.istore_n 2, 1) := by decide +kernel
theorem dX3_readClaims_2 : decode cX3_readClaims 2 = .ok (.iload_n 2, 1) := by decide +kernel
theorem dX3_readClaims_3 : decode cX3_readClaims 3 = .ok (.iconst 5, 1) := by decide +kernel
theorem dX3_readClaims_4 : decode cX3_readClaims 4 = .ok (.if_icmp .ge 34, 3) := by decide +kernel
theorem dX3_readClaims_7 : decode cX3_readClaims 7 = .ok (.iload_n 2, 1) := by decide +kernel
theorem dX3_readClaims_8 : decode cX3_readClaims 8 = .ok (.ifCond .le 14, 3) := by decide +kernel
theorem dX3_readClaims_11 : decode cX3_readClaims 11 = .ok (.aload_n 0, 1) := by decide +kernel
theorem dX3_readClaims_12 : decode cX3_readClaims 12 = .ok (.bipush 44, 2) := by decide +kernel
theorem dX3_readClaims_14 : decode cX3_readClaims 14 = .ok (.invokevirtual 31, 3) := by decide +kernel
theorem dX3_readClaims_17 : decode cX3_readClaims 17 = .ok (.ifCond .ne 5, 3) := by decide +kernel
theorem dX3_readClaims_20 : decode cX3_readClaims 20 = .ok (.iconst 1, 1) := by decide +kernel
theorem dX3_readClaims_21 : decode cX3_readClaims 21 = .ok (.ireturn, 1) := by decide +kernel
theorem dX3_readClaims_22 : decode cX3_readClaims 22 = .ok (.aload_n 0, 1) := by decide +kernel
theorem dX3_readClaims_23 : decode cX3_readClaims 23 = .ok (.aload_n 1, 1) := by decide +kernel
theorem dX3_readClaims_24 : decode cX3_readClaims 24 = .ok (.invokevirtual 74, 3) := by decide +kernel
theorem dX3_readClaims_27 : decode cX3_readClaims 27 = .ok (.ifCond .ne 5, 3) := by decide +kernel
theorem dX3_readClaims_30 : decode cX3_readClaims 30 = .ok (.iconst 0, 1) := by decide +kernel
theorem dX3_readClaims_31 : decode cX3_readClaims 31 = .ok (.ireturn, 1) := by decide +kernel
theorem dX3_readClaims_32 : decode cX3_readClaims 32 = .ok (.iinc 2 1, 3) := by decide +kernel
theorem dX3_readClaims_35 : decode cX3_readClaims 35 = .ok (.goto (-33), 3) := by decide +kernel
theorem dX3_readClaims_38 : decode cX3_readClaims 38 = .ok (.iconst 1, 1) := by decide +kernel
theorem dX3_readClaims_39 : decode cX3_readClaims 39 = .ok (.ireturn, 1) := by decide +kernel
set_option maxRecDepth 20000 in
theorem ggX3_readClaim_X3_readDigit : GoodIn wsX3_readClaim wsX3_readDigit := goodIn_r _ [5, 6, 7, 8, 9, 4, 10, 11, 12, 13, 14, 15, 33, 34, 35] (by decide +kernel) (by decide +kernel)
set_option maxRecDepth 20000 in
theorem gX3_readClaim_X3_readDigit : GoodIn wsX3_readClaim (wsV RX3 27 RX3 yX3_readDigit wsX3_readDigit) := goodIn_app (goodIn_of _ (by decide +kernel)) ggX3_readClaim_X3_readDigit
set_option maxRecDepth 20000 in
theorem ggX3_readClaim_X3_accepts : GoodIn wsX3_readClaim wsX3_accepts := goodIn_r _ [19, 6, 7, 8, 9, 4, 10, 11, 12, 33, 34, 35] (by decide +kernel) (by decide +kernel)
set_option maxRecDepth 20000 in
theorem gX3_readClaim_X3_accepts : GoodIn wsX3_readClaim (wsV RX3 31 RX3 yX3_accepts wsX3_accepts) := goodIn_app (goodIn_of _ (by decide +kernel)) ggX3_readClaim_X3_accepts
set_option maxRecDepth 20000 in
theorem ggX3_readClaim_X3_readWorth : GoodIn wsX3_readClaim wsX3_readWorth := goodIn_r _ [23, 6, 11, 12, 1, 2, 3, 4, 5, 7, 8, 9, 10, 13, 14, 15, 33, 34, 35] (by decide +kernel) (by decide +kernel)
set_option maxRecDepth 20000 in
theorem gX3_readClaim_X3_readWorth : GoodIn wsX3_readClaim (wsV RX3 77 RX3 yX3_readWorth wsX3_readWorth) := goodIn_app (goodIn_of _ (by decide +kernel)) ggX3_readClaim_X3_readWorth
set_option maxRecDepth 20000 in
theorem ggX3_readClaim_X1_addClaim : GoodIn wsX3_readClaim wsX1_addClaim := goodIn_r _ [28, 29, 30, 31, 32, 36, 37, 38, 39, 40, 41, 42, 43] (by decide +kernel) (by decide +kernel)
set_option maxRecDepth 20000 in
theorem gX3_readClaim_X1_addClaim : GoodIn wsX3_readClaim (wsV RX3 80 RX1 yX1_addClaim wsX1_addClaim) := goodIn_app (goodIn_of _ (by decide +kernel)) ggX3_readClaim_X1_addClaim
theorem dX3_readClaim_0 : decode cX3_readClaim 0 = .ok (.aload_n 0, 1) := by decide +kernel
theorem dX3_readClaim_1 : decode cX3_readClaim 1 = .ok (.iconst 0, 1) := by decide +kernel
theorem dX3_readClaim_2 : decode cX3_readClaim 2 = .ok (.bipush 6, 2) := by decide +kernel
theorem dX3_readClaim_4 : decode cX3_readClaim 4 = .ok (.invokevirtual 27, 3) := by decide +kernel
theorem dX3_readClaim_7 : decode cX3_readClaim 7 = .ok (.istore_n 2, 1) := by decide +kernel
theorem dX3_readClaim_8 : decode cX3_readClaim 8 = .ok (.iload_n 2, 1) := by decide +kernel
theorem dX3_readClaim_9 : decode cX3_readClaim 9 = .ok (.ifCond .lt 12, 3) := by decide +kernel
theorem dX3_readClaim_12 : decode cX3_readClaim 12 = .ok (.aload_n 0, 1) := by decide +kernel
theorem dX3_readClaim_13 : decode cX3_readClaim 13 = .ok (.bipush 45, 2) := by decide +kernel
theorem dX3_readClaim_15 : decode cX3_readClaim 15 = .ok (.invokevirtual 31, 3) := by decide +kernel
theorem dX3_readClaim_18 : decode cX3_readClaim 18 = .ok (.ifCond .ne 5, 3) := by decide +kernel
theorem dX3_readClaim_21 : decode cX3_readClaim 21 = .ok (.iconst 0, 1) := by decide +kernel
theorem dX3_readClaim_22 : decode cX3_readClaim 22 = .ok (.ireturn, 1) := by decide +kernel
theorem dX3_readClaim_23 : decode cX3_readClaim 23 = .ok (.aload_n 0, 1) := by decide +kernel
theorem dX3_readClaim_24 : decode cX3_readClaim 24 = .ok (.iload_n 2, 1) := by decide +kernel
theorem dX3_readClaim_25 : decode cX3_readClaim 25 = .ok (.bipush 6, 2) := by decide +kernel
theorem dX3_readClaim_27 : decode cX3_readClaim 27 = .ok (.invokevirtual 27, 3) := by decide +kernel
theorem dX3_readClaim_30 : decode cX3_readClaim 30 = .ok (.istore_n 3, 1) := by decide +kernel
theorem dX3_readClaim_31 : decode cX3_readClaim 31 = .ok (.iload_n 3, 1) := by decide +kernel
theorem dX3_readClaim_32 : decode cX3_readClaim 32 = .ok (.ifCond .lt 12, 3) := by decide +kernel
theorem dX3_readClaim_35 : decode cX3_readClaim 35 = .ok (.aload_n 0, 1) := by decide +kernel
theorem dX3_readClaim_36 : decode cX3_readClaim 36 = .ok (.bipush 61, 2) := by decide +kernel
theorem dX3_readClaim_38 : decode cX3_readClaim 38 = .ok (.invokevirtual 31, 3) := by decide +kernel
theorem dX3_readClaim_41 : decode cX3_readClaim 41 = .ok (.ifCond .ne 5, 3) := by decide +kernel
theorem dX3_readClaim_44 : decode cX3_readClaim 44 = .ok (.iconst 0, 1) := by decide +kernel
theorem dX3_readClaim_45 : decode cX3_readClaim 45 = .ok (.ireturn, 1) := by decide +kernel
theorem dX3_readClaim_46 : decode cX3_readClaim 46 = .ok (.aload_n 0, 1) := by decide +kernel
theorem dX3_readClaim_47 : decode cX3_readClaim 47 = .ok (.invokevirtual 77, 3) := by decide +kernel
theorem dX3_readClaim_50 : decode cX3_readClaim 50 = .ok (.istore 4, 2) := by decide +kernel
theorem dX3_readClaim_52 : decode cX3_readClaim 52 = .ok (.iload 4, 2) := by decide +kernel
theorem dX3_readClaim_54 : decode cX3_readClaim 54 = .ok (.ifCond .le 18, 3) := by decide +kernel
theorem dX3_readClaim_57 : decode cX3_readClaim 57 = .ok (.aload_n 1, 1) := by decide +kernel
theorem dX3_readClaim_58 : decode cX3_readClaim 58 = .ok (.iload_n 2, 1) := by decide +kernel
theorem dX3_readClaim_59 : decode cX3_readClaim 59 = .ok (.iload_n 3, 1) := by decide +kernel
theorem dX3_readClaim_60 : decode cX3_readClaim 60 = .ok (.iload 4, 2) := by decide +kernel
theorem dX3_readClaim_62 : decode cX3_readClaim 62 = .ok (.invokevirtual 80, 3) := by decide +kernel
theorem dX3_readClaim_65 : decode cX3_readClaim 65 = .ok (.ifCond .eq 7, 3) := by decide +kernel
theorem dX3_readClaim_68 : decode cX3_readClaim 68 = .ok (.iconst 1, 1) := by decide +kernel
theorem dX3_readClaim_69 : decode cX3_readClaim 69 = .ok (.goto 4, 3) := by decide +kernel
theorem dX3_readClaim_72 : decode cX3_readClaim 72 = .ok (.iconst 0, 1) := by decide +kernel
theorem dX3_readClaim_73 : decode cX3_readClaim 73 = .ok (.ireturn, 1) := by decide +kernel
set_option maxRecDepth 20000 in
theorem ggX3_readWorth_X3_readDigit : GoodIn wsX3_readWorth wsX3_readDigit := goodIn_r _ [8, 1, 9, 10, 11, 7, 12, 2, 3, 13, 14, 15, 16, 17, 18] (by decide +kernel) (by decide +kernel)
set_option maxRecDepth 20000 in
theorem gX3_readWorth_X3_readDigit : GoodIn wsX3_readWorth (wsV RX3 27 RX3 yX3_readDigit wsX3_readDigit) := goodIn_app (goodIn_of _ (by decide +kernel)) ggX3_readWorth_X3_readDigit
set_option maxRecDepth 20000 in
theorem ggX3_readWorth_X6_isWithin : GoodIn wsX3_readWorth wsX6_isWithin := goodIn_r _ [15] (by decide +kernel) (by decide +kernel)
set_option maxRecDepth 20000 in
theorem gX3_readWorth_X6_isWithin_n84 : GoodIn wsX3_readWorth (wsX6_isWithin) := ggX3_readWorth_X6_isWithin
theorem dX3_readWorth_0 : decode cX3_readWorth 0 = .ok (.aload_n 0, 1) := by decide +kernel
theorem dX3_readWorth_1 : decode cX3_readWorth 1 = .ok (.iconst 0, 1) := by decide +kernel
theorem dX3_readWorth_2 : decode cX3_readWorth 2 = .ok (.bipush 9, 2) := by decide +kernel
theorem dX3_readWorth_4 : decode cX3_readWorth 4 = .ok (.invokevirtual 27, 3) := by decide +kernel
theorem dX3_readWorth_7 : decode cX3_readWorth 7 = .ok (.istore_n 1, 1) := by decide +kernel
theorem dX3_readWorth_8 : decode cX3_readWorth 8 = .ok (.iload_n 1, 1) := by decide +kernel
theorem dX3_readWorth_9 : decode cX3_readWorth 9 = .ok (.ifCond .ge 5, 3) := by decide +kernel
theorem dX3_readWorth_12 : decode cX3_readWorth 12 = .ok (.iconst (-1), 1) := by decide +kernel
theorem dX3_readWorth_13 : decode cX3_readWorth 13 = .ok (.ireturn, 1) := by decide +kernel
theorem dX3_readWorth_14 : decode cX3_readWorth 14 = .ok (.aload_n 0, 1) := by decide +kernel
theorem dX3_readWorth_15 : decode cX3_readWorth 15 = .ok (.getfield 19, 3) := by decide +kernel
theorem dX3_readWorth_18 : decode cX3_readWorth 18 = .ok (.iconst 1, 1) := by decide +kernel
theorem dX3_readWorth_19 : decode cX3_readWorth 19 = .ok (.isub, 1) := by decide +kernel
theorem dX3_readWorth_20 : decode cX3_readWorth 20 = .ok (.istore_n 2, 1) := by decide +kernel
theorem dX3_readWorth_21 : decode cX3_readWorth 21 = .ok (.aload_n 0, 1) := by decide +kernel
theorem dX3_readWorth_22 : decode cX3_readWorth 22 = .ok (.getfield 19, 3) := by decide +kernel
theorem dX3_readWorth_25 : decode cX3_readWorth 25 = .ok (.aload_n 0, 1) := by decide +kernel
theorem dX3_readWorth_26 : decode cX3_readWorth 26 = .ok (.getfield 15, 3) := by decide +kernel
theorem dX3_readWorth_29 : decode cX3_readWorth 29 = .ok (.if_icmp .ge 50, 3) := by decide +kernel
theorem dX3_readWorth_32 : decode cX3_readWorth 32 = .ok (.aload_n 0, 1) := by decide +kernel
theorem dX3_readWorth_33 : decode cX3_readWorth 33 = .ok (.getfield 9, 3) := by decide +kernel
theorem dX3_readWorth_36 : decode cX3_readWorth 36 = .ok (.aload_n 0, 1) := by decide +kernel
theorem dX3_readWorth_37 : decode cX3_readWorth 37 = .ok (.getfield 19, 3) := by decide +kernel
theorem dX3_readWorth_40 : decode cX3_readWorth 40 = .ok (.iaload, 1) := by decide +kernel
theorem dX3_readWorth_41 : decode cX3_readWorth 41 = .ok (.bipush 48, 2) := by decide +kernel
theorem dX3_readWorth_43 : decode cX3_readWorth 43 = .ok (.bipush 57, 2) := by decide +kernel
theorem dX3_readWorth_45 : decode cX3_readWorth 45 = .ok (.invokestatic 84, 3) := by decide +kernel
theorem dX3_readWorth_48 : decode cX3_readWorth 48 = .ok (.ifCond .eq 31, 3) := by decide +kernel
theorem dX3_readWorth_51 : decode cX3_readWorth 51 = .ok (.iload_n 1, 1) := by decide +kernel
theorem dX3_readWorth_52 : decode cX3_readWorth 52 = .ok (.bipush 10, 2) := by decide +kernel
theorem dX3_readWorth_54 : decode cX3_readWorth 54 = .ok (.imul, 1) := by decide +kernel
theorem dX3_readWorth_55 : decode cX3_readWorth 55 = .ok (.aload_n 0, 1) := by decide +kernel
theorem dX3_readWorth_56 : decode cX3_readWorth 56 = .ok (.getfield 9, 3) := by decide +kernel
theorem dX3_readWorth_59 : decode cX3_readWorth 59 = .ok (.aload_n 0, 1) := by decide +kernel
theorem dX3_readWorth_60 : decode cX3_readWorth 60 = .ok (.getfield 19, 3) := by decide +kernel
theorem dX3_readWorth_63 : decode cX3_readWorth 63 = .ok (.iaload, 1) := by decide +kernel
theorem dX3_readWorth_64 : decode cX3_readWorth 64 = .ok (.iadd, 1) := by decide +kernel
theorem dX3_readWorth_65 : decode cX3_readWorth 65 = .ok (.bipush 48, 2) := by decide +kernel
theorem dX3_readWorth_67 : decode cX3_readWorth 67 = .ok (.isub, 1) := by decide +kernel
theorem dX3_readWorth_68 : decode cX3_readWorth 68 = .ok (.istore_n 1, 1) := by decide +kernel
theorem dX3_readWorth_69 : decode cX3_readWorth 69 = .ok (.aload_n 0, 1) := by decide +kernel
theorem dX3_readWorth_70 : decode cX3_readWorth 70 = .ok (.dup, 1) := by decide +kernel
theorem dX3_readWorth_71 : decode cX3_readWorth 71 = .ok (.getfield 19, 3) := by decide +kernel
theorem dX3_readWorth_74 : decode cX3_readWorth 74 = .ok (.iconst 1, 1) := by decide +kernel
theorem dX3_readWorth_75 : decode cX3_readWorth 75 = .ok (.iadd, 1) := by decide +kernel
theorem dX3_readWorth_76 : decode cX3_readWorth 76 = .ok (.putfield 19, 3) := by decide +kernel
theorem dX3_readWorth_79 : decode cX3_readWorth 79 = .ok (.iload_n 1, 1) := by decide +kernel
theorem dX3_readWorth_80 : decode cX3_readWorth 80 = .ok (.iconst 1, 1) := by decide +kernel
theorem dX3_readWorth_81 : decode cX3_readWorth 81 = .ok (.if_icmp .ge 10, 3) := by decide +kernel
theorem dX3_readWorth_84 : decode cX3_readWorth 84 = .ok (.aload_n 0, 1) := by decide +kernel
theorem dX3_readWorth_85 : decode cX3_readWorth 85 = .ok (.iload_n 2, 1) := by decide +kernel
theorem dX3_readWorth_86 : decode cX3_readWorth 86 = .ok (.putfield 19, 3) := by decide +kernel
theorem dX3_readWorth_89 : decode cX3_readWorth 89 = .ok (.iconst (-1), 1) := by decide +kernel
theorem dX3_readWorth_90 : decode cX3_readWorth 90 = .ok (.ireturn, 1) := by decide +kernel
theorem dX3_readWorth_91 : decode cX3_readWorth 91 = .ok (.iload_n 1, 1) := by decide +kernel
theorem dX3_readWorth_92 : decode cX3_readWorth 92 = .ok (.ireturn, 1) := by decide +kernel
theorem dX3_look_0 : decode cX3_look 0 = .ok (.aload_n 0, 1) := by decide +kernel
theorem dX3_look_1 : decode cX3_look 1 = .ok (.getfield 19, 3) := by decide +kernel
theorem dX3_look_4 : decode cX3_look 4 = .ok (.aload_n 0, 1) := by decide +kernel
theorem dX3_look_5 : decode cX3_look 5 = .ok (.getfield 15, 3) := by decide +kernel
theorem dX3_look_8 : decode cX3_look 8 = .ok (.if_icmp .ge 30, 3) := by decide +kernel
theorem dX3_look_11 : decode cX3_look 11 = .ok (.aload_n 0, 1) := by decide +kernel
theorem dX3_look_12 : decode cX3_look 12 = .ok (.getfield 9, 3) := by decide +kernel
theorem dX3_look_15 : decode cX3_look 15 = .ok (.aload_n 0, 1) := by decide +kernel
theorem dX3_look_16 : decode cX3_look 16 = .ok (.getfield 19, 3) := by decide +kernel
theorem dX3_look_19 : decode cX3_look 19 = .ok (.iaload, 1) := by decide +kernel
theorem dX3_look_20 : decode cX3_look 20 = .ok (.bipush 32, 2) := by decide +kernel
theorem dX3_look_22 : decode cX3_look 22 = .ok (.if_icmp .ne 16, 3) := by decide +kernel
theorem dX3_look_25 : decode cX3_look 25 = .ok (.aload_n 0, 1) := by decide +kernel
theorem dX3_look_26 : decode cX3_look 26 = .ok (.dup, 1) := by decide +kernel
theorem dX3_look_27 : decode cX3_look 27 = .ok (.getfield 19, 3) := by decide +kernel
theorem dX3_look_30 : decode cX3_look 30 = .ok (.iconst 1, 1) := by decide +kernel
theorem dX3_look_31 : decode cX3_look 31 = .ok (.iadd, 1) := by decide +kernel
theorem dX3_look_32 : decode cX3_look 32 = .ok (.putfield 19, 3) := by decide +kernel
theorem dX3_look_35 : decode cX3_look 35 = .ok (.goto (-35), 3) := by decide +kernel
theorem dX3_look_38 : decode cX3_look 38 = .ok (.aload_n 0, 1) := by decide +kernel
theorem dX3_look_39 : decode cX3_look 39 = .ok (.getfield 19, 3) := by decide +kernel
theorem dX3_look_42 : decode cX3_look 42 = .ok (.aload_n 0, 1) := by decide +kernel
theorem dX3_look_43 : decode cX3_look 43 = .ok (.getfield 15, 3) := by decide +kernel
theorem dX3_look_46 : decode cX3_look 46 = .ok (.if_icmp .ge 15, 3) := by decide +kernel
theorem dX3_look_49 : decode cX3_look 49 = .ok (.aload_n 0, 1) := by decide +kernel
theorem dX3_look_50 : decode cX3_look 50 = .ok (.getfield 9, 3) := by decide +kernel
theorem dX3_look_53 : decode cX3_look 53 = .ok (.aload_n 0, 1) := by decide +kernel
theorem dX3_look_54 : decode cX3_look 54 = .ok (.getfield 19, 3) := by decide +kernel
theorem dX3_look_57 : decode cX3_look 57 = .ok (.iaload, 1) := by decide +kernel
theorem dX3_look_58 : decode cX3_look 58 = .ok (.goto 4, 3) := by decide +kernel
theorem dX3_look_61 : decode cX3_look 61 = .ok (.iconst (-1), 1) := by decide +kernel
theorem dX3_look_62 : decode cX3_look 62 = .ok (.ireturn, 1) := by decide +kernel
set_option maxRecDepth 20000 in
theorem ggX3_accepts_X3_look : GoodIn wsX3_accepts wsX3_look := goodIn_r _ [6, 1, 7, 8, 9, 10, 11] (by decide +kernel) (by decide +kernel)
set_option maxRecDepth 20000 in
theorem gX3_accepts_X3_look : GoodIn wsX3_accepts (wsV RX3 52 RX3 yX3_look wsX3_look) := goodIn_app (goodIn_of _ (by decide +kernel)) ggX3_accepts_X3_look
theorem dX3_accepts_0 : decode cX3_accepts 0 = .ok (.aload_n 0, 1) := by decide +kernel
theorem dX3_accepts_1 : decode cX3_accepts 1 = .ok (.invokevirtual 52, 3) := by decide +kernel
theorem dX3_accepts_4 : decode cX3_accepts 4 = .ok (.iload_n 1, 1) := by decide +kernel
theorem dX3_accepts_5 : decode cX3_accepts 5 = .ok (.if_icmp .eq 5, 3) := by decide +kernel
theorem dX3_accepts_8 : decode cX3_accepts 8 = .ok (.iconst 0, 1) := by decide +kernel
theorem dX3_accepts_9 : decode cX3_accepts 9 = .ok (.ireturn, 1) := by decide +kernel
theorem dX3_accepts_10 : decode cX3_accepts 10 = .ok (.aload_n 0, 1) := by decide +kernel
theorem dX3_accepts_11 : decode cX3_accepts 11 = .ok (.dup, 1) := by decide +kernel
theorem dX3_accepts_12 : decode cX3_accepts 12 = .ok (.getfield 19, 3) := by decide +kernel
theorem dX3_accepts_15 : decode cX3_accepts 15 = .ok (.iconst 1, 1) := by decide +kernel
theorem dX3_accepts_16 : decode cX3_accepts 16 = .ok (.iadd, 1) := by decide +kernel
theorem dX3_accepts_17 : decode cX3_accepts 17 = .ok (.putfield 19, 3) := by decide +kernel
theorem dX3_accepts_20 : decode cX3_accepts 20 = .ok (.iconst 1, 1) := by decide +kernel
theorem dX3_accepts_21 : decode cX3_accepts 21 = .ok (.ireturn, 1) := by decide +kernel
set_option maxRecDepth 20000 in
theorem ggX3_readDigit_X3_look : GoodIn wsX3_readDigit wsX3_look := goodIn_r _ [6, 1, 7, 8, 12, 13, 14] (by decide +kernel) (by decide +kernel)
set_option maxRecDepth 20000 in
theorem gX3_readDigit_X3_look : GoodIn wsX3_readDigit (wsV RX3 52 RX3 yX3_look wsX3_look) := goodIn_app (goodIn_of _ (by decide +kernel)) ggX3_readDigit_X3_look
set_option maxRecDepth 20000 in
theorem ggX3_readDigit_X6_isWithin : GoodIn wsX3_readDigit wsX6_isWithin := goodIn_r _ [11] (by decide +kernel) (by decide +kernel)
set_option maxRecDepth 20000 in
theorem gX3_readDigit_X6_isWithin_n84 : GoodIn wsX3_readDigit (wsX6_isWithin) := ggX3_readDigit_X6_isWithin
theorem dX3_readDigit_0 : decode cX3_readDigit 0 = .ok (.aload_n 0, 1) := by decide +kernel
theorem dX3_readDigit_1 : decode cX3_readDigit 1 = .ok (.invokevirtual 52, 3) := by decide +kernel
theorem dX3_readDigit_4 : decode cX3_readDigit 4 = .ok (.bipush 48, 2) := by decide +kernel
theorem dX3_readDigit_6 : decode cX3_readDigit 6 = .ok (.isub, 1) := by decide +kernel
theorem dX3_readDigit_7 : decode cX3_readDigit 7 = .ok (.istore_n 3, 1) := by decide +kernel
theorem dX3_readDigit_8 : decode cX3_readDigit 8 = .ok (.iload_n 3, 1) := by decide +kernel
theorem dX3_readDigit_9 : decode cX3_readDigit 9 = .ok (.iload_n 1, 1) := by decide +kernel
theorem dX3_readDigit_10 : decode cX3_readDigit 10 = .ok (.iload_n 2, 1) := by decide +kernel
theorem dX3_readDigit_11 : decode cX3_readDigit 11 = .ok (.invokestatic 84, 3) := by decide +kernel
theorem dX3_readDigit_14 : decode cX3_readDigit 14 = .ok (.ifCond .ne 5, 3) := by decide +kernel
theorem dX3_readDigit_17 : decode cX3_readDigit 17 = .ok (.iconst (-1), 1) := by decide +kernel
theorem dX3_readDigit_18 : decode cX3_readDigit 18 = .ok (.ireturn, 1) := by decide +kernel
theorem dX3_readDigit_19 : decode cX3_readDigit 19 = .ok (.aload_n 0, 1) := by decide +kernel
theorem dX3_readDigit_20 : decode cX3_readDigit 20 = .ok (.dup, 1) := by decide +kernel
theorem dX3_readDigit_21 : decode cX3_readDigit 21 = .ok (.getfield 19, 3) := by decide +kernel
theorem dX3_readDigit_24 : decode cX3_readDigit 24 = .ok (.iconst 1, 1) := by decide +kernel
theorem dX3_readDigit_25 : decode cX3_readDigit 25 = .ok (.iadd, 1) := by decide +kernel
theorem dX3_readDigit_26 : decode cX3_readDigit 26 = .ok (.putfield 19, 3) := by decide +kernel
theorem dX3_readDigit_29 : decode cX3_readDigit 29 = .ok (.iload_n 3, 1) := by decide +kernel
theorem dX3_readDigit_30 : decode cX3_readDigit 30 = .ok (.ireturn, 1) := by decide +kernel
theorem dX4_init_0 : decode cX4_init 0 = .ok (.aload_n 0, 1) := by decide +kernel
theorem dX4_init_1 : decode cX4_init 1 = .ok (.invokespecial 3, 3) := by decide +kernel
theorem dX4_init_4 : decode cX4_init 4 = .ok (.aload_n 0, 1) := by decide +kernel
theorem dX4_init_5 : decode cX4_init 5 = .ok (.iconst 0, 1) := by decide +kernel
theorem dX4_init_6 : decode cX4_init 6 = .ok (.putfield 9, 3) := by decide +kernel
theorem dX4_init_9 : decode cX4_init 9 = .ok (.aload_n 0, 1) := by decide +kernel
theorem dX4_init_10 : decode cX4_init 10 = .ok (.iconst 0, 1) := by decide +kernel
theorem dX4_init_11 : decode cX4_init 11 = .ok (.putfield 15, 3) := by decide +kernel
theorem dX4_init_14 : decode cX4_init 14 = .ok (.aload_n 0, 1) := by decide +kernel
theorem dX4_init_15 : decode cX4_init 15 = .ok (.iconst 0, 1) := by decide +kernel
theorem dX4_init_16 : decode cX4_init 16 = .ok (.putfield 19, 3) := by decide +kernel
theorem dX4_init_19 : decode cX4_init 19 = .ok (.aload_n 0, 1) := by decide +kernel
theorem dX4_init_20 : decode cX4_init 20 = .ok (.bipush 24, 2) := by decide +kernel
theorem dX4_init_22 : decode cX4_init 22 = .ok (.newarray .long, 2) := by decide +kernel
theorem dX4_init_24 : decode cX4_init 24 = .ok (.putfield 22, 3) := by decide +kernel
theorem dX4_init_27 : decode cX4_init 27 = .ok (.return_, 1) := by decide +kernel
theorem dX4_begin_0 : decode cX4_begin 0 = .ok (.aload_n 0, 1) := by decide +kernel
theorem dX4_begin_1 : decode cX4_begin 1 = .ok (.iconst 1, 1) := by decide +kernel
theorem dX4_begin_2 : decode cX4_begin 2 = .ok (.putfield 9, 3) := by decide +kernel
theorem dX4_begin_5 : decode cX4_begin 5 = .ok (.aload_n 0, 1) := by decide +kernel
theorem dX4_begin_6 : decode cX4_begin 6 = .ok (.iload_n 1, 1) := by decide +kernel
theorem dX4_begin_7 : decode cX4_begin 7 = .ok (.putfield 15, 3) := by decide +kernel
theorem dX4_begin_10 : decode cX4_begin 10 = .ok (.aload_n 0, 1) := by decide +kernel
theorem dX4_begin_11 : decode cX4_begin 11 = .ok (.iload_n 2, 1) := by decide +kernel
theorem dX4_begin_12 : decode cX4_begin 12 = .ok (.putfield 19, 3) := by decide +kernel
theorem dX4_begin_15 : decode cX4_begin 15 = .ok (.iconst 0, 1) := by decide +kernel
theorem dX4_begin_16 : decode cX4_begin 16 = .ok (.istore_n 3, 1) := by decide +kernel
theorem dX4_begin_17 : decode cX4_begin 17 = .ok (.iload_n 3, 1) := by decide +kernel
theorem dX4_begin_18 : decode cX4_begin 18 = .ok (.bipush 24, 2) := by decide +kernel
theorem dX4_begin_20 : decode cX4_begin 20 = .ok (.if_icmp .ge 16, 3) := by decide +kernel
theorem dX4_begin_23 : decode cX4_begin 23 = .ok (.aload_n 0, 1) := by decide +kernel
theorem dX4_begin_24 : decode cX4_begin 24 = .ok (.getfield 22, 3) := by decide +kernel
theorem dX4_begin_27 : decode cX4_begin 27 = .ok (.iload_n 3, 1) := by decide +kernel
theorem dX4_begin_28 : decode cX4_begin 28 = .ok (.lconst 0, 1) := by decide +kernel
theorem dX4_begin_29 : decode cX4_begin 29 = .ok (.lastore, 1) := by decide +kernel
theorem dX4_begin_30 : decode cX4_begin 30 = .ok (.iinc 3 1, 3) := by decide +kernel
theorem dX4_begin_33 : decode cX4_begin 33 = .ok (.goto (-16), 3) := by decide +kernel
theorem dX4_begin_36 : decode cX4_begin 36 = .ok (.return_, 1) := by decide +kernel
theorem dX4_hasItems_0 : decode cX4_hasItems 0 = .ok (.iload_n 2, 1) := by decide +kernel
theorem dX4_hasItems_1 : decode cX4_hasItems 1 = .ok (.ifCond .lt 29, 3) := by decide +kernel
theorem dX4_hasItems_4 : decode cX4_hasItems 4 = .ok (.iload_n 2, 1) := by decide +kernel
theorem dX4_hasItems_5 : decode cX4_hasItems 5 = .ok (.aload_n 0, 1) := by decide +kernel
theorem dX4_hasItems_6 : decode cX4_hasItems 6 = .ok (.getfield 19, 3) := by decide +kernel
theorem dX4_hasItems_9 : decode cX4_hasItems 9 = .ok (.if_icmp .gt 21, 3) := by decide +kernel
theorem dX4_hasItems_12 : decode cX4_hasItems 12 = .ok (.iload_n 1, 1) := by decide +kernel
theorem dX4_hasItems_13 : decode cX4_hasItems 13 = .ok (.ifCond .lt 17, 3) := by decide +kernel
theorem dX4_hasItems_16 : decode cX4_hasItems 16 = .ok (.iload_n 1, 1) := by decide +kernel
theorem dX4_hasItems_17 : decode cX4_hasItems 17 = .ok (.aload_n 0, 1) := by decide +kernel
theorem dX4_hasItems_18 : decode cX4_hasItems 18 = .ok (.getfield 19, 3) := by decide +kernel
theorem dX4_hasItems_21 : decode cX4_hasItems 21 = .ok (.iload_n 2, 1) := by decide +kernel
theorem dX4_hasItems_22 : decode cX4_hasItems 22 = .ok (.isub, 1) := by decide +kernel
theorem dX4_hasItems_23 : decode cX4_hasItems 23 = .ok (.if_icmp .gt 7, 3) := by decide +kernel
theorem dX4_hasItems_26 : decode cX4_hasItems 26 = .ok (.iconst 1, 1) := by decide +kernel
theorem dX4_hasItems_27 : decode cX4_hasItems 27 = .ok (.goto 4, 3) := by decide +kernel
theorem dX4_hasItems_30 : decode cX4_hasItems 30 = .ok (.iconst 0, 1) := by decide +kernel
theorem dX4_hasItems_31 : decode cX4_hasItems 31 = .ok (.ireturn, 1) := by decide +kernel
set_option maxRecDepth 20000 in
theorem ggX4_refusal_X4_hasItems : GoodIn wsX4_refusal wsX4_hasItems := goodIn_r _ [7, 8, 9, 10, 11, 12] (by decide +kernel) (by decide +kernel)
set_option maxRecDepth 20000 in
theorem gX4_refusal_X4_hasItems : GoodIn wsX4_refusal (wsV RX4 26 RX4 yX4_hasItems wsX4_hasItems) := goodIn_app (goodIn_of _ (by decide +kernel)) ggX4_refusal_X4_hasItems
theorem dX4_refusal_0 : decode cX4_refusal 0 = .ok (.aload_n 0, 1) := by decide +kernel
theorem dX4_refusal_1 : decode cX4_refusal 1 = .ok (.getfield 9, 3) := by decide +kernel
theorem dX4_refusal_4 : decode cX4_refusal 4 = .ok (.ifCond .ne 6, 3) := by decide +kernel
theorem dX4_refusal_7 : decode cX4_refusal 7 = .ok (.bipush (-11), 2) := by decide +kernel
theorem dX4_refusal_9 : decode cX4_refusal 9 = .ok (.ireturn, 1) := by decide +kernel
theorem dX4_refusal_10 : decode cX4_refusal 10 = .ok (.aload_n 0, 1) := by decide +kernel
theorem dX4_refusal_11 : decode cX4_refusal 11 = .ok (.getfield 15, 3) := by decide +kernel
theorem dX4_refusal_14 : decode cX4_refusal 14 = .ok (.iload_n 1, 1) := by decide +kernel
theorem dX4_refusal_15 : decode cX4_refusal 15 = .ok (.if_icmp .eq 6, 3) := by decide +kernel
theorem dX4_refusal_18 : decode cX4_refusal 18 = .ok (.bipush (-12), 2) := by decide +kernel
theorem dX4_refusal_20 : decode cX4_refusal 20 = .ok (.ireturn, 1) := by decide +kernel
theorem dX4_refusal_21 : decode cX4_refusal 21 = .ok (.aload_n 0, 1) := by decide +kernel
theorem dX4_refusal_22 : decode cX4_refusal 22 = .ok (.iload_n 2, 1) := by decide +kernel
theorem dX4_refusal_23 : decode cX4_refusal 23 = .ok (.iload_n 3, 1) := by decide +kernel
theorem dX4_refusal_24 : decode cX4_refusal 24 = .ok (.invokevirtual 26, 3) := by decide +kernel
theorem dX4_refusal_27 : decode cX4_refusal 27 = .ok (.ifCond .eq 7, 3) := by decide +kernel
theorem dX4_refusal_30 : decode cX4_refusal 30 = .ok (.iconst 0, 1) := by decide +kernel
theorem dX4_refusal_31 : decode cX4_refusal 31 = .ok (.goto 5, 3) := by decide +kernel
theorem dX4_refusal_34 : decode cX4_refusal 34 = .ok (.bipush (-13), 2) := by decide +kernel
theorem dX4_refusal_36 : decode cX4_refusal 36 = .ok (.ireturn, 1) := by decide +kernel
theorem dX4_put_0 : decode cX4_put 0 = .ok (.aload_n 0, 1) := by decide +kernel
theorem dX4_put_1 : decode cX4_put 1 = .ok (.getfield 15, 3) := by decide +kernel
theorem dX4_put_4 : decode cX4_put 4 = .ok (.tableswitch 66 0 2 #[28, 41, 54], 28) := by decide +kernel
theorem dX4_put_32 : decode cX4_put 32 = .ok (.aload_n 0, 1) := by decide +kernel
theorem dX4_put_33 : decode cX4_put 33 = .ok (.getfield 22, 3) := by decide +kernel
theorem dX4_put_36 : decode cX4_put 36 = .ok (.iload_n 1, 1) := by decide +kernel
theorem dX4_put_37 : decode cX4_put 37 = .ok (.lload_n 2, 1) := by decide +kernel
theorem dX4_put_38 : decode cX4_put 38 = .ok (.l2i, 1) := by decide +kernel
theorem dX4_put_39 : decode cX4_put 39 = .ok (.i2b, 1) := by decide +kernel
theorem dX4_put_40 : decode cX4_put 40 = .ok (.i2l, 1) := by decide +kernel
theorem dX4_put_41 : decode cX4_put 41 = .ok (.lastore, 1) := by decide +kernel
theorem dX4_put_42 : decode cX4_put 42 = .ok (.goto 35, 3) := by decide +kernel
theorem dX4_put_45 : decode cX4_put 45 = .ok (.aload_n 0, 1) := by decide +kernel
theorem dX4_put_46 : decode cX4_put 46 = .ok (.getfield 22, 3) := by decide +kernel
theorem dX4_put_49 : decode cX4_put 49 = .ok (.iload_n 1, 1) := by decide +kernel
theorem dX4_put_50 : decode cX4_put 50 = .ok (.lload_n 2, 1) := by decide +kernel
theorem dX4_put_51 : decode cX4_put 51 = .ok (.l2i, 1) := by decide +kernel
theorem dX4_put_52 : decode cX4_put 52 = .ok (.i2s, 1) := by decide +kernel
theorem dX4_put_53 : decode cX4_put 53 = .ok (.i2l, 1) := by decide +kernel
theorem dX4_put_54 : decode cX4_put 54 = .ok (.lastore, 1) := by decide +kernel
theorem dX4_put_55 : decode cX4_put 55 = .ok (.goto 22, 3) := by decide +kernel
theorem dX4_put_58 : decode cX4_put 58 = .ok (.aload_n 0, 1) := by decide +kernel
theorem dX4_put_59 : decode cX4_put 59 = .ok (.getfield 22, 3) := by decide +kernel
theorem dX4_put_62 : decode cX4_put 62 = .ok (.iload_n 1, 1) := by decide +kernel
theorem dX4_put_63 : decode cX4_put 63 = .ok (.lload_n 2, 1) := by decide +kernel
theorem dX4_put_64 : decode cX4_put 64 = .ok (.l2i, 1) := by decide +kernel
theorem dX4_put_65 : decode cX4_put 65 = .ok (.i2l, 1) := by decide +kernel
theorem dX4_put_66 : decode cX4_put 66 = .ok (.lastore, 1) := by decide +kernel
theorem dX4_put_67 : decode cX4_put 67 = .ok (.goto 10, 3) := by decide +kernel
theorem dX4_put_70 : decode cX4_put 70 = .ok (.aload_n 0, 1) := by decide +kernel
theorem dX4_put_71 : decode cX4_put 71 = .ok (.getfield 22, 3) := by decide +kernel
theorem dX4_put_74 : decode cX4_put 74 = .ok (.iload_n 1, 1) := by decide +kernel
theorem dX4_put_75 : decode cX4_put 75 = .ok (.lload_n 2, 1) := by decide +kernel
theorem dX4_put_76 : decode cX4_put 76 = .ok (.lastore, 1) := by decide +kernel
theorem dX4_put_77 : decode cX4_put 77 = .ok (.return_, 1) := by decide +kernel
theorem dX4_fieldAt_0 : decode cX4_fieldAt 0 = .ok (.aload_n 0, 1) := by decide +kernel
theorem dX4_fieldAt_1 : decode cX4_fieldAt 1 = .ok (.getfield 22, 3) := by decide +kernel
theorem dX4_fieldAt_4 : decode cX4_fieldAt 4 = .ok (.iload_n 1, 1) := by decide +kernel
theorem dX4_fieldAt_5 : decode cX4_fieldAt 5 = .ok (.laload, 1) := by decide +kernel
theorem dX4_fieldAt_6 : decode cX4_fieldAt 6 = .ok (.lstore_n 2, 1) := by decide +kernel
theorem dX4_fieldAt_7 : decode cX4_fieldAt 7 = .ok (.lload_n 2, 1) := by decide +kernel
theorem dX4_fieldAt_8 : decode cX4_fieldAt 8 = .ok (.lconst 0, 1) := by decide +kernel
theorem dX4_fieldAt_9 : decode cX4_fieldAt 9 = .ok (.lcmp, 1) := by decide +kernel
theorem dX4_fieldAt_10 : decode cX4_fieldAt 10 = .ok (.ifCond .lt 16, 3) := by decide +kernel
theorem dX4_fieldAt_13 : decode cX4_fieldAt 13 = .ok (.lload_n 2, 1) := by decide +kernel
theorem dX4_fieldAt_14 : decode cX4_fieldAt 14 = .ok (.ldc2_w 30, 3) := by decide +kernel
theorem dX4_fieldAt_17 : decode cX4_fieldAt 17 = .ok (.lcmp, 1) := by decide +kernel
theorem dX4_fieldAt_18 : decode cX4_fieldAt 18 = .ok (.ifCond .gt 8, 3) := by decide +kernel
theorem dX4_fieldAt_21 : decode cX4_fieldAt 21 = .ok (.lload_n 2, 1) := by decide +kernel
theorem dX4_fieldAt_22 : decode cX4_fieldAt 22 = .ok (.l2i, 1) := by decide +kernel
theorem dX4_fieldAt_23 : decode cX4_fieldAt 23 = .ok (.goto 4, 3) := by decide +kernel
theorem dX4_fieldAt_26 : decode cX4_fieldAt 26 = .ok (.iconst (-1), 1) := by decide +kernel
theorem dX4_fieldAt_27 : decode cX4_fieldAt 27 = .ok (.ireturn, 1) := by decide +kernel
set_option maxRecDepth 20000 in
theorem ggX5_init_X0_init : GoodIn wsX5_init wsX0_init := goodIn_r _ [17, 18, 2, 3, 19, 20, 28, 29] (by decide +kernel) (by decide +kernel)
set_option maxRecDepth 20000 in
theorem gX5_init_X0_init_n35 : GoodIn wsX5_init (wsX0_init) := ggX5_init_X0_init
theorem dX5_init_0 : decode cX5_init 0 = .ok (.aload_n 0, 1) := by decide +kernel
theorem dX5_init_1 : decode cX5_init 1 = .ok (.invokespecial 3, 3) := by decide +kernel
theorem dX5_init_4 : decode cX5_init 4 = .ok (.aload_n 0, 1) := by decide +kernel
theorem dX5_init_5 : decode cX5_init 5 = .ok (.bipush 7, 2) := by decide +kernel
theorem dX5_init_7 : decode cX5_init 7 = .ok (.newarray .int, 2) := by decide +kernel
theorem dX5_init_9 : decode cX5_init 9 = .ok (.putfield 9, 3) := by decide +kernel
theorem dX5_init_12 : decode cX5_init 12 = .ok (.aload_n 0, 1) := by decide +kernel
theorem dX5_init_13 : decode cX5_init 13 = .ok (.bipush 7, 2) := by decide +kernel
theorem dX5_init_15 : decode cX5_init 15 = .ok (.newarray .int, 2) := by decide +kernel
theorem dX5_init_17 : decode cX5_init 17 = .ok (.putfield 15, 3) := by decide +kernel
theorem dX5_init_20 : decode cX5_init 20 = .ok (.aload_n 0, 1) := by decide +kernel
theorem dX5_init_21 : decode cX5_init 21 = .ok (.bipush 10, 2) := by decide +kernel
theorem dX5_init_23 : decode cX5_init 23 = .ok (.putfield 18, 3) := by decide +kernel
theorem dX5_init_26 : decode cX5_init 26 = .ok (.aload_n 0, 1) := by decide +kernel
theorem dX5_init_27 : decode cX5_init 27 = .ok (.bipush 7, 2) := by decide +kernel
theorem dX5_init_29 : decode cX5_init 29 = .ok (.newarray .long, 2) := by decide +kernel
theorem dX5_init_31 : decode cX5_init 31 = .ok (.putfield 22, 3) := by decide +kernel
theorem dX5_init_34 : decode cX5_init 34 = .ok (.aload_n 0, 1) := by decide +kernel
theorem dX5_init_35 : decode cX5_init 35 = .ok (.bipush 7, 2) := by decide +kernel
theorem dX5_init_37 : decode cX5_init 37 = .ok (.newarray .long, 2) := by decide +kernel
theorem dX5_init_39 : decode cX5_init 39 = .ok (.putfield 26, 3) := by decide +kernel
theorem dX5_init_42 : decode cX5_init 42 = .ok (.aload_n 0, 1) := by decide +kernel
theorem dX5_init_43 : decode cX5_init 43 = .ok (.lconst 1, 1) := by decide +kernel
theorem dX5_init_44 : decode cX5_init 44 = .ok (.putfield 29, 3) := by decide +kernel
theorem dX5_init_47 : decode cX5_init 47 = .ok (.aload_n 0, 1) := by decide +kernel
theorem dX5_init_48 : decode cX5_init 48 = .ok (.new 33, 3) := by decide +kernel
theorem dX5_init_51 : decode cX5_init 51 = .ok (.dup, 1) := by decide +kernel
theorem dX5_init_52 : decode cX5_init 52 = .ok (.invokespecial 35, 3) := by decide +kernel
theorem dX5_init_55 : decode cX5_init 55 = .ok (.putfield 36, 3) := by decide +kernel
theorem dX5_init_58 : decode cX5_init 58 = .ok (.return_, 1) := by decide +kernel
set_option maxRecDepth 20000 in
theorem ggX5_learn_X1_onFrom : GoodIn wsX5_learn wsX1_onFrom := goodIn_r _ [8, 9, 10, 11, 12, 13, 14, 15, 16, 17, 18, 19, 20, 7, 21, 22, 23, 24, 41, 42, 43, 44, 45, 46, 47, 48, 49, 50, 51, 52, 53] (by decide +kernel) (by decide +kernel)
set_option maxRecDepth 20000 in
theorem gX5_learn_X1_onFrom : GoodIn wsX5_learn (wsV RX5 40 RX1 yX1_onFrom wsX1_onFrom) := goodIn_app (goodIn_of _ (by decide +kernel)) ggX5_learn_X1_onFrom
set_option maxRecDepth 20000 in
theorem ggX5_learn_X1_backFrom : GoodIn wsX5_learn wsX1_backFrom := goodIn_r _ [28, 9, 29, 30, 31, 14, 32, 16, 17, 18, 33, 5, 6, 7, 8, 10, 11, 12, 13, 15, 19, 20, 21, 22, 23, 24, 41, 42, 43, 44, 45, 46, 47, 48, 49, 50, 51, 52, 53] (by decide +kernel) (by decide +kernel)
set_option maxRecDepth 20000 in
theorem gX5_learn_X1_backFrom : GoodIn wsX5_learn (wsV RX5 46 RX1 yX1_backFrom wsX1_backFrom) := goodIn_app (goodIn_of _ (by decide +kernel)) ggX5_learn_X1_backFrom
theorem dX5_learn_0 : decode cX5_learn 0 = .ok (.aload_n 0, 1) := by decide +kernel
theorem dX5_learn_1 : decode cX5_learn 1 = .ok (.bipush 10, 2) := by decide +kernel
theorem dX5_learn_3 : decode cX5_learn 3 = .ok (.putfield 18, 3) := by decide +kernel
theorem dX5_learn_6 : decode cX5_learn 6 = .ok (.iconst 0, 1) := by decide +kernel
theorem dX5_learn_7 : decode cX5_learn 7 = .ok (.istore_n 2, 1) := by decide +kernel
theorem dX5_learn_8 : decode cX5_learn 8 = .ok (.iload_n 2, 1) := by decide +kernel
theorem dX5_learn_9 : decode cX5_learn 9 = .ok (.bipush 7, 2) := by decide +kernel
theorem dX5_learn_11 : decode cX5_learn 11 = .ok (.if_icmp .ge 31, 3) := by decide +kernel
theorem dX5_learn_14 : decode cX5_learn 14 = .ok (.aload_n 0, 1) := by decide +kernel
theorem dX5_learn_15 : decode cX5_learn 15 = .ok (.getfield 9, 3) := by decide +kernel
theorem dX5_learn_18 : decode cX5_learn 18 = .ok (.iload_n 2, 1) := by decide +kernel
theorem dX5_learn_19 : decode cX5_learn 19 = .ok (.aload_n 1, 1) := by decide +kernel
theorem dX5_learn_20 : decode cX5_learn 20 = .ok (.iload_n 2, 1) := by decide +kernel
theorem dX5_learn_21 : decode cX5_learn 21 = .ok (.invokevirtual 40, 3) := by decide +kernel
theorem dX5_learn_24 : decode cX5_learn 24 = .ok (.iastore, 1) := by decide +kernel
theorem dX5_learn_25 : decode cX5_learn 25 = .ok (.aload_n 0, 1) := by decide +kernel
theorem dX5_learn_26 : decode cX5_learn 26 = .ok (.getfield 15, 3) := by decide +kernel
theorem dX5_learn_29 : decode cX5_learn 29 = .ok (.iload_n 2, 1) := by decide +kernel
theorem dX5_learn_30 : decode cX5_learn 30 = .ok (.aload_n 1, 1) := by decide +kernel
theorem dX5_learn_31 : decode cX5_learn 31 = .ok (.iload_n 2, 1) := by decide +kernel
theorem dX5_learn_32 : decode cX5_learn 32 = .ok (.invokevirtual 46, 3) := by decide +kernel
theorem dX5_learn_35 : decode cX5_learn 35 = .ok (.iastore, 1) := by decide +kernel
theorem dX5_learn_36 : decode cX5_learn 36 = .ok (.iinc 2 1, 3) := by decide +kernel
theorem dX5_learn_39 : decode cX5_learn 39 = .ok (.goto (-31), 3) := by decide +kernel
theorem dX5_learn_42 : decode cX5_learn 42 = .ok (.return_, 1) := by decide +kernel
theorem dX5_fallAsleep_0 : decode cX5_fallAsleep 0 = .ok (.aload_n 0, 1) := by decide +kernel
theorem dX5_fallAsleep_1 : decode cX5_fallAsleep 1 = .ok (.bipush 100, 2) := by decide +kernel
theorem dX5_fallAsleep_3 : decode cX5_fallAsleep 3 = .ok (.putfield 18, 3) := by decide +kernel
theorem dX5_fallAsleep_6 : decode cX5_fallAsleep 6 = .ok (.iconst 0, 1) := by decide +kernel
theorem dX5_fallAsleep_7 : decode cX5_fallAsleep 7 = .ok (.istore_n 2, 1) := by decide +kernel
theorem dX5_fallAsleep_8 : decode cX5_fallAsleep 8 = .ok (.iload_n 2, 1) := by decide +kernel
theorem dX5_fallAsleep_9 : decode cX5_fallAsleep 9 = .ok (.bipush 7, 2) := by decide +kernel
theorem dX5_fallAsleep_11 : decode cX5_fallAsleep 11 = .ok (.if_icmp .ge 35, 3) := by decide +kernel
theorem dX5_fallAsleep_14 : decode cX5_fallAsleep 14 = .ok (.aload_n 0, 1) := by decide +kernel
theorem dX5_fallAsleep_15 : decode cX5_fallAsleep 15 = .ok (.getfield 9, 3) := by decide +kernel
theorem dX5_fallAsleep_18 : decode cX5_fallAsleep 18 = .ok (.iload_n 2, 1) := by decide +kernel
theorem dX5_fallAsleep_19 : decode cX5_fallAsleep 19 = .ok (.dup2, 1) := by decide +kernel
theorem dX5_fallAsleep_20 : decode cX5_fallAsleep 20 = .ok (.iaload, 1) := by decide +kernel
theorem dX5_fallAsleep_21 : decode cX5_fallAsleep 21 = .ok (.bipush 10, 2) := by decide +kernel
theorem dX5_fallAsleep_23 : decode cX5_fallAsleep 23 = .ok (.iload_n 1, 1) := by decide +kernel
theorem dX5_fallAsleep_24 : decode cX5_fallAsleep 24 = .ok (.isub, 1) := by decide +kernel
theorem dX5_fallAsleep_25 : decode cX5_fallAsleep 25 = .ok (.imul, 1) := by decide +kernel
theorem dX5_fallAsleep_26 : decode cX5_fallAsleep 26 = .ok (.iastore, 1) := by decide +kernel
theorem dX5_fallAsleep_27 : decode cX5_fallAsleep 27 = .ok (.aload_n 0, 1) := by decide +kernel
theorem dX5_fallAsleep_28 : decode cX5_fallAsleep 28 = .ok (.getfield 15, 3) := by decide +kernel
theorem dX5_fallAsleep_31 : decode cX5_fallAsleep 31 = .ok (.iload_n 2, 1) := by decide +kernel
theorem dX5_fallAsleep_32 : decode cX5_fallAsleep 32 = .ok (.dup2, 1) := by decide +kernel
theorem dX5_fallAsleep_33 : decode cX5_fallAsleep 33 = .ok (.iaload, 1) := by decide +kernel
theorem dX5_fallAsleep_34 : decode cX5_fallAsleep 34 = .ok (.bipush 10, 2) := by decide +kernel
theorem dX5_fallAsleep_36 : decode cX5_fallAsleep 36 = .ok (.iload_n 1, 1) := by decide +kernel
theorem dX5_fallAsleep_37 : decode cX5_fallAsleep 37 = .ok (.isub, 1) := by decide +kernel
theorem dX5_fallAsleep_38 : decode cX5_fallAsleep 38 = .ok (.imul, 1) := by decide +kernel
theorem dX5_fallAsleep_39 : decode cX5_fallAsleep 39 = .ok (.iastore, 1) := by decide +kernel
theorem dX5_fallAsleep_40 : decode cX5_fallAsleep 40 = .ok (.iinc 2 1, 3) := by decide +kernel
theorem dX5_fallAsleep_43 : decode cX5_fallAsleep 43 = .ok (.goto (-35), 3) := by decide +kernel
theorem dX5_fallAsleep_46 : decode cX5_fallAsleep 46 = .ok (.return_, 1) := by decide +kernel
set_option maxRecDepth 20000 in
theorem ggX5_weight_X6_isField : GoodIn wsX5_weight wsX6_isField := goodIn_r _ [6, 7, 8, 5, 9] (by decide +kernel) (by decide +kernel)
set_option maxRecDepth 20000 in
theorem gX5_weight_X6_isField_n49 : GoodIn wsX5_weight (wsX6_isField) := ggX5_weight_X6_isField
theorem dX5_weight_0 : decode cX5_weight 0 = .ok (.iload_n 1, 1) := by decide +kernel
theorem dX5_weight_1 : decode cX5_weight 1 = .ok (.invokestatic 49, 3) := by decide +kernel
theorem dX5_weight_4 : decode cX5_weight 4 = .ok (.ifCond .eq 10, 3) := by decide +kernel
theorem dX5_weight_7 : decode cX5_weight 7 = .ok (.iload_n 2, 1) := by decide +kernel
theorem dX5_weight_8 : decode cX5_weight 8 = .ok (.invokestatic 49, 3) := by decide +kernel
theorem dX5_weight_11 : decode cX5_weight 11 = .ok (.ifCond .ne 5, 3) := by decide +kernel
theorem dX5_weight_14 : decode cX5_weight 14 = .ok (.iconst 0, 1) := by decide +kernel
theorem dX5_weight_15 : decode cX5_weight 15 = .ok (.ireturn, 1) := by decide +kernel
theorem dX5_weight_16 : decode cX5_weight 16 = .ok (.iload_n 2, 1) := by decide +kernel
theorem dX5_weight_17 : decode cX5_weight 17 = .ok (.iload_n 1, 1) := by decide +kernel
theorem dX5_weight_18 : decode cX5_weight 18 = .ok (.if_icmp .ne 22, 3) := by decide +kernel
theorem dX5_weight_21 : decode cX5_weight 21 = .ok (.aload_n 0, 1) := by decide +kernel
theorem dX5_weight_22 : decode cX5_weight 22 = .ok (.getfield 18, 3) := by decide +kernel
theorem dX5_weight_25 : decode cX5_weight 25 = .ok (.aload_n 0, 1) := by decide +kernel
theorem dX5_weight_26 : decode cX5_weight 26 = .ok (.getfield 9, 3) := by decide +kernel
theorem dX5_weight_29 : decode cX5_weight 29 = .ok (.iload_n 1, 1) := by decide +kernel
theorem dX5_weight_30 : decode cX5_weight 30 = .ok (.iaload, 1) := by decide +kernel
theorem dX5_weight_31 : decode cX5_weight 31 = .ok (.isub, 1) := by decide +kernel
theorem dX5_weight_32 : decode cX5_weight 32 = .ok (.aload_n 0, 1) := by decide +kernel
theorem dX5_weight_33 : decode cX5_weight 33 = .ok (.getfield 15, 3) := by decide +kernel
theorem dX5_weight_36 : decode cX5_weight 36 = .ok (.iload_n 1, 1) := by decide +kernel
theorem dX5_weight_37 : decode cX5_weight 37 = .ok (.iaload, 1) := by decide +kernel
theorem dX5_weight_38 : decode cX5_weight 38 = .ok (.isub, 1) := by decide +kernel
theorem dX5_weight_39 : decode cX5_weight 39 = .ok (.ireturn, 1) := by decide +kernel
theorem dX5_weight_40 : decode cX5_weight 40 = .ok (.iload_n 2, 1) := by decide +kernel
theorem dX5_weight_41 : decode cX5_weight 41 = .ok (.iload_n 1, 1) := by decide +kernel
theorem dX5_weight_42 : decode cX5_weight 42 = .ok (.iconst 1, 1) := by decide +kernel
theorem dX5_weight_43 : decode cX5_weight 43 = .ok (.iadd, 1) := by decide +kernel
theorem dX5_weight_44 : decode cX5_weight 44 = .ok (.if_icmp .ne 10, 3) := by decide +kernel
theorem dX5_weight_47 : decode cX5_weight 47 = .ok (.aload_n 0, 1) := by decide +kernel
theorem dX5_weight_48 : decode cX5_weight 48 = .ok (.getfield 9, 3) := by decide +kernel
theorem dX5_weight_51 : decode cX5_weight 51 = .ok (.iload_n 1, 1) := by decide +kernel
theorem dX5_weight_52 : decode cX5_weight 52 = .ok (.iaload, 1) := by decide +kernel
theorem dX5_weight_53 : decode cX5_weight 53 = .ok (.ireturn, 1) := by decide +kernel
theorem dX5_weight_54 : decode cX5_weight 54 = .ok (.iload_n 2, 1) := by decide +kernel
theorem dX5_weight_55 : decode cX5_weight 55 = .ok (.iload_n 1, 1) := by decide +kernel
theorem dX5_weight_56 : decode cX5_weight 56 = .ok (.iconst 1, 1) := by decide +kernel
theorem dX5_weight_57 : decode cX5_weight 57 = .ok (.isub, 1) := by decide +kernel
theorem dX5_weight_58 : decode cX5_weight 58 = .ok (.if_icmp .ne 12, 3) := by decide +kernel
theorem dX5_weight_61 : decode cX5_weight 61 = .ok (.aload_n 0, 1) := by decide +kernel
theorem dX5_weight_62 : decode cX5_weight 62 = .ok (.getfield 15, 3) := by decide +kernel
theorem dX5_weight_65 : decode cX5_weight 65 = .ok (.iload_n 1, 1) := by decide +kernel
theorem dX5_weight_66 : decode cX5_weight 66 = .ok (.iaload, 1) := by decide +kernel
theorem dX5_weight_67 : decode cX5_weight 67 = .ok (.goto 4, 3) := by decide +kernel
theorem dX5_weight_70 : decode cX5_weight 70 = .ok (.iconst 0, 1) := by decide +kernel
theorem dX5_weight_71 : decode cX5_weight 71 = .ok (.ireturn, 1) := by decide +kernel
set_option maxRecDepth 20000 in
theorem ggX5_spread_X5_spreadOneDay : GoodIn wsX5_spread wsX5_spreadOneDay := goodIn_r _ [8, 9, 1, 10, 11, 12, 13, 14, 15, 16, 17, 18, 7, 19, 2, 20, 21, 22, 23, 24, 25, 28, 29, 30, 31, 32, 33, 34] (by decide +kernel) (by decide +kernel)
set_option maxRecDepth 20000 in
theorem gX5_spread_X5_spreadOneDay : GoodIn wsX5_spread (wsV RX5 53 RX5 yX5_spreadOneDay wsX5_spreadOneDay) := goodIn_app (goodIn_of _ (by decide +kernel)) ggX5_spread_X5_spreadOneDay
set_option maxRecDepth 20000 in
theorem ggX5_spread_X6_power : GoodIn wsX5_spread wsX6_power := goodIn_r _ [27] (by decide +kernel) (by decide +kernel)
set_option maxRecDepth 20000 in
theorem gX5_spread_X6_power_n56 : GoodIn wsX5_spread (wsX6_power) := ggX5_spread_X6_power
theorem dX5_spread_0 : decode cX5_spread 0 = .ok (.iconst 0, 1) := by decide +kernel
theorem dX5_spread_1 : decode cX5_spread 1 = .ok (.istore_n 3, 1) := by decide +kernel
theorem dX5_spread_2 : decode cX5_spread 2 = .ok (.iload_n 3, 1) := by decide +kernel
theorem dX5_spread_3 : decode cX5_spread 3 = .ok (.bipush 7, 2) := by decide +kernel
theorem dX5_spread_5 : decode cX5_spread 5 = .ok (.if_icmp .ge 25, 3) := by decide +kernel
theorem dX5_spread_8 : decode cX5_spread 8 = .ok (.aload_n 0, 1) := by decide +kernel
theorem dX5_spread_9 : decode cX5_spread 9 = .ok (.getfield 22, 3) := by decide +kernel
theorem dX5_spread_12 : decode cX5_spread 12 = .ok (.iload_n 3, 1) := by decide +kernel
theorem dX5_spread_13 : decode cX5_spread 13 = .ok (.iload_n 3, 1) := by decide +kernel
theorem dX5_spread_14 : decode cX5_spread 14 = .ok (.iload_n 1, 1) := by decide +kernel
theorem dX5_spread_15 : decode cX5_spread 15 = .ok (.if_icmp .ne 7, 3) := by decide +kernel
theorem dX5_spread_18 : decode cX5_spread 18 = .ok (.lconst 1, 1) := by decide +kernel
theorem dX5_spread_19 : decode cX5_spread 19 = .ok (.goto 4, 3) := by decide +kernel
theorem dX5_spread_22 : decode cX5_spread 22 = .ok (.lconst 0, 1) := by decide +kernel
theorem dX5_spread_23 : decode cX5_spread 23 = .ok (.lastore, 1) := by decide +kernel
theorem dX5_spread_24 : decode cX5_spread 24 = .ok (.iinc 3 1, 3) := by decide +kernel
theorem dX5_spread_27 : decode cX5_spread 27 = .ok (.goto (-25), 3) := by decide +kernel
theorem dX5_spread_30 : decode cX5_spread 30 = .ok (.iconst 0, 1) := by decide +kernel
theorem dX5_spread_31 : decode cX5_spread 31 = .ok (.istore_n 3, 1) := by decide +kernel
theorem dX5_spread_32 : decode cX5_spread 32 = .ok (.iload_n 3, 1) := by decide +kernel
theorem dX5_spread_33 : decode cX5_spread 33 = .ok (.iload_n 2, 1) := by decide +kernel
theorem dX5_spread_34 : decode cX5_spread 34 = .ok (.if_icmp .ge 13, 3) := by decide +kernel
theorem dX5_spread_37 : decode cX5_spread 37 = .ok (.aload_n 0, 1) := by decide +kernel
theorem dX5_spread_38 : decode cX5_spread 38 = .ok (.invokevirtual 53, 3) := by decide +kernel
theorem dX5_spread_41 : decode cX5_spread 41 = .ok (.iinc 3 1, 3) := by decide +kernel
theorem dX5_spread_44 : decode cX5_spread 44 = .ok (.goto (-12), 3) := by decide +kernel
theorem dX5_spread_47 : decode cX5_spread 47 = .ok (.aload_n 0, 1) := by decide +kernel
theorem dX5_spread_48 : decode cX5_spread 48 = .ok (.aload_n 0, 1) := by decide +kernel
theorem dX5_spread_49 : decode cX5_spread 49 = .ok (.getfield 18, 3) := by decide +kernel
theorem dX5_spread_52 : decode cX5_spread 52 = .ok (.i2l, 1) := by decide +kernel
theorem dX5_spread_53 : decode cX5_spread 53 = .ok (.iload_n 2, 1) := by decide +kernel
theorem dX5_spread_54 : decode cX5_spread 54 = .ok (.invokestatic 56, 3) := by decide +kernel
theorem dX5_spread_57 : decode cX5_spread 57 = .ok (.putfield 29, 3) := by decide +kernel
theorem dX5_spread_60 : decode cX5_spread 60 = .ok (.return_, 1) := by decide +kernel
set_option maxRecDepth 20000 in
theorem ggX5_spreadOneDay_X5_weight : GoodIn wsX5_spreadOneDay wsX5_weight := goodIn_r _ [13, 14, 3, 4, 15, 16, 17, 18, 19, 20, 21, 22, 23, 24, 25, 26, 27] (by decide +kernel) (by decide +kernel)
set_option maxRecDepth 20000 in
theorem gX5_spreadOneDay_X5_weight : GoodIn wsX5_spreadOneDay (wsV RX5 60 RX5 yX5_weight wsX5_weight) := goodIn_app (goodIn_of _ (by decide +kernel)) ggX5_spreadOneDay_X5_weight
theorem dX5_spreadOneDay_0 : decode cX5_spreadOneDay 0 = .ok (.iconst 0, 1) := by decide +kernel
theorem dX5_spreadOneDay_1 : decode cX5_spreadOneDay 1 = .ok (.istore_n 1, 1) := by decide +kernel
theorem dX5_spreadOneDay_2 : decode cX5_spreadOneDay 2 = .ok (.iload_n 1, 1) := by decide +kernel
theorem dX5_spreadOneDay_3 : decode cX5_spreadOneDay 3 = .ok (.bipush 7, 2) := by decide +kernel
theorem dX5_spreadOneDay_5 : decode cX5_spreadOneDay 5 = .ok (.if_icmp .ge 93, 3) := by decide +kernel
theorem dX5_spreadOneDay_8 : decode cX5_spreadOneDay 8 = .ok (.aload_n 0, 1) := by decide +kernel
theorem dX5_spreadOneDay_9 : decode cX5_spreadOneDay 9 = .ok (.getfield 26, 3) := by decide +kernel
theorem dX5_spreadOneDay_12 : decode cX5_spreadOneDay 12 = .ok (.iload_n 1, 1) := by decide +kernel
theorem dX5_spreadOneDay_13 : decode cX5_spreadOneDay 13 = .ok (.aload_n 0, 1) := by decide +kernel
theorem dX5_spreadOneDay_14 : decode cX5_spreadOneDay 14 = .ok (.getfield 22, 3) := by decide +kernel
theorem dX5_spreadOneDay_17 : decode cX5_spreadOneDay 17 = .ok (.iload_n 1, 1) := by decide +kernel
theorem dX5_spreadOneDay_18 : decode cX5_spreadOneDay 18 = .ok (.laload, 1) := by decide +kernel
theorem dX5_spreadOneDay_19 : decode cX5_spreadOneDay 19 = .ok (.aload_n 0, 1) := by decide +kernel
theorem dX5_spreadOneDay_20 : decode cX5_spreadOneDay 20 = .ok (.iload_n 1, 1) := by decide +kernel
theorem dX5_spreadOneDay_21 : decode cX5_spreadOneDay 21 = .ok (.iload_n 1, 1) := by decide +kernel
theorem dX5_spreadOneDay_22 : decode cX5_spreadOneDay 22 = .ok (.invokevirtual 60, 3) := by decide +kernel
theorem dX5_spreadOneDay_25 : decode cX5_spreadOneDay 25 = .ok (.i2l, 1) := by decide +kernel
theorem dX5_spreadOneDay_26 : decode cX5_spreadOneDay 26 = .ok (.lmul, 1) := by decide +kernel
theorem dX5_spreadOneDay_27 : decode cX5_spreadOneDay 27 = .ok (.lastore, 1) := by decide +kernel
theorem dX5_spreadOneDay_28 : decode cX5_spreadOneDay 28 = .ok (.iload_n 1, 1) := by decide +kernel
theorem dX5_spreadOneDay_29 : decode cX5_spreadOneDay 29 = .ok (.ifCond .le 30, 3) := by decide +kernel
theorem dX5_spreadOneDay_32 : decode cX5_spreadOneDay 32 = .ok (.aload_n 0, 1) := by decide +kernel
theorem dX5_spreadOneDay_33 : decode cX5_spreadOneDay 33 = .ok (.getfield 26, 3) := by decide +kernel
theorem dX5_spreadOneDay_36 : decode cX5_spreadOneDay 36 = .ok (.iload_n 1, 1) := by decide +kernel
theorem dX5_spreadOneDay_37 : decode cX5_spreadOneDay 37 = .ok (.dup2, 1) := by decide +kernel
theorem dX5_spreadOneDay_38 : decode cX5_spreadOneDay 38 = .ok (.laload, 1) := by decide +kernel
theorem dX5_spreadOneDay_39 : decode cX5_spreadOneDay 39 = .ok (.aload_n 0, 1) := by decide +kernel
theorem dX5_spreadOneDay_40 : decode cX5_spreadOneDay 40 = .ok (.getfield 22, 3) := by decide +kernel
theorem dX5_spreadOneDay_43 : decode cX5_spreadOneDay 43 = .ok (.iload_n 1, 1) := by decide +kernel
theorem dX5_spreadOneDay_44 : decode cX5_spreadOneDay 44 = .ok (.iconst 1, 1) := by decide +kernel
theorem dX5_spreadOneDay_45 : decode cX5_spreadOneDay 45 = .ok (.isub, 1) := by decide +kernel
theorem dX5_spreadOneDay_46 : decode cX5_spreadOneDay 46 = .ok (.laload, 1) := by decide +kernel
theorem dX5_spreadOneDay_47 : decode cX5_spreadOneDay 47 = .ok (.aload_n 0, 1) := by decide +kernel
theorem dX5_spreadOneDay_48 : decode cX5_spreadOneDay 48 = .ok (.getfield 9, 3) := by decide +kernel
theorem dX5_spreadOneDay_51 : decode cX5_spreadOneDay 51 = .ok (.iload_n 1, 1) := by decide +kernel
theorem dX5_spreadOneDay_52 : decode cX5_spreadOneDay 52 = .ok (.iconst 1, 1) := by decide +kernel
theorem dX5_spreadOneDay_53 : decode cX5_spreadOneDay 53 = .ok (.isub, 1) := by decide +kernel
theorem dX5_spreadOneDay_54 : decode cX5_spreadOneDay 54 = .ok (.iaload, 1) := by decide +kernel
theorem dX5_spreadOneDay_55 : decode cX5_spreadOneDay 55 = .ok (.i2l, 1) := by decide +kernel
theorem dX5_spreadOneDay_56 : decode cX5_spreadOneDay 56 = .ok (.lmul, 1) := by decide +kernel
theorem dX5_spreadOneDay_57 : decode cX5_spreadOneDay 57 = .ok (.ladd, 1) := by decide +kernel
theorem dX5_spreadOneDay_58 : decode cX5_spreadOneDay 58 = .ok (.lastore, 1) := by decide +kernel
theorem dX5_spreadOneDay_59 : decode cX5_spreadOneDay 59 = .ok (.iload_n 1, 1) := by decide +kernel
theorem dX5_spreadOneDay_60 : decode cX5_spreadOneDay 60 = .ok (.bipush 6, 2) := by decide +kernel
theorem dX5_spreadOneDay_62 : decode cX5_spreadOneDay 62 = .ok (.if_icmp .ge 30, 3) := by decide +kernel
theorem dX5_spreadOneDay_65 : decode cX5_spreadOneDay 65 = .ok (.aload_n 0, 1) := by decide +kernel
theorem dX5_spreadOneDay_66 : decode cX5_spreadOneDay 66 = .ok (.getfield 26, 3) := by decide +kernel
theorem dX5_spreadOneDay_69 : decode cX5_spreadOneDay 69 = .ok (.iload_n 1, 1) := by decide +kernel
theorem dX5_spreadOneDay_70 : decode cX5_spreadOneDay 70 = .ok (.dup2, 1) := by decide +kernel
theorem dX5_spreadOneDay_71 : decode cX5_spreadOneDay 71 = .ok (.laload, 1) := by decide +kernel
theorem dX5_spreadOneDay_72 : decode cX5_spreadOneDay 72 = .ok (.aload_n 0, 1) := by decide +kernel
theorem dX5_spreadOneDay_73 : decode cX5_spreadOneDay 73 = .ok (.getfield 22, 3) := by decide +kernel
theorem dX5_spreadOneDay_76 : decode cX5_spreadOneDay 76 = .ok (.iload_n 1, 1) := by decide +kernel
theorem dX5_spreadOneDay_77 : decode cX5_spreadOneDay 77 = .ok (.iconst 1, 1) := by decide +kernel
theorem dX5_spreadOneDay_78 : decode cX5_spreadOneDay 78 = .ok (.iadd, 1) := by decide +kernel
theorem dX5_spreadOneDay_79 : decode cX5_spreadOneDay 79 = .ok (.laload, 1) := by decide +kernel
theorem dX5_spreadOneDay_80 : decode cX5_spreadOneDay 80 = .ok (.aload_n 0, 1) := by decide +kernel
theorem dX5_spreadOneDay_81 : decode cX5_spreadOneDay 81 = .ok (.getfield 15, 3) := by decide +kernel
theorem dX5_spreadOneDay_84 : decode cX5_spreadOneDay 84 = .ok (.iload_n 1, 1) := by decide +kernel
theorem dX5_spreadOneDay_85 : decode cX5_spreadOneDay 85 = .ok (.iconst 1, 1) := by decide +kernel
theorem dX5_spreadOneDay_86 : decode cX5_spreadOneDay 86 = .ok (.iadd, 1) := by decide +kernel
theorem dX5_spreadOneDay_87 : decode cX5_spreadOneDay 87 = .ok (.iaload, 1) := by decide +kernel
theorem dX5_spreadOneDay_88 : decode cX5_spreadOneDay 88 = .ok (.i2l, 1) := by decide +kernel
theorem dX5_spreadOneDay_89 : decode cX5_spreadOneDay 89 = .ok (.lmul, 1) := by decide +kernel
theorem dX5_spreadOneDay_90 : decode cX5_spreadOneDay 90 = .ok (.ladd, 1) := by decide +kernel
theorem dX5_spreadOneDay_91 : decode cX5_spreadOneDay 91 = .ok (.lastore, 1) := by decide +kernel
theorem dX5_spreadOneDay_92 : decode cX5_spreadOneDay 92 = .ok (.iinc 1 1, 3) := by decide +kernel
theorem dX5_spreadOneDay_95 : decode cX5_spreadOneDay 95 = .ok (.goto (-93), 3) := by decide +kernel
theorem dX5_spreadOneDay_98 : decode cX5_spreadOneDay 98 = .ok (.aload_n 0, 1) := by decide +kernel
theorem dX5_spreadOneDay_99 : decode cX5_spreadOneDay 99 = .ok (.getfield 26, 3) := by decide +kernel
theorem dX5_spreadOneDay_102 : decode cX5_spreadOneDay 102 = .ok (.iconst 0, 1) := by decide +kernel
theorem dX5_spreadOneDay_103 : decode cX5_spreadOneDay 103 = .ok (.aload_n 0, 1) := by decide +kernel
theorem dX5_spreadOneDay_104 : decode cX5_spreadOneDay 104 = .ok (.getfield 22, 3) := by decide +kernel
theorem dX5_spreadOneDay_107 : decode cX5_spreadOneDay 107 = .ok (.iconst 0, 1) := by decide +kernel
theorem dX5_spreadOneDay_108 : decode cX5_spreadOneDay 108 = .ok (.bipush 7, 2) := by decide +kernel
theorem dX5_spreadOneDay_110 : decode cX5_spreadOneDay 110 = .ok (.invokestatic 64, 3) := by decide +kernel
theorem dX5_spreadOneDay_113 : decode cX5_spreadOneDay 113 = .ok (.return_, 1) := by decide +kernel
theorem dX5_isLikelyBy_0 : decode cX5_isLikelyBy 0 = .ok (.aload_n 0, 1) := by decide +kernel
theorem dX5_isLikelyBy_1 : decode cX5_isLikelyBy 1 = .ok (.getfield 22, 3) := by decide +kernel
theorem dX5_isLikelyBy_4 : decode cX5_isLikelyBy 4 = .ok (.iload_n 1, 1) := by decide +kernel
theorem dX5_isLikelyBy_5 : decode cX5_isLikelyBy 5 = .ok (.laload, 1) := by decide +kernel
theorem dX5_isLikelyBy_6 : decode cX5_isLikelyBy 6 = .ok (.ldc2_w 70, 3) := by decide +kernel
theorem dX5_isLikelyBy_9 : decode cX5_isLikelyBy 9 = .ok (.lmul, 1) := by decide +kernel
theorem dX5_isLikelyBy_10 : decode cX5_isLikelyBy 10 = .ok (.aload_n 0, 1) := by decide +kernel
theorem dX5_isLikelyBy_11 : decode cX5_isLikelyBy 11 = .ok (.getfield 29, 3) := by decide +kernel
theorem dX5_isLikelyBy_14 : decode cX5_isLikelyBy 14 = .ok (.iload_n 2, 1) := by decide +kernel
theorem dX5_isLikelyBy_15 : decode cX5_isLikelyBy 15 = .ok (.i2l, 1) := by decide +kernel
theorem dX5_isLikelyBy_16 : decode cX5_isLikelyBy 16 = .ok (.lmul, 1) := by decide +kernel
theorem dX5_isLikelyBy_17 : decode cX5_isLikelyBy 17 = .ok (.lcmp, 1) := by decide +kernel
theorem dX5_isLikelyBy_18 : decode cX5_isLikelyBy 18 = .ok (.ifCond .lt 7, 3) := by decide +kernel
theorem dX5_isLikelyBy_21 : decode cX5_isLikelyBy 21 = .ok (.iconst 1, 1) := by decide +kernel
theorem dX5_isLikelyBy_22 : decode cX5_isLikelyBy 22 = .ok (.goto 4, 3) := by decide +kernel
theorem dX5_isLikelyBy_25 : decode cX5_isLikelyBy 25 = .ok (.iconst 0, 1) := by decide +kernel
theorem dX5_isLikelyBy_26 : decode cX5_isLikelyBy 26 = .ok (.ireturn, 1) := by decide +kernel
set_option maxRecDepth 20000 in
theorem ggX5_average_X0_become : GoodIn wsX5_average wsX0_become := goodIn_r _ [11, 12, 13, 14, 15, 10, 16, 29, 30] (by decide +kernel) (by decide +kernel)
set_option maxRecDepth 20000 in
theorem gX5_average_X0_become : GoodIn wsX5_average (wsV RX5 72 RX0 yX0_become wsX0_become) := goodIn_app (goodIn_of _ (by decide +kernel)) ggX5_average_X0_become
set_option maxRecDepth 20000 in
theorem ggX5_average_X0_add : GoodIn wsX5_average wsX0_add := goodIn_r _ [20, 12, 13, 21, 8, 9, 10, 11, 14, 15, 16, 29, 30] (by decide +kernel) (by decide +kernel)
set_option maxRecDepth 20000 in
theorem gX5_average_X0_add : GoodIn wsX5_average (wsV RX5 82 RX0 yX0_add wsX0_add) := goodIn_app (goodIn_of _ (by decide +kernel)) ggX5_average_X0_add
theorem dX5_average_0 : decode cX5_average 0 = .ok (.aload_n 3, 1) := by decide +kernel
theorem dX5_average_1 : decode cX5_average 1 = .ok (.lconst 0, 1) := by decide +kernel
theorem dX5_average_2 : decode cX5_average 2 = .ok (.lconst 1, 1) := by decide +kernel
theorem dX5_average_3 : decode cX5_average 3 = .ok (.invokevirtual 72, 3) := by decide +kernel
theorem dX5_average_6 : decode cX5_average 6 = .ok (.aload_n 0, 1) := by decide +kernel
theorem dX5_average_7 : decode cX5_average 7 = .ok (.getfield 36, 3) := by decide +kernel
theorem dX5_average_10 : decode cX5_average 10 = .ok (.lconst 0, 1) := by decide +kernel
theorem dX5_average_11 : decode cX5_average 11 = .ok (.lconst 1, 1) := by decide +kernel
theorem dX5_average_12 : decode cX5_average 12 = .ok (.invokevirtual 72, 3) := by decide +kernel
theorem dX5_average_15 : decode cX5_average 15 = .ok (.iconst 0, 1) := by decide +kernel
theorem dX5_average_16 : decode cX5_average 16 = .ok (.istore 4, 2) := by decide +kernel
theorem dX5_average_18 : decode cX5_average 18 = .ok (.iload 4, 2) := by decide +kernel
theorem dX5_average_20 : decode cX5_average 20 = .ok (.iload_n 2, 1) := by decide +kernel
theorem dX5_average_21 : decode cX5_average 21 = .ok (.if_icmp .ge 76, 3) := by decide +kernel
theorem dX5_average_24 : decode cX5_average 24 = .ok (.aload_n 0, 1) := by decide +kernel
theorem dX5_average_25 : decode cX5_average 25 = .ok (.getfield 36, 3) := by decide +kernel
theorem dX5_average_28 : decode cX5_average 28 = .ok (.aload_n 0, 1) := by decide +kernel
theorem dX5_average_29 : decode cX5_average 29 = .ok (.getfield 18, 3) := by decide +kernel
theorem dX5_average_32 : decode cX5_average 32 = .ok (.i2l, 1) := by decide +kernel
theorem dX5_average_33 : decode cX5_average 33 = .ok (.aload_n 0, 1) := by decide +kernel
theorem dX5_average_34 : decode cX5_average 34 = .ok (.getfield 36, 3) := by decide +kernel
theorem dX5_average_37 : decode cX5_average 37 = .ok (.getfield 76, 3) := by decide +kernel
theorem dX5_average_40 : decode cX5_average 40 = .ok (.lmul, 1) := by decide +kernel
theorem dX5_average_41 : decode cX5_average 41 = .ok (.aload_n 0, 1) := by decide +kernel
theorem dX5_average_42 : decode cX5_average 42 = .ok (.getfield 15, 3) := by decide +kernel
theorem dX5_average_45 : decode cX5_average 45 = .ok (.iload 4, 2) := by decide +kernel
theorem dX5_average_47 : decode cX5_average 47 = .ok (.iaload, 1) := by decide +kernel
theorem dX5_average_48 : decode cX5_average 48 = .ok (.i2l, 1) := by decide +kernel
theorem dX5_average_49 : decode cX5_average 49 = .ok (.aload_n 0, 1) := by decide +kernel
theorem dX5_average_50 : decode cX5_average 50 = .ok (.getfield 36, 3) := by decide +kernel
theorem dX5_average_53 : decode cX5_average 53 = .ok (.getfield 79, 3) := by decide +kernel
theorem dX5_average_56 : decode cX5_average 56 = .ok (.lmul, 1) := by decide +kernel
theorem dX5_average_57 : decode cX5_average 57 = .ok (.ladd, 1) := by decide +kernel
theorem dX5_average_58 : decode cX5_average 58 = .ok (.aload_n 0, 1) := by decide +kernel
theorem dX5_average_59 : decode cX5_average 59 = .ok (.getfield 9, 3) := by decide +kernel
theorem dX5_average_62 : decode cX5_average 62 = .ok (.iload 4, 2) := by decide +kernel
theorem dX5_average_64 : decode cX5_average 64 = .ok (.iaload, 1) := by decide +kernel
theorem dX5_average_65 : decode cX5_average 65 = .ok (.i2l, 1) := by decide +kernel
theorem dX5_average_66 : decode cX5_average 66 = .ok (.aload_n 0, 1) := by decide +kernel
theorem dX5_average_67 : decode cX5_average 67 = .ok (.getfield 36, 3) := by decide +kernel
theorem dX5_average_70 : decode cX5_average 70 = .ok (.getfield 76, 3) := by decide +kernel
theorem dX5_average_73 : decode cX5_average 73 = .ok (.lmul, 1) := by decide +kernel
theorem dX5_average_74 : decode cX5_average 74 = .ok (.invokevirtual 72, 3) := by decide +kernel
theorem dX5_average_77 : decode cX5_average 77 = .ok (.iload 4, 2) := by decide +kernel
theorem dX5_average_79 : decode cX5_average 79 = .ok (.iload_n 1, 1) := by decide +kernel
theorem dX5_average_80 : decode cX5_average 80 = .ok (.if_icmp .lt 11, 3) := by decide +kernel
theorem dX5_average_83 : decode cX5_average 83 = .ok (.aload_n 3, 1) := by decide +kernel
theorem dX5_average_84 : decode cX5_average 84 = .ok (.aload_n 0, 1) := by decide +kernel
theorem dX5_average_85 : decode cX5_average 85 = .ok (.getfield 36, 3) := by decide +kernel
theorem dX5_average_88 : decode cX5_average 88 = .ok (.invokevirtual 82, 3) := by decide +kernel
theorem dX5_average_91 : decode cX5_average 91 = .ok (.iinc 4 1, 3) := by decide +kernel
theorem dX5_average_94 : decode cX5_average 94 = .ok (.goto (-76), 3) := by decide +kernel
theorem dX5_average_97 : decode cX5_average 97 = .ok (.return_, 1) := by decide +kernel
