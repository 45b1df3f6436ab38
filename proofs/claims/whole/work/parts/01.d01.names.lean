set_option maxRecDepth 20000 in
theorem ggX0_init_X4_init : GoodIn wsX0_init wsX4_init := goodIn_r _ [12, 13, 2, 3, 14, 15, 16, 17, 8, 18, 19, 20, 21, 22] (by decide +kernel) (by decide +kernel)
set_option maxRecDepth 20000 in
theorem gX0_init_X4_init : GoodIn wsX0_init (wsX4_init) := ggX0_init_X4_init
theorem dX0_init_0 : decode cX0_init 0 = .ok (.aload_n 0, 1) := by decide +kernel
theorem dX0_init_1 : decode cX0_init 1 = .ok (.invokespecial 3, 3) := by decide +kernel
theorem dX0_init_4 : decode cX0_init 4 = .ok (.aload_n 0, 1) := by decide +kernel
theorem dX0_init_5 : decode cX0_init 5 = .ok (.new 9, 3) := by decide +kernel
theorem dX0_init_8 : decode cX0_init 8 = .ok (.dup, 1) := by decide +kernel
theorem dX0_init_9 : decode cX0_init 9 = .ok (.sipush 4096, 3) := by decide +kernel
theorem dX0_init_12 : decode cX0_init 12 = .ok (.invokespecial 11, 3) := by decide +kernel
theorem dX0_init_15 : decode cX0_init 15 = .ok (.putfield 14, 3) := by decide +kernel
theorem dX0_init_18 : decode cX0_init 18 = .ok (.aload_n 0, 1) := by decide +kernel
theorem dX0_init_19 : decode cX0_init 19 = .ok (.sipush 4096, 3) := by decide +kernel
theorem dX0_init_22 : decode cX0_init 22 = .ok (.newarray .int, 2) := by decide +kernel
theorem dX0_init_24 : decode cX0_init 24 = .ok (.putfield 20, 3) := by decide +kernel
theorem dX0_init_27 : decode cX0_init 27 = .ok (.return_, 1) := by decide +kernel
theorem dX0_forget_0 : decode cX0_forget 0 = .ok (.aload_n 0, 1) := by decide +kernel
theorem dX0_forget_1 : decode cX0_forget 1 = .ok (.iconst 0, 1) := by decide +kernel
theorem dX0_forget_2 : decode cX0_forget 2 = .ok (.putfield 24, 3) := by decide +kernel
theorem dX0_forget_5 : decode cX0_forget 5 = .ok (.return_, 1) := by decide +kernel
theorem dX0_rules_0 : decode cX0_rules 0 = .ok (.aload_n 0, 1) := by decide +kernel
theorem dX0_rules_1 : decode cX0_rules 1 = .ok (.getfield 14, 3) := by decide +kernel
theorem dX0_rules_4 : decode cX0_rules 4 = .ok (.areturn, 1) := by decide +kernel
set_option maxRecDepth 20000 in
theorem ggX0_build_X4_clear : GoodIn wsX0_build wsX4_clear := goodIn_r _ [7, 8, 73, 74, 75] (by decide +kernel) (by decide +kernel)
set_option maxRecDepth 20000 in
theorem gX0_build_X4_clear : GoodIn wsX0_build (wsV RX0 28 RX4 yX4_clear wsX4_clear) := goodIn_app (goodIn_of _ (by decide +kernel)) ggX0_build_X4_clear
set_option maxRecDepth 20000 in
theorem ggX0_build_X6_attributes : GoodIn wsX0_build wsX6_attributes := goodIn_r _ [13, 14, 76, 77, 78] (by decide +kernel) (by decide +kernel)
set_option maxRecDepth 20000 in
theorem gX0_build_X6_attributes : GoodIn wsX0_build (wsV RX0 31 RX6 yX6_attributes wsX6_attributes) := goodIn_app (goodIn_of _ (by decide +kernel)) ggX0_build_X6_attributes
set_option maxRecDepth 20000 in
theorem ggX0_build_X0_joinedOfParts : GoodIn wsX0_build wsX0_joinedOfParts := goodIn_r _ [19, 20, 21, 22, 18, 23, 24, 25, 26, 27, 28, 70, 71, 72] (by decide +kernel) (by decide +kernel)
set_option maxRecDepth 20000 in
theorem gX0_build_X0_joinedOfParts : GoodIn wsX0_build (wsV RX0 37 RX0 yX0_joinedOfParts wsX0_joinedOfParts) := goodIn_app (goodIn_of _ (by decide +kernel)) ggX0_build_X0_joinedOfParts
set_option maxRecDepth 20000 in
theorem ggX0_build_X1_isClosed : GoodIn wsX0_build wsX1_isClosed := goodIn_r _ [33, 34, 35, 36, 32, 37, 38, 39, 26, 27, 28, 79, 80, 81, 82, 83] (by decide +kernel) (by decide +kernel)
set_option maxRecDepth 20000 in
theorem gX0_build_X1_isClosed : GoodIn wsX0_build (wsV RX0 41 RX1 yX1_isClosed wsX1_isClosed) := goodIn_app (goodIn_of _ (by decide +kernel)) ggX0_build_X1_isClosed
set_option maxRecDepth 20000 in
theorem ggX0_build_X5_hasAll : GoodIn wsX0_build wsX5_hasAll := goodIn_r _ [42] (by decide +kernel) (by decide +kernel)
set_option maxRecDepth 20000 in
theorem gX0_build_X5_hasAll : GoodIn wsX0_build (va_wsS RX0 47 yX5_hasAll wsX5_hasAll) := goodIn_app (goodIn_of _ (by decide +kernel)) ggX0_build_X5_hasAll
set_option maxRecDepth 20000 in
theorem ggX0_build_X6_closureOf : GoodIn wsX0_build wsX6_closureOf := goodIn_r _ [46, 47, 48, 49, 50, 51, 12, 52, 14, 53, 54, 27, 55, 56, 41, 42, 76, 77, 78] (by decide +kernel) (by decide +kernel)
set_option maxRecDepth 20000 in
theorem gX0_build_X6_closureOf : GoodIn wsX0_build (wsV RX0 53 RX6 yX6_closureOf wsX6_closureOf) := goodIn_app (goodIn_of _ (by decide +kernel)) ggX0_build_X6_closureOf
set_option maxRecDepth 20000 in
theorem ggX0_build_X4_append : GoodIn wsX0_build wsX4_append := goodIn_r _ [60, 8, 61, 62, 73, 74, 75] (by decide +kernel) (by decide +kernel)
set_option maxRecDepth 20000 in
theorem gX0_build_X4_append : GoodIn wsX0_build (wsV RX0 57 RX4 yX4_append wsX4_append) := goodIn_app (goodIn_of _ (by decide +kernel)) ggX0_build_X4_append
set_option maxRecDepth 20000 in
theorem ggX0_build_X0_setJoined : GoodIn wsX0_build wsX0_setJoined := goodIn_r _ [66, 24, 25, 26, 27, 28, 70, 71, 72] (by decide +kernel) (by decide +kernel)
set_option maxRecDepth 20000 in
theorem gX0_build_X0_setJoined : GoodIn wsX0_build (wsV RX0 61 RX0 yX0_setJoined wsX0_setJoined) := goodIn_app (goodIn_of _ (by decide +kernel)) ggX0_build_X0_setJoined
set_option maxRecDepth 20000 in
theorem ggX0_build_X5_rightBehind : GoodIn wsX0_build wsX5_rightBehind := goodIn_r _ [69] (by decide +kernel) (by decide +kernel)
set_option maxRecDepth 20000 in
theorem gX0_build_X5_rightBehind : GoodIn wsX0_build (va_wsS RX0 64 yX5_rightBehind wsX5_rightBehind) := goodIn_app (goodIn_of _ (by decide +kernel)) ggX0_build_X5_rightBehind
theorem dX0_build_0 : decode cX0_build 0 = .ok (.aload_n 0, 1) := by decide +kernel
theorem dX0_build_1 : decode cX0_build 1 = .ok (.getfield 24, 3) := by decide +kernel
theorem dX0_build_4 : decode cX0_build 4 = .ok (.ifCond .eq 4, 3) := by decide +kernel
theorem dX0_build_7 : decode cX0_build 7 = .ok (.return_, 1) := by decide +kernel
theorem dX0_build_8 : decode cX0_build 8 = .ok (.aload_n 0, 1) := by decide +kernel
theorem dX0_build_9 : decode cX0_build 9 = .ok (.getfield 14, 3) := by decide +kernel
theorem dX0_build_12 : decode cX0_build 12 = .ok (.invokevirtual 28, 3) := by decide +kernel
theorem dX0_build_15 : decode cX0_build 15 = .ok (.aload_n 1, 1) := by decide +kernel
theorem dX0_build_16 : decode cX0_build 16 = .ok (.invokevirtual 31, 3) := by decide +kernel
theorem dX0_build_19 : decode cX0_build 19 = .ok (.istore_n 3, 1) := by decide +kernel
theorem dX0_build_20 : decode cX0_build 20 = .ok (.iconst 0, 1) := by decide +kernel
theorem dX0_build_21 : decode cX0_build 21 = .ok (.istore 4, 2) := by decide +kernel
theorem dX0_build_23 : decode cX0_build 23 = .ok (.iconst 0, 1) := by decide +kernel
theorem dX0_build_24 : decode cX0_build 24 = .ok (.istore 5, 2) := by decide +kernel
theorem dX0_build_26 : decode cX0_build 26 = .ok (.iload 5, 2) := by decide +kernel
theorem dX0_build_28 : decode cX0_build 28 = .ok (.iconst 1, 1) := by decide +kernel
theorem dX0_build_29 : decode cX0_build 29 = .ok (.iload_n 3, 1) := by decide +kernel
theorem dX0_build_30 : decode cX0_build 30 = .ok (.ishl, 1) := by decide +kernel
theorem dX0_build_31 : decode cX0_build 31 = .ok (.if_icmp .ge 85, 3) := by decide +kernel
theorem dX0_build_34 : decode cX0_build 34 = .ok (.iload 4, 2) := by decide +kernel
theorem dX0_build_36 : decode cX0_build 36 = .ok (.iconst (-1), 1) := by decide +kernel
theorem dX0_build_37 : decode cX0_build 37 = .ok (.if_icmp .eq 79, 3) := by decide +kernel
theorem dX0_build_40 : decode cX0_build 40 = .ok (.aload_n 0, 1) := by decide +kernel
theorem dX0_build_41 : decode cX0_build 41 = .ok (.iload 4, 2) := by decide +kernel
theorem dX0_build_43 : decode cX0_build 43 = .ok (.iload_n 3, 1) := by decide +kernel
theorem dX0_build_44 : decode cX0_build 44 = .ok (.invokevirtual 37, 3) := by decide +kernel
theorem dX0_build_47 : decode cX0_build 47 = .ok (.istore 6, 2) := by decide +kernel
theorem dX0_build_49 : decode cX0_build 49 = .ok (.aload_n 2, 1) := by decide +kernel
theorem dX0_build_50 : decode cX0_build 50 = .ok (.iload 4, 2) := by decide +kernel
theorem dX0_build_52 : decode cX0_build 52 = .ok (.invokevirtual 41, 3) := by decide +kernel
theorem dX0_build_55 : decode cX0_build 55 = .ok (.ifCond .ne 39, 3) := by decide +kernel
theorem dX0_build_58 : decode cX0_build 58 = .ok (.iload 4, 2) := by decide +kernel
theorem dX0_build_60 : decode cX0_build 60 = .ok (.iload 6, 2) := by decide +kernel
theorem dX0_build_62 : decode cX0_build 62 = .ok (.invokestatic 47, 3) := by decide +kernel
theorem dX0_build_65 : decode cX0_build 65 = .ok (.ifCond .eq 29, 3) := by decide +kernel
theorem dX0_build_68 : decode cX0_build 68 = .ok (.aload_n 1, 1) := by decide +kernel
theorem dX0_build_69 : decode cX0_build 69 = .ok (.iload 4, 2) := by decide +kernel
theorem dX0_build_71 : decode cX0_build 71 = .ok (.invokevirtual 53, 3) := by decide +kernel
theorem dX0_build_74 : decode cX0_build 74 = .ok (.istore 7, 2) := by decide +kernel
theorem dX0_build_76 : decode cX0_build 76 = .ok (.aload_n 0, 1) := by decide +kernel
theorem dX0_build_77 : decode cX0_build 77 = .ok (.getfield 14, 3) := by decide +kernel
theorem dX0_build_80 : decode cX0_build 80 = .ok (.iload 4, 2) := by decide +kernel
theorem dX0_build_82 : decode cX0_build 82 = .ok (.iload 7, 2) := by decide +kernel
theorem dX0_build_84 : decode cX0_build 84 = .ok (.invokevirtual 57, 3) := by decide +kernel
theorem dX0_build_87 : decode cX0_build 87 = .ok (.iload 6, 2) := by decide +kernel
theorem dX0_build_89 : decode cX0_build 89 = .ok (.iload 7, 2) := by decide +kernel
theorem dX0_build_91 : decode cX0_build 91 = .ok (.ior, 1) := by decide +kernel
theorem dX0_build_92 : decode cX0_build 92 = .ok (.istore 6, 2) := by decide +kernel
theorem dX0_build_94 : decode cX0_build 94 = .ok (.aload_n 0, 1) := by decide +kernel
theorem dX0_build_95 : decode cX0_build 95 = .ok (.iload 4, 2) := by decide +kernel
theorem dX0_build_97 : decode cX0_build 97 = .ok (.iload 6, 2) := by decide +kernel
theorem dX0_build_99 : decode cX0_build 99 = .ok (.invokevirtual 61, 3) := by decide +kernel
theorem dX0_build_102 : decode cX0_build 102 = .ok (.iload 4, 2) := by decide +kernel
theorem dX0_build_104 : decode cX0_build 104 = .ok (.iload_n 3, 1) := by decide +kernel
theorem dX0_build_105 : decode cX0_build 105 = .ok (.invokestatic 64, 3) := by decide +kernel
theorem dX0_build_108 : decode cX0_build 108 = .ok (.istore 4, 2) := by decide +kernel
theorem dX0_build_110 : decode cX0_build 110 = .ok (.iinc 5 1, 3) := by decide +kernel
theorem dX0_build_113 : decode cX0_build 113 = .ok (.goto (-87), 3) := by decide +kernel
theorem dX0_build_116 : decode cX0_build 116 = .ok (.aload_n 0, 1) := by decide +kernel
theorem dX0_build_117 : decode cX0_build 117 = .ok (.iconst 1, 1) := by decide +kernel
theorem dX0_build_118 : decode cX0_build 118 = .ok (.putfield 24, 3) := by decide +kernel
theorem dX0_build_121 : decode cX0_build 121 = .ok (.return_, 1) := by decide +kernel
set_option maxRecDepth 20000 in
theorem ggX0_joinedOfParts_X0_joinedOf : GoodIn wsX0_joinedOfParts wsX0_joinedOf := goodIn_r _ [5, 6, 7, 8, 9, 10, 11, 12, 13] (by decide +kernel) (by decide +kernel)
set_option maxRecDepth 20000 in
theorem gX0_joinedOfParts_X0_joinedOf : GoodIn wsX0_joinedOfParts (wsV RX0 67 RX0 yX0_joinedOf wsX0_joinedOf) := goodIn_app (goodIn_of _ (by decide +kernel)) ggX0_joinedOfParts_X0_joinedOf
theorem dX0_joinedOfParts_0 : decode cX0_joinedOfParts 0 = .ok (.iconst 0, 1) := by decide +kernel
theorem dX0_joinedOfParts_1 : decode cX0_joinedOfParts 1 = .ok (.istore_n 3, 1) := by decide +kernel
theorem dX0_joinedOfParts_2 : decode cX0_joinedOfParts 2 = .ok (.iconst 0, 1) := by decide +kernel
theorem dX0_joinedOfParts_3 : decode cX0_joinedOfParts 3 = .ok (.istore 4, 2) := by decide +kernel
theorem dX0_joinedOfParts_5 : decode cX0_joinedOfParts 5 = .ok (.iload 4, 2) := by decide +kernel
theorem dX0_joinedOfParts_7 : decode cX0_joinedOfParts 7 = .ok (.iload_n 2, 1) := by decide +kernel
theorem dX0_joinedOfParts_8 : decode cX0_joinedOfParts 8 = .ok (.if_icmp .ge 33, 3) := by decide +kernel
theorem dX0_joinedOfParts_11 : decode cX0_joinedOfParts 11 = .ok (.iconst 1, 1) := by decide +kernel
theorem dX0_joinedOfParts_12 : decode cX0_joinedOfParts 12 = .ok (.iload 4, 2) := by decide +kernel
theorem dX0_joinedOfParts_14 : decode cX0_joinedOfParts 14 = .ok (.ishl, 1) := by decide +kernel
theorem dX0_joinedOfParts_15 : decode cX0_joinedOfParts 15 = .ok (.istore 5, 2) := by decide +kernel
theorem dX0_joinedOfParts_17 : decode cX0_joinedOfParts 17 = .ok (.iload_n 1, 1) := by decide +kernel
theorem dX0_joinedOfParts_18 : decode cX0_joinedOfParts 18 = .ok (.iload 5, 2) := by decide +kernel
theorem dX0_joinedOfParts_20 : decode cX0_joinedOfParts 20 = .ok (.iand, 1) := by decide +kernel
theorem dX0_joinedOfParts_21 : decode cX0_joinedOfParts 21 = .ok (.ifCond .eq 14, 3) := by decide +kernel
theorem dX0_joinedOfParts_24 : decode cX0_joinedOfParts 24 = .ok (.iload_n 3, 1) := by decide +kernel
theorem dX0_joinedOfParts_25 : decode cX0_joinedOfParts 25 = .ok (.aload_n 0, 1) := by decide +kernel
theorem dX0_joinedOfParts_26 : decode cX0_joinedOfParts 26 = .ok (.iload_n 1, 1) := by decide +kernel
theorem dX0_joinedOfParts_27 : decode cX0_joinedOfParts 27 = .ok (.iload 5, 2) := by decide +kernel
theorem dX0_joinedOfParts_29 : decode cX0_joinedOfParts 29 = .ok (.ixor, 1) := by decide +kernel
theorem dX0_joinedOfParts_30 : decode cX0_joinedOfParts 30 = .ok (.invokevirtual 67, 3) := by decide +kernel
theorem dX0_joinedOfParts_33 : decode cX0_joinedOfParts 33 = .ok (.ior, 1) := by decide +kernel
theorem dX0_joinedOfParts_34 : decode cX0_joinedOfParts 34 = .ok (.istore_n 3, 1) := by decide +kernel
theorem dX0_joinedOfParts_35 : decode cX0_joinedOfParts 35 = .ok (.iinc 4 1, 3) := by decide +kernel
theorem dX0_joinedOfParts_38 : decode cX0_joinedOfParts 38 = .ok (.goto (-33), 3) := by decide +kernel
theorem dX0_joinedOfParts_41 : decode cX0_joinedOfParts 41 = .ok (.iload_n 3, 1) := by decide +kernel
theorem dX0_joinedOfParts_42 : decode cX0_joinedOfParts 42 = .ok (.ireturn, 1) := by decide +kernel
set_option maxRecDepth 20000 in
theorem ggX0_joinedOf_X5_isIndexIn : GoodIn wsX0_joinedOf wsX5_isIndexIn := goodIn_r _ [5] (by decide +kernel) (by decide +kernel)
set_option maxRecDepth 20000 in
theorem gX0_joinedOf_X5_isIndexIn : GoodIn wsX0_joinedOf (va_wsS RX0 70 yX5_isIndexIn wsX5_isIndexIn) := goodIn_app (goodIn_of _ (by decide +kernel)) ggX0_joinedOf_X5_isIndexIn
theorem dX0_joinedOf_0 : decode cX0_joinedOf 0 = .ok (.aload_n 0, 1) := by decide +kernel
theorem dX0_joinedOf_1 : decode cX0_joinedOf 1 = .ok (.getfield 20, 3) := by decide +kernel
theorem dX0_joinedOf_4 : decode cX0_joinedOf 4 = .ok (.iload_n 1, 1) := by decide +kernel
theorem dX0_joinedOf_5 : decode cX0_joinedOf 5 = .ok (.invokestatic 70, 3) := by decide +kernel
theorem dX0_joinedOf_8 : decode cX0_joinedOf 8 = .ok (.ifCond .eq 12, 3) := by decide +kernel
theorem dX0_joinedOf_11 : decode cX0_joinedOf 11 = .ok (.aload_n 0, 1) := by decide +kernel
theorem dX0_joinedOf_12 : decode cX0_joinedOf 12 = .ok (.getfield 20, 3) := by decide +kernel
theorem dX0_joinedOf_15 : decode cX0_joinedOf 15 = .ok (.iload_n 1, 1) := by decide +kernel
theorem dX0_joinedOf_16 : decode cX0_joinedOf 16 = .ok (.iaload, 1) := by decide +kernel
theorem dX0_joinedOf_17 : decode cX0_joinedOf 17 = .ok (.goto 4, 3) := by decide +kernel
theorem dX0_joinedOf_20 : decode cX0_joinedOf 20 = .ok (.iconst 0, 1) := by decide +kernel
theorem dX0_joinedOf_21 : decode cX0_joinedOf 21 = .ok (.ireturn, 1) := by decide +kernel
set_option maxRecDepth 20000 in
theorem ggX0_setJoined_X5_isIndexIn : GoodIn wsX0_setJoined wsX5_isIndexIn := goodIn_r _ [5] (by decide +kernel) (by decide +kernel)
set_option maxRecDepth 20000 in
theorem gX0_setJoined_X5_isIndexIn : GoodIn wsX0_setJoined (va_wsS RX0 70 yX5_isIndexIn wsX5_isIndexIn) := goodIn_app (goodIn_of _ (by decide +kernel)) ggX0_setJoined_X5_isIndexIn
theorem dX0_setJoined_0 : decode cX0_setJoined 0 = .ok (.aload_n 0, 1) := by decide +kernel
theorem dX0_setJoined_1 : decode cX0_setJoined 1 = .ok (.getfield 20, 3) := by decide +kernel
theorem dX0_setJoined_4 : decode cX0_setJoined 4 = .ok (.iload_n 1, 1) := by decide +kernel
theorem dX0_setJoined_5 : decode cX0_setJoined 5 = .ok (.invokestatic 70, 3) := by decide +kernel
theorem dX0_setJoined_8 : decode cX0_setJoined 8 = .ok (.ifCond .eq 10, 3) := by decide +kernel
theorem dX0_setJoined_11 : decode cX0_setJoined 11 = .ok (.aload_n 0, 1) := by decide +kernel
theorem dX0_setJoined_12 : decode cX0_setJoined 12 = .ok (.getfield 20, 3) := by decide +kernel
theorem dX0_setJoined_15 : decode cX0_setJoined 15 = .ok (.iload_n 1, 1) := by decide +kernel
theorem dX0_setJoined_16 : decode cX0_setJoined 16 = .ok (.iload_n 2, 1) := by decide +kernel
theorem dX0_setJoined_17 : decode cX0_setJoined 17 = .ok (.iastore, 1) := by decide +kernel
theorem dX0_setJoined_18 : decode cX0_setJoined 18 = .ok (.return_, 1) := by decide +kernel
theorem dX1_init_0 : decode cX1_init 0 = .ok (.aload_n 0, 1) := by decide +kernel
theorem dX1_init_1 : decode cX1_init 1 = .ok (.invokespecial 3, 3) := by decide +kernel
theorem dX1_init_4 : decode cX1_init 4 = .ok (.aload_n 0, 1) := by decide +kernel
theorem dX1_init_5 : decode cX1_init 5 = .ok (.sipush 4096, 3) := by decide +kernel
theorem dX1_init_8 : decode cX1_init 8 = .ok (.newarray .int, 2) := by decide +kernel
theorem dX1_init_10 : decode cX1_init 10 = .ok (.putfield 9, 3) := by decide +kernel
theorem dX1_init_13 : decode cX1_init 13 = .ok (.aload_n 0, 1) := by decide +kernel
theorem dX1_init_14 : decode cX1_init 14 = .ok (.sipush 4096, 3) := by decide +kernel
theorem dX1_init_17 : decode cX1_init 17 = .ok (.newarray .int, 2) := by decide +kernel
theorem dX1_init_19 : decode cX1_init 19 = .ok (.putfield 15, 3) := by decide +kernel
theorem dX1_init_22 : decode cX1_init 22 = .ok (.return_, 1) := by decide +kernel
set_option maxRecDepth 20000 in
theorem ggX1_restart_X1_setLevel : GoodIn wsX1_restart wsX1_setLevel := goodIn_r _ [7, 8, 9, 10, 11, 12, 30, 31, 32, 33, 34] (by decide +kernel) (by decide +kernel)
set_option maxRecDepth 20000 in
theorem gX1_restart_X1_setLevel : GoodIn wsX1_restart (wsV RX1 25 RX1 yX1_setLevel wsX1_setLevel) := goodIn_app (goodIn_of _ (by decide +kernel)) ggX1_restart_X1_setLevel
set_option maxRecDepth 20000 in
theorem ggX1_restart_X5_allOf : GoodIn wsX1_restart wsX5_allOf := goodIn_r _ [15] (by decide +kernel) (by decide +kernel)
set_option maxRecDepth 20000 in
theorem gX1_restart_X5_allOf : GoodIn wsX1_restart (va_wsS RX1 29 yX5_allOf wsX5_allOf) := goodIn_app (goodIn_of _ (by decide +kernel)) ggX1_restart_X5_allOf
set_option maxRecDepth 20000 in
theorem ggX1_restart_X1_include : GoodIn wsX1_restart wsX1_include := goodIn_r _ [19, 2, 20, 21, 22, 23, 24, 6, 25, 26, 27, 28, 29, 8, 9, 10, 11, 12, 3, 4, 5, 7, 30, 31, 32, 33, 34] (by decide +kernel) (by decide +kernel)
set_option maxRecDepth 20000 in
theorem gX1_restart_X1_include : GoodIn wsX1_restart (wsV RX1 35 RX1 yX1_include wsX1_include) := goodIn_app (goodIn_of _ (by decide +kernel)) ggX1_restart_X1_include
theorem dX1_restart_0 : decode cX1_restart 0 = .ok (.aload_n 0, 1) := by decide +kernel
theorem dX1_restart_1 : decode cX1_restart 1 = .ok (.iload_n 1, 1) := by decide +kernel
theorem dX1_restart_2 : decode cX1_restart 2 = .ok (.putfield 18, 3) := by decide +kernel
theorem dX1_restart_5 : decode cX1_restart 5 = .ok (.aload_n 0, 1) := by decide +kernel
theorem dX1_restart_6 : decode cX1_restart 6 = .ok (.iconst 0, 1) := by decide +kernel
theorem dX1_restart_7 : decode cX1_restart 7 = .ok (.putfield 22, 3) := by decide +kernel
theorem dX1_restart_10 : decode cX1_restart 10 = .ok (.iconst 0, 1) := by decide +kernel
theorem dX1_restart_11 : decode cX1_restart 11 = .ok (.istore_n 2, 1) := by decide +kernel
theorem dX1_restart_12 : decode cX1_restart 12 = .ok (.iload_n 2, 1) := by decide +kernel
theorem dX1_restart_13 : decode cX1_restart 13 = .ok (.iconst 1, 1) := by decide +kernel
theorem dX1_restart_14 : decode cX1_restart 14 = .ok (.aload_n 0, 1) := by decide +kernel
theorem dX1_restart_15 : decode cX1_restart 15 = .ok (.getfield 18, 3) := by decide +kernel
theorem dX1_restart_18 : decode cX1_restart 18 = .ok (.ishl, 1) := by decide +kernel
theorem dX1_restart_19 : decode cX1_restart 19 = .ok (.if_icmp .ge 15, 3) := by decide +kernel
theorem dX1_restart_22 : decode cX1_restart 22 = .ok (.aload_n 0, 1) := by decide +kernel
theorem dX1_restart_23 : decode cX1_restart 23 = .ok (.iload_n 2, 1) := by decide +kernel
theorem dX1_restart_24 : decode cX1_restart 24 = .ok (.iconst (-1), 1) := by decide +kernel
theorem dX1_restart_25 : decode cX1_restart 25 = .ok (.invokevirtual 25, 3) := by decide +kernel
theorem dX1_restart_28 : decode cX1_restart 28 = .ok (.iinc 2 1, 3) := by decide +kernel
theorem dX1_restart_31 : decode cX1_restart 31 = .ok (.goto (-19), 3) := by decide +kernel
theorem dX1_restart_34 : decode cX1_restart 34 = .ok (.aload_n 0, 1) := by decide +kernel
theorem dX1_restart_35 : decode cX1_restart 35 = .ok (.aload_n 0, 1) := by decide +kernel
theorem dX1_restart_36 : decode cX1_restart 36 = .ok (.getfield 18, 3) := by decide +kernel
theorem dX1_restart_39 : decode cX1_restart 39 = .ok (.invokestatic 29, 3) := by decide +kernel
theorem dX1_restart_42 : decode cX1_restart 42 = .ok (.invokevirtual 35, 3) := by decide +kernel
theorem dX1_restart_45 : decode cX1_restart 45 = .ok (.return_, 1) := by decide +kernel
set_option maxRecDepth 20000 in
theorem ggX1_meetWith_X1_include : GoodIn wsX1_meetWith wsX1_include := goodIn_r _ [7, 1, 2, 8, 9, 10, 11, 6, 12, 13, 14, 15, 16, 17, 18, 19, 20, 21, 22, 23, 24, 25, 26, 27, 28, 29, 30] (by decide +kernel) (by decide +kernel)
set_option maxRecDepth 20000 in
theorem gX1_meetWith_X1_include : GoodIn wsX1_meetWith (wsV RX1 35 RX1 yX1_include wsX1_include) := goodIn_app (goodIn_of _ (by decide +kernel)) ggX1_meetWith_X1_include
theorem dX1_meetWith_0 : decode cX1_meetWith 0 = .ok (.aload_n 0, 1) := by decide +kernel
theorem dX1_meetWith_1 : decode cX1_meetWith 1 = .ok (.getfield 22, 3) := by decide +kernel
theorem dX1_meetWith_4 : decode cX1_meetWith 4 = .ok (.istore_n 2, 1) := by decide +kernel
theorem dX1_meetWith_5 : decode cX1_meetWith 5 = .ok (.iconst 0, 1) := by decide +kernel
theorem dX1_meetWith_6 : decode cX1_meetWith 6 = .ok (.istore_n 3, 1) := by decide +kernel
theorem dX1_meetWith_7 : decode cX1_meetWith 7 = .ok (.iload_n 3, 1) := by decide +kernel
theorem dX1_meetWith_8 : decode cX1_meetWith 8 = .ok (.iload_n 2, 1) := by decide +kernel
theorem dX1_meetWith_9 : decode cX1_meetWith 9 = .ok (.if_icmp .ge 21, 3) := by decide +kernel
theorem dX1_meetWith_12 : decode cX1_meetWith 12 = .ok (.aload_n 0, 1) := by decide +kernel
theorem dX1_meetWith_13 : decode cX1_meetWith 13 = .ok (.aload_n 0, 1) := by decide +kernel
theorem dX1_meetWith_14 : decode cX1_meetWith 14 = .ok (.getfield 9, 3) := by decide +kernel
theorem dX1_meetWith_17 : decode cX1_meetWith 17 = .ok (.iload_n 3, 1) := by decide +kernel
theorem dX1_meetWith_18 : decode cX1_meetWith 18 = .ok (.iaload, 1) := by decide +kernel
theorem dX1_meetWith_19 : decode cX1_meetWith 19 = .ok (.iload_n 1, 1) := by decide +kernel
theorem dX1_meetWith_20 : decode cX1_meetWith 20 = .ok (.iand, 1) := by decide +kernel
theorem dX1_meetWith_21 : decode cX1_meetWith 21 = .ok (.invokevirtual 35, 3) := by decide +kernel
theorem dX1_meetWith_24 : decode cX1_meetWith 24 = .ok (.iinc 3 1, 3) := by decide +kernel
theorem dX1_meetWith_27 : decode cX1_meetWith 27 = .ok (.goto (-20), 3) := by decide +kernel
theorem dX1_meetWith_30 : decode cX1_meetWith 30 = .ok (.return_, 1) := by decide +kernel
set_option maxRecDepth 20000 in
theorem ggX1_include_X1_isClosed : GoodIn wsX1_include wsX1_isClosed := goodIn_r _ [8, 9, 10, 11, 7, 12, 13, 14, 15, 16, 17, 22, 23, 24, 25, 26] (by decide +kernel) (by decide +kernel)
set_option maxRecDepth 20000 in
theorem gX1_include_X1_isClosed : GoodIn wsX1_include (wsV RX1 39 RX1 yX1_isClosed wsX1_isClosed) := goodIn_app (goodIn_of _ (by decide +kernel)) ggX1_include_X1_isClosed
set_option maxRecDepth 20000 in
theorem ggX1_include_X1_setLevel : GoodIn wsX1_include wsX1_setLevel := goodIn_r _ [21, 13, 14, 15, 16, 17, 22, 23, 24, 25, 26] (by decide +kernel) (by decide +kernel)
set_option maxRecDepth 20000 in
theorem gX1_include_X1_setLevel : GoodIn wsX1_include (wsV RX1 25 RX1 yX1_setLevel wsX1_setLevel) := goodIn_app (goodIn_of _ (by decide +kernel)) ggX1_include_X1_setLevel
theorem dX1_include_0 : decode cX1_include 0 = .ok (.aload_n 0, 1) := by decide +kernel
theorem dX1_include_1 : decode cX1_include 1 = .ok (.iload_n 1, 1) := by decide +kernel
theorem dX1_include_2 : decode cX1_include 2 = .ok (.invokevirtual 39, 3) := by decide +kernel
theorem dX1_include_5 : decode cX1_include 5 = .ok (.ifCond .ne 46, 3) := by decide +kernel
theorem dX1_include_8 : decode cX1_include 8 = .ok (.aload_n 0, 1) := by decide +kernel
theorem dX1_include_9 : decode cX1_include 9 = .ok (.getfield 22, 3) := by decide +kernel
theorem dX1_include_12 : decode cX1_include 12 = .ok (.aload_n 0, 1) := by decide +kernel
theorem dX1_include_13 : decode cX1_include 13 = .ok (.getfield 9, 3) := by decide +kernel
theorem dX1_include_16 : decode cX1_include 16 = .ok (.arraylength, 1) := by decide +kernel
theorem dX1_include_17 : decode cX1_include 17 = .ok (.if_icmp .ge 34, 3) := by decide +kernel
theorem dX1_include_20 : decode cX1_include 20 = .ok (.aload_n 0, 1) := by decide +kernel
theorem dX1_include_21 : decode cX1_include 21 = .ok (.iload_n 1, 1) := by decide +kernel
theorem dX1_include_22 : decode cX1_include 22 = .ok (.iconst 0, 1) := by decide +kernel
theorem dX1_include_23 : decode cX1_include 23 = .ok (.invokevirtual 25, 3) := by decide +kernel
theorem dX1_include_26 : decode cX1_include 26 = .ok (.aload_n 0, 1) := by decide +kernel
theorem dX1_include_27 : decode cX1_include 27 = .ok (.getfield 9, 3) := by decide +kernel
theorem dX1_include_30 : decode cX1_include 30 = .ok (.aload_n 0, 1) := by decide +kernel
theorem dX1_include_31 : decode cX1_include 31 = .ok (.getfield 22, 3) := by decide +kernel
theorem dX1_include_34 : decode cX1_include 34 = .ok (.iload_n 1, 1) := by decide +kernel
theorem dX1_include_35 : decode cX1_include 35 = .ok (.iastore, 1) := by decide +kernel
theorem dX1_include_36 : decode cX1_include 36 = .ok (.aload_n 0, 1) := by decide +kernel
theorem dX1_include_37 : decode cX1_include 37 = .ok (.dup, 1) := by decide +kernel
theorem dX1_include_38 : decode cX1_include 38 = .ok (.getfield 22, 3) := by decide +kernel
theorem dX1_include_41 : decode cX1_include 41 = .ok (.iconst 1, 1) := by decide +kernel
theorem dX1_include_42 : decode cX1_include 42 = .ok (.iadd, 1) := by decide +kernel
theorem dX1_include_43 : decode cX1_include 43 = .ok (.putfield 22, 3) := by decide +kernel
theorem dX1_include_46 : decode cX1_include 46 = .ok (.aload_n 0, 1) := by decide +kernel
theorem dX1_include_47 : decode cX1_include 47 = .ok (.iconst 0, 1) := by decide +kernel
theorem dX1_include_48 : decode cX1_include 48 = .ok (.putfield 43, 3) := by decide +kernel
theorem dX1_include_51 : decode cX1_include 51 = .ok (.return_, 1) := by decide +kernel
theorem dX1_attributes_0 : decode cX1_attributes 0 = .ok (.aload_n 0, 1) := by decide +kernel
theorem dX1_attributes_1 : decode cX1_attributes 1 = .ok (.getfield 18, 3) := by decide +kernel
theorem dX1_attributes_4 : decode cX1_attributes 4 = .ok (.ireturn, 1) := by decide +kernel
theorem dX1_size_0 : decode cX1_size 0 = .ok (.aload_n 0, 1) := by decide +kernel
theorem dX1_size_1 : decode cX1_size 1 = .ok (.getfield 22, 3) := by decide +kernel
theorem dX1_size_4 : decode cX1_size 4 = .ok (.ireturn, 1) := by decide +kernel
theorem dX1_member_0 : decode cX1_member 0 = .ok (.iload_n 1, 1) := by decide +kernel
theorem dX1_member_1 : decode cX1_member 1 = .ok (.ifCond .lt 20, 3) := by decide +kernel
theorem dX1_member_4 : decode cX1_member 4 = .ok (.iload_n 1, 1) := by decide +kernel
theorem dX1_member_5 : decode cX1_member 5 = .ok (.aload_n 0, 1) := by decide +kernel
theorem dX1_member_6 : decode cX1_member 6 = .ok (.getfield 22, 3) := by decide +kernel
theorem dX1_member_9 : decode cX1_member 9 = .ok (.if_icmp .ge 12, 3) := by decide +kernel
theorem dX1_member_12 : decode cX1_member 12 = .ok (.aload_n 0, 1) := by decide +kernel
theorem dX1_member_13 : decode cX1_member 13 = .ok (.getfield 9, 3) := by decide +kernel
theorem dX1_member_16 : decode cX1_member 16 = .ok (.iload_n 1, 1) := by decide +kernel
theorem dX1_member_17 : decode cX1_member 17 = .ok (.iaload, 1) := by decide +kernel
theorem dX1_member_18 : decode cX1_member 18 = .ok (.goto 4, 3) := by decide +kernel
theorem dX1_member_21 : decode cX1_member 21 = .ok (.iconst (-1), 1) := by decide +kernel
theorem dX1_member_22 : decode cX1_member 22 = .ok (.ireturn, 1) := by decide +kernel
set_option maxRecDepth 20000 in
theorem ggX1_isClosed_X1_levelOf : GoodIn wsX1_isClosed wsX1_levelOf := goodIn_r _ [5, 6, 7, 8, 9, 10, 11, 12, 13, 14, 15] (by decide +kernel) (by decide +kernel)
set_option maxRecDepth 20000 in
theorem gX1_isClosed_X1_levelOf : GoodIn wsX1_isClosed (wsV RX1 47 RX1 yX1_levelOf wsX1_levelOf) := goodIn_app (goodIn_of _ (by decide +kernel)) ggX1_isClosed_X1_levelOf
theorem dX1_isClosed_0 : decode cX1_isClosed 0 = .ok (.aload_n 0, 1) := by decide +kernel
theorem dX1_isClosed_1 : decode cX1_isClosed 1 = .ok (.iload_n 1, 1) := by decide +kernel
theorem dX1_isClosed_2 : decode cX1_isClosed 2 = .ok (.invokevirtual 47, 3) := by decide +kernel
theorem dX1_isClosed_5 : decode cX1_isClosed 5 = .ok (.iconst (-1), 1) := by decide +kernel
theorem dX1_isClosed_6 : decode cX1_isClosed 6 = .ok (.if_icmp .eq 7, 3) := by decide +kernel
theorem dX1_isClosed_9 : decode cX1_isClosed 9 = .ok (.iconst 1, 1) := by decide +kernel
theorem dX1_isClosed_10 : decode cX1_isClosed 10 = .ok (.goto 4, 3) := by decide +kernel
theorem dX1_isClosed_13 : decode cX1_isClosed 13 = .ok (.iconst 0, 1) := by decide +kernel
theorem dX1_isClosed_14 : decode cX1_isClosed 14 = .ok (.ireturn, 1) := by decide +kernel
set_option maxRecDepth 20000 in
theorem ggX1_levelOf_X5_isIndexIn : GoodIn wsX1_levelOf wsX5_isIndexIn := goodIn_r _ [5] (by decide +kernel) (by decide +kernel)
set_option maxRecDepth 20000 in
theorem gX1_levelOf_X5_isIndexIn : GoodIn wsX1_levelOf (va_wsS RX1 50 yX5_isIndexIn wsX5_isIndexIn) := goodIn_app (goodIn_of _ (by decide +kernel)) ggX1_levelOf_X5_isIndexIn
theorem dX1_levelOf_0 : decode cX1_levelOf 0 = .ok (.aload_n 0, 1) := by decide +kernel
theorem dX1_levelOf_1 : decode cX1_levelOf 1 = .ok (.getfield 15, 3) := by decide +kernel
theorem dX1_levelOf_4 : decode cX1_levelOf 4 = .ok (.iload_n 1, 1) := by decide +kernel
theorem dX1_levelOf_5 : decode cX1_levelOf 5 = .ok (.invokestatic 50, 3) := by decide +kernel
theorem dX1_levelOf_8 : decode cX1_levelOf 8 = .ok (.ifCond .eq 12, 3) := by decide +kernel
theorem dX1_levelOf_11 : decode cX1_levelOf 11 = .ok (.aload_n 0, 1) := by decide +kernel
theorem dX1_levelOf_12 : decode cX1_levelOf 12 = .ok (.getfield 15, 3) := by decide +kernel
theorem dX1_levelOf_15 : decode cX1_levelOf 15 = .ok (.iload_n 1, 1) := by decide +kernel
theorem dX1_levelOf_16 : decode cX1_levelOf 16 = .ok (.iaload, 1) := by decide +kernel
theorem dX1_levelOf_17 : decode cX1_levelOf 17 = .ok (.goto 4, 3) := by decide +kernel
theorem dX1_levelOf_20 : decode cX1_levelOf 20 = .ok (.iconst (-1), 1) := by decide +kernel
theorem dX1_levelOf_21 : decode cX1_levelOf 21 = .ok (.ireturn, 1) := by decide +kernel
set_option maxRecDepth 20000 in
theorem ggX1_setLevel_X5_isIndexIn : GoodIn wsX1_setLevel wsX5_isIndexIn := goodIn_r _ [5] (by decide +kernel) (by decide +kernel)
set_option maxRecDepth 20000 in
theorem gX1_setLevel_X5_isIndexIn : GoodIn wsX1_setLevel (va_wsS RX1 50 yX5_isIndexIn wsX5_isIndexIn) := goodIn_app (goodIn_of _ (by decide +kernel)) ggX1_setLevel_X5_isIndexIn
theorem dX1_setLevel_0 : decode cX1_setLevel 0 = .ok (.aload_n 0, 1) := by decide +kernel
theorem dX1_setLevel_1 : decode cX1_setLevel 1 = .ok (.getfield 15, 3) := by decide +kernel
theorem dX1_setLevel_4 : decode cX1_setLevel 4 = .ok (.iload_n 1, 1) := by decide +kernel
theorem dX1_setLevel_5 : decode cX1_setLevel 5 = .ok (.invokestatic 50, 3) := by decide +kernel
theorem dX1_setLevel_8 : decode cX1_setLevel 8 = .ok (.ifCond .eq 10, 3) := by decide +kernel
theorem dX1_setLevel_11 : decode cX1_setLevel 11 = .ok (.aload_n 0, 1) := by decide +kernel
theorem dX1_setLevel_12 : decode cX1_setLevel 12 = .ok (.getfield 15, 3) := by decide +kernel
theorem dX1_setLevel_15 : decode cX1_setLevel 15 = .ok (.iload_n 1, 1) := by decide +kernel
theorem dX1_setLevel_16 : decode cX1_setLevel 16 = .ok (.iload_n 2, 1) := by decide +kernel
theorem dX1_setLevel_17 : decode cX1_setLevel 17 = .ok (.iastore, 1) := by decide +kernel
theorem dX1_setLevel_18 : decode cX1_setLevel 18 = .ok (.return_, 1) := by decide +kernel
set_option maxRecDepth 20000 in
theorem ggX1_arrange_X1_putInOrder : GoodIn wsX1_arrange wsX1_putInOrder := goodIn_r _ [8, 9, 2, 3, 10, 11, 12, 7, 13, 14, 15, 16, 17, 18, 19, 20, 21, 22, 23, 24, 25, 49, 50, 51, 52, 53] (by decide +kernel) (by decide +kernel)
set_option maxRecDepth 20000 in
theorem gX1_arrange_X1_putInOrder : GoodIn wsX1_arrange (wsV RX1 54 RX1 yX1_putInOrder wsX1_putInOrder) := goodIn_app (goodIn_of _ (by decide +kernel)) ggX1_arrange_X1_putInOrder
set_option maxRecDepth 20000 in
theorem ggX1_arrange_X1_levelFromAbove : GoodIn wsX1_arrange wsX1_levelFromAbove := goodIn_r _ [29, 30, 31, 32, 33, 34, 35, 36, 37, 38, 39, 40, 41, 42, 43, 44, 14, 15, 16, 7, 17, 18, 19, 20, 21, 22, 54, 55, 56, 49, 50, 51, 52, 53] (by decide +kernel) (by decide +kernel)
set_option maxRecDepth 20000 in
theorem gX1_arrange_X1_levelFromAbove : GoodIn wsX1_arrange (wsV RX1 57 RX1 yX1_levelFromAbove wsX1_levelFromAbove) := goodIn_app (goodIn_of _ (by decide +kernel)) ggX1_arrange_X1_levelFromAbove
set_option maxRecDepth 20000 in
theorem ggX1_arrange_X1_setLevel : GoodIn wsX1_arrange wsX1_setLevel := goodIn_r _ [48, 18, 19, 20, 21, 22, 49, 50, 51, 52, 53] (by decide +kernel) (by decide +kernel)
set_option maxRecDepth 20000 in
theorem gX1_arrange_X1_setLevel : GoodIn wsX1_arrange (wsV RX1 25 RX1 yX1_setLevel wsX1_setLevel) := goodIn_app (goodIn_of _ (by decide +kernel)) ggX1_arrange_X1_setLevel
theorem dX1_arrange_0 : decode cX1_arrange 0 = .ok (.aload_n 0, 1) := by decide +kernel
theorem dX1_arrange_1 : decode cX1_arrange 1 = .ok (.getfield 43, 3) := by decide +kernel
theorem dX1_arrange_4 : decode cX1_arrange 4 = .ok (.ifCond .eq 4, 3) := by decide +kernel
theorem dX1_arrange_7 : decode cX1_arrange 7 = .ok (.return_, 1) := by decide +kernel
theorem dX1_arrange_8 : decode cX1_arrange 8 = .ok (.aload_n 0, 1) := by decide +kernel
theorem dX1_arrange_9 : decode cX1_arrange 9 = .ok (.invokevirtual 54, 3) := by decide +kernel
theorem dX1_arrange_12 : decode cX1_arrange 12 = .ok (.iconst 0, 1) := by decide +kernel
theorem dX1_arrange_13 : decode cX1_arrange 13 = .ok (.istore_n 2, 1) := by decide +kernel
theorem dX1_arrange_14 : decode cX1_arrange 14 = .ok (.iload_n 2, 1) := by decide +kernel
theorem dX1_arrange_15 : decode cX1_arrange 15 = .ok (.aload_n 0, 1) := by decide +kernel
theorem dX1_arrange_16 : decode cX1_arrange 16 = .ok (.getfield 22, 3) := by decide +kernel
theorem dX1_arrange_19 : decode cX1_arrange 19 = .ok (.if_icmp .ge 30, 3) := by decide +kernel
theorem dX1_arrange_22 : decode cX1_arrange 22 = .ok (.aload_n 0, 1) := by decide +kernel
theorem dX1_arrange_23 : decode cX1_arrange 23 = .ok (.aload_n 0, 1) := by decide +kernel
theorem dX1_arrange_24 : decode cX1_arrange 24 = .ok (.getfield 9, 3) := by decide +kernel
theorem dX1_arrange_27 : decode cX1_arrange 27 = .ok (.iload_n 2, 1) := by decide +kernel
theorem dX1_arrange_28 : decode cX1_arrange 28 = .ok (.iaload, 1) := by decide +kernel
theorem dX1_arrange_29 : decode cX1_arrange 29 = .ok (.aload_n 0, 1) := by decide +kernel
theorem dX1_arrange_30 : decode cX1_arrange 30 = .ok (.aload_n 0, 1) := by decide +kernel
theorem dX1_arrange_31 : decode cX1_arrange 31 = .ok (.getfield 9, 3) := by decide +kernel
theorem dX1_arrange_34 : decode cX1_arrange 34 = .ok (.iload_n 2, 1) := by decide +kernel
theorem dX1_arrange_35 : decode cX1_arrange 35 = .ok (.iaload, 1) := by decide +kernel
theorem dX1_arrange_36 : decode cX1_arrange 36 = .ok (.aload_n 1, 1) := by decide +kernel
theorem dX1_arrange_37 : decode cX1_arrange 37 = .ok (.invokevirtual 57, 3) := by decide +kernel
theorem dX1_arrange_40 : decode cX1_arrange 40 = .ok (.invokevirtual 25, 3) := by decide +kernel
theorem dX1_arrange_43 : decode cX1_arrange 43 = .ok (.iinc 2 1, 3) := by decide +kernel
theorem dX1_arrange_46 : decode cX1_arrange 46 = .ok (.goto (-32), 3) := by decide +kernel
theorem dX1_arrange_49 : decode cX1_arrange 49 = .ok (.aload_n 0, 1) := by decide +kernel
theorem dX1_arrange_50 : decode cX1_arrange 50 = .ok (.iconst 1, 1) := by decide +kernel
theorem dX1_arrange_51 : decode cX1_arrange 51 = .ok (.putfield 43, 3) := by decide +kernel
theorem dX1_arrange_54 : decode cX1_arrange 54 = .ok (.return_, 1) := by decide +kernel
set_option maxRecDepth 20000 in
theorem ggX1_putInOrder_X1_isClosed : GoodIn wsX1_putInOrder wsX1_isClosed := goodIn_r _ [8, 9, 10, 11, 7, 12, 13, 14, 15, 16, 17, 21, 22, 23, 24, 25] (by decide +kernel) (by decide +kernel)
set_option maxRecDepth 20000 in
theorem gX1_putInOrder_X1_isClosed : GoodIn wsX1_putInOrder (wsV RX1 39 RX1 yX1_isClosed wsX1_isClosed) := goodIn_app (goodIn_of _ (by decide +kernel)) ggX1_putInOrder_X1_isClosed
set_option maxRecDepth 20000 in
theorem ggX1_putInOrder_X5_rightBehind : GoodIn wsX1_putInOrder wsX5_rightBehind := goodIn_r _ [20] (by decide +kernel) (by decide +kernel)
set_option maxRecDepth 20000 in
theorem gX1_putInOrder_X5_rightBehind : GoodIn wsX1_putInOrder (va_wsS RX1 61 yX5_rightBehind wsX5_rightBehind) := goodIn_app (goodIn_of _ (by decide +kernel)) ggX1_putInOrder_X5_rightBehind
theorem dX1_putInOrder_0 : decode cX1_putInOrder 0 = .ok (.iconst 0, 1) := by decide +kernel
theorem dX1_putInOrder_1 : decode cX1_putInOrder 1 = .ok (.istore_n 1, 1) := by decide +kernel
theorem dX1_putInOrder_2 : decode cX1_putInOrder 2 = .ok (.iconst 0, 1) := by decide +kernel
theorem dX1_putInOrder_3 : decode cX1_putInOrder 3 = .ok (.istore_n 2, 1) := by decide +kernel
theorem dX1_putInOrder_4 : decode cX1_putInOrder 4 = .ok (.iconst 0, 1) := by decide +kernel
theorem dX1_putInOrder_5 : decode cX1_putInOrder 5 = .ok (.istore_n 3, 1) := by decide +kernel
theorem dX1_putInOrder_6 : decode cX1_putInOrder 6 = .ok (.iload_n 3, 1) := by decide +kernel
theorem dX1_putInOrder_7 : decode cX1_putInOrder 7 = .ok (.iconst 1, 1) := by decide +kernel
theorem dX1_putInOrder_8 : decode cX1_putInOrder 8 = .ok (.aload_n 0, 1) := by decide +kernel
theorem dX1_putInOrder_9 : decode cX1_putInOrder 9 = .ok (.getfield 18, 3) := by decide +kernel
theorem dX1_putInOrder_12 : decode cX1_putInOrder 12 = .ok (.ishl, 1) := by decide +kernel
theorem dX1_putInOrder_13 : decode cX1_putInOrder 13 = .ok (.if_icmp .ge 49, 3) := by decide +kernel
theorem dX1_putInOrder_16 : decode cX1_putInOrder 16 = .ok (.iload_n 2, 1) := by decide +kernel
theorem dX1_putInOrder_17 : decode cX1_putInOrder 17 = .ok (.iconst (-1), 1) := by decide +kernel
theorem dX1_putInOrder_18 : decode cX1_putInOrder 18 = .ok (.if_icmp .eq 44, 3) := by decide +kernel
theorem dX1_putInOrder_21 : decode cX1_putInOrder 21 = .ok (.aload_n 0, 1) := by decide +kernel
theorem dX1_putInOrder_22 : decode cX1_putInOrder 22 = .ok (.iload_n 2, 1) := by decide +kernel
theorem dX1_putInOrder_23 : decode cX1_putInOrder 23 = .ok (.invokevirtual 39, 3) := by decide +kernel
theorem dX1_putInOrder_26 : decode cX1_putInOrder 26 = .ok (.ifCond .eq 21, 3) := by decide +kernel
theorem dX1_putInOrder_29 : decode cX1_putInOrder 29 = .ok (.iload_n 1, 1) := by decide +kernel
theorem dX1_putInOrder_30 : decode cX1_putInOrder 30 = .ok (.aload_n 0, 1) := by decide +kernel
theorem dX1_putInOrder_31 : decode cX1_putInOrder 31 = .ok (.getfield 22, 3) := by decide +kernel
theorem dX1_putInOrder_34 : decode cX1_putInOrder 34 = .ok (.if_icmp .ge 13, 3) := by decide +kernel
theorem dX1_putInOrder_37 : decode cX1_putInOrder 37 = .ok (.aload_n 0, 1) := by decide +kernel
theorem dX1_putInOrder_38 : decode cX1_putInOrder 38 = .ok (.getfield 9, 3) := by decide +kernel
theorem dX1_putInOrder_41 : decode cX1_putInOrder 41 = .ok (.iload_n 1, 1) := by decide +kernel
theorem dX1_putInOrder_42 : decode cX1_putInOrder 42 = .ok (.iload_n 2, 1) := by decide +kernel
theorem dX1_putInOrder_43 : decode cX1_putInOrder 43 = .ok (.iastore, 1) := by decide +kernel
theorem dX1_putInOrder_44 : decode cX1_putInOrder 44 = .ok (.iinc 1 1, 3) := by decide +kernel
theorem dX1_putInOrder_47 : decode cX1_putInOrder 47 = .ok (.iload_n 2, 1) := by decide +kernel
theorem dX1_putInOrder_48 : decode cX1_putInOrder 48 = .ok (.aload_n 0, 1) := by decide +kernel
theorem dX1_putInOrder_49 : decode cX1_putInOrder 49 = .ok (.getfield 18, 3) := by decide +kernel
theorem dX1_putInOrder_52 : decode cX1_putInOrder 52 = .ok (.invokestatic 61, 3) := by decide +kernel
theorem dX1_putInOrder_55 : decode cX1_putInOrder 55 = .ok (.istore_n 2, 1) := by decide +kernel
theorem dX1_putInOrder_56 : decode cX1_putInOrder 56 = .ok (.iinc 3 1, 3) := by decide +kernel
theorem dX1_putInOrder_59 : decode cX1_putInOrder 59 = .ok (.goto (-53), 3) := by decide +kernel
theorem dX1_putInOrder_62 : decode cX1_putInOrder 62 = .ok (.return_, 1) := by decide +kernel
set_option maxRecDepth 20000 in
theorem ggX1_levelFromAbove_X6_size : GoodIn wsX1_levelFromAbove wsX6_size := goodIn_r _ [9, 10, 26, 27, 28] (by decide +kernel) (by decide +kernel)
set_option maxRecDepth 20000 in
theorem gX1_levelFromAbove_X6_size : GoodIn wsX1_levelFromAbove (wsV RX1 65 RX6 yX6_size wsX6_size) := goodIn_app (goodIn_of _ (by decide +kernel)) ggX1_levelFromAbove_X6_size
set_option maxRecDepth 20000 in
theorem ggX1_levelFromAbove_X6_row : GoodIn wsX1_levelFromAbove wsX6_row := goodIn_r _ [14, 10, 15, 26, 27, 28] (by decide +kernel) (by decide +kernel)
set_option maxRecDepth 20000 in
theorem gX1_levelFromAbove_X6_row : GoodIn wsX1_levelFromAbove (wsV RX1 70 RX6 yX6_row wsX6_row) := goodIn_app (goodIn_of _ (by decide +kernel)) ggX1_levelFromAbove_X6_row
set_option maxRecDepth 20000 in
theorem ggX1_levelFromAbove_X1_levelOf : GoodIn wsX1_levelFromAbove wsX1_levelOf := goodIn_r _ [20, 21, 22, 23, 24, 25, 29, 30, 31, 32, 33] (by decide +kernel) (by decide +kernel)
set_option maxRecDepth 20000 in
theorem gX1_levelFromAbove_X1_levelOf : GoodIn wsX1_levelFromAbove (wsV RX1 47 RX1 yX1_levelOf wsX1_levelOf) := goodIn_app (goodIn_of _ (by decide +kernel)) ggX1_levelFromAbove_X1_levelOf
theorem dX1_levelFromAbove_0 : decode cX1_levelFromAbove 0 = .ok (.iconst 0, 1) := by decide +kernel
theorem dX1_levelFromAbove_1 : decode cX1_levelFromAbove 1 = .ok (.istore_n 3, 1) := by decide +kernel
theorem dX1_levelFromAbove_2 : decode cX1_levelFromAbove 2 = .ok (.iconst 0, 1) := by decide +kernel
theorem dX1_levelFromAbove_3 : decode cX1_levelFromAbove 3 = .ok (.istore 4, 2) := by decide +kernel
theorem dX1_levelFromAbove_5 : decode cX1_levelFromAbove 5 = .ok (.iload 4, 2) := by decide +kernel
theorem dX1_levelFromAbove_7 : decode cX1_levelFromAbove 7 = .ok (.aload_n 2, 1) := by decide +kernel
theorem dX1_levelFromAbove_8 : decode cX1_levelFromAbove 8 = .ok (.invokevirtual 65, 3) := by decide +kernel
theorem dX1_levelFromAbove_11 : decode cX1_levelFromAbove 11 = .ok (.if_icmp .ge 38, 3) := by decide +kernel
theorem dX1_levelFromAbove_14 : decode cX1_levelFromAbove 14 = .ok (.iload_n 1, 1) := by decide +kernel
theorem dX1_levelFromAbove_15 : decode cX1_levelFromAbove 15 = .ok (.aload_n 2, 1) := by decide +kernel
theorem dX1_levelFromAbove_16 : decode cX1_levelFromAbove 16 = .ok (.iload 4, 2) := by decide +kernel
theorem dX1_levelFromAbove_18 : decode cX1_levelFromAbove 18 = .ok (.invokevirtual 70, 3) := by decide +kernel
theorem dX1_levelFromAbove_21 : decode cX1_levelFromAbove 21 = .ok (.iand, 1) := by decide +kernel
theorem dX1_levelFromAbove_22 : decode cX1_levelFromAbove 22 = .ok (.istore 5, 2) := by decide +kernel
theorem dX1_levelFromAbove_24 : decode cX1_levelFromAbove 24 = .ok (.iload 5, 2) := by decide +kernel
theorem dX1_levelFromAbove_26 : decode cX1_levelFromAbove 26 = .ok (.iload_n 1, 1) := by decide +kernel
theorem dX1_levelFromAbove_27 : decode cX1_levelFromAbove 27 = .ok (.if_icmp .eq 16, 3) := by decide +kernel
theorem dX1_levelFromAbove_30 : decode cX1_levelFromAbove 30 = .ok (.iload_n 3, 1) := by decide +kernel
theorem dX1_levelFromAbove_31 : decode cX1_levelFromAbove 31 = .ok (.aload_n 0, 1) := by decide +kernel
theorem dX1_levelFromAbove_32 : decode cX1_levelFromAbove 32 = .ok (.iload 5, 2) := by decide +kernel
theorem dX1_levelFromAbove_34 : decode cX1_levelFromAbove 34 = .ok (.invokevirtual 47, 3) := by decide +kernel
theorem dX1_levelFromAbove_37 : decode cX1_levelFromAbove 37 = .ok (.iconst 1, 1) := by decide +kernel
theorem dX1_levelFromAbove_38 : decode cX1_levelFromAbove 38 = .ok (.iadd, 1) := by decide +kernel
