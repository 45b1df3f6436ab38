set_option maxRecDepth 20000 in
theorem ggX8_know_X8_turned : GoodIn wsX8_know wsX8_turned := goodIn_r _ [12, 4, 53, 54, 55, 56, 57, 58, 59, 60, 61, 62, 63, 64, 65, 66, 67, 68, 69, 70] (by decide +kernel) (by decide +kernel)
set_option maxRecDepth 20000 in
theorem gX8_know_X8_turned : GoodIn wsX8_know (wsV RX8 90 RX8 yX8_turned wsX8_turned) := goodIn_app (goodIn_of _ (by decide +kernel)) ggX8_know_X8_turned
set_option maxRecDepth 20000 in
theorem ggX8_know_X8_closureOf : GoodIn wsX8_know wsX8_closureOf := goodIn_r _ [16, 17, 18, 19, 11, 20, 21, 22, 23, 24, 25, 26, 27, 28, 29, 30, 31, 32, 33, 4, 53, 54, 55, 56, 57, 58, 59, 60, 61, 62, 63, 64, 65, 66, 67, 68, 69, 70] (by decide +kernel) (by decide +kernel)
set_option maxRecDepth 20000 in
theorem gX8_know_X8_closureOf : GoodIn wsX8_know (wsV RX8 87 RX8 yX8_closureOf wsX8_closureOf) := goodIn_app (goodIn_of _ (by decide +kernel)) ggX8_know_X8_closureOf
set_option maxRecDepth 20000 in
theorem ggX8_know_X8_findLevels : GoodIn wsX8_know wsX8_findLevels := goodIn_r _ [37, 4, 2, 7, 38, 39, 40, 11, 41, 23, 24, 25, 53, 54, 55, 56, 57, 58, 59, 60, 61, 62, 63, 64, 65, 66, 67, 68, 69, 70] (by decide +kernel) (by decide +kernel)
set_option maxRecDepth 20000 in
theorem gX8_know_X8_findLevels : GoodIn wsX8_know (wsV RX8 102 RX8 yX8_findLevels wsX8_findLevels) := goodIn_app (goodIn_of _ (by decide +kernel)) ggX8_know_X8_findLevels
set_option maxRecDepth 20000 in
theorem ggX8_know_X8_findBase : GoodIn wsX8_know wsX8_findBase := goodIn_r _ [45, 4, 46, 6, 5, 47, 3, 48, 39, 40, 11, 41, 49, 50, 51, 52, 13, 14, 15, 16, 17, 18, 19, 20, 21, 22, 23, 24, 25, 26, 27, 28, 29, 30, 31, 32, 33, 53, 54, 55, 56, 57, 58, 59, 60, 61, 62, 63, 64, 65, 66, 67, 68, 69, 70] (by decide +kernel) (by decide +kernel)
set_option maxRecDepth 20000 in
theorem gX8_know_X8_findBase : GoodIn wsX8_know (wsV RX8 105 RX8 yX8_findBase wsX8_findBase) := goodIn_app (goodIn_of _ (by decide +kernel)) ggX8_know_X8_findBase
theorem dX8_know_0 : decode cX8_know 0 = .ok (.aload_n 0, 1) := by decide +kernel
theorem dX8_know_1 : decode cX8_know 1 = .ok (.getfield 56, 3) := by decide +kernel
theorem dX8_know_4 : decode cX8_know 4 = .ok (.ifCond .eq 4, 3) := by decide +kernel
theorem dX8_know_7 : decode cX8_know 7 = .ok (.return_, 1) := by decide +kernel
theorem dX8_know_8 : decode cX8_know 8 = .ok (.aload_n 0, 1) := by decide +kernel
theorem dX8_know_9 : decode cX8_know 9 = .ok (.iconst 1, 1) := by decide +kernel
theorem dX8_know_10 : decode cX8_know 10 = .ok (.putfield 56, 3) := by decide +kernel
theorem dX8_know_13 : decode cX8_know 13 = .ok (.aload_n 0, 1) := by decide +kernel
theorem dX8_know_14 : decode cX8_know 14 = .ok (.iconst 0, 1) := by decide +kernel
theorem dX8_know_15 : decode cX8_know 15 = .ok (.putfield 96, 3) := by decide +kernel
theorem dX8_know_18 : decode cX8_know 18 = .ok (.aload_n 0, 1) := by decide +kernel
theorem dX8_know_19 : decode cX8_know 19 = .ok (.iconst 0, 1) := by decide +kernel
theorem dX8_know_20 : decode cX8_know 20 = .ok (.putfield 99, 3) := by decide +kernel
theorem dX8_know_23 : decode cX8_know 23 = .ok (.iconst 0, 1) := by decide +kernel
theorem dX8_know_24 : decode cX8_know 24 = .ok (.istore_n 1, 1) := by decide +kernel
theorem dX8_know_25 : decode cX8_know 25 = .ok (.iload_n 1, 1) := by decide +kernel
theorem dX8_know_26 : decode cX8_know 26 = .ok (.iconst 1, 1) := by decide +kernel
theorem dX8_know_27 : decode cX8_know 27 = .ok (.aload_n 0, 1) := by decide +kernel
theorem dX8_know_28 : decode cX8_know 28 = .ok (.getfield 7, 3) := by decide +kernel
theorem dX8_know_31 : decode cX8_know 31 = .ok (.ishl, 1) := by decide +kernel
theorem dX8_know_32 : decode cX8_know 32 = .ok (.if_icmp .ge 71, 3) := by decide +kernel
theorem dX8_know_35 : decode cX8_know 35 = .ok (.aload_n 0, 1) := by decide +kernel
theorem dX8_know_36 : decode cX8_know 36 = .ok (.iload_n 1, 1) := by decide +kernel
theorem dX8_know_37 : decode cX8_know 37 = .ok (.invokevirtual 90, 3) := by decide +kernel
theorem dX8_know_40 : decode cX8_know 40 = .ok (.istore_n 2, 1) := by decide +kernel
theorem dX8_know_41 : decode cX8_know 41 = .ok (.aload_n 0, 1) := by decide +kernel
theorem dX8_know_42 : decode cX8_know 42 = .ok (.getfield 17, 3) := by decide +kernel
theorem dX8_know_45 : decode cX8_know 45 = .ok (.iload_n 1, 1) := by decide +kernel
theorem dX8_know_46 : decode cX8_know 46 = .ok (.iload_n 2, 1) := by decide +kernel
theorem dX8_know_47 : decode cX8_know 47 = .ok (.iastore, 1) := by decide +kernel
theorem dX8_know_48 : decode cX8_know 48 = .ok (.aload_n 0, 1) := by decide +kernel
theorem dX8_know_49 : decode cX8_know 49 = .ok (.getfield 20, 3) := by decide +kernel
theorem dX8_know_52 : decode cX8_know 52 = .ok (.iload_n 2, 1) := by decide +kernel
theorem dX8_know_53 : decode cX8_know 53 = .ok (.aload_n 0, 1) := by decide +kernel
theorem dX8_know_54 : decode cX8_know 54 = .ok (.iload_n 2, 1) := by decide +kernel
theorem dX8_know_55 : decode cX8_know 55 = .ok (.invokevirtual 87, 3) := by decide +kernel
theorem dX8_know_58 : decode cX8_know 58 = .ok (.iload_n 2, 1) := by decide +kernel
theorem dX8_know_59 : decode cX8_know 59 = .ok (.if_icmp .ne 7, 3) := by decide +kernel
theorem dX8_know_62 : decode cX8_know 62 = .ok (.iconst 1, 1) := by decide +kernel
theorem dX8_know_63 : decode cX8_know 63 = .ok (.goto 4, 3) := by decide +kernel
theorem dX8_know_66 : decode cX8_know 66 = .ok (.iconst 0, 1) := by decide +kernel
theorem dX8_know_67 : decode cX8_know 67 = .ok (.bastore, 1) := by decide +kernel
theorem dX8_know_68 : decode cX8_know 68 = .ok (.aload_n 0, 1) := by decide +kernel
theorem dX8_know_69 : decode cX8_know 69 = .ok (.getfield 20, 3) := by decide +kernel
theorem dX8_know_72 : decode cX8_know 72 = .ok (.iload_n 2, 1) := by decide +kernel
theorem dX8_know_73 : decode cX8_know 73 = .ok (.baload, 1) := by decide +kernel
theorem dX8_know_74 : decode cX8_know 74 = .ok (.ifCond .eq 23, 3) := by decide +kernel
theorem dX8_know_77 : decode cX8_know 77 = .ok (.aload_n 0, 1) := by decide +kernel
theorem dX8_know_78 : decode cX8_know 78 = .ok (.getfield 24, 3) := by decide +kernel
theorem dX8_know_81 : decode cX8_know 81 = .ok (.aload_n 0, 1) := by decide +kernel
theorem dX8_know_82 : decode cX8_know 82 = .ok (.getfield 96, 3) := by decide +kernel
theorem dX8_know_85 : decode cX8_know 85 = .ok (.iload_n 2, 1) := by decide +kernel
theorem dX8_know_86 : decode cX8_know 86 = .ok (.iastore, 1) := by decide +kernel
theorem dX8_know_87 : decode cX8_know 87 = .ok (.aload_n 0, 1) := by decide +kernel
theorem dX8_know_88 : decode cX8_know 88 = .ok (.dup, 1) := by decide +kernel
theorem dX8_know_89 : decode cX8_know 89 = .ok (.getfield 96, 3) := by decide +kernel
theorem dX8_know_92 : decode cX8_know 92 = .ok (.iconst 1, 1) := by decide +kernel
theorem dX8_know_93 : decode cX8_know 93 = .ok (.iadd, 1) := by decide +kernel
theorem dX8_know_94 : decode cX8_know 94 = .ok (.putfield 96, 3) := by decide +kernel
theorem dX8_know_97 : decode cX8_know 97 = .ok (.iinc 1 1, 3) := by decide +kernel
theorem dX8_know_100 : decode cX8_know 100 = .ok (.goto (-75), 3) := by decide +kernel
theorem dX8_know_103 : decode cX8_know 103 = .ok (.aload_n 0, 1) := by decide +kernel
theorem dX8_know_104 : decode cX8_know 104 = .ok (.invokevirtual 102, 3) := by decide +kernel
theorem dX8_know_107 : decode cX8_know 107 = .ok (.aload_n 0, 1) := by decide +kernel
theorem dX8_know_108 : decode cX8_know 108 = .ok (.invokevirtual 105, 3) := by decide +kernel
theorem dX8_know_111 : decode cX8_know 111 = .ok (.return_, 1) := by decide +kernel
set_option maxRecDepth 20000 in
theorem ggX8_findLevels_X8_bitsOf : GoodIn wsX8_findLevels wsX8_bitsOf := goodIn_r _ [8] (by decide +kernel) (by decide +kernel)
set_option maxRecDepth 20000 in
theorem gX8_findLevels_X8_bitsOf : GoodIn wsX8_findLevels (va_wsS RX8 108 yX8_bitsOf wsX8_bitsOf) := goodIn_app (goodIn_of _ (by decide +kernel)) ggX8_findLevels_X8_bitsOf
set_option maxRecDepth 20000 in
theorem ggX8_findLevels_X8_isPart : GoodIn wsX8_findLevels wsX8_isPart := goodIn_r _ [11] (by decide +kernel) (by decide +kernel)
set_option maxRecDepth 20000 in
theorem gX8_findLevels_X8_isPart : GoodIn wsX8_findLevels (va_wsS RX8 52 yX8_isPart wsX8_isPart) := goodIn_app (goodIn_of _ (by decide +kernel)) ggX8_findLevels_X8_isPart
theorem dX8_findLevels_0 : decode cX8_findLevels 0 = .ok (.iconst 0, 1) := by decide +kernel
theorem dX8_findLevels_1 : decode cX8_findLevels 1 = .ok (.istore_n 1, 1) := by decide +kernel
theorem dX8_findLevels_2 : decode cX8_findLevels 2 = .ok (.iload_n 1, 1) := by decide +kernel
theorem dX8_findLevels_3 : decode cX8_findLevels 3 = .ok (.aload_n 0, 1) := by decide +kernel
theorem dX8_findLevels_4 : decode cX8_findLevels 4 = .ok (.getfield 7, 3) := by decide +kernel
theorem dX8_findLevels_7 : decode cX8_findLevels 7 = .ok (.if_icmp .gt 136, 3) := by decide +kernel
theorem dX8_findLevels_10 : decode cX8_findLevels 10 = .ok (.iconst 0, 1) := by decide +kernel
theorem dX8_findLevels_11 : decode cX8_findLevels 11 = .ok (.istore_n 2, 1) := by decide +kernel
theorem dX8_findLevels_12 : decode cX8_findLevels 12 = .ok (.iload_n 2, 1) := by decide +kernel
theorem dX8_findLevels_13 : decode cX8_findLevels 13 = .ok (.aload_n 0, 1) := by decide +kernel
theorem dX8_findLevels_14 : decode cX8_findLevels 14 = .ok (.getfield 96, 3) := by decide +kernel
theorem dX8_findLevels_17 : decode cX8_findLevels 17 = .ok (.if_icmp .ge 120, 3) := by decide +kernel
theorem dX8_findLevels_20 : decode cX8_findLevels 20 = .ok (.aload_n 0, 1) := by decide +kernel
theorem dX8_findLevels_21 : decode cX8_findLevels 21 = .ok (.getfield 24, 3) := by decide +kernel
theorem dX8_findLevels_24 : decode cX8_findLevels 24 = .ok (.iload_n 2, 1) := by decide +kernel
theorem dX8_findLevels_25 : decode cX8_findLevels 25 = .ok (.iaload, 1) := by decide +kernel
theorem dX8_findLevels_26 : decode cX8_findLevels 26 = .ok (.invokestatic 108, 3) := by decide +kernel
theorem dX8_findLevels_29 : decode cX8_findLevels 29 = .ok (.iload_n 1, 1) := by decide +kernel
theorem dX8_findLevels_30 : decode cX8_findLevels 30 = .ok (.if_icmp .ne 101, 3) := by decide +kernel
theorem dX8_findLevels_33 : decode cX8_findLevels 33 = .ok (.aload_n 0, 1) := by decide +kernel
theorem dX8_findLevels_34 : decode cX8_findLevels 34 = .ok (.getfield 27, 3) := by decide +kernel
theorem dX8_findLevels_37 : decode cX8_findLevels 37 = .ok (.iload_n 2, 1) := by decide +kernel
theorem dX8_findLevels_38 : decode cX8_findLevels 38 = .ok (.iconst 0, 1) := by decide +kernel
theorem dX8_findLevels_39 : decode cX8_findLevels 39 = .ok (.iastore, 1) := by decide +kernel
theorem dX8_findLevels_40 : decode cX8_findLevels 40 = .ok (.iconst 0, 1) := by decide +kernel
theorem dX8_findLevels_41 : decode cX8_findLevels 41 = .ok (.istore_n 3, 1) := by decide +kernel
theorem dX8_findLevels_42 : decode cX8_findLevels 42 = .ok (.iload_n 3, 1) := by decide +kernel
theorem dX8_findLevels_43 : decode cX8_findLevels 43 = .ok (.aload_n 0, 1) := by decide +kernel
theorem dX8_findLevels_44 : decode cX8_findLevels 44 = .ok (.getfield 96, 3) := by decide +kernel
theorem dX8_findLevels_47 : decode cX8_findLevels 47 = .ok (.if_icmp .ge 84, 3) := by decide +kernel
theorem dX8_findLevels_50 : decode cX8_findLevels 50 = .ok (.iload_n 3, 1) := by decide +kernel
theorem dX8_findLevels_51 : decode cX8_findLevels 51 = .ok (.iload_n 2, 1) := by decide +kernel
theorem dX8_findLevels_52 : decode cX8_findLevels 52 = .ok (.if_icmp .eq 25, 3) := by decide +kernel
theorem dX8_findLevels_55 : decode cX8_findLevels 55 = .ok (.aload_n 0, 1) := by decide +kernel
theorem dX8_findLevels_56 : decode cX8_findLevels 56 = .ok (.getfield 24, 3) := by decide +kernel
theorem dX8_findLevels_59 : decode cX8_findLevels 59 = .ok (.iload_n 3, 1) := by decide +kernel
theorem dX8_findLevels_60 : decode cX8_findLevels 60 = .ok (.iaload, 1) := by decide +kernel
theorem dX8_findLevels_61 : decode cX8_findLevels 61 = .ok (.aload_n 0, 1) := by decide +kernel
theorem dX8_findLevels_62 : decode cX8_findLevels 62 = .ok (.getfield 24, 3) := by decide +kernel
theorem dX8_findLevels_65 : decode cX8_findLevels 65 = .ok (.iload_n 2, 1) := by decide +kernel
theorem dX8_findLevels_66 : decode cX8_findLevels 66 = .ok (.iaload, 1) := by decide +kernel
theorem dX8_findLevels_67 : decode cX8_findLevels 67 = .ok (.invokestatic 52, 3) := by decide +kernel
theorem dX8_findLevels_70 : decode cX8_findLevels 70 = .ok (.ifCond .eq 7, 3) := by decide +kernel
theorem dX8_findLevels_73 : decode cX8_findLevels 73 = .ok (.iconst 1, 1) := by decide +kernel
theorem dX8_findLevels_74 : decode cX8_findLevels 74 = .ok (.goto 4, 3) := by decide +kernel
theorem dX8_findLevels_77 : decode cX8_findLevels 77 = .ok (.iconst 0, 1) := by decide +kernel
theorem dX8_findLevels_78 : decode cX8_findLevels 78 = .ok (.istore 4, 2) := by decide +kernel
theorem dX8_findLevels_80 : decode cX8_findLevels 80 = .ok (.aload_n 0, 1) := by decide +kernel
theorem dX8_findLevels_81 : decode cX8_findLevels 81 = .ok (.getfield 27, 3) := by decide +kernel
theorem dX8_findLevels_84 : decode cX8_findLevels 84 = .ok (.iload_n 2, 1) := by decide +kernel
theorem dX8_findLevels_85 : decode cX8_findLevels 85 = .ok (.iload 4, 2) := by decide +kernel
theorem dX8_findLevels_87 : decode cX8_findLevels 87 = .ok (.ifCond .eq 31, 3) := by decide +kernel
theorem dX8_findLevels_90 : decode cX8_findLevels 90 = .ok (.aload_n 0, 1) := by decide +kernel
theorem dX8_findLevels_91 : decode cX8_findLevels 91 = .ok (.getfield 27, 3) := by decide +kernel
theorem dX8_findLevels_94 : decode cX8_findLevels 94 = .ok (.iload_n 3, 1) := by decide +kernel
theorem dX8_findLevels_95 : decode cX8_findLevels 95 = .ok (.iaload, 1) := by decide +kernel
theorem dX8_findLevels_96 : decode cX8_findLevels 96 = .ok (.iconst 1, 1) := by decide +kernel
theorem dX8_findLevels_97 : decode cX8_findLevels 97 = .ok (.iadd, 1) := by decide +kernel
theorem dX8_findLevels_98 : decode cX8_findLevels 98 = .ok (.aload_n 0, 1) := by decide +kernel
theorem dX8_findLevels_99 : decode cX8_findLevels 99 = .ok (.getfield 27, 3) := by decide +kernel
theorem dX8_findLevels_102 : decode cX8_findLevels 102 = .ok (.iload_n 2, 1) := by decide +kernel
theorem dX8_findLevels_103 : decode cX8_findLevels 103 = .ok (.iaload, 1) := by decide +kernel
theorem dX8_findLevels_104 : decode cX8_findLevels 104 = .ok (.if_icmp .le 14, 3) := by decide +kernel
theorem dX8_findLevels_107 : decode cX8_findLevels 107 = .ok (.aload_n 0, 1) := by decide +kernel
theorem dX8_findLevels_108 : decode cX8_findLevels 108 = .ok (.getfield 27, 3) := by decide +kernel
theorem dX8_findLevels_111 : decode cX8_findLevels 111 = .ok (.iload_n 3, 1) := by decide +kernel
theorem dX8_findLevels_112 : decode cX8_findLevels 112 = .ok (.iaload, 1) := by decide +kernel
theorem dX8_findLevels_113 : decode cX8_findLevels 113 = .ok (.iconst 1, 1) := by decide +kernel
theorem dX8_findLevels_114 : decode cX8_findLevels 114 = .ok (.iadd, 1) := by decide +kernel
theorem dX8_findLevels_115 : decode cX8_findLevels 115 = .ok (.goto 9, 3) := by decide +kernel
theorem dX8_findLevels_118 : decode cX8_findLevels 118 = .ok (.aload_n 0, 1) := by decide +kernel
theorem dX8_findLevels_119 : decode cX8_findLevels 119 = .ok (.getfield 27, 3) := by decide +kernel
theorem dX8_findLevels_122 : decode cX8_findLevels 122 = .ok (.iload_n 2, 1) := by decide +kernel
theorem dX8_findLevels_123 : decode cX8_findLevels 123 = .ok (.iaload, 1) := by decide +kernel
theorem dX8_findLevels_124 : decode cX8_findLevels 124 = .ok (.iastore, 1) := by decide +kernel
theorem dX8_findLevels_125 : decode cX8_findLevels 125 = .ok (.iinc 3 1, 3) := by decide +kernel
theorem dX8_findLevels_128 : decode cX8_findLevels 128 = .ok (.goto (-86), 3) := by decide +kernel
theorem dX8_findLevels_131 : decode cX8_findLevels 131 = .ok (.iinc 2 1, 3) := by decide +kernel
theorem dX8_findLevels_134 : decode cX8_findLevels 134 = .ok (.goto (-122), 3) := by decide +kernel
theorem dX8_findLevels_137 : decode cX8_findLevels 137 = .ok (.iinc 1 1, 3) := by decide +kernel
theorem dX8_findLevels_140 : decode cX8_findLevels 140 = .ok (.goto (-138), 3) := by decide +kernel
theorem dX8_findLevels_143 : decode cX8_findLevels 143 = .ok (.return_, 1) := by decide +kernel
theorem dX8_bitsOf_0 : decode cX8_bitsOf 0 = .ok (.iconst 0, 1) := by decide +kernel
theorem dX8_bitsOf_1 : decode cX8_bitsOf 1 = .ok (.istore_n 1, 1) := by decide +kernel
theorem dX8_bitsOf_2 : decode cX8_bitsOf 2 = .ok (.iconst 0, 1) := by decide +kernel
theorem dX8_bitsOf_3 : decode cX8_bitsOf 3 = .ok (.istore_n 2, 1) := by decide +kernel
theorem dX8_bitsOf_4 : decode cX8_bitsOf 4 = .ok (.iload_n 2, 1) := by decide +kernel
theorem dX8_bitsOf_5 : decode cX8_bitsOf 5 = .ok (.bipush 12, 2) := by decide +kernel
theorem dX8_bitsOf_7 : decode cX8_bitsOf 7 = .ok (.if_icmp .ge 17, 3) := by decide +kernel
theorem dX8_bitsOf_10 : decode cX8_bitsOf 10 = .ok (.iload_n 1, 1) := by decide +kernel
theorem dX8_bitsOf_11 : decode cX8_bitsOf 11 = .ok (.iload_n 0, 1) := by decide +kernel
theorem dX8_bitsOf_12 : decode cX8_bitsOf 12 = .ok (.iload_n 2, 1) := by decide +kernel
theorem dX8_bitsOf_13 : decode cX8_bitsOf 13 = .ok (.ishr, 1) := by decide +kernel
theorem dX8_bitsOf_14 : decode cX8_bitsOf 14 = .ok (.iconst 1, 1) := by decide +kernel
theorem dX8_bitsOf_15 : decode cX8_bitsOf 15 = .ok (.iand, 1) := by decide +kernel
theorem dX8_bitsOf_16 : decode cX8_bitsOf 16 = .ok (.iadd, 1) := by decide +kernel
theorem dX8_bitsOf_17 : decode cX8_bitsOf 17 = .ok (.istore_n 1, 1) := by decide +kernel
theorem dX8_bitsOf_18 : decode cX8_bitsOf 18 = .ok (.iinc 2 1, 3) := by decide +kernel
theorem dX8_bitsOf_21 : decode cX8_bitsOf 21 = .ok (.goto (-17), 3) := by decide +kernel
theorem dX8_bitsOf_24 : decode cX8_bitsOf 24 = .ok (.iload_n 1, 1) := by decide +kernel
theorem dX8_bitsOf_25 : decode cX8_bitsOf 25 = .ok (.ireturn, 1) := by decide +kernel
set_option maxRecDepth 20000 in
theorem ggX8_findBase_X8_bitsOf : GoodIn wsX8_findBase wsX8_bitsOf := goodIn_r _ [11] (by decide +kernel) (by decide +kernel)
set_option maxRecDepth 20000 in
theorem gX8_findBase_X8_bitsOf : GoodIn wsX8_findBase (va_wsS RX8 108 yX8_bitsOf wsX8_bitsOf) := goodIn_app (goodIn_of _ (by decide +kernel)) ggX8_findBase_X8_bitsOf
set_option maxRecDepth 20000 in
theorem ggX8_findBase_X8_keepsParts : GoodIn wsX8_findBase wsX8_keepsParts := goodIn_r _ [15, 2, 16, 17, 18, 10, 19, 20, 21, 22, 23, 24, 25, 26, 27, 28, 29, 30, 31, 32, 33, 34, 35, 36, 1, 37, 38, 39, 40, 41, 42, 43, 44, 45, 46, 47, 48, 49, 50, 51, 52, 53, 54] (by decide +kernel) (by decide +kernel)
set_option maxRecDepth 20000 in
theorem gX8_findBase_X8_keepsParts : GoodIn wsX8_findBase (wsV RX8 111 RX8 yX8_keepsParts wsX8_keepsParts) := goodIn_app (goodIn_of _ (by decide +kernel)) ggX8_findBase_X8_keepsParts
set_option maxRecDepth 20000 in
theorem ggX8_findBase_X8_closureOf : GoodIn wsX8_findBase wsX8_closureOf := goodIn_r _ [19, 20, 21, 22, 10, 23, 24, 25, 26, 27, 28, 29, 30, 31, 32, 33, 34, 35, 36, 1, 37, 38, 39, 40, 41, 42, 43, 44, 45, 46, 47, 48, 49, 50, 51, 52, 53, 54] (by decide +kernel) (by decide +kernel)
set_option maxRecDepth 20000 in
theorem gX8_findBase_X8_closureOf : GoodIn wsX8_findBase (wsV RX8 87 RX8 yX8_closureOf wsX8_closureOf) := goodIn_app (goodIn_of _ (by decide +kernel)) ggX8_findBase_X8_closureOf
theorem dX8_findBase_0 : decode cX8_findBase 0 = .ok (.iconst 0, 1) := by decide +kernel
theorem dX8_findBase_1 : decode cX8_findBase 1 = .ok (.istore_n 1, 1) := by decide +kernel
theorem dX8_findBase_2 : decode cX8_findBase 2 = .ok (.iload_n 1, 1) := by decide +kernel
theorem dX8_findBase_3 : decode cX8_findBase 3 = .ok (.aload_n 0, 1) := by decide +kernel
theorem dX8_findBase_4 : decode cX8_findBase 4 = .ok (.getfield 7, 3) := by decide +kernel
theorem dX8_findBase_7 : decode cX8_findBase 7 = .ok (.if_icmp .gt 63, 3) := by decide +kernel
theorem dX8_findBase_10 : decode cX8_findBase 10 = .ok (.iconst 0, 1) := by decide +kernel
theorem dX8_findBase_11 : decode cX8_findBase 11 = .ok (.istore_n 2, 1) := by decide +kernel
theorem dX8_findBase_12 : decode cX8_findBase 12 = .ok (.iload_n 2, 1) := by decide +kernel
theorem dX8_findBase_13 : decode cX8_findBase 13 = .ok (.iconst 1, 1) := by decide +kernel
theorem dX8_findBase_14 : decode cX8_findBase 14 = .ok (.aload_n 0, 1) := by decide +kernel
theorem dX8_findBase_15 : decode cX8_findBase 15 = .ok (.getfield 7, 3) := by decide +kernel
theorem dX8_findBase_18 : decode cX8_findBase 18 = .ok (.ishl, 1) := by decide +kernel
theorem dX8_findBase_19 : decode cX8_findBase 19 = .ok (.if_icmp .ge 45, 3) := by decide +kernel
theorem dX8_findBase_22 : decode cX8_findBase 22 = .ok (.iload_n 2, 1) := by decide +kernel
theorem dX8_findBase_23 : decode cX8_findBase 23 = .ok (.invokestatic 108, 3) := by decide +kernel
theorem dX8_findBase_26 : decode cX8_findBase 26 = .ok (.iload_n 1, 1) := by decide +kernel
theorem dX8_findBase_27 : decode cX8_findBase 27 = .ok (.if_icmp .ne 31, 3) := by decide +kernel
theorem dX8_findBase_30 : decode cX8_findBase 30 = .ok (.aload_n 0, 1) := by decide +kernel
theorem dX8_findBase_31 : decode cX8_findBase 31 = .ok (.getfield 45, 3) := by decide +kernel
theorem dX8_findBase_34 : decode cX8_findBase 34 = .ok (.iload_n 2, 1) := by decide +kernel
theorem dX8_findBase_35 : decode cX8_findBase 35 = .ok (.aload_n 0, 1) := by decide +kernel
theorem dX8_findBase_36 : decode cX8_findBase 36 = .ok (.getfield 20, 3) := by decide +kernel
theorem dX8_findBase_39 : decode cX8_findBase 39 = .ok (.iload_n 2, 1) := by decide +kernel
theorem dX8_findBase_40 : decode cX8_findBase 40 = .ok (.baload, 1) := by decide +kernel
theorem dX8_findBase_41 : decode cX8_findBase 41 = .ok (.ifCond .ne 15, 3) := by decide +kernel
theorem dX8_findBase_44 : decode cX8_findBase 44 = .ok (.aload_n 0, 1) := by decide +kernel
theorem dX8_findBase_45 : decode cX8_findBase 45 = .ok (.iload_n 2, 1) := by decide +kernel
theorem dX8_findBase_46 : decode cX8_findBase 46 = .ok (.invokevirtual 111, 3) := by decide +kernel
theorem dX8_findBase_49 : decode cX8_findBase 49 = .ok (.ifCond .eq 7, 3) := by decide +kernel
theorem dX8_findBase_52 : decode cX8_findBase 52 = .ok (.iconst 1, 1) := by decide +kernel
theorem dX8_findBase_53 : decode cX8_findBase 53 = .ok (.goto 4, 3) := by decide +kernel
theorem dX8_findBase_56 : decode cX8_findBase 56 = .ok (.iconst 0, 1) := by decide +kernel
theorem dX8_findBase_57 : decode cX8_findBase 57 = .ok (.bastore, 1) := by decide +kernel
theorem dX8_findBase_58 : decode cX8_findBase 58 = .ok (.iinc 2 1, 3) := by decide +kernel
theorem dX8_findBase_61 : decode cX8_findBase 61 = .ok (.goto (-49), 3) := by decide +kernel
theorem dX8_findBase_64 : decode cX8_findBase 64 = .ok (.iinc 1 1, 3) := by decide +kernel
theorem dX8_findBase_67 : decode cX8_findBase 67 = .ok (.goto (-65), 3) := by decide +kernel
theorem dX8_findBase_70 : decode cX8_findBase 70 = .ok (.iconst 0, 1) := by decide +kernel
theorem dX8_findBase_71 : decode cX8_findBase 71 = .ok (.istore_n 1, 1) := by decide +kernel
theorem dX8_findBase_72 : decode cX8_findBase 72 = .ok (.iload_n 1, 1) := by decide +kernel
theorem dX8_findBase_73 : decode cX8_findBase 73 = .ok (.iconst 1, 1) := by decide +kernel
theorem dX8_findBase_74 : decode cX8_findBase 74 = .ok (.aload_n 0, 1) := by decide +kernel
theorem dX8_findBase_75 : decode cX8_findBase 75 = .ok (.getfield 7, 3) := by decide +kernel
theorem dX8_findBase_78 : decode cX8_findBase 78 = .ok (.ishl, 1) := by decide +kernel
theorem dX8_findBase_79 : decode cX8_findBase 79 = .ok (.if_icmp .ge 59, 3) := by decide +kernel
theorem dX8_findBase_82 : decode cX8_findBase 82 = .ok (.aload_n 0, 1) := by decide +kernel
theorem dX8_findBase_83 : decode cX8_findBase 83 = .ok (.getfield 17, 3) := by decide +kernel
theorem dX8_findBase_86 : decode cX8_findBase 86 = .ok (.iload_n 1, 1) := by decide +kernel
theorem dX8_findBase_87 : decode cX8_findBase 87 = .ok (.iaload, 1) := by decide +kernel
theorem dX8_findBase_88 : decode cX8_findBase 88 = .ok (.istore_n 2, 1) := by decide +kernel
theorem dX8_findBase_89 : decode cX8_findBase 89 = .ok (.aload_n 0, 1) := by decide +kernel
theorem dX8_findBase_90 : decode cX8_findBase 90 = .ok (.getfield 45, 3) := by decide +kernel
theorem dX8_findBase_93 : decode cX8_findBase 93 = .ok (.iload_n 2, 1) := by decide +kernel
theorem dX8_findBase_94 : decode cX8_findBase 94 = .ok (.baload, 1) := by decide +kernel
theorem dX8_findBase_95 : decode cX8_findBase 95 = .ok (.ifCond .eq 37, 3) := by decide +kernel
theorem dX8_findBase_98 : decode cX8_findBase 98 = .ok (.aload_n 0, 1) := by decide +kernel
theorem dX8_findBase_99 : decode cX8_findBase 99 = .ok (.getfield 30, 3) := by decide +kernel
theorem dX8_findBase_102 : decode cX8_findBase 102 = .ok (.aload_n 0, 1) := by decide +kernel
theorem dX8_findBase_103 : decode cX8_findBase 103 = .ok (.getfield 99, 3) := by decide +kernel
theorem dX8_findBase_106 : decode cX8_findBase 106 = .ok (.iload_n 2, 1) := by decide +kernel
theorem dX8_findBase_107 : decode cX8_findBase 107 = .ok (.iastore, 1) := by decide +kernel
theorem dX8_findBase_108 : decode cX8_findBase 108 = .ok (.aload_n 0, 1) := by decide +kernel
theorem dX8_findBase_109 : decode cX8_findBase 109 = .ok (.getfield 33, 3) := by decide +kernel
theorem dX8_findBase_112 : decode cX8_findBase 112 = .ok (.aload_n 0, 1) := by decide +kernel
theorem dX8_findBase_113 : decode cX8_findBase 113 = .ok (.getfield 99, 3) := by decide +kernel
theorem dX8_findBase_116 : decode cX8_findBase 116 = .ok (.aload_n 0, 1) := by decide +kernel
theorem dX8_findBase_117 : decode cX8_findBase 117 = .ok (.iload_n 2, 1) := by decide +kernel
theorem dX8_findBase_118 : decode cX8_findBase 118 = .ok (.invokevirtual 87, 3) := by decide +kernel
theorem dX8_findBase_121 : decode cX8_findBase 121 = .ok (.iastore, 1) := by decide +kernel
theorem dX8_findBase_122 : decode cX8_findBase 122 = .ok (.aload_n 0, 1) := by decide +kernel
theorem dX8_findBase_123 : decode cX8_findBase 123 = .ok (.dup, 1) := by decide +kernel
theorem dX8_findBase_124 : decode cX8_findBase 124 = .ok (.getfield 99, 3) := by decide +kernel
theorem dX8_findBase_127 : decode cX8_findBase 127 = .ok (.iconst 1, 1) := by decide +kernel
theorem dX8_findBase_128 : decode cX8_findBase 128 = .ok (.iadd, 1) := by decide +kernel
theorem dX8_findBase_129 : decode cX8_findBase 129 = .ok (.putfield 99, 3) := by decide +kernel
theorem dX8_findBase_132 : decode cX8_findBase 132 = .ok (.iinc 1 1, 3) := by decide +kernel
theorem dX8_findBase_135 : decode cX8_findBase 135 = .ok (.goto (-63), 3) := by decide +kernel
theorem dX8_findBase_138 : decode cX8_findBase 138 = .ok (.return_, 1) := by decide +kernel
set_option maxRecDepth 20000 in
theorem ggX8_keepsParts_X8_closureOf : GoodIn wsX8_keepsParts wsX8_closureOf := goodIn_r _ [6, 7, 8, 9, 5, 10, 11, 12, 13, 14, 15, 16, 17, 18, 19, 20, 21, 22, 23, 24, 25, 26, 27, 28, 29, 30, 31, 32, 33, 34, 35, 36, 37, 38, 39, 40, 41, 42] (by decide +kernel) (by decide +kernel)
set_option maxRecDepth 20000 in
theorem gX8_keepsParts_X8_closureOf : GoodIn wsX8_keepsParts (wsV RX8 87 RX8 yX8_closureOf wsX8_closureOf) := goodIn_app (goodIn_of _ (by decide +kernel)) ggX8_keepsParts_X8_closureOf
set_option maxRecDepth 20000 in
theorem ggX8_keepsParts_X8_isPart : GoodIn wsX8_keepsParts wsX8_isPart := goodIn_r _ [15] (by decide +kernel) (by decide +kernel)
set_option maxRecDepth 20000 in
theorem gX8_keepsParts_X8_isPart : GoodIn wsX8_keepsParts (va_wsS RX8 52 yX8_isPart wsX8_isPart) := goodIn_app (goodIn_of _ (by decide +kernel)) ggX8_keepsParts_X8_isPart
theorem dX8_keepsParts_0 : decode cX8_keepsParts 0 = .ok (.iconst 1, 1) := by decide +kernel
theorem dX8_keepsParts_1 : decode cX8_keepsParts 1 = .ok (.istore_n 2, 1) := by decide +kernel
theorem dX8_keepsParts_2 : decode cX8_keepsParts 2 = .ok (.iload_n 1, 1) := by decide +kernel
theorem dX8_keepsParts_3 : decode cX8_keepsParts 3 = .ok (.istore_n 3, 1) := by decide +kernel
theorem dX8_keepsParts_4 : decode cX8_keepsParts 4 = .ok (.iload_n 3, 1) := by decide +kernel
theorem dX8_keepsParts_5 : decode cX8_keepsParts 5 = .ok (.ifCond .le 43, 3) := by decide +kernel
theorem dX8_keepsParts_8 : decode cX8_keepsParts 8 = .ok (.iload_n 2, 1) := by decide +kernel
theorem dX8_keepsParts_9 : decode cX8_keepsParts 9 = .ok (.ifCond .eq 39, 3) := by decide +kernel
theorem dX8_keepsParts_12 : decode cX8_keepsParts 12 = .ok (.iload_n 3, 1) := by decide +kernel
theorem dX8_keepsParts_13 : decode cX8_keepsParts 13 = .ok (.iconst 1, 1) := by decide +kernel
theorem dX8_keepsParts_14 : decode cX8_keepsParts 14 = .ok (.isub, 1) := by decide +kernel
theorem dX8_keepsParts_15 : decode cX8_keepsParts 15 = .ok (.iload_n 1, 1) := by decide +kernel
theorem dX8_keepsParts_16 : decode cX8_keepsParts 16 = .ok (.iand, 1) := by decide +kernel
theorem dX8_keepsParts_17 : decode cX8_keepsParts 17 = .ok (.istore_n 3, 1) := by decide +kernel
theorem dX8_keepsParts_18 : decode cX8_keepsParts 18 = .ok (.aload_n 0, 1) := by decide +kernel
theorem dX8_keepsParts_19 : decode cX8_keepsParts 19 = .ok (.getfield 45, 3) := by decide +kernel
theorem dX8_keepsParts_22 : decode cX8_keepsParts 22 = .ok (.iload_n 3, 1) := by decide +kernel
theorem dX8_keepsParts_23 : decode cX8_keepsParts 23 = .ok (.baload, 1) := by decide +kernel
theorem dX8_keepsParts_24 : decode cX8_keepsParts 24 = .ok (.ifCond .eq 15, 3) := by decide +kernel
theorem dX8_keepsParts_27 : decode cX8_keepsParts 27 = .ok (.aload_n 0, 1) := by decide +kernel
theorem dX8_keepsParts_28 : decode cX8_keepsParts 28 = .ok (.iload_n 3, 1) := by decide +kernel
theorem dX8_keepsParts_29 : decode cX8_keepsParts 29 = .ok (.invokevirtual 87, 3) := by decide +kernel
theorem dX8_keepsParts_32 : decode cX8_keepsParts 32 = .ok (.iload_n 1, 1) := by decide +kernel
theorem dX8_keepsParts_33 : decode cX8_keepsParts 33 = .ok (.invokestatic 52, 3) := by decide +kernel
theorem dX8_keepsParts_36 : decode cX8_keepsParts 36 = .ok (.ifCond .eq 7, 3) := by decide +kernel
theorem dX8_keepsParts_39 : decode cX8_keepsParts 39 = .ok (.iconst 1, 1) := by decide +kernel
theorem dX8_keepsParts_40 : decode cX8_keepsParts 40 = .ok (.goto 4, 3) := by decide +kernel
theorem dX8_keepsParts_43 : decode cX8_keepsParts 43 = .ok (.iconst 0, 1) := by decide +kernel
theorem dX8_keepsParts_44 : decode cX8_keepsParts 44 = .ok (.istore_n 2, 1) := by decide +kernel
theorem dX8_keepsParts_45 : decode cX8_keepsParts 45 = .ok (.goto (-41), 3) := by decide +kernel
theorem dX8_keepsParts_48 : decode cX8_keepsParts 48 = .ok (.iload_n 2, 1) := by decide +kernel
theorem dX8_keepsParts_49 : decode cX8_keepsParts 49 = .ok (.ireturn, 1) := by decide +kernel
set_option maxRecDepth 20000 in
theorem ggX8_concepts_X8_know : GoodIn wsX8_concepts wsX8_know := goodIn_r _ [6, 7, 1, 8, 9, 10, 11, 12, 13, 14, 15, 5, 16, 17, 18, 19, 20, 21, 22, 23, 24, 25, 26, 27, 28, 29, 30, 31, 32, 33, 34, 35, 36, 37, 38, 39, 40, 41, 42, 43, 44, 45, 46, 47, 48, 49, 50, 51, 52, 53, 54, 55, 56, 57, 58, 59, 60, 61, 62, 63, 64, 65, 66, 67, 68, 69, 70, 71, 72, 73, 74] (by decide +kernel) (by decide +kernel)
set_option maxRecDepth 20000 in
theorem gX8_concepts_X8_know : GoodIn wsX8_concepts (wsV RX8 114 RX8 yX8_know wsX8_know) := goodIn_app (goodIn_of _ (by decide +kernel)) ggX8_concepts_X8_know
theorem dX8_concepts_0 : decode cX8_concepts 0 = .ok (.aload_n 0, 1) := by decide +kernel
theorem dX8_concepts_1 : decode cX8_concepts 1 = .ok (.invokevirtual 114, 3) := by decide +kernel
theorem dX8_concepts_4 : decode cX8_concepts 4 = .ok (.aload_n 0, 1) := by decide +kernel
theorem dX8_concepts_5 : decode cX8_concepts 5 = .ok (.getfield 96, 3) := by decide +kernel
theorem dX8_concepts_8 : decode cX8_concepts 8 = .ok (.ireturn, 1) := by decide +kernel
set_option maxRecDepth 20000 in
theorem ggX8_isRightAbove_X8_isPart : GoodIn wsX8_isRightAbove wsX8_isPart := goodIn_r _ [6] (by decide +kernel) (by decide +kernel)
set_option maxRecDepth 20000 in
theorem gX8_isRightAbove_X8_isPart : GoodIn wsX8_isRightAbove (va_wsS RX8 52 yX8_isPart wsX8_isPart) := goodIn_app (goodIn_of _ (by decide +kernel)) ggX8_isRightAbove_X8_isPart
theorem dX8_isRightAbove_0 : decode cX8_isRightAbove 0 = .ok (.iload_n 1, 1) := by decide +kernel
theorem dX8_isRightAbove_1 : decode cX8_isRightAbove 1 = .ok (.iload_n 2, 1) := by decide +kernel
theorem dX8_isRightAbove_2 : decode cX8_isRightAbove 2 = .ok (.if_icmp .eq 21, 3) := by decide +kernel
theorem dX8_isRightAbove_5 : decode cX8_isRightAbove 5 = .ok (.aload_n 0, 1) := by decide +kernel
theorem dX8_isRightAbove_6 : decode cX8_isRightAbove 6 = .ok (.getfield 24, 3) := by decide +kernel
theorem dX8_isRightAbove_9 : decode cX8_isRightAbove 9 = .ok (.iload_n 1, 1) := by decide +kernel
theorem dX8_isRightAbove_10 : decode cX8_isRightAbove 10 = .ok (.iaload, 1) := by decide +kernel
theorem dX8_isRightAbove_11 : decode cX8_isRightAbove 11 = .ok (.aload_n 0, 1) := by decide +kernel
theorem dX8_isRightAbove_12 : decode cX8_isRightAbove 12 = .ok (.getfield 24, 3) := by decide +kernel
theorem dX8_isRightAbove_15 : decode cX8_isRightAbove 15 = .ok (.iload_n 2, 1) := by decide +kernel
theorem dX8_isRightAbove_16 : decode cX8_isRightAbove 16 = .ok (.iaload, 1) := by decide +kernel
theorem dX8_isRightAbove_17 : decode cX8_isRightAbove 17 = .ok (.invokestatic 52, 3) := by decide +kernel
theorem dX8_isRightAbove_20 : decode cX8_isRightAbove 20 = .ok (.ifCond .ne 5, 3) := by decide +kernel
theorem dX8_isRightAbove_23 : decode cX8_isRightAbove 23 = .ok (.iconst 0, 1) := by decide +kernel
theorem dX8_isRightAbove_24 : decode cX8_isRightAbove 24 = .ok (.ireturn, 1) := by decide +kernel
theorem dX8_isRightAbove_25 : decode cX8_isRightAbove 25 = .ok (.iconst 0, 1) := by decide +kernel
theorem dX8_isRightAbove_26 : decode cX8_isRightAbove 26 = .ok (.istore_n 3, 1) := by decide +kernel
theorem dX8_isRightAbove_27 : decode cX8_isRightAbove 27 = .ok (.iload_n 3, 1) := by decide +kernel
theorem dX8_isRightAbove_28 : decode cX8_isRightAbove 28 = .ok (.aload_n 0, 1) := by decide +kernel
theorem dX8_isRightAbove_29 : decode cX8_isRightAbove 29 = .ok (.getfield 96, 3) := by decide +kernel
theorem dX8_isRightAbove_32 : decode cX8_isRightAbove 32 = .ok (.if_icmp .ge 57, 3) := by decide +kernel
theorem dX8_isRightAbove_35 : decode cX8_isRightAbove 35 = .ok (.iload_n 3, 1) := by decide +kernel
theorem dX8_isRightAbove_36 : decode cX8_isRightAbove 36 = .ok (.iload_n 2, 1) := by decide +kernel
theorem dX8_isRightAbove_37 : decode cX8_isRightAbove 37 = .ok (.if_icmp .eq 46, 3) := by decide +kernel
theorem dX8_isRightAbove_40 : decode cX8_isRightAbove 40 = .ok (.iload_n 3, 1) := by decide +kernel
theorem dX8_isRightAbove_41 : decode cX8_isRightAbove 41 = .ok (.iload_n 1, 1) := by decide +kernel
theorem dX8_isRightAbove_42 : decode cX8_isRightAbove 42 = .ok (.if_icmp .eq 41, 3) := by decide +kernel
theorem dX8_isRightAbove_45 : decode cX8_isRightAbove 45 = .ok (.aload_n 0, 1) := by decide +kernel
theorem dX8_isRightAbove_46 : decode cX8_isRightAbove 46 = .ok (.getfield 24, 3) := by decide +kernel
theorem dX8_isRightAbove_49 : decode cX8_isRightAbove 49 = .ok (.iload_n 1, 1) := by decide +kernel
theorem dX8_isRightAbove_50 : decode cX8_isRightAbove 50 = .ok (.iaload, 1) := by decide +kernel
theorem dX8_isRightAbove_51 : decode cX8_isRightAbove 51 = .ok (.aload_n 0, 1) := by decide +kernel
theorem dX8_isRightAbove_52 : decode cX8_isRightAbove 52 = .ok (.getfield 24, 3) := by decide +kernel
theorem dX8_isRightAbove_55 : decode cX8_isRightAbove 55 = .ok (.iload_n 3, 1) := by decide +kernel
theorem dX8_isRightAbove_56 : decode cX8_isRightAbove 56 = .ok (.iaload, 1) := by decide +kernel
theorem dX8_isRightAbove_57 : decode cX8_isRightAbove 57 = .ok (.invokestatic 52, 3) := by decide +kernel
theorem dX8_isRightAbove_60 : decode cX8_isRightAbove 60 = .ok (.ifCond .eq 23, 3) := by decide +kernel
theorem dX8_isRightAbove_63 : decode cX8_isRightAbove 63 = .ok (.aload_n 0, 1) := by decide +kernel
theorem dX8_isRightAbove_64 : decode cX8_isRightAbove 64 = .ok (.getfield 24, 3) := by decide +kernel
theorem dX8_isRightAbove_67 : decode cX8_isRightAbove 67 = .ok (.iload_n 3, 1) := by decide +kernel
theorem dX8_isRightAbove_68 : decode cX8_isRightAbove 68 = .ok (.iaload, 1) := by decide +kernel
theorem dX8_isRightAbove_69 : decode cX8_isRightAbove 69 = .ok (.aload_n 0, 1) := by decide +kernel
theorem dX8_isRightAbove_70 : decode cX8_isRightAbove 70 = .ok (.getfield 24, 3) := by decide +kernel
theorem dX8_isRightAbove_73 : decode cX8_isRightAbove 73 = .ok (.iload_n 2, 1) := by decide +kernel
theorem dX8_isRightAbove_74 : decode cX8_isRightAbove 74 = .ok (.iaload, 1) := by decide +kernel
theorem dX8_isRightAbove_75 : decode cX8_isRightAbove 75 = .ok (.invokestatic 52, 3) := by decide +kernel
theorem dX8_isRightAbove_78 : decode cX8_isRightAbove 78 = .ok (.ifCond .eq 5, 3) := by decide +kernel
theorem dX8_isRightAbove_81 : decode cX8_isRightAbove 81 = .ok (.iconst 0, 1) := by decide +kernel
theorem dX8_isRightAbove_82 : decode cX8_isRightAbove 82 = .ok (.ireturn, 1) := by decide +kernel
theorem dX8_isRightAbove_83 : decode cX8_isRightAbove 83 = .ok (.iinc 3 1, 3) := by decide +kernel
theorem dX8_isRightAbove_86 : decode cX8_isRightAbove 86 = .ok (.goto (-59), 3) := by decide +kernel
theorem dX8_isRightAbove_89 : decode cX8_isRightAbove 89 = .ok (.iconst 1, 1) := by decide +kernel
theorem dX8_isRightAbove_90 : decode cX8_isRightAbove 90 = .ok (.ireturn, 1) := by decide +kernel
set_option maxRecDepth 20000 in
theorem ggX8_concept_X8_know : GoodIn wsX8_concept wsX8_know := goodIn_r _ [8, 9, 1, 10, 11, 12, 13, 2, 14, 15, 16, 7, 17, 18, 19, 20, 21, 22, 23, 24, 25, 26, 27, 28, 29, 30, 31, 32, 33, 34, 35, 36, 37, 38, 39, 40, 41, 42, 3, 43, 44, 45, 46, 47, 48, 49, 50, 51, 52, 53, 54, 55, 56, 64, 65, 66, 67, 68, 69, 70, 71, 72, 73, 74, 75, 76, 77, 78, 79, 80, 81] (by decide +kernel) (by decide +kernel)
set_option maxRecDepth 20000 in
theorem gX8_concept_X8_know : GoodIn wsX8_concept (wsV RX8 114 RX8 yX8_know wsX8_know) := goodIn_app (goodIn_of _ (by decide +kernel)) ggX8_concept_X8_know
set_option maxRecDepth 20000 in
theorem ggX8_concept_X8_in : GoodIn wsX8_concept wsX8_in := goodIn_r _ [59] (by decide +kernel) (by decide +kernel)
set_option maxRecDepth 20000 in
theorem gX8_concept_X8_in : GoodIn wsX8_concept (va_wsS RX8 63 yX8_in wsX8_in) := goodIn_app (goodIn_of _ (by decide +kernel)) ggX8_concept_X8_in
set_option maxRecDepth 20000 in
theorem ggX8_concept_X8_extentOf : GoodIn wsX8_concept wsX8_extentOf := goodIn_r _ [25, 26, 27, 28, 29, 7, 30, 64, 65, 66, 67, 68, 69, 70, 71, 72, 73, 74, 75, 76, 77, 78, 79, 80, 81] (by decide +kernel) (by decide +kernel)
set_option maxRecDepth 20000 in
theorem gX8_concept_X8_extentOf : GoodIn wsX8_concept (wsV RX8 80 RX8 yX8_extentOf wsX8_extentOf) := goodIn_app (goodIn_of _ (by decide +kernel)) ggX8_concept_X8_extentOf
set_option maxRecDepth 20000 in
theorem ggX8_concept_X8_isRightAbove : GoodIn wsX8_concept wsX8_isRightAbove := goodIn_r _ [63, 2, 1, 28, 29, 7, 30, 64, 65, 66, 67, 68, 69, 70, 71, 72, 73, 74, 75, 76, 77, 78, 79, 80, 81] (by decide +kernel) (by decide +kernel)
set_option maxRecDepth 20000 in
theorem gX8_concept_X8_isRightAbove : GoodIn wsX8_concept (wsV RX8 117 RX8 yX8_isRightAbove wsX8_isRightAbove) := goodIn_app (goodIn_of _ (by decide +kernel)) ggX8_concept_X8_isRightAbove
theorem dX8_concept_0 : decode cX8_concept 0 = .ok (.iload_n 2, 1) := by decide +kernel
theorem dX8_concept_1 : decode cX8_concept 1 = .ok (.ifCond .ge 6, 3) := by decide +kernel
theorem dX8_concept_4 : decode cX8_concept 4 = .ok (.bipush (-2), 2) := by decide +kernel
theorem dX8_concept_6 : decode cX8_concept 6 = .ok (.ireturn, 1) := by decide +kernel
theorem dX8_concept_7 : decode cX8_concept 7 = .ok (.aload_n 0, 1) := by decide +kernel
theorem dX8_concept_8 : decode cX8_concept 8 = .ok (.invokevirtual 114, 3) := by decide +kernel
theorem dX8_concept_11 : decode cX8_concept 11 = .ok (.iload_n 1, 1) := by decide +kernel
theorem dX8_concept_12 : decode cX8_concept 12 = .ok (.iconst 0, 1) := by decide +kernel
theorem dX8_concept_13 : decode cX8_concept 13 = .ok (.aload_n 0, 1) := by decide +kernel
theorem dX8_concept_14 : decode cX8_concept 14 = .ok (.getfield 96, 3) := by decide +kernel
theorem dX8_concept_17 : decode cX8_concept 17 = .ok (.iconst 1, 1) := by decide +kernel
theorem dX8_concept_18 : decode cX8_concept 18 = .ok (.isub, 1) := by decide +kernel
theorem dX8_concept_19 : decode cX8_concept 19 = .ok (.invokestatic 63, 3) := by decide +kernel
theorem dX8_concept_22 : decode cX8_concept 22 = .ok (.ifCond .ne 5, 3) := by decide +kernel
theorem dX8_concept_25 : decode cX8_concept 25 = .ok (.iconst (-1), 1) := by decide +kernel
theorem dX8_concept_26 : decode cX8_concept 26 = .ok (.ireturn, 1) := by decide +kernel
theorem dX8_concept_27 : decode cX8_concept 27 = .ok (.iload_n 2, 1) := by decide +kernel
theorem dX8_concept_28 : decode cX8_concept 28 = .ok (.iconst 3, 1) := by decide +kernel
theorem dX8_concept_29 : decode cX8_concept 29 = .ok (.if_icmp .ge 41, 3) := by decide +kernel
theorem dX8_concept_32 : decode cX8_concept 32 = .ok (.iload_n 2, 1) := by decide +kernel
theorem dX8_concept_33 : decode cX8_concept 33 = .ok (.ifCond .ne 12, 3) := by decide +kernel
theorem dX8_concept_36 : decode cX8_concept 36 = .ok (.aload_n 0, 1) := by decide +kernel
theorem dX8_concept_37 : decode cX8_concept 37 = .ok (.getfield 24, 3) := by decide +kernel
theorem dX8_concept_40 : decode cX8_concept 40 = .ok (.iload_n 1, 1) := by decide +kernel
theorem dX8_concept_41 : decode cX8_concept 41 = .ok (.iaload, 1) := by decide +kernel
theorem dX8_concept_42 : decode cX8_concept 42 = .ok (.goto 27, 3) := by decide +kernel
theorem dX8_concept_45 : decode cX8_concept 45 = .ok (.iload_n 2, 1) := by decide +kernel
theorem dX8_concept_46 : decode cX8_concept 46 = .ok (.iconst 1, 1) := by decide +kernel
theorem dX8_concept_47 : decode cX8_concept 47 = .ok (.if_icmp .ne 16, 3) := by decide +kernel
theorem dX8_concept_50 : decode cX8_concept 50 = .ok (.aload_n 0, 1) := by decide +kernel
theorem dX8_concept_51 : decode cX8_concept 51 = .ok (.aload_n 0, 1) := by decide +kernel
theorem dX8_concept_52 : decode cX8_concept 52 = .ok (.getfield 24, 3) := by decide +kernel
theorem dX8_concept_55 : decode cX8_concept 55 = .ok (.iload_n 1, 1) := by decide +kernel
theorem dX8_concept_56 : decode cX8_concept 56 = .ok (.iaload, 1) := by decide +kernel
theorem dX8_concept_57 : decode cX8_concept 57 = .ok (.invokevirtual 80, 3) := by decide +kernel
theorem dX8_concept_60 : decode cX8_concept 60 = .ok (.goto 9, 3) := by decide +kernel
theorem dX8_concept_63 : decode cX8_concept 63 = .ok (.aload_n 0, 1) := by decide +kernel
theorem dX8_concept_64 : decode cX8_concept 64 = .ok (.getfield 27, 3) := by decide +kernel
theorem dX8_concept_67 : decode cX8_concept 67 = .ok (.iload_n 1, 1) := by decide +kernel
theorem dX8_concept_68 : decode cX8_concept 68 = .ok (.iaload, 1) := by decide +kernel
theorem dX8_concept_69 : decode cX8_concept 69 = .ok (.ireturn, 1) := by decide +kernel
theorem dX8_concept_70 : decode cX8_concept 70 = .ok (.iconst 0, 1) := by decide +kernel
theorem dX8_concept_71 : decode cX8_concept 71 = .ok (.istore_n 3, 1) := by decide +kernel
theorem dX8_concept_72 : decode cX8_concept 72 = .ok (.iconst 0, 1) := by decide +kernel
theorem dX8_concept_73 : decode cX8_concept 73 = .ok (.istore 4, 2) := by decide +kernel
theorem dX8_concept_75 : decode cX8_concept 75 = .ok (.iconst 0, 1) := by decide +kernel
theorem dX8_concept_76 : decode cX8_concept 76 = .ok (.istore 5, 2) := by decide +kernel
theorem dX8_concept_78 : decode cX8_concept 78 = .ok (.iload 5, 2) := by decide +kernel
theorem dX8_concept_80 : decode cX8_concept 80 = .ok (.aload_n 0, 1) := by decide +kernel
theorem dX8_concept_81 : decode cX8_concept 81 = .ok (.getfield 96, 3) := by decide +kernel
