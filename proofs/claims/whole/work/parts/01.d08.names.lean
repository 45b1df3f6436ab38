theorem dX8_concept_84 : decode cX8_concept 84 = .ok (.if_icmp .ge 58, 3) := by decide +kernel
theorem dX8_concept_87 : decode cX8_concept 87 = .ok (.aload_n 0, 1) := by decide +kernel
theorem dX8_concept_88 : decode cX8_concept 88 = .ok (.iload 5, 2) := by decide +kernel
theorem dX8_concept_90 : decode cX8_concept 90 = .ok (.iload_n 1, 1) := by decide +kernel
theorem dX8_concept_91 : decode cX8_concept 91 = .ok (.invokevirtual 117, 3) := by decide +kernel
theorem dX8_concept_94 : decode cX8_concept 94 = .ok (.ifCond .eq 21, 3) := by decide +kernel
theorem dX8_concept_97 : decode cX8_concept 97 = .ok (.iload_n 3, 1) := by decide +kernel
theorem dX8_concept_98 : decode cX8_concept 98 = .ok (.iload_n 2, 1) := by decide +kernel
theorem dX8_concept_99 : decode cX8_concept 99 = .ok (.iconst 5, 1) := by decide +kernel
theorem dX8_concept_100 : decode cX8_concept 100 = .ok (.isub, 1) := by decide +kernel
theorem dX8_concept_101 : decode cX8_concept 101 = .ok (.if_icmp .ne 11, 3) := by decide +kernel
theorem dX8_concept_104 : decode cX8_concept 104 = .ok (.aload_n 0, 1) := by decide +kernel
theorem dX8_concept_105 : decode cX8_concept 105 = .ok (.getfield 24, 3) := by decide +kernel
theorem dX8_concept_108 : decode cX8_concept 108 = .ok (.iload 5, 2) := by decide +kernel
theorem dX8_concept_110 : decode cX8_concept 110 = .ok (.iaload, 1) := by decide +kernel
theorem dX8_concept_111 : decode cX8_concept 111 = .ok (.ireturn, 1) := by decide +kernel
theorem dX8_concept_112 : decode cX8_concept 112 = .ok (.iinc 3 1, 3) := by decide +kernel
theorem dX8_concept_115 : decode cX8_concept 115 = .ok (.aload_n 0, 1) := by decide +kernel
theorem dX8_concept_116 : decode cX8_concept 116 = .ok (.iload_n 1, 1) := by decide +kernel
theorem dX8_concept_117 : decode cX8_concept 117 = .ok (.iload 5, 2) := by decide +kernel
theorem dX8_concept_119 : decode cX8_concept 119 = .ok (.invokevirtual 117, 3) := by decide +kernel
theorem dX8_concept_122 : decode cX8_concept 122 = .ok (.ifCond .eq 10, 3) := by decide +kernel
theorem dX8_concept_125 : decode cX8_concept 125 = .ok (.iload 4, 2) := by decide +kernel
theorem dX8_concept_127 : decode cX8_concept 127 = .ok (.iconst 1, 1) := by decide +kernel
theorem dX8_concept_128 : decode cX8_concept 128 = .ok (.iadd, 1) := by decide +kernel
theorem dX8_concept_129 : decode cX8_concept 129 = .ok (.goto 5, 3) := by decide +kernel
theorem dX8_concept_132 : decode cX8_concept 132 = .ok (.iload 4, 2) := by decide +kernel
theorem dX8_concept_134 : decode cX8_concept 134 = .ok (.istore 4, 2) := by decide +kernel
theorem dX8_concept_136 : decode cX8_concept 136 = .ok (.iinc 5 1, 3) := by decide +kernel
theorem dX8_concept_139 : decode cX8_concept 139 = .ok (.goto (-61), 3) := by decide +kernel
theorem dX8_concept_142 : decode cX8_concept 142 = .ok (.iload_n 2, 1) := by decide +kernel
theorem dX8_concept_143 : decode cX8_concept 143 = .ok (.iconst 3, 1) := by decide +kernel
theorem dX8_concept_144 : decode cX8_concept 144 = .ok (.if_icmp .ne 7, 3) := by decide +kernel
theorem dX8_concept_147 : decode cX8_concept 147 = .ok (.iload_n 3, 1) := by decide +kernel
theorem dX8_concept_148 : decode cX8_concept 148 = .ok (.goto 14, 3) := by decide +kernel
theorem dX8_concept_151 : decode cX8_concept 151 = .ok (.iload_n 2, 1) := by decide +kernel
theorem dX8_concept_152 : decode cX8_concept 152 = .ok (.iconst 4, 1) := by decide +kernel
theorem dX8_concept_153 : decode cX8_concept 153 = .ok (.if_icmp .ne 8, 3) := by decide +kernel
theorem dX8_concept_156 : decode cX8_concept 156 = .ok (.iload 4, 2) := by decide +kernel
theorem dX8_concept_158 : decode cX8_concept 158 = .ok (.goto 4, 3) := by decide +kernel
theorem dX8_concept_161 : decode cX8_concept 161 = .ok (.iconst (-1), 1) := by decide +kernel
theorem dX8_concept_162 : decode cX8_concept 162 = .ok (.ireturn, 1) := by decide +kernel
set_option maxRecDepth 20000 in
theorem ggX8_base_X8_know : GoodIn wsX8_base wsX8_know := goodIn_r _ [6, 7, 8, 1, 9, 10, 11, 12, 13, 14, 15, 5, 16, 17, 18, 19, 20, 21, 22, 23, 24, 25, 26, 27, 28, 29, 30, 31, 32, 33, 34, 35, 36, 37, 38, 39, 40, 41, 42, 43, 44, 45, 46, 47, 48, 49, 50, 51, 52, 53, 54, 55, 56, 57, 58, 59, 60, 61, 62, 63, 64, 65, 66, 67, 68, 69, 70, 71, 72, 73, 74] (by decide +kernel) (by decide +kernel)
set_option maxRecDepth 20000 in
theorem gX8_base_X8_know : GoodIn wsX8_base (wsV RX8 114 RX8 yX8_know wsX8_know) := goodIn_app (goodIn_of _ (by decide +kernel)) ggX8_base_X8_know
theorem dX8_base_0 : decode cX8_base 0 = .ok (.aload_n 0, 1) := by decide +kernel
theorem dX8_base_1 : decode cX8_base 1 = .ok (.invokevirtual 114, 3) := by decide +kernel
theorem dX8_base_4 : decode cX8_base 4 = .ok (.aload_n 0, 1) := by decide +kernel
theorem dX8_base_5 : decode cX8_base 5 = .ok (.getfield 99, 3) := by decide +kernel
theorem dX8_base_8 : decode cX8_base 8 = .ok (.ireturn, 1) := by decide +kernel
set_option maxRecDepth 20000 in
theorem ggX8_rule_X8_in : GoodIn wsX8_rule wsX8_in := goodIn_r _ [7] (by decide +kernel) (by decide +kernel)
set_option maxRecDepth 20000 in
theorem gX8_rule_X8_in : GoodIn wsX8_rule (va_wsS RX8 63 yX8_in wsX8_in) := goodIn_app (goodIn_of _ (by decide +kernel)) ggX8_rule_X8_in
set_option maxRecDepth 20000 in
theorem ggX8_rule_X8_know : GoodIn wsX8_rule wsX8_know := goodIn_r _ [11, 12, 13, 1, 14, 15, 16, 17, 18, 19, 20, 6, 21, 22, 23, 24, 25, 26, 27, 28, 29, 30, 31, 32, 33, 34, 35, 36, 37, 38, 39, 40, 41, 42, 43, 44, 45, 46, 47, 48, 49, 50, 51, 52, 53, 54, 55, 2, 3, 56, 57, 58, 59, 63, 64, 65, 66, 67, 68, 69, 70, 71, 72, 73, 74, 75, 76, 77, 78, 79, 80] (by decide +kernel) (by decide +kernel)
set_option maxRecDepth 20000 in
theorem gX8_rule_X8_know : GoodIn wsX8_rule (wsV RX8 114 RX8 yX8_know wsX8_know) := goodIn_app (goodIn_of _ (by decide +kernel)) ggX8_rule_X8_know
set_option maxRecDepth 20000 in
theorem ggX8_rule_X8_extentOf : GoodIn wsX8_rule wsX8_extentOf := goodIn_r _ [29, 30, 31, 32, 33, 6, 34, 63, 64, 65, 66, 67, 68, 69, 70, 71, 72, 73, 74, 75, 76, 77, 78, 79, 80] (by decide +kernel) (by decide +kernel)
set_option maxRecDepth 20000 in
theorem gX8_rule_X8_extentOf : GoodIn wsX8_rule (wsV RX8 80 RX8 yX8_extentOf wsX8_extentOf) := goodIn_app (goodIn_of _ (by decide +kernel)) ggX8_rule_X8_extentOf
set_option maxRecDepth 20000 in
theorem ggX8_rule_X8_bitsOf20 : GoodIn wsX8_rule wsX8_bitsOf20 := goodIn_r _ [62] (by decide +kernel) (by decide +kernel)
set_option maxRecDepth 20000 in
theorem gX8_rule_X8_bitsOf20 : GoodIn wsX8_rule (va_wsS RX8 120 yX8_bitsOf20 wsX8_bitsOf20) := goodIn_app (goodIn_of _ (by decide +kernel)) ggX8_rule_X8_bitsOf20
theorem dX8_rule_0 : decode cX8_rule 0 = .ok (.iload_n 2, 1) := by decide +kernel
theorem dX8_rule_1 : decode cX8_rule 1 = .ok (.iconst 0, 1) := by decide +kernel
theorem dX8_rule_2 : decode cX8_rule 2 = .ok (.iconst 2, 1) := by decide +kernel
theorem dX8_rule_3 : decode cX8_rule 3 = .ok (.invokestatic 63, 3) := by decide +kernel
theorem dX8_rule_6 : decode cX8_rule 6 = .ok (.ifCond .ne 6, 3) := by decide +kernel
theorem dX8_rule_9 : decode cX8_rule 9 = .ok (.bipush (-2), 2) := by decide +kernel
theorem dX8_rule_11 : decode cX8_rule 11 = .ok (.ireturn, 1) := by decide +kernel
theorem dX8_rule_12 : decode cX8_rule 12 = .ok (.aload_n 0, 1) := by decide +kernel
theorem dX8_rule_13 : decode cX8_rule 13 = .ok (.invokevirtual 114, 3) := by decide +kernel
theorem dX8_rule_16 : decode cX8_rule 16 = .ok (.iload_n 1, 1) := by decide +kernel
theorem dX8_rule_17 : decode cX8_rule 17 = .ok (.iconst 0, 1) := by decide +kernel
theorem dX8_rule_18 : decode cX8_rule 18 = .ok (.aload_n 0, 1) := by decide +kernel
theorem dX8_rule_19 : decode cX8_rule 19 = .ok (.getfield 99, 3) := by decide +kernel
theorem dX8_rule_22 : decode cX8_rule 22 = .ok (.iconst 1, 1) := by decide +kernel
theorem dX8_rule_23 : decode cX8_rule 23 = .ok (.isub, 1) := by decide +kernel
theorem dX8_rule_24 : decode cX8_rule 24 = .ok (.invokestatic 63, 3) := by decide +kernel
theorem dX8_rule_27 : decode cX8_rule 27 = .ok (.ifCond .ne 5, 3) := by decide +kernel
theorem dX8_rule_30 : decode cX8_rule 30 = .ok (.iconst (-1), 1) := by decide +kernel
theorem dX8_rule_31 : decode cX8_rule 31 = .ok (.ireturn, 1) := by decide +kernel
theorem dX8_rule_32 : decode cX8_rule 32 = .ok (.iload_n 2, 1) := by decide +kernel
theorem dX8_rule_33 : decode cX8_rule 33 = .ok (.ifCond .ne 12, 3) := by decide +kernel
theorem dX8_rule_36 : decode cX8_rule 36 = .ok (.aload_n 0, 1) := by decide +kernel
theorem dX8_rule_37 : decode cX8_rule 37 = .ok (.getfield 30, 3) := by decide +kernel
theorem dX8_rule_40 : decode cX8_rule 40 = .ok (.iload_n 1, 1) := by decide +kernel
theorem dX8_rule_41 : decode cX8_rule 41 = .ok (.iaload, 1) := by decide +kernel
theorem dX8_rule_42 : decode cX8_rule 42 = .ok (.goto 30, 3) := by decide +kernel
theorem dX8_rule_45 : decode cX8_rule 45 = .ok (.iload_n 2, 1) := by decide +kernel
theorem dX8_rule_46 : decode cX8_rule 46 = .ok (.iconst 1, 1) := by decide +kernel
theorem dX8_rule_47 : decode cX8_rule 47 = .ok (.if_icmp .ne 12, 3) := by decide +kernel
theorem dX8_rule_50 : decode cX8_rule 50 = .ok (.aload_n 0, 1) := by decide +kernel
theorem dX8_rule_51 : decode cX8_rule 51 = .ok (.getfield 33, 3) := by decide +kernel
theorem dX8_rule_54 : decode cX8_rule 54 = .ok (.iload_n 1, 1) := by decide +kernel
theorem dX8_rule_55 : decode cX8_rule 55 = .ok (.iaload, 1) := by decide +kernel
theorem dX8_rule_56 : decode cX8_rule 56 = .ok (.goto 16, 3) := by decide +kernel
theorem dX8_rule_59 : decode cX8_rule 59 = .ok (.aload_n 0, 1) := by decide +kernel
theorem dX8_rule_60 : decode cX8_rule 60 = .ok (.aload_n 0, 1) := by decide +kernel
theorem dX8_rule_61 : decode cX8_rule 61 = .ok (.getfield 30, 3) := by decide +kernel
theorem dX8_rule_64 : decode cX8_rule 64 = .ok (.iload_n 1, 1) := by decide +kernel
theorem dX8_rule_65 : decode cX8_rule 65 = .ok (.iaload, 1) := by decide +kernel
theorem dX8_rule_66 : decode cX8_rule 66 = .ok (.invokevirtual 80, 3) := by decide +kernel
theorem dX8_rule_69 : decode cX8_rule 69 = .ok (.invokestatic 120, 3) := by decide +kernel
theorem dX8_rule_72 : decode cX8_rule 72 = .ok (.ireturn, 1) := by decide +kernel
theorem dX8_bitsOf20_0 : decode cX8_bitsOf20 0 = .ok (.iconst 0, 1) := by decide +kernel
theorem dX8_bitsOf20_1 : decode cX8_bitsOf20 1 = .ok (.istore_n 1, 1) := by decide +kernel
theorem dX8_bitsOf20_2 : decode cX8_bitsOf20 2 = .ok (.iconst 0, 1) := by decide +kernel
theorem dX8_bitsOf20_3 : decode cX8_bitsOf20 3 = .ok (.istore_n 2, 1) := by decide +kernel
theorem dX8_bitsOf20_4 : decode cX8_bitsOf20 4 = .ok (.iload_n 2, 1) := by decide +kernel
theorem dX8_bitsOf20_5 : decode cX8_bitsOf20 5 = .ok (.bipush 20, 2) := by decide +kernel
theorem dX8_bitsOf20_7 : decode cX8_bitsOf20 7 = .ok (.if_icmp .ge 17, 3) := by decide +kernel
theorem dX8_bitsOf20_10 : decode cX8_bitsOf20 10 = .ok (.iload_n 1, 1) := by decide +kernel
theorem dX8_bitsOf20_11 : decode cX8_bitsOf20 11 = .ok (.iload_n 0, 1) := by decide +kernel
theorem dX8_bitsOf20_12 : decode cX8_bitsOf20 12 = .ok (.iload_n 2, 1) := by decide +kernel
theorem dX8_bitsOf20_13 : decode cX8_bitsOf20 13 = .ok (.ishr, 1) := by decide +kernel
theorem dX8_bitsOf20_14 : decode cX8_bitsOf20 14 = .ok (.iconst 1, 1) := by decide +kernel
theorem dX8_bitsOf20_15 : decode cX8_bitsOf20 15 = .ok (.iand, 1) := by decide +kernel
theorem dX8_bitsOf20_16 : decode cX8_bitsOf20 16 = .ok (.iadd, 1) := by decide +kernel
theorem dX8_bitsOf20_17 : decode cX8_bitsOf20 17 = .ok (.istore_n 1, 1) := by decide +kernel
theorem dX8_bitsOf20_18 : decode cX8_bitsOf20 18 = .ok (.iinc 2 1, 3) := by decide +kernel
theorem dX8_bitsOf20_21 : decode cX8_bitsOf20 21 = .ok (.goto (-17), 3) := by decide +kernel
theorem dX8_bitsOf20_24 : decode cX8_bitsOf20 24 = .ok (.iload_n 1, 1) := by decide +kernel
theorem dX8_bitsOf20_25 : decode cX8_bitsOf20 25 = .ok (.ireturn, 1) := by decide +kernel
set_option maxRecDepth 20000 in
theorem ggX8_follows_X8_isSet : GoodIn wsX8_follows wsX8_isSet := goodIn_r _ [8, 9, 10, 11, 7, 12, 13, 14, 15, 16, 61, 62, 63, 64, 65, 66, 67, 68, 69, 70, 71, 72, 73, 74, 75, 76, 77, 78] (by decide +kernel) (by decide +kernel)
set_option maxRecDepth 20000 in
theorem gX8_follows_X8_isSet : GoodIn wsX8_follows (wsV RX8 76 RX8 yX8_isSet wsX8_isSet) := goodIn_app (goodIn_of _ (by decide +kernel)) ggX8_follows_X8_isSet
set_option maxRecDepth 20000 in
theorem ggX8_follows_X8_know : GoodIn wsX8_follows wsX8_know := goodIn_r _ [20, 21, 22, 1, 13, 23, 24, 25, 26, 27, 28, 7, 29, 30, 31, 32, 33, 34, 35, 36, 37, 38, 39, 14, 15, 16, 40, 41, 42, 43, 9, 10, 11, 12, 44, 45, 46, 47, 48, 49, 50, 51, 52, 53, 54, 55, 56, 2, 3, 57, 58, 59, 60, 61, 62, 63, 64, 65, 66, 67, 68, 69, 70, 71, 72, 73, 74, 75, 76, 77, 78] (by decide +kernel) (by decide +kernel)
set_option maxRecDepth 20000 in
theorem gX8_follows_X8_know : GoodIn wsX8_follows (wsV RX8 114 RX8 yX8_know wsX8_know) := goodIn_app (goodIn_of _ (by decide +kernel)) ggX8_follows_X8_know
set_option maxRecDepth 20000 in
theorem ggX8_follows_X8_isPart : GoodIn wsX8_follows wsX8_isPart := goodIn_r _ [16] (by decide +kernel) (by decide +kernel)
set_option maxRecDepth 20000 in
theorem gX8_follows_X8_isPart : GoodIn wsX8_follows (va_wsS RX8 52 yX8_isPart wsX8_isPart) := goodIn_app (goodIn_of _ (by decide +kernel)) ggX8_follows_X8_isPart
theorem dX8_follows_0 : decode cX8_follows 0 = .ok (.aload_n 0, 1) := by decide +kernel
theorem dX8_follows_1 : decode cX8_follows 1 = .ok (.iload_n 1, 1) := by decide +kernel
theorem dX8_follows_2 : decode cX8_follows 2 = .ok (.invokevirtual 76, 3) := by decide +kernel
theorem dX8_follows_5 : decode cX8_follows 5 = .ok (.ifCond .eq 7, 3) := by decide +kernel
theorem dX8_follows_8 : decode cX8_follows 8 = .ok (.iload_n 2, 1) := by decide +kernel
theorem dX8_follows_9 : decode cX8_follows 9 = .ok (.ifCond .ge 6, 3) := by decide +kernel
theorem dX8_follows_12 : decode cX8_follows 12 = .ok (.bipush (-2), 2) := by decide +kernel
theorem dX8_follows_14 : decode cX8_follows 14 = .ok (.ireturn, 1) := by decide +kernel
theorem dX8_follows_15 : decode cX8_follows 15 = .ok (.aload_n 0, 1) := by decide +kernel
theorem dX8_follows_16 : decode cX8_follows 16 = .ok (.invokevirtual 114, 3) := by decide +kernel
theorem dX8_follows_19 : decode cX8_follows 19 = .ok (.iload_n 1, 1) := by decide +kernel
theorem dX8_follows_20 : decode cX8_follows 20 = .ok (.istore_n 3, 1) := by decide +kernel
theorem dX8_follows_21 : decode cX8_follows 21 = .ok (.iconst 1, 1) := by decide +kernel
theorem dX8_follows_22 : decode cX8_follows 22 = .ok (.istore 4, 2) := by decide +kernel
theorem dX8_follows_24 : decode cX8_follows 24 = .ok (.iload 4, 2) := by decide +kernel
theorem dX8_follows_26 : decode cX8_follows 26 = .ok (.ifCond .eq 74, 3) := by decide +kernel
theorem dX8_follows_29 : decode cX8_follows 29 = .ok (.iconst 0, 1) := by decide +kernel
theorem dX8_follows_30 : decode cX8_follows 30 = .ok (.istore 4, 2) := by decide +kernel
theorem dX8_follows_32 : decode cX8_follows 32 = .ok (.iconst 0, 1) := by decide +kernel
theorem dX8_follows_33 : decode cX8_follows 33 = .ok (.istore 5, 2) := by decide +kernel
theorem dX8_follows_35 : decode cX8_follows 35 = .ok (.iload 5, 2) := by decide +kernel
theorem dX8_follows_37 : decode cX8_follows 37 = .ok (.aload_n 0, 1) := by decide +kernel
theorem dX8_follows_38 : decode cX8_follows 38 = .ok (.getfield 99, 3) := by decide +kernel
theorem dX8_follows_41 : decode cX8_follows 41 = .ok (.if_icmp .ge 56, 3) := by decide +kernel
theorem dX8_follows_44 : decode cX8_follows 44 = .ok (.iload 5, 2) := by decide +kernel
theorem dX8_follows_46 : decode cX8_follows 46 = .ok (.iload_n 2, 1) := by decide +kernel
theorem dX8_follows_47 : decode cX8_follows 47 = .ok (.if_icmp .ge 50, 3) := by decide +kernel
theorem dX8_follows_50 : decode cX8_follows 50 = .ok (.aload_n 0, 1) := by decide +kernel
theorem dX8_follows_51 : decode cX8_follows 51 = .ok (.getfield 30, 3) := by decide +kernel
theorem dX8_follows_54 : decode cX8_follows 54 = .ok (.iload 5, 2) := by decide +kernel
theorem dX8_follows_56 : decode cX8_follows 56 = .ok (.iaload, 1) := by decide +kernel
theorem dX8_follows_57 : decode cX8_follows 57 = .ok (.iload_n 3, 1) := by decide +kernel
theorem dX8_follows_58 : decode cX8_follows 58 = .ok (.invokestatic 52, 3) := by decide +kernel
theorem dX8_follows_61 : decode cX8_follows 61 = .ok (.ifCond .eq 30, 3) := by decide +kernel
theorem dX8_follows_64 : decode cX8_follows 64 = .ok (.aload_n 0, 1) := by decide +kernel
theorem dX8_follows_65 : decode cX8_follows 65 = .ok (.getfield 33, 3) := by decide +kernel
theorem dX8_follows_68 : decode cX8_follows 68 = .ok (.iload 5, 2) := by decide +kernel
theorem dX8_follows_70 : decode cX8_follows 70 = .ok (.iaload, 1) := by decide +kernel
theorem dX8_follows_71 : decode cX8_follows 71 = .ok (.iload_n 3, 1) := by decide +kernel
theorem dX8_follows_72 : decode cX8_follows 72 = .ok (.invokestatic 52, 3) := by decide +kernel
theorem dX8_follows_75 : decode cX8_follows 75 = .ok (.ifCond .ne 16, 3) := by decide +kernel
theorem dX8_follows_78 : decode cX8_follows 78 = .ok (.iload_n 3, 1) := by decide +kernel
theorem dX8_follows_79 : decode cX8_follows 79 = .ok (.aload_n 0, 1) := by decide +kernel
theorem dX8_follows_80 : decode cX8_follows 80 = .ok (.getfield 33, 3) := by decide +kernel
theorem dX8_follows_83 : decode cX8_follows 83 = .ok (.iload 5, 2) := by decide +kernel
theorem dX8_follows_85 : decode cX8_follows 85 = .ok (.iaload, 1) := by decide +kernel
theorem dX8_follows_86 : decode cX8_follows 86 = .ok (.ior, 1) := by decide +kernel
theorem dX8_follows_87 : decode cX8_follows 87 = .ok (.istore_n 3, 1) := by decide +kernel
theorem dX8_follows_88 : decode cX8_follows 88 = .ok (.iconst 1, 1) := by decide +kernel
theorem dX8_follows_89 : decode cX8_follows 89 = .ok (.istore 4, 2) := by decide +kernel
theorem dX8_follows_91 : decode cX8_follows 91 = .ok (.iinc 5 1, 3) := by decide +kernel
theorem dX8_follows_94 : decode cX8_follows 94 = .ok (.goto (-59), 3) := by decide +kernel
theorem dX8_follows_97 : decode cX8_follows 97 = .ok (.goto (-73), 3) := by decide +kernel
theorem dX8_follows_100 : decode cX8_follows 100 = .ok (.iload_n 3, 1) := by decide +kernel
theorem dX8_follows_101 : decode cX8_follows 101 = .ok (.ireturn, 1) := by decide +kernel
set_option maxRecDepth 20000 in
theorem ggX8_holds_X8_isSet : GoodIn wsX8_holds wsX8_isSet := goodIn_r _ [7, 8, 9, 10, 6, 11, 12, 13, 14, 15, 16, 17, 18, 19, 20, 21, 22, 23, 24, 25, 26, 27, 28, 29, 30, 31, 32, 33] (by decide +kernel) (by decide +kernel)
set_option maxRecDepth 20000 in
theorem gX8_holds_X8_isSet : GoodIn wsX8_holds (wsV RX8 76 RX8 yX8_isSet wsX8_isSet) := goodIn_app (goodIn_of _ (by decide +kernel)) ggX8_holds_X8_isSet
set_option maxRecDepth 20000 in
theorem ggX8_holds_X8_isPart : GoodIn wsX8_holds wsX8_isPart := goodIn_r _ [15] (by decide +kernel) (by decide +kernel)
set_option maxRecDepth 20000 in
theorem gX8_holds_X8_isPart : GoodIn wsX8_holds (va_wsS RX8 52 yX8_isPart wsX8_isPart) := goodIn_app (goodIn_of _ (by decide +kernel)) ggX8_holds_X8_isPart
theorem dX8_holds_0 : decode cX8_holds 0 = .ok (.aload_n 0, 1) := by decide +kernel
theorem dX8_holds_1 : decode cX8_holds 1 = .ok (.iload_n 1, 1) := by decide +kernel
theorem dX8_holds_2 : decode cX8_holds 2 = .ok (.invokevirtual 76, 3) := by decide +kernel
theorem dX8_holds_5 : decode cX8_holds 5 = .ok (.ifCond .eq 11, 3) := by decide +kernel
theorem dX8_holds_8 : decode cX8_holds 8 = .ok (.aload_n 0, 1) := by decide +kernel
theorem dX8_holds_9 : decode cX8_holds 9 = .ok (.iload_n 2, 1) := by decide +kernel
theorem dX8_holds_10 : decode cX8_holds 10 = .ok (.invokevirtual 76, 3) := by decide +kernel
theorem dX8_holds_13 : decode cX8_holds 13 = .ok (.ifCond .ne 6, 3) := by decide +kernel
theorem dX8_holds_16 : decode cX8_holds 16 = .ok (.bipush (-2), 2) := by decide +kernel
theorem dX8_holds_18 : decode cX8_holds 18 = .ok (.ireturn, 1) := by decide +kernel
theorem dX8_holds_19 : decode cX8_holds 19 = .ok (.iconst 0, 1) := by decide +kernel
theorem dX8_holds_20 : decode cX8_holds 20 = .ok (.istore_n 3, 1) := by decide +kernel
theorem dX8_holds_21 : decode cX8_holds 21 = .ok (.iload_n 3, 1) := by decide +kernel
theorem dX8_holds_22 : decode cX8_holds 22 = .ok (.aload_n 0, 1) := by decide +kernel
theorem dX8_holds_23 : decode cX8_holds 23 = .ok (.getfield 67, 3) := by decide +kernel
theorem dX8_holds_26 : decode cX8_holds 26 = .ok (.if_icmp .ge 37, 3) := by decide +kernel
theorem dX8_holds_29 : decode cX8_holds 29 = .ok (.iload_n 1, 1) := by decide +kernel
theorem dX8_holds_30 : decode cX8_holds 30 = .ok (.aload_n 0, 1) := by decide +kernel
theorem dX8_holds_31 : decode cX8_holds 31 = .ok (.getfield 13, 3) := by decide +kernel
theorem dX8_holds_34 : decode cX8_holds 34 = .ok (.iload_n 3, 1) := by decide +kernel
theorem dX8_holds_35 : decode cX8_holds 35 = .ok (.iaload, 1) := by decide +kernel
theorem dX8_holds_36 : decode cX8_holds 36 = .ok (.invokestatic 52, 3) := by decide +kernel
theorem dX8_holds_39 : decode cX8_holds 39 = .ok (.ifCond .eq 18, 3) := by decide +kernel
theorem dX8_holds_42 : decode cX8_holds 42 = .ok (.iload_n 2, 1) := by decide +kernel
theorem dX8_holds_43 : decode cX8_holds 43 = .ok (.aload_n 0, 1) := by decide +kernel
theorem dX8_holds_44 : decode cX8_holds 44 = .ok (.getfield 13, 3) := by decide +kernel
theorem dX8_holds_47 : decode cX8_holds 47 = .ok (.iload_n 3, 1) := by decide +kernel
theorem dX8_holds_48 : decode cX8_holds 48 = .ok (.iaload, 1) := by decide +kernel
theorem dX8_holds_49 : decode cX8_holds 49 = .ok (.invokestatic 52, 3) := by decide +kernel
theorem dX8_holds_52 : decode cX8_holds 52 = .ok (.ifCond .ne 5, 3) := by decide +kernel
theorem dX8_holds_55 : decode cX8_holds 55 = .ok (.iconst 0, 1) := by decide +kernel
theorem dX8_holds_56 : decode cX8_holds 56 = .ok (.ireturn, 1) := by decide +kernel
theorem dX8_holds_57 : decode cX8_holds 57 = .ok (.iinc 3 1, 3) := by decide +kernel
theorem dX8_holds_60 : decode cX8_holds 60 = .ok (.goto (-39), 3) := by decide +kernel
theorem dX8_holds_63 : decode cX8_holds 63 = .ok (.iconst 1, 1) := by decide +kernel
theorem dX8_holds_64 : decode cX8_holds 64 = .ok (.ireturn, 1) := by decide +kernel
set_option maxRecDepth 20000 in
theorem ggX8_needed_X8_in : GoodIn wsX8_needed wsX8_in := goodIn_r _ [5] (by decide +kernel) (by decide +kernel)
set_option maxRecDepth 20000 in
theorem gX8_needed_X8_in : GoodIn wsX8_needed (va_wsS RX8 63 yX8_in wsX8_in) := goodIn_app (goodIn_of _ (by decide +kernel)) ggX8_needed_X8_in
set_option maxRecDepth 20000 in
theorem ggX8_needed_X8_extentOf : GoodIn wsX8_needed wsX8_extentOf := goodIn_r _ [9, 10, 11, 12, 13, 4, 14, 15, 16, 17, 18, 19, 20, 21, 22, 23, 24, 25, 26, 27, 28, 29, 30, 31, 32] (by decide +kernel) (by decide +kernel)
set_option maxRecDepth 20000 in
theorem gX8_needed_X8_extentOf : GoodIn wsX8_needed (wsV RX8 80 RX8 yX8_extentOf wsX8_extentOf) := goodIn_app (goodIn_of _ (by decide +kernel)) ggX8_needed_X8_extentOf
set_option maxRecDepth 20000 in
theorem ggX8_needed_X8_isPart : GoodIn wsX8_needed wsX8_isPart := goodIn_r _ [14] (by decide +kernel) (by decide +kernel)
set_option maxRecDepth 20000 in
theorem gX8_needed_X8_isPart : GoodIn wsX8_needed (va_wsS RX8 52 yX8_isPart wsX8_isPart) := goodIn_app (goodIn_of _ (by decide +kernel)) ggX8_needed_X8_isPart
theorem dX8_needed_0 : decode cX8_needed 0 = .ok (.iload_n 1, 1) := by decide +kernel
theorem dX8_needed_1 : decode cX8_needed 1 = .ok (.iconst 0, 1) := by decide +kernel
theorem dX8_needed_2 : decode cX8_needed 2 = .ok (.aload_n 0, 1) := by decide +kernel
theorem dX8_needed_3 : decode cX8_needed 3 = .ok (.getfield 7, 3) := by decide +kernel
theorem dX8_needed_6 : decode cX8_needed 6 = .ok (.iconst 1, 1) := by decide +kernel
theorem dX8_needed_7 : decode cX8_needed 7 = .ok (.isub, 1) := by decide +kernel
theorem dX8_needed_8 : decode cX8_needed 8 = .ok (.invokestatic 63, 3) := by decide +kernel
theorem dX8_needed_11 : decode cX8_needed 11 = .ok (.ifCond .ne 6, 3) := by decide +kernel
theorem dX8_needed_14 : decode cX8_needed 14 = .ok (.bipush (-2), 2) := by decide +kernel
theorem dX8_needed_16 : decode cX8_needed 16 = .ok (.ireturn, 1) := by decide +kernel
theorem dX8_needed_17 : decode cX8_needed 17 = .ok (.aload_n 0, 1) := by decide +kernel
theorem dX8_needed_18 : decode cX8_needed 18 = .ok (.iconst 1, 1) := by decide +kernel
theorem dX8_needed_19 : decode cX8_needed 19 = .ok (.iload_n 1, 1) := by decide +kernel
theorem dX8_needed_20 : decode cX8_needed 20 = .ok (.ishl, 1) := by decide +kernel
theorem dX8_needed_21 : decode cX8_needed 21 = .ok (.invokevirtual 80, 3) := by decide +kernel
theorem dX8_needed_24 : decode cX8_needed 24 = .ok (.istore_n 2, 1) := by decide +kernel
theorem dX8_needed_25 : decode cX8_needed 25 = .ok (.iconst 0, 1) := by decide +kernel
theorem dX8_needed_26 : decode cX8_needed 26 = .ok (.istore_n 3, 1) := by decide +kernel
theorem dX8_needed_27 : decode cX8_needed 27 = .ok (.iconst 0, 1) := by decide +kernel
theorem dX8_needed_28 : decode cX8_needed 28 = .ok (.istore 4, 2) := by decide +kernel
theorem dX8_needed_30 : decode cX8_needed 30 = .ok (.iload 4, 2) := by decide +kernel
theorem dX8_needed_32 : decode cX8_needed 32 = .ok (.aload_n 0, 1) := by decide +kernel
theorem dX8_needed_33 : decode cX8_needed 33 = .ok (.getfield 7, 3) := by decide +kernel
theorem dX8_needed_36 : decode cX8_needed 36 = .ok (.if_icmp .ge 45, 3) := by decide +kernel
theorem dX8_needed_39 : decode cX8_needed 39 = .ok (.aload_n 0, 1) := by decide +kernel
theorem dX8_needed_40 : decode cX8_needed 40 = .ok (.iconst 1, 1) := by decide +kernel
theorem dX8_needed_41 : decode cX8_needed 41 = .ok (.iload 4, 2) := by decide +kernel
theorem dX8_needed_43 : decode cX8_needed 43 = .ok (.ishl, 1) := by decide +kernel
theorem dX8_needed_44 : decode cX8_needed 44 = .ok (.invokevirtual 80, 3) := by decide +kernel
theorem dX8_needed_47 : decode cX8_needed 47 = .ok (.istore 5, 2) := by decide +kernel
theorem dX8_needed_49 : decode cX8_needed 49 = .ok (.iload 5, 2) := by decide +kernel
theorem dX8_needed_51 : decode cX8_needed 51 = .ok (.iload_n 2, 1) := by decide +kernel
theorem dX8_needed_52 : decode cX8_needed 52 = .ok (.if_icmp .eq 21, 3) := by decide +kernel
theorem dX8_needed_55 : decode cX8_needed 55 = .ok (.iload_n 2, 1) := by decide +kernel
theorem dX8_needed_56 : decode cX8_needed 56 = .ok (.iload 5, 2) := by decide +kernel
theorem dX8_needed_58 : decode cX8_needed 58 = .ok (.invokestatic 52, 3) := by decide +kernel
theorem dX8_needed_61 : decode cX8_needed 61 = .ok (.ifCond .eq 12, 3) := by decide +kernel
theorem dX8_needed_64 : decode cX8_needed 64 = .ok (.iload_n 3, 1) := by decide +kernel
theorem dX8_needed_65 : decode cX8_needed 65 = .ok (.iconst 1, 1) := by decide +kernel
theorem dX8_needed_66 : decode cX8_needed 66 = .ok (.iload 4, 2) := by decide +kernel
theorem dX8_needed_68 : decode cX8_needed 68 = .ok (.ishl, 1) := by decide +kernel
theorem dX8_needed_69 : decode cX8_needed 69 = .ok (.ior, 1) := by decide +kernel
theorem dX8_needed_70 : decode cX8_needed 70 = .ok (.goto 4, 3) := by decide +kernel
theorem dX8_needed_73 : decode cX8_needed 73 = .ok (.iload_n 3, 1) := by decide +kernel
theorem dX8_needed_74 : decode cX8_needed 74 = .ok (.istore_n 3, 1) := by decide +kernel
theorem dX8_needed_75 : decode cX8_needed 75 = .ok (.iinc 4 1, 3) := by decide +kernel
theorem dX8_needed_78 : decode cX8_needed 78 = .ok (.goto (-48), 3) := by decide +kernel
theorem dX8_needed_81 : decode cX8_needed 81 = .ok (.aload_n 0, 1) := by decide +kernel
theorem dX8_needed_82 : decode cX8_needed 82 = .ok (.iload_n 3, 1) := by decide +kernel
theorem dX8_needed_83 : decode cX8_needed 83 = .ok (.invokevirtual 80, 3) := by decide +kernel
theorem dX8_needed_86 : decode cX8_needed 86 = .ok (.iload_n 2, 1) := by decide +kernel
theorem dX8_needed_87 : decode cX8_needed 87 = .ok (.if_icmp .ne 7, 3) := by decide +kernel
theorem dX8_needed_90 : decode cX8_needed 90 = .ok (.iconst 0, 1) := by decide +kernel
theorem dX8_needed_91 : decode cX8_needed 91 = .ok (.goto 4, 3) := by decide +kernel
theorem dX8_needed_94 : decode cX8_needed 94 = .ok (.iconst 1, 1) := by decide +kernel
theorem dX8_needed_95 : decode cX8_needed 95 = .ok (.ireturn, 1) := by decide +kernel
set_option maxRecDepth 20000 in
theorem ggX8_neededObject_X8_in : GoodIn wsX8_neededObject wsX8_in := goodIn_r _ [6] (by decide +kernel) (by decide +kernel)
set_option maxRecDepth 20000 in
theorem gX8_neededObject_X8_in : GoodIn wsX8_neededObject (va_wsS RX8 63 yX8_in wsX8_in) := goodIn_app (goodIn_of _ (by decide +kernel)) ggX8_neededObject_X8_in
set_option maxRecDepth 20000 in
theorem ggX8_neededObject_X8_isPart : GoodIn wsX8_neededObject wsX8_isPart := goodIn_r _ [9] (by decide +kernel) (by decide +kernel)
set_option maxRecDepth 20000 in
theorem gX8_neededObject_X8_isPart : GoodIn wsX8_neededObject (va_wsS RX8 52 yX8_isPart wsX8_isPart) := goodIn_app (goodIn_of _ (by decide +kernel)) ggX8_neededObject_X8_isPart
set_option maxRecDepth 20000 in
theorem ggX8_neededObject_X8_commonOf : GoodIn wsX8_neededObject wsX8_commonOf := goodIn_r _ [13, 1, 2, 14, 15, 16, 5, 17, 18, 19, 20, 21, 22, 23, 24, 25, 26, 27, 28, 29, 30, 31, 32, 33, 34, 35, 36] (by decide +kernel) (by decide +kernel)
set_option maxRecDepth 20000 in
theorem gX8_neededObject_X8_commonOf : GoodIn wsX8_neededObject (wsV RX8 84 RX8 yX8_commonOf wsX8_commonOf) := goodIn_app (goodIn_of _ (by decide +kernel)) ggX8_neededObject_X8_commonOf
theorem dX8_neededObject_0 : decode cX8_neededObject 0 = .ok (.iload_n 1, 1) := by decide +kernel
theorem dX8_neededObject_1 : decode cX8_neededObject 1 = .ok (.iconst 0, 1) := by decide +kernel
theorem dX8_neededObject_2 : decode cX8_neededObject 2 = .ok (.aload_n 0, 1) := by decide +kernel
theorem dX8_neededObject_3 : decode cX8_neededObject 3 = .ok (.getfield 67, 3) := by decide +kernel
theorem dX8_neededObject_6 : decode cX8_neededObject 6 = .ok (.iconst 1, 1) := by decide +kernel
theorem dX8_neededObject_7 : decode cX8_neededObject 7 = .ok (.isub, 1) := by decide +kernel
theorem dX8_neededObject_8 : decode cX8_neededObject 8 = .ok (.invokestatic 63, 3) := by decide +kernel
theorem dX8_neededObject_11 : decode cX8_neededObject 11 = .ok (.ifCond .ne 6, 3) := by decide +kernel
theorem dX8_neededObject_14 : decode cX8_neededObject 14 = .ok (.bipush (-2), 2) := by decide +kernel
theorem dX8_neededObject_16 : decode cX8_neededObject 16 = .ok (.ireturn, 1) := by decide +kernel
theorem dX8_neededObject_17 : decode cX8_neededObject 17 = .ok (.aload_n 0, 1) := by decide +kernel
theorem dX8_neededObject_18 : decode cX8_neededObject 18 = .ok (.getfield 13, 3) := by decide +kernel
theorem dX8_neededObject_21 : decode cX8_neededObject 21 = .ok (.iload_n 1, 1) := by decide +kernel
theorem dX8_neededObject_22 : decode cX8_neededObject 22 = .ok (.iaload, 1) := by decide +kernel
theorem dX8_neededObject_23 : decode cX8_neededObject 23 = .ok (.istore_n 2, 1) := by decide +kernel
theorem dX8_neededObject_24 : decode cX8_neededObject 24 = .ok (.iconst 0, 1) := by decide +kernel
theorem dX8_neededObject_25 : decode cX8_neededObject 25 = .ok (.istore_n 3, 1) := by decide +kernel
theorem dX8_neededObject_26 : decode cX8_neededObject 26 = .ok (.iconst 0, 1) := by decide +kernel
theorem dX8_neededObject_27 : decode cX8_neededObject 27 = .ok (.istore 4, 2) := by decide +kernel
theorem dX8_neededObject_29 : decode cX8_neededObject 29 = .ok (.iload 4, 2) := by decide +kernel
theorem dX8_neededObject_31 : decode cX8_neededObject 31 = .ok (.aload_n 0, 1) := by decide +kernel
theorem dX8_neededObject_32 : decode cX8_neededObject 32 = .ok (.getfield 67, 3) := by decide +kernel
theorem dX8_neededObject_35 : decode cX8_neededObject 35 = .ok (.if_icmp .ge 45, 3) := by decide +kernel
theorem dX8_neededObject_38 : decode cX8_neededObject 38 = .ok (.aload_n 0, 1) := by decide +kernel
theorem dX8_neededObject_39 : decode cX8_neededObject 39 = .ok (.getfield 13, 3) := by decide +kernel
theorem dX8_neededObject_42 : decode cX8_neededObject 42 = .ok (.iload 4, 2) := by decide +kernel
theorem dX8_neededObject_44 : decode cX8_neededObject 44 = .ok (.iaload, 1) := by decide +kernel
theorem dX8_neededObject_45 : decode cX8_neededObject 45 = .ok (.iload_n 2, 1) := by decide +kernel
theorem dX8_neededObject_46 : decode cX8_neededObject 46 = .ok (.if_icmp .eq 26, 3) := by decide +kernel
theorem dX8_neededObject_49 : decode cX8_neededObject 49 = .ok (.iload_n 2, 1) := by decide +kernel
theorem dX8_neededObject_50 : decode cX8_neededObject 50 = .ok (.aload_n 0, 1) := by decide +kernel
theorem dX8_neededObject_51 : decode cX8_neededObject 51 = .ok (.getfield 13, 3) := by decide +kernel
theorem dX8_neededObject_54 : decode cX8_neededObject 54 = .ok (.iload 4, 2) := by decide +kernel
theorem dX8_neededObject_56 : decode cX8_neededObject 56 = .ok (.iaload, 1) := by decide +kernel
theorem dX8_neededObject_57 : decode cX8_neededObject 57 = .ok (.invokestatic 52, 3) := by decide +kernel
theorem dX8_neededObject_60 : decode cX8_neededObject 60 = .ok (.ifCond .eq 12, 3) := by decide +kernel
theorem dX8_neededObject_63 : decode cX8_neededObject 63 = .ok (.iload_n 3, 1) := by decide +kernel
theorem dX8_neededObject_64 : decode cX8_neededObject 64 = .ok (.iconst 1, 1) := by decide +kernel
theorem dX8_neededObject_65 : decode cX8_neededObject 65 = .ok (.iload 4, 2) := by decide +kernel
theorem dX8_neededObject_67 : decode cX8_neededObject 67 = .ok (.ishl, 1) := by decide +kernel
theorem dX8_neededObject_68 : decode cX8_neededObject 68 = .ok (.ior, 1) := by decide +kernel
theorem dX8_neededObject_69 : decode cX8_neededObject 69 = .ok (.goto 4, 3) := by decide +kernel
theorem dX8_neededObject_72 : decode cX8_neededObject 72 = .ok (.iload_n 3, 1) := by decide +kernel
theorem dX8_neededObject_73 : decode cX8_neededObject 73 = .ok (.istore_n 3, 1) := by decide +kernel
theorem dX8_neededObject_74 : decode cX8_neededObject 74 = .ok (.iinc 4 1, 3) := by decide +kernel
theorem dX8_neededObject_77 : decode cX8_neededObject 77 = .ok (.goto (-48), 3) := by decide +kernel
theorem dX8_neededObject_80 : decode cX8_neededObject 80 = .ok (.aload_n 0, 1) := by decide +kernel
theorem dX8_neededObject_81 : decode cX8_neededObject 81 = .ok (.iload_n 3, 1) := by decide +kernel
theorem dX8_neededObject_82 : decode cX8_neededObject 82 = .ok (.invokevirtual 84, 3) := by decide +kernel
theorem dX8_neededObject_85 : decode cX8_neededObject 85 = .ok (.iload_n 2, 1) := by decide +kernel
theorem dX8_neededObject_86 : decode cX8_neededObject 86 = .ok (.if_icmp .ne 7, 3) := by decide +kernel
theorem dX8_neededObject_89 : decode cX8_neededObject 89 = .ok (.iconst 0, 1) := by decide +kernel
theorem dX8_neededObject_90 : decode cX8_neededObject 90 = .ok (.goto 4, 3) := by decide +kernel
theorem dX8_neededObject_93 : decode cX8_neededObject 93 = .ok (.iconst 1, 1) := by decide +kernel
theorem dX8_neededObject_94 : decode cX8_neededObject 94 = .ok (.ireturn, 1) := by decide +kernel
set_option maxRecDepth 20000 in
theorem ggX8_frequent_X8_know : GoodIn wsX8_frequent wsX8_know := goodIn_r _ [7, 8, 1, 9, 10, 11, 12, 2, 13, 14, 15, 6, 16, 17, 18, 19, 20, 21, 22, 23, 24, 25, 26, 27, 28, 29, 30, 31, 32, 33, 34, 35, 36, 37, 38, 39, 40, 41, 42, 43, 44, 45, 46, 47, 48, 49, 50, 51, 52, 53, 54, 55, 56, 60, 61, 62, 63, 64, 65, 66, 67, 68, 69, 70, 71, 72, 73, 74, 75, 76, 77] (by decide +kernel) (by decide +kernel)
set_option maxRecDepth 20000 in
theorem gX8_frequent_X8_know : GoodIn wsX8_frequent (wsV RX8 114 RX8 yX8_know wsX8_know) := goodIn_app (goodIn_of _ (by decide +kernel)) ggX8_frequent_X8_know
set_option maxRecDepth 20000 in
theorem ggX8_frequent_X8_extentOf : GoodIn wsX8_frequent wsX8_extentOf := goodIn_r _ [24, 25, 26, 27, 28, 6, 29, 60, 61, 62, 63, 64, 65, 66, 67, 68, 69, 70, 71, 72, 73, 74, 75, 76, 77] (by decide +kernel) (by decide +kernel)
set_option maxRecDepth 20000 in
theorem gX8_frequent_X8_extentOf : GoodIn wsX8_frequent (wsV RX8 80 RX8 yX8_extentOf wsX8_extentOf) := goodIn_app (goodIn_of _ (by decide +kernel)) ggX8_frequent_X8_extentOf
set_option maxRecDepth 20000 in
theorem ggX8_frequent_X8_bitsOf20 : GoodIn wsX8_frequent wsX8_bitsOf20 := goodIn_r _ [59] (by decide +kernel) (by decide +kernel)
set_option maxRecDepth 20000 in
theorem gX8_frequent_X8_bitsOf20 : GoodIn wsX8_frequent (va_wsS RX8 120 yX8_bitsOf20 wsX8_bitsOf20) := goodIn_app (goodIn_of _ (by decide +kernel)) ggX8_frequent_X8_bitsOf20
theorem dX8_frequent_0 : decode cX8_frequent 0 = .ok (.aload_n 0, 1) := by decide +kernel
theorem dX8_frequent_1 : decode cX8_frequent 1 = .ok (.invokevirtual 114, 3) := by decide +kernel
theorem dX8_frequent_4 : decode cX8_frequent 4 = .ok (.iconst 0, 1) := by decide +kernel
theorem dX8_frequent_5 : decode cX8_frequent 5 = .ok (.istore_n 2, 1) := by decide +kernel
theorem dX8_frequent_6 : decode cX8_frequent 6 = .ok (.iconst 0, 1) := by decide +kernel
theorem dX8_frequent_7 : decode cX8_frequent 7 = .ok (.istore_n 3, 1) := by decide +kernel
theorem dX8_frequent_8 : decode cX8_frequent 8 = .ok (.iload_n 3, 1) := by decide +kernel
theorem dX8_frequent_9 : decode cX8_frequent 9 = .ok (.aload_n 0, 1) := by decide +kernel
theorem dX8_frequent_10 : decode cX8_frequent 10 = .ok (.getfield 96, 3) := by decide +kernel
theorem dX8_frequent_13 : decode cX8_frequent 13 = .ok (.if_icmp .ge 34, 3) := by decide +kernel
theorem dX8_frequent_16 : decode cX8_frequent 16 = .ok (.aload_n 0, 1) := by decide +kernel
theorem dX8_frequent_17 : decode cX8_frequent 17 = .ok (.aload_n 0, 1) := by decide +kernel
theorem dX8_frequent_18 : decode cX8_frequent 18 = .ok (.getfield 24, 3) := by decide +kernel
theorem dX8_frequent_21 : decode cX8_frequent 21 = .ok (.iload_n 3, 1) := by decide +kernel
theorem dX8_frequent_22 : decode cX8_frequent 22 = .ok (.iaload, 1) := by decide +kernel
theorem dX8_frequent_23 : decode cX8_frequent 23 = .ok (.invokevirtual 80, 3) := by decide +kernel
theorem dX8_frequent_26 : decode cX8_frequent 26 = .ok (.invokestatic 120, 3) := by decide +kernel
theorem dX8_frequent_29 : decode cX8_frequent 29 = .ok (.iload_n 1, 1) := by decide +kernel
theorem dX8_frequent_30 : decode cX8_frequent 30 = .ok (.if_icmp .lt 9, 3) := by decide +kernel
theorem dX8_frequent_33 : decode cX8_frequent 33 = .ok (.iload_n 2, 1) := by decide +kernel
theorem dX8_frequent_34 : decode cX8_frequent 34 = .ok (.iconst 1, 1) := by decide +kernel
theorem dX8_frequent_35 : decode cX8_frequent 35 = .ok (.iadd, 1) := by decide +kernel
theorem dX8_frequent_36 : decode cX8_frequent 36 = .ok (.goto 4, 3) := by decide +kernel
theorem dX8_frequent_39 : decode cX8_frequent 39 = .ok (.iload_n 2, 1) := by decide +kernel
theorem dX8_frequent_40 : decode cX8_frequent 40 = .ok (.istore_n 2, 1) := by decide +kernel
theorem dX8_frequent_41 : decode cX8_frequent 41 = .ok (.iinc 3 1, 3) := by decide +kernel
theorem dX8_frequent_44 : decode cX8_frequent 44 = .ok (.goto (-36), 3) := by decide +kernel
theorem dX8_frequent_47 : decode cX8_frequent 47 = .ok (.iload_n 2, 1) := by decide +kernel
theorem dX8_frequent_48 : decode cX8_frequent 48 = .ok (.ireturn, 1) := by decide +kernel
set_option maxRecDepth 20000 in
theorem ggX8_keepsAll_X8_isPart : GoodIn wsX8_keepsAll wsX8_isPart := goodIn_r _ [7] (by decide +kernel) (by decide +kernel)
set_option maxRecDepth 20000 in
theorem gX8_keepsAll_X8_isPart : GoodIn wsX8_keepsAll (va_wsS RX8 52 yX8_isPart wsX8_isPart) := goodIn_app (goodIn_of _ (by decide +kernel)) ggX8_keepsAll_X8_isPart
theorem dX8_keepsAll_0 : decode cX8_keepsAll 0 = .ok (.iconst 0, 1) := by decide +kernel
theorem dX8_keepsAll_1 : decode cX8_keepsAll 1 = .ok (.istore_n 2, 1) := by decide +kernel
theorem dX8_keepsAll_2 : decode cX8_keepsAll 2 = .ok (.iload_n 2, 1) := by decide +kernel
theorem dX8_keepsAll_3 : decode cX8_keepsAll 3 = .ok (.aload_n 0, 1) := by decide +kernel
theorem dX8_keepsAll_4 : decode cX8_keepsAll 4 = .ok (.getfield 70, 3) := by decide +kernel
theorem dX8_keepsAll_7 : decode cX8_keepsAll 7 = .ok (.if_icmp .ge 37, 3) := by decide +kernel
theorem dX8_keepsAll_10 : decode cX8_keepsAll 10 = .ok (.aload_n 0, 1) := by decide +kernel
theorem dX8_keepsAll_11 : decode cX8_keepsAll 11 = .ok (.getfield 39, 3) := by decide +kernel
theorem dX8_keepsAll_14 : decode cX8_keepsAll 14 = .ok (.iload_n 2, 1) := by decide +kernel
theorem dX8_keepsAll_15 : decode cX8_keepsAll 15 = .ok (.iaload, 1) := by decide +kernel
theorem dX8_keepsAll_16 : decode cX8_keepsAll 16 = .ok (.iload_n 1, 1) := by decide +kernel
theorem dX8_keepsAll_17 : decode cX8_keepsAll 17 = .ok (.invokestatic 52, 3) := by decide +kernel
theorem dX8_keepsAll_20 : decode cX8_keepsAll 20 = .ok (.ifCond .eq 18, 3) := by decide +kernel
theorem dX8_keepsAll_23 : decode cX8_keepsAll 23 = .ok (.aload_n 0, 1) := by decide +kernel
theorem dX8_keepsAll_24 : decode cX8_keepsAll 24 = .ok (.getfield 42, 3) := by decide +kernel
theorem dX8_keepsAll_27 : decode cX8_keepsAll 27 = .ok (.iload_n 2, 1) := by decide +kernel
theorem dX8_keepsAll_28 : decode cX8_keepsAll 28 = .ok (.iaload, 1) := by decide +kernel
theorem dX8_keepsAll_29 : decode cX8_keepsAll 29 = .ok (.iload_n 1, 1) := by decide +kernel
theorem dX8_keepsAll_30 : decode cX8_keepsAll 30 = .ok (.invokestatic 52, 3) := by decide +kernel
theorem dX8_keepsAll_33 : decode cX8_keepsAll 33 = .ok (.ifCond .ne 5, 3) := by decide +kernel
theorem dX8_keepsAll_36 : decode cX8_keepsAll 36 = .ok (.iconst 0, 1) := by decide +kernel
theorem dX8_keepsAll_37 : decode cX8_keepsAll 37 = .ok (.ireturn, 1) := by decide +kernel
theorem dX8_keepsAll_38 : decode cX8_keepsAll 38 = .ok (.iinc 2 1, 3) := by decide +kernel
theorem dX8_keepsAll_41 : decode cX8_keepsAll 41 = .ok (.goto (-39), 3) := by decide +kernel
theorem dX8_keepsAll_44 : decode cX8_keepsAll 44 = .ok (.iconst 1, 1) := by decide +kernel
theorem dX8_keepsAll_45 : decode cX8_keepsAll 45 = .ok (.ireturn, 1) := by decide +kernel
set_option maxRecDepth 20000 in
theorem ggX8_findQuestion_X8_turned : GoodIn wsX8_findQuestion wsX8_turned := goodIn_r _ [7, 2, 36, 37, 38, 39, 40, 41, 42, 43, 44, 45, 46, 47, 48, 49, 50, 51, 52, 53] (by decide +kernel) (by decide +kernel)
set_option maxRecDepth 20000 in
theorem gX8_findQuestion_X8_turned : GoodIn wsX8_findQuestion (wsV RX8 90 RX8 yX8_turned wsX8_turned) := goodIn_app (goodIn_of _ (by decide +kernel)) ggX8_findQuestion_X8_turned
set_option maxRecDepth 20000 in
theorem ggX8_findQuestion_X8_closureOf : GoodIn wsX8_findQuestion wsX8_closureOf := goodIn_r _ [11, 12, 13, 14, 6, 15, 16, 17, 18, 19, 20, 21, 22, 23, 24, 25, 26, 27, 28, 2, 36, 37, 38, 39, 40, 41, 42, 43, 44, 45, 46, 47, 48, 49, 50, 51, 52, 53] (by decide +kernel) (by decide +kernel)
set_option maxRecDepth 20000 in
theorem gX8_findQuestion_X8_closureOf : GoodIn wsX8_findQuestion (wsV RX8 87 RX8 yX8_closureOf wsX8_closureOf) := goodIn_app (goodIn_of _ (by decide +kernel)) ggX8_findQuestion_X8_closureOf
set_option maxRecDepth 20000 in
theorem ggX8_findQuestion_X8_keepsAll : GoodIn wsX8_findQuestion wsX8_keepsAll := goodIn_r _ [32, 33, 34, 35, 18, 19, 6, 20, 36, 37, 38, 39, 40, 41, 42, 43, 44, 45, 46, 47, 48, 49, 50, 51, 52, 53] (by decide +kernel) (by decide +kernel)
set_option maxRecDepth 20000 in
theorem gX8_findQuestion_X8_keepsAll : GoodIn wsX8_findQuestion (wsV RX8 123 RX8 yX8_keepsAll wsX8_keepsAll) := goodIn_app (goodIn_of _ (by decide +kernel)) ggX8_findQuestion_X8_keepsAll
theorem dX8_findQuestion_0 : decode cX8_findQuestion 0 = .ok (.aload_n 0, 1) := by decide +kernel
theorem dX8_findQuestion_1 : decode cX8_findQuestion 1 = .ok (.iconst (-1), 1) := by decide +kernel
theorem dX8_findQuestion_2 : decode cX8_findQuestion 2 = .ok (.putfield 36, 3) := by decide +kernel
theorem dX8_findQuestion_5 : decode cX8_findQuestion 5 = .ok (.iconst 0, 1) := by decide +kernel
theorem dX8_findQuestion_6 : decode cX8_findQuestion 6 = .ok (.istore_n 1, 1) := by decide +kernel
theorem dX8_findQuestion_7 : decode cX8_findQuestion 7 = .ok (.iload_n 1, 1) := by decide +kernel
theorem dX8_findQuestion_8 : decode cX8_findQuestion 8 = .ok (.iconst 1, 1) := by decide +kernel
theorem dX8_findQuestion_9 : decode cX8_findQuestion 9 = .ok (.aload_n 0, 1) := by decide +kernel
theorem dX8_findQuestion_10 : decode cX8_findQuestion 10 = .ok (.getfield 7, 3) := by decide +kernel
