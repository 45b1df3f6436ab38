theorem dX7_concept_116 : decode cX7_concept 116 = .ok (.invokevirtual 117, 3) := by decide +kernel
theorem dX7_concept_119 : decode cX7_concept 119 = .ok (.ireturn, 1) := by decide +kernel
theorem dX7_concept_120 : decode cX7_concept 120 = .ok (.aload_n 0, 1) := by decide +kernel
theorem dX7_concept_121 : decode cX7_concept 121 = .ok (.getfield 19, 3) := by decide +kernel
theorem dX7_concept_124 : decode cX7_concept 124 = .ok (.iload_n 3, 1) := by decide +kernel
theorem dX7_concept_125 : decode cX7_concept 125 = .ok (.aload_n 0, 1) := by decide +kernel
theorem dX7_concept_126 : decode cX7_concept 126 = .ok (.getfield 12, 3) := by decide +kernel
theorem dX7_concept_129 : decode cX7_concept 129 = .ok (.invokevirtual 118, 3) := by decide +kernel
theorem dX7_concept_132 : decode cX7_concept 132 = .ok (.aload_n 0, 1) := by decide +kernel
theorem dX7_concept_133 : decode cX7_concept 133 = .ok (.getfield 19, 3) := by decide +kernel
theorem dX7_concept_136 : decode cX7_concept 136 = .ok (.invokevirtual 117, 3) := by decide +kernel
theorem dX7_concept_139 : decode cX7_concept 139 = .ok (.ireturn, 1) := by decide +kernel
theorem dX7_concept_140 : decode cX7_concept 140 = .ok (.aload_n 0, 1) := by decide +kernel
theorem dX7_concept_141 : decode cX7_concept 141 = .ok (.getfield 19, 3) := by decide +kernel
theorem dX7_concept_144 : decode cX7_concept 144 = .ok (.iload_n 3, 1) := by decide +kernel
theorem dX7_concept_145 : decode cX7_concept 145 = .ok (.aload_n 0, 1) := by decide +kernel
theorem dX7_concept_146 : decode cX7_concept 146 = .ok (.getfield 12, 3) := by decide +kernel
theorem dX7_concept_149 : decode cX7_concept 149 = .ok (.invokevirtual 113, 3) := by decide +kernel
theorem dX7_concept_152 : decode cX7_concept 152 = .ok (.aload_n 0, 1) := by decide +kernel
theorem dX7_concept_153 : decode cX7_concept 153 = .ok (.getfield 19, 3) := by decide +kernel
theorem dX7_concept_156 : decode cX7_concept 156 = .ok (.iload_n 2, 1) := by decide +kernel
theorem dX7_concept_157 : decode cX7_concept 157 = .ok (.iconst 5, 1) := by decide +kernel
theorem dX7_concept_158 : decode cX7_concept 158 = .ok (.isub, 1) := by decide +kernel
theorem dX7_concept_159 : decode cX7_concept 159 = .ok (.invokevirtual 121, 3) := by decide +kernel
theorem dX7_concept_162 : decode cX7_concept 162 = .ok (.ireturn, 1) := by decide +kernel
set_option maxRecDepth 20000 in
theorem ggX7_base_X7_baseRules : GoodIn wsX7_base wsX7_baseRules := goodIn_r _ [5, 6, 7, 8, 9, 10, 11, 12, 13, 14, 15, 16, 17, 18, 19, 20, 21, 22, 23, 24, 25, 26, 27, 28, 29, 30, 31, 32, 33, 34, 35, 36, 37, 38, 39, 40, 41, 42, 43, 44, 45, 46, 47, 48, 49, 50, 51, 52, 53, 54, 55, 56, 57, 58, 59, 60, 61, 62, 63, 64, 65, 66, 67, 68, 69, 70, 71, 72, 73, 74, 75, 76, 77, 78, 79, 80, 81, 82, 83, 84, 85, 90, 91, 92, 93, 94, 95, 96, 97, 98, 99, 100, 101, 102, 103, 104, 105, 106, 107, 108] (by decide +kernel) (by decide +kernel)
set_option maxRecDepth 20000 in
theorem gX7_base_X7_baseRules : GoodIn wsX7_base (wsV RX7 122 RX7 yX7_baseRules wsX7_baseRules) := goodIn_app (goodIn_of _ (by decide +kernel)) ggX7_base_X7_baseRules
set_option maxRecDepth 20000 in
theorem ggX7_base_X4_size : GoodIn wsX7_base wsX4_size := goodIn_r _ [89, 21, 98, 99, 100] (by decide +kernel) (by decide +kernel)
set_option maxRecDepth 20000 in
theorem gX7_base_X4_size : GoodIn wsX7_base (wsV RX7 126 RX4 yX4_size wsX4_size) := goodIn_app (goodIn_of _ (by decide +kernel)) ggX7_base_X4_size
theorem dX7_base_0 : decode cX7_base 0 = .ok (.aload_n 0, 1) := by decide +kernel
theorem dX7_base_1 : decode cX7_base 1 = .ok (.invokevirtual 122, 3) := by decide +kernel
theorem dX7_base_4 : decode cX7_base 4 = .ok (.invokevirtual 126, 3) := by decide +kernel
theorem dX7_base_7 : decode cX7_base 7 = .ok (.ireturn, 1) := by decide +kernel
set_option maxRecDepth 20000 in
theorem ggX7_rule_X7_baseRules : GoodIn wsX7_rule wsX7_baseRules := goodIn_r _ [6, 7, 1, 8, 9, 10, 11, 12, 13, 14, 15, 16, 17, 18, 19, 20, 21, 22, 23, 24, 25, 26, 27, 28, 29, 30, 31, 32, 33, 34, 35, 36, 37, 38, 39, 40, 41, 42, 43, 44, 45, 46, 47, 48, 49, 50, 51, 52, 53, 54, 55, 56, 57, 58, 59, 60, 61, 62, 63, 64, 65, 66, 67, 68, 69, 70, 71, 72, 73, 74, 75, 76, 77, 78, 79, 80, 81, 82, 83, 84, 85, 105, 106, 107, 108, 109, 110, 111, 112, 113, 114, 115, 116, 117, 118, 119, 120, 121, 122, 123] (by decide +kernel) (by decide +kernel)
set_option maxRecDepth 20000 in
theorem gX7_rule_X7_baseRules : GoodIn wsX7_rule (wsV RX7 122 RX7 yX7_baseRules wsX7_baseRules) := goodIn_app (goodIn_of _ (by decide +kernel)) ggX7_rule_X7_baseRules
set_option maxRecDepth 20000 in
theorem ggX7_rule_X4_premise : GoodIn wsX7_rule wsX4_premise := goodIn_r _ [89, 21, 73, 113, 114, 115] (by decide +kernel) (by decide +kernel)
set_option maxRecDepth 20000 in
theorem gX7_rule_X4_premise : GoodIn wsX7_rule (wsV RX7 129 RX4 yX4_premise wsX4_premise) := goodIn_app (goodIn_of _ (by decide +kernel)) ggX7_rule_X4_premise
set_option maxRecDepth 20000 in
theorem ggX7_rule_X6_extentOf : GoodIn wsX7_rule wsX6_extentOf := goodIn_r _ [93, 59, 60, 68, 53, 39, 54, 116, 117, 118] (by decide +kernel) (by decide +kernel)
set_option maxRecDepth 20000 in
theorem gX7_rule_X6_extentOf : GoodIn wsX7_rule (wsV RX7 93 RX6 yX6_extentOf wsX6_extentOf) := goodIn_app (goodIn_of _ (by decide +kernel)) ggX7_rule_X6_extentOf
set_option maxRecDepth 20000 in
theorem ggX7_rule_J6_bitCount_0f7a4 : GoodIn wsX7_rule wsJ6_bitCount_0f7a4 := goodIn_r _ [97, 98, 99, 100] (by decide +kernel) (by decide +kernel)
set_option maxRecDepth 20000 in
theorem gX7_rule_J6_bitCount_0f7a4 : GoodIn wsX7_rule (va_wsS RX7 132 yJ6_bitCount_0f7a4 wsJ6_bitCount_0f7a4) := goodIn_app (goodIn_of _ (by decide +kernel)) ggX7_rule_J6_bitCount_0f7a4
set_option maxRecDepth 20000 in
theorem ggX7_rule_X4_conclusion : GoodIn wsX7_rule wsX4_conclusion := goodIn_r _ [104, 21, 74, 113, 114, 115] (by decide +kernel) (by decide +kernel)
set_option maxRecDepth 20000 in
theorem gX7_rule_X4_conclusion : GoodIn wsX7_rule (wsV RX7 137 RX4 yX4_conclusion wsX4_conclusion) := goodIn_app (goodIn_of _ (by decide +kernel)) ggX7_rule_X4_conclusion
theorem dX7_rule_0 : decode cX7_rule 0 = .ok (.iload_n 2, 1) := by decide +kernel
theorem dX7_rule_1 : decode cX7_rule 1 = .ok (.ifCond .lt 8, 3) := by decide +kernel
theorem dX7_rule_4 : decode cX7_rule 4 = .ok (.iload_n 2, 1) := by decide +kernel
theorem dX7_rule_5 : decode cX7_rule 5 = .ok (.iconst 2, 1) := by decide +kernel
theorem dX7_rule_6 : decode cX7_rule 6 = .ok (.if_icmp .le 6, 3) := by decide +kernel
theorem dX7_rule_9 : decode cX7_rule 9 = .ok (.bipush (-2), 2) := by decide +kernel
theorem dX7_rule_11 : decode cX7_rule 11 = .ok (.ireturn, 1) := by decide +kernel
theorem dX7_rule_12 : decode cX7_rule 12 = .ok (.aload_n 0, 1) := by decide +kernel
theorem dX7_rule_13 : decode cX7_rule 13 = .ok (.invokevirtual 122, 3) := by decide +kernel
theorem dX7_rule_16 : decode cX7_rule 16 = .ok (.astore_n 3, 1) := by decide +kernel
theorem dX7_rule_17 : decode cX7_rule 17 = .ok (.iload_n 2, 1) := by decide +kernel
theorem dX7_rule_18 : decode cX7_rule 18 = .ok (.iconst 2, 1) := by decide +kernel
theorem dX7_rule_19 : decode cX7_rule 19 = .ok (.if_icmp .ne 33, 3) := by decide +kernel
theorem dX7_rule_22 : decode cX7_rule 22 = .ok (.aload_n 3, 1) := by decide +kernel
theorem dX7_rule_23 : decode cX7_rule 23 = .ok (.iload_n 1, 1) := by decide +kernel
theorem dX7_rule_24 : decode cX7_rule 24 = .ok (.invokevirtual 129, 3) := by decide +kernel
theorem dX7_rule_27 : decode cX7_rule 27 = .ok (.istore 4, 2) := by decide +kernel
theorem dX7_rule_29 : decode cX7_rule 29 = .ok (.iload 4, 2) := by decide +kernel
theorem dX7_rule_31 : decode cX7_rule 31 = .ok (.iconst (-1), 1) := by decide +kernel
theorem dX7_rule_32 : decode cX7_rule 32 = .ok (.if_icmp .ne 7, 3) := by decide +kernel
theorem dX7_rule_35 : decode cX7_rule 35 = .ok (.iconst (-1), 1) := by decide +kernel
theorem dX7_rule_36 : decode cX7_rule 36 = .ok (.goto 15, 3) := by decide +kernel
theorem dX7_rule_39 : decode cX7_rule 39 = .ok (.aload_n 0, 1) := by decide +kernel
theorem dX7_rule_40 : decode cX7_rule 40 = .ok (.getfield 12, 3) := by decide +kernel
theorem dX7_rule_43 : decode cX7_rule 43 = .ok (.iload 4, 2) := by decide +kernel
theorem dX7_rule_45 : decode cX7_rule 45 = .ok (.invokevirtual 93, 3) := by decide +kernel
theorem dX7_rule_48 : decode cX7_rule 48 = .ok (.invokestatic 132, 3) := by decide +kernel
theorem dX7_rule_51 : decode cX7_rule 51 = .ok (.ireturn, 1) := by decide +kernel
theorem dX7_rule_52 : decode cX7_rule 52 = .ok (.iload_n 2, 1) := by decide +kernel
theorem dX7_rule_53 : decode cX7_rule 53 = .ok (.ifCond .ne 11, 3) := by decide +kernel
theorem dX7_rule_56 : decode cX7_rule 56 = .ok (.aload_n 3, 1) := by decide +kernel
theorem dX7_rule_57 : decode cX7_rule 57 = .ok (.iload_n 1, 1) := by decide +kernel
theorem dX7_rule_58 : decode cX7_rule 58 = .ok (.invokevirtual 129, 3) := by decide +kernel
theorem dX7_rule_61 : decode cX7_rule 61 = .ok (.goto 8, 3) := by decide +kernel
theorem dX7_rule_64 : decode cX7_rule 64 = .ok (.aload_n 3, 1) := by decide +kernel
theorem dX7_rule_65 : decode cX7_rule 65 = .ok (.iload_n 1, 1) := by decide +kernel
theorem dX7_rule_66 : decode cX7_rule 66 = .ok (.invokevirtual 137, 3) := by decide +kernel
theorem dX7_rule_69 : decode cX7_rule 69 = .ok (.ireturn, 1) := by decide +kernel
set_option maxRecDepth 20000 in
theorem ggX7_follows_X6_isAttributeSet : GoodIn wsX7_follows wsX6_isAttributeSet := goodIn_r _ [6, 7, 8, 9, 5, 10, 11, 12, 13, 14, 15, 16, 17, 18, 108, 109, 110] (by decide +kernel) (by decide +kernel)
set_option maxRecDepth 20000 in
theorem gX7_follows_X6_isAttributeSet : GoodIn wsX7_follows (wsV RX7 57 RX6 yX6_isAttributeSet wsX6_isAttributeSet) := goodIn_app (goodIn_of _ (by decide +kernel)) ggX7_follows_X6_isAttributeSet
set_option maxRecDepth 20000 in
theorem ggX7_follows_X7_baseRules : GoodIn wsX7_follows wsX7_baseRules := goodIn_r _ [23, 24, 1, 25, 26, 27, 28, 29, 30, 31, 32, 33, 34, 35, 36, 37, 38, 39, 40, 41, 5, 42, 11, 43, 44, 45, 46, 47, 48, 49, 50, 51, 52, 53, 14, 54, 55, 56, 57, 58, 59, 60, 61, 62, 63, 64, 65, 66, 17, 18, 67, 68, 69, 70, 71, 72, 7, 8, 9, 10, 12, 13, 15, 16, 73, 74, 75, 76, 77, 78, 79, 80, 81, 82, 83, 84, 85, 86, 87, 88, 89, 103, 104, 105, 106, 107, 111, 112, 113, 114, 115, 116, 108, 109, 110, 117, 118, 119, 120, 121] (by decide +kernel) (by decide +kernel)
set_option maxRecDepth 20000 in
theorem gX7_follows_X7_baseRules : GoodIn wsX7_follows (wsV RX7 122 RX7 yX7_baseRules wsX7_baseRules) := goodIn_app (goodIn_of _ (by decide +kernel)) ggX7_follows_X7_baseRules
set_option maxRecDepth 20000 in
theorem ggX7_follows_X4_leastKeeping : GoodIn wsX7_follows wsX4_leastKeeping := goodIn_r _ [93, 38, 94, 95, 96, 97, 98, 99, 100, 36, 101, 77, 78, 102, 17, 14, 18, 114, 115, 116] (by decide +kernel) (by decide +kernel)
set_option maxRecDepth 20000 in
theorem gX7_follows_X4_leastKeeping : GoodIn wsX7_follows (wsV RX7 140 RX4 yX4_leastKeeping wsX4_leastKeeping) := goodIn_app (goodIn_of _ (by decide +kernel)) ggX7_follows_X4_leastKeeping
theorem dX7_follows_0 : decode cX7_follows 0 = .ok (.aload_n 0, 1) := by decide +kernel
theorem dX7_follows_1 : decode cX7_follows 1 = .ok (.getfield 12, 3) := by decide +kernel
theorem dX7_follows_4 : decode cX7_follows 4 = .ok (.iload_n 1, 1) := by decide +kernel
theorem dX7_follows_5 : decode cX7_follows 5 = .ok (.invokevirtual 57, 3) := by decide +kernel
theorem dX7_follows_8 : decode cX7_follows 8 = .ok (.ifCond .eq 7, 3) := by decide +kernel
theorem dX7_follows_11 : decode cX7_follows 11 = .ok (.iload_n 2, 1) := by decide +kernel
theorem dX7_follows_12 : decode cX7_follows 12 = .ok (.ifCond .ge 6, 3) := by decide +kernel
theorem dX7_follows_15 : decode cX7_follows 15 = .ok (.bipush (-2), 2) := by decide +kernel
theorem dX7_follows_17 : decode cX7_follows 17 = .ok (.ireturn, 1) := by decide +kernel
theorem dX7_follows_18 : decode cX7_follows 18 = .ok (.aload_n 0, 1) := by decide +kernel
theorem dX7_follows_19 : decode cX7_follows 19 = .ok (.invokevirtual 122, 3) := by decide +kernel
theorem dX7_follows_22 : decode cX7_follows 22 = .ok (.iload_n 1, 1) := by decide +kernel
theorem dX7_follows_23 : decode cX7_follows 23 = .ok (.iload_n 2, 1) := by decide +kernel
theorem dX7_follows_24 : decode cX7_follows 24 = .ok (.invokevirtual 140, 3) := by decide +kernel
theorem dX7_follows_27 : decode cX7_follows 27 = .ok (.ireturn, 1) := by decide +kernel
set_option maxRecDepth 20000 in
theorem ggX7_holds_X6_isAttributeSet : GoodIn wsX7_holds wsX6_isAttributeSet := goodIn_r _ [6, 7, 8, 9, 5, 10, 11, 12, 13, 14, 15, 16, 17, 18, 35, 36, 37] (by decide +kernel) (by decide +kernel)
set_option maxRecDepth 20000 in
theorem gX7_holds_X6_isAttributeSet : GoodIn wsX7_holds (wsV RX7 57 RX6 yX6_isAttributeSet wsX6_isAttributeSet) := goodIn_app (goodIn_of _ (by decide +kernel)) ggX7_holds_X6_isAttributeSet
set_option maxRecDepth 20000 in
theorem ggX7_holds_X6_closureOf : GoodIn wsX7_holds wsX6_closureOf := goodIn_r _ [22, 23, 24, 7, 8, 9, 5, 10, 11, 12, 13, 14, 15, 16, 17, 18, 35, 36, 37] (by decide +kernel) (by decide +kernel)
set_option maxRecDepth 20000 in
theorem gX7_holds_X6_closureOf : GoodIn wsX7_holds (wsV RX7 96 RX6 yX6_closureOf wsX6_closureOf) := goodIn_app (goodIn_of _ (by decide +kernel)) ggX7_holds_X6_closureOf
set_option maxRecDepth 20000 in
theorem ggX7_holds_X5_hasAll : GoodIn wsX7_holds wsX5_hasAll := goodIn_r _ [18] (by decide +kernel) (by decide +kernel)
set_option maxRecDepth 20000 in
theorem gX7_holds_X5_hasAll : GoodIn wsX7_holds (va_wsS RX7 144 yX5_hasAll wsX5_hasAll) := goodIn_app (goodIn_of _ (by decide +kernel)) ggX7_holds_X5_hasAll
set_option maxRecDepth 20000 in
theorem ggX7_holds_X7_asNumber : GoodIn wsX7_holds wsX7_asNumber := goodIn_r _ [29] (by decide +kernel) (by decide +kernel)
set_option maxRecDepth 20000 in
theorem gX7_holds_X7_asNumber : GoodIn wsX7_holds (va_wsS RX7 150 yX7_asNumber wsX7_asNumber) := goodIn_app (goodIn_of _ (by decide +kernel)) ggX7_holds_X7_asNumber
theorem dX7_holds_0 : decode cX7_holds 0 = .ok (.aload_n 0, 1) := by decide +kernel
theorem dX7_holds_1 : decode cX7_holds 1 = .ok (.getfield 12, 3) := by decide +kernel
theorem dX7_holds_4 : decode cX7_holds 4 = .ok (.iload_n 1, 1) := by decide +kernel
theorem dX7_holds_5 : decode cX7_holds 5 = .ok (.invokevirtual 57, 3) := by decide +kernel
theorem dX7_holds_8 : decode cX7_holds 8 = .ok (.ifCond .eq 14, 3) := by decide +kernel
theorem dX7_holds_11 : decode cX7_holds 11 = .ok (.aload_n 0, 1) := by decide +kernel
theorem dX7_holds_12 : decode cX7_holds 12 = .ok (.getfield 12, 3) := by decide +kernel
theorem dX7_holds_15 : decode cX7_holds 15 = .ok (.iload_n 2, 1) := by decide +kernel
theorem dX7_holds_16 : decode cX7_holds 16 = .ok (.invokevirtual 57, 3) := by decide +kernel
theorem dX7_holds_19 : decode cX7_holds 19 = .ok (.ifCond .ne 6, 3) := by decide +kernel
theorem dX7_holds_22 : decode cX7_holds 22 = .ok (.bipush (-2), 2) := by decide +kernel
theorem dX7_holds_24 : decode cX7_holds 24 = .ok (.ireturn, 1) := by decide +kernel
theorem dX7_holds_25 : decode cX7_holds 25 = .ok (.aload_n 0, 1) := by decide +kernel
theorem dX7_holds_26 : decode cX7_holds 26 = .ok (.getfield 12, 3) := by decide +kernel
theorem dX7_holds_29 : decode cX7_holds 29 = .ok (.iload_n 1, 1) := by decide +kernel
theorem dX7_holds_30 : decode cX7_holds 30 = .ok (.invokevirtual 96, 3) := by decide +kernel
theorem dX7_holds_33 : decode cX7_holds 33 = .ok (.iload_n 2, 1) := by decide +kernel
theorem dX7_holds_34 : decode cX7_holds 34 = .ok (.invokestatic 144, 3) := by decide +kernel
theorem dX7_holds_37 : decode cX7_holds 37 = .ok (.invokestatic 150, 3) := by decide +kernel
theorem dX7_holds_40 : decode cX7_holds 40 = .ok (.ireturn, 1) := by decide +kernel
set_option maxRecDepth 20000 in
theorem ggX7_needed_X6_isAttribute : GoodIn wsX7_needed wsX6_isAttribute := goodIn_r _ [6, 7, 35, 36, 37] (by decide +kernel) (by decide +kernel)
set_option maxRecDepth 20000 in
theorem gX7_needed_X6_isAttribute : GoodIn wsX7_needed (wsV RX7 154 RX6 yX6_isAttribute wsX6_isAttribute) := goodIn_app (goodIn_of _ (by decide +kernel)) ggX7_needed_X6_isAttribute
set_option maxRecDepth 20000 in
theorem ggX7_needed_X6_needsAttribute : GoodIn wsX7_needed wsX6_needsAttribute := goodIn_r _ [11, 7, 12, 13, 14, 5, 15, 16, 17, 18, 19, 20, 21, 22, 23, 24, 25, 35, 36, 37] (by decide +kernel) (by decide +kernel)
set_option maxRecDepth 20000 in
theorem gX7_needed_X6_needsAttribute : GoodIn wsX7_needed (wsV RX7 157 RX6 yX6_needsAttribute wsX6_needsAttribute) := goodIn_app (goodIn_of _ (by decide +kernel)) ggX7_needed_X6_needsAttribute
set_option maxRecDepth 20000 in
theorem ggX7_needed_X7_asNumber : GoodIn wsX7_needed wsX7_asNumber := goodIn_r _ [29] (by decide +kernel) (by decide +kernel)
set_option maxRecDepth 20000 in
theorem gX7_needed_X7_asNumber : GoodIn wsX7_needed (va_wsS RX7 150 yX7_asNumber wsX7_asNumber) := goodIn_app (goodIn_of _ (by decide +kernel)) ggX7_needed_X7_asNumber
theorem dX7_needed_0 : decode cX7_needed 0 = .ok (.aload_n 0, 1) := by decide +kernel
theorem dX7_needed_1 : decode cX7_needed 1 = .ok (.getfield 12, 3) := by decide +kernel
theorem dX7_needed_4 : decode cX7_needed 4 = .ok (.iload_n 1, 1) := by decide +kernel
theorem dX7_needed_5 : decode cX7_needed 5 = .ok (.invokevirtual 154, 3) := by decide +kernel
theorem dX7_needed_8 : decode cX7_needed 8 = .ok (.ifCond .eq 17, 3) := by decide +kernel
theorem dX7_needed_11 : decode cX7_needed 11 = .ok (.aload_n 0, 1) := by decide +kernel
theorem dX7_needed_12 : decode cX7_needed 12 = .ok (.getfield 12, 3) := by decide +kernel
theorem dX7_needed_15 : decode cX7_needed 15 = .ok (.iload_n 1, 1) := by decide +kernel
theorem dX7_needed_16 : decode cX7_needed 16 = .ok (.invokevirtual 157, 3) := by decide +kernel
theorem dX7_needed_19 : decode cX7_needed 19 = .ok (.invokestatic 150, 3) := by decide +kernel
theorem dX7_needed_22 : decode cX7_needed 22 = .ok (.goto 5, 3) := by decide +kernel
theorem dX7_needed_25 : decode cX7_needed 25 = .ok (.bipush (-2), 2) := by decide +kernel
theorem dX7_needed_27 : decode cX7_needed 27 = .ok (.ireturn, 1) := by decide +kernel
set_option maxRecDepth 20000 in
theorem ggX7_neededObject_X6_isObject : GoodIn wsX7_neededObject wsX6_isObject := goodIn_r _ [6, 7, 45, 46, 47] (by decide +kernel) (by decide +kernel)
set_option maxRecDepth 20000 in
theorem gX7_neededObject_X6_isObject : GoodIn wsX7_neededObject (wsV RX7 72 RX6 yX6_isObject wsX6_isObject) := goodIn_app (goodIn_of _ (by decide +kernel)) ggX7_neededObject_X6_isObject
set_option maxRecDepth 20000 in
theorem ggX7_neededObject_X6_needsObject : GoodIn wsX7_neededObject wsX6_needsObject := goodIn_r _ [11, 7, 12, 13, 14, 15, 5, 16, 17, 18, 19, 20, 21, 22, 23, 24, 25, 26, 27, 28, 29, 30, 31, 32, 33, 34, 35, 45, 46, 47] (by decide +kernel) (by decide +kernel)
set_option maxRecDepth 20000 in
theorem gX7_neededObject_X6_needsObject : GoodIn wsX7_neededObject (wsV RX7 160 RX6 yX6_needsObject wsX6_needsObject) := goodIn_app (goodIn_of _ (by decide +kernel)) ggX7_neededObject_X6_needsObject
set_option maxRecDepth 20000 in
theorem ggX7_neededObject_X7_asNumber : GoodIn wsX7_neededObject wsX7_asNumber := goodIn_r _ [39] (by decide +kernel) (by decide +kernel)
set_option maxRecDepth 20000 in
theorem gX7_neededObject_X7_asNumber : GoodIn wsX7_neededObject (va_wsS RX7 150 yX7_asNumber wsX7_asNumber) := goodIn_app (goodIn_of _ (by decide +kernel)) ggX7_neededObject_X7_asNumber
theorem dX7_neededObject_0 : decode cX7_neededObject 0 = .ok (.aload_n 0, 1) := by decide +kernel
theorem dX7_neededObject_1 : decode cX7_neededObject 1 = .ok (.getfield 12, 3) := by decide +kernel
theorem dX7_neededObject_4 : decode cX7_neededObject 4 = .ok (.iload_n 1, 1) := by decide +kernel
theorem dX7_neededObject_5 : decode cX7_neededObject 5 = .ok (.invokevirtual 72, 3) := by decide +kernel
theorem dX7_neededObject_8 : decode cX7_neededObject 8 = .ok (.ifCond .eq 17, 3) := by decide +kernel
theorem dX7_neededObject_11 : decode cX7_neededObject 11 = .ok (.aload_n 0, 1) := by decide +kernel
theorem dX7_neededObject_12 : decode cX7_neededObject 12 = .ok (.getfield 12, 3) := by decide +kernel
theorem dX7_neededObject_15 : decode cX7_neededObject 15 = .ok (.iload_n 1, 1) := by decide +kernel
theorem dX7_neededObject_16 : decode cX7_neededObject 16 = .ok (.invokevirtual 160, 3) := by decide +kernel
theorem dX7_neededObject_19 : decode cX7_neededObject 19 = .ok (.invokestatic 150, 3) := by decide +kernel
theorem dX7_neededObject_22 : decode cX7_neededObject 22 = .ok (.goto 5, 3) := by decide +kernel
theorem dX7_neededObject_25 : decode cX7_neededObject 25 = .ok (.bipush (-2), 2) := by decide +kernel
theorem dX7_neededObject_27 : decode cX7_neededObject 27 = .ok (.ireturn, 1) := by decide +kernel
set_option maxRecDepth 20000 in
theorem ggX7_frequent_X1_size : GoodIn wsX7_frequent wsX1_size := goodIn_r _ [7, 8, 37, 38, 39, 40, 41] (by decide +kernel) (by decide +kernel)
set_option maxRecDepth 20000 in
theorem gX7_frequent_X1_size : GoodIn wsX7_frequent (wsV RX7 102 RX1 yX1_size wsX1_size) := goodIn_app (goodIn_of _ (by decide +kernel)) ggX7_frequent_X1_size
set_option maxRecDepth 20000 in
theorem ggX7_frequent_X1_member : GoodIn wsX7_frequent wsX1_member := goodIn_r _ [12, 8, 13, 37, 38, 39, 40, 41] (by decide +kernel) (by decide +kernel)
set_option maxRecDepth 20000 in
theorem gX7_frequent_X1_member : GoodIn wsX7_frequent (wsV RX7 107 RX1 yX1_member wsX1_member) := goodIn_app (goodIn_of _ (by decide +kernel)) ggX7_frequent_X1_member
set_option maxRecDepth 20000 in
theorem ggX7_frequent_X6_extentOf : GoodIn wsX7_frequent wsX6_extentOf := goodIn_r _ [18, 19, 20, 21, 22, 23, 24, 42, 43, 44] (by decide +kernel) (by decide +kernel)
set_option maxRecDepth 20000 in
theorem gX7_frequent_X6_extentOf : GoodIn wsX7_frequent (wsV RX7 93 RX6 yX6_extentOf wsX6_extentOf) := goodIn_app (goodIn_of _ (by decide +kernel)) ggX7_frequent_X6_extentOf
set_option maxRecDepth 20000 in
theorem ggX7_frequent_J6_bitCount_0f7a4 : GoodIn wsX7_frequent wsJ6_bitCount_0f7a4 := goodIn_r _ [28, 29, 30, 31] (by decide +kernel) (by decide +kernel)
set_option maxRecDepth 20000 in
theorem gX7_frequent_J6_bitCount_0f7a4 : GoodIn wsX7_frequent (va_wsS RX7 132 yJ6_bitCount_0f7a4 wsJ6_bitCount_0f7a4) := goodIn_app (goodIn_of _ (by decide +kernel)) ggX7_frequent_J6_bitCount_0f7a4
theorem dX7_frequent_0 : decode cX7_frequent 0 = .ok (.iconst 0, 1) := by decide +kernel
theorem dX7_frequent_1 : decode cX7_frequent 1 = .ok (.istore_n 2, 1) := by decide +kernel
theorem dX7_frequent_2 : decode cX7_frequent 2 = .ok (.iconst 0, 1) := by decide +kernel
theorem dX7_frequent_3 : decode cX7_frequent 3 = .ok (.istore_n 3, 1) := by decide +kernel
theorem dX7_frequent_4 : decode cX7_frequent 4 = .ok (.iload_n 3, 1) := by decide +kernel
theorem dX7_frequent_5 : decode cX7_frequent 5 = .ok (.aload_n 0, 1) := by decide +kernel
theorem dX7_frequent_6 : decode cX7_frequent 6 = .ok (.getfield 33, 3) := by decide +kernel
theorem dX7_frequent_9 : decode cX7_frequent 9 = .ok (.invokevirtual 102, 3) := by decide +kernel
theorem dX7_frequent_12 : decode cX7_frequent 12 = .ok (.if_icmp .ge 34, 3) := by decide +kernel
theorem dX7_frequent_15 : decode cX7_frequent 15 = .ok (.aload_n 0, 1) := by decide +kernel
theorem dX7_frequent_16 : decode cX7_frequent 16 = .ok (.getfield 12, 3) := by decide +kernel
theorem dX7_frequent_19 : decode cX7_frequent 19 = .ok (.aload_n 0, 1) := by decide +kernel
theorem dX7_frequent_20 : decode cX7_frequent 20 = .ok (.getfield 33, 3) := by decide +kernel
theorem dX7_frequent_23 : decode cX7_frequent 23 = .ok (.iload_n 3, 1) := by decide +kernel
theorem dX7_frequent_24 : decode cX7_frequent 24 = .ok (.invokevirtual 107, 3) := by decide +kernel
theorem dX7_frequent_27 : decode cX7_frequent 27 = .ok (.invokevirtual 93, 3) := by decide +kernel
theorem dX7_frequent_30 : decode cX7_frequent 30 = .ok (.invokestatic 132, 3) := by decide +kernel
theorem dX7_frequent_33 : decode cX7_frequent 33 = .ok (.iload_n 1, 1) := by decide +kernel
theorem dX7_frequent_34 : decode cX7_frequent 34 = .ok (.if_icmp .lt 6, 3) := by decide +kernel
theorem dX7_frequent_37 : decode cX7_frequent 37 = .ok (.iinc 2 1, 3) := by decide +kernel
theorem dX7_frequent_40 : decode cX7_frequent 40 = .ok (.iinc 3 1, 3) := by decide +kernel
theorem dX7_frequent_43 : decode cX7_frequent 43 = .ok (.goto (-39), 3) := by decide +kernel
theorem dX7_frequent_46 : decode cX7_frequent 46 = .ok (.iload_n 2, 1) := by decide +kernel
theorem dX7_frequent_47 : decode cX7_frequent 47 = .ok (.ireturn, 1) := by decide +kernel
set_option maxRecDepth 20000 in
theorem ggX7_ask_X2_start : GoodIn wsX7_ask wsX2_start := goodIn_r _ [7, 8, 9, 10, 11, 12, 13, 14, 15, 16, 57, 58, 59, 60, 61, 62] (by decide +kernel) (by decide +kernel)
set_option maxRecDepth 20000 in
theorem gX7_ask_X2_start : GoodIn wsX7_ask (wsV RX7 163 RX2 yX2_start wsX2_start) := goodIn_app (goodIn_of _ (by decide +kernel)) ggX7_ask_X2_start
set_option maxRecDepth 20000 in
theorem ggX7_ask_X2_seek : GoodIn wsX7_ask wsX2_seek := goodIn_r _ [20, 10, 8, 21, 22, 23, 24, 25, 26, 27, 28, 29, 30, 31, 32, 33, 34, 35, 36, 37, 38, 39, 40, 41, 42, 14, 43, 16, 44, 45, 46, 47, 48, 49, 50, 51, 57, 58, 59, 63, 64, 65, 66, 67, 60, 61, 62] (by decide +kernel) (by decide +kernel)
set_option maxRecDepth 20000 in
theorem gX7_ask_X2_seek : GoodIn wsX7_ask (wsV RX7 166 RX2 yX2_seek wsX2_seek) := goodIn_app (goodIn_of _ (by decide +kernel)) ggX7_ask_X2_seek
theorem dX7_ask_0 : decode cX7_ask 0 = .ok (.aload_n 0, 1) := by decide +kernel
theorem dX7_ask_1 : decode cX7_ask 1 = .ok (.getfield 26, 3) := by decide +kernel
theorem dX7_ask_4 : decode cX7_ask 4 = .ok (.invokevirtual 163, 3) := by decide +kernel
theorem dX7_ask_7 : decode cX7_ask 7 = .ok (.aload_n 0, 1) := by decide +kernel
theorem dX7_ask_8 : decode cX7_ask 8 = .ok (.getfield 26, 3) := by decide +kernel
theorem dX7_ask_11 : decode cX7_ask 11 = .ok (.aload_n 0, 1) := by decide +kernel
theorem dX7_ask_12 : decode cX7_ask 12 = .ok (.getfield 33, 3) := by decide +kernel
theorem dX7_ask_15 : decode cX7_ask 15 = .ok (.invokevirtual 166, 3) := by decide +kernel
theorem dX7_ask_18 : decode cX7_ask 18 = .ok (.ireturn, 1) := by decide +kernel
set_option maxRecDepth 20000 in
theorem ggX7_question_X2_asked : GoodIn wsX7_question wsX2_asked := goodIn_r _ [6, 7, 13, 14, 15] (by decide +kernel) (by decide +kernel)
set_option maxRecDepth 20000 in
theorem gX7_question_X2_asked : GoodIn wsX7_question (wsV RX7 170 RX2 yX2_asked wsX2_asked) := goodIn_app (goodIn_of _ (by decide +kernel)) ggX7_question_X2_asked
theorem dX7_question_0 : decode cX7_question 0 = .ok (.aload_n 0, 1) := by decide +kernel
theorem dX7_question_1 : decode cX7_question 1 = .ok (.getfield 26, 3) := by decide +kernel
theorem dX7_question_4 : decode cX7_question 4 = .ok (.invokevirtual 170, 3) := by decide +kernel
theorem dX7_question_7 : decode cX7_question 7 = .ok (.ireturn, 1) := by decide +kernel
set_option maxRecDepth 20000 in
theorem ggX7_yes_X2_asked : GoodIn wsX7_yes wsX2_asked := goodIn_r _ [8, 9, 77, 78, 79] (by decide +kernel) (by decide +kernel)
set_option maxRecDepth 20000 in
theorem gX7_yes_X2_asked : GoodIn wsX7_yes (wsV RX7 170 RX2 yX2_asked wsX2_asked) := goodIn_app (goodIn_of _ (by decide +kernel)) ggX7_yes_X2_asked
set_option maxRecDepth 20000 in
theorem ggX7_yes_X6_closureOf : GoodIn wsX7_yes wsX6_closureOf := goodIn_r _ [14, 15, 16, 17, 18, 19, 13, 20, 21, 22, 23, 24, 25, 26, 27, 28, 80, 81, 82] (by decide +kernel) (by decide +kernel)
set_option maxRecDepth 20000 in
theorem gX7_yes_X6_closureOf : GoodIn wsX7_yes (wsV RX7 96 RX6 yX6_closureOf wsX6_closureOf) := goodIn_app (goodIn_of _ (by decide +kernel)) ggX7_yes_X6_closureOf
set_option maxRecDepth 20000 in
theorem ggX7_yes_X2_agree : GoodIn wsX7_yes wsX2_agree := goodIn_r _ [32, 33, 9, 34, 35, 36, 37, 38, 39, 40, 41, 77, 78, 79, 83, 84, 85] (by decide +kernel) (by decide +kernel)
set_option maxRecDepth 20000 in
theorem gX7_yes_X2_agree : GoodIn wsX7_yes (wsV RX7 173 RX2 yX2_agree wsX2_agree) := goodIn_app (goodIn_of _ (by decide +kernel)) ggX7_yes_X2_agree
set_option maxRecDepth 20000 in
theorem ggX7_yes_X2_seek : GoodIn wsX7_yes wsX2_seek := goodIn_r _ [45, 9, 33, 46, 47, 48, 49, 50, 51, 52, 53, 54, 55, 56, 57, 58, 59, 60, 61, 62, 24, 63, 64, 65, 66, 37, 67, 39, 40, 41, 68, 27, 28, 69, 70, 71, 77, 78, 79, 86, 87, 88, 89, 90, 83, 84, 85] (by decide +kernel) (by decide +kernel)
set_option maxRecDepth 20000 in
theorem gX7_yes_X2_seek : GoodIn wsX7_yes (wsV RX7 166 RX2 yX2_seek wsX2_seek) := goodIn_app (goodIn_of _ (by decide +kernel)) ggX7_yes_X2_seek
theorem dX7_yes_0 : decode cX7_yes 0 = .ok (.aload_n 0, 1) := by decide +kernel
theorem dX7_yes_1 : decode cX7_yes 1 = .ok (.getfield 26, 3) := by decide +kernel
theorem dX7_yes_4 : decode cX7_yes 4 = .ok (.invokevirtual 170, 3) := by decide +kernel
theorem dX7_yes_7 : decode cX7_yes 7 = .ok (.istore_n 1, 1) := by decide +kernel
theorem dX7_yes_8 : decode cX7_yes 8 = .ok (.iload_n 1, 1) := by decide +kernel
theorem dX7_yes_9 : decode cX7_yes 9 = .ok (.iconst (-1), 1) := by decide +kernel
theorem dX7_yes_10 : decode cX7_yes 10 = .ok (.if_icmp .ne 6, 3) := by decide +kernel
theorem dX7_yes_13 : decode cX7_yes 13 = .ok (.bipush (-2), 2) := by decide +kernel
theorem dX7_yes_15 : decode cX7_yes 15 = .ok (.ireturn, 1) := by decide +kernel
theorem dX7_yes_16 : decode cX7_yes 16 = .ok (.aload_n 0, 1) := by decide +kernel
theorem dX7_yes_17 : decode cX7_yes 17 = .ok (.getfield 26, 3) := by decide +kernel
theorem dX7_yes_20 : decode cX7_yes 20 = .ok (.aload_n 0, 1) := by decide +kernel
theorem dX7_yes_21 : decode cX7_yes 21 = .ok (.getfield 12, 3) := by decide +kernel
theorem dX7_yes_24 : decode cX7_yes 24 = .ok (.iload_n 1, 1) := by decide +kernel
theorem dX7_yes_25 : decode cX7_yes 25 = .ok (.invokevirtual 96, 3) := by decide +kernel
theorem dX7_yes_28 : decode cX7_yes 28 = .ok (.invokevirtual 173, 3) := by decide +kernel
theorem dX7_yes_31 : decode cX7_yes 31 = .ok (.aload_n 0, 1) := by decide +kernel
theorem dX7_yes_32 : decode cX7_yes 32 = .ok (.getfield 26, 3) := by decide +kernel
theorem dX7_yes_35 : decode cX7_yes 35 = .ok (.aload_n 0, 1) := by decide +kernel
theorem dX7_yes_36 : decode cX7_yes 36 = .ok (.getfield 33, 3) := by decide +kernel
theorem dX7_yes_39 : decode cX7_yes 39 = .ok (.invokevirtual 166, 3) := by decide +kernel
theorem dX7_yes_42 : decode cX7_yes 42 = .ok (.ireturn, 1) := by decide +kernel
set_option maxRecDepth 20000 in
theorem ggX7_no_X2_asked : GoodIn wsX7_no wsX2_asked := goodIn_r _ [8, 9, 115, 116, 117] (by decide +kernel) (by decide +kernel)
set_option maxRecDepth 20000 in
theorem gX7_no_X2_asked : GoodIn wsX7_no (wsV RX7 170 RX2 yX2_asked wsX2_asked) := goodIn_app (goodIn_of _ (by decide +kernel)) ggX7_no_X2_asked
set_option maxRecDepth 20000 in
theorem ggX7_no_X6_isAttributeSet : GoodIn wsX7_no wsX6_isAttributeSet := goodIn_r _ [14, 15, 16, 17, 13, 18, 19, 20, 21, 22, 23, 24, 25, 26, 118, 119, 120] (by decide +kernel) (by decide +kernel)
set_option maxRecDepth 20000 in
theorem gX7_no_X6_isAttributeSet : GoodIn wsX7_no (wsV RX7 57 RX6 yX6_isAttributeSet wsX6_isAttributeSet) := goodIn_app (goodIn_of _ (by decide +kernel)) ggX7_no_X6_isAttributeSet
set_option maxRecDepth 20000 in
theorem ggX7_no_X6_closureOf : GoodIn wsX7_no wsX6_closureOf := goodIn_r _ [30, 31, 32, 15, 16, 17, 13, 18, 19, 20, 21, 22, 23, 24, 25, 26, 118, 119, 120] (by decide +kernel) (by decide +kernel)
set_option maxRecDepth 20000 in
theorem gX7_no_X6_closureOf : GoodIn wsX7_no (wsV RX7 96 RX6 yX6_closureOf wsX6_closureOf) := goodIn_app (goodIn_of _ (by decide +kernel)) ggX7_no_X6_closureOf
set_option maxRecDepth 20000 in
theorem ggX7_no_X2_isCounterexample : GoodIn wsX7_no wsX2_isCounterexample := goodIn_r _ [36, 9, 37, 38, 25, 22, 26, 39, 40, 41, 42, 43, 44, 45, 46, 47, 115, 116, 117, 121, 122, 123] (by decide +kernel) (by decide +kernel)
set_option maxRecDepth 20000 in
theorem gX7_no_X2_isCounterexample : GoodIn wsX7_no (wsV RX7 176 RX2 yX2_isCounterexample wsX2_isCounterexample) := goodIn_app (goodIn_of _ (by decide +kernel)) ggX7_no_X2_isCounterexample
set_option maxRecDepth 20000 in
theorem ggX7_no_X6_isFull : GoodIn wsX7_no wsX6_isFull := goodIn_r _ [51, 31, 32, 118, 119, 120] (by decide +kernel) (by decide +kernel)
set_option maxRecDepth 20000 in
theorem gX7_no_X6_isFull : GoodIn wsX7_no (wsV RX7 61 RX6 yX6_isFull wsX6_isFull) := goodIn_app (goodIn_of _ (by decide +kernel)) ggX7_no_X6_isFull
set_option maxRecDepth 20000 in
theorem ggX7_no_X7_addRow : GoodIn wsX7_no wsX7_addRow := goodIn_r _ [56, 2, 3, 57, 58, 59, 60, 13, 61, 32, 31, 62, 49, 50, 51, 63, 64, 65, 66, 67, 68, 69, 70, 71, 72, 73, 74, 75, 76, 77, 78, 79, 80, 81, 82, 83, 84, 85, 22, 86, 87, 88, 89, 90, 91, 92, 93, 94, 95, 96, 110, 111, 112, 113, 114, 118, 119, 120, 124, 125, 126, 127, 128, 129, 130, 131] (by decide +kernel) (by decide +kernel)
set_option maxRecDepth 20000 in
theorem gX7_no_X7_addRow : GoodIn wsX7_no (wsV RX7 68 RX7 yX7_addRow wsX7_addRow) := goodIn_app (goodIn_of _ (by decide +kernel)) ggX7_no_X7_addRow
set_option maxRecDepth 20000 in
theorem ggX7_no_X2_seek : GoodIn wsX7_no wsX2_seek := goodIn_r _ [100, 9, 37, 101, 102, 103, 66, 104, 105, 106, 76, 77, 78, 79, 80, 81, 82, 83, 84, 85, 22, 86, 39, 40, 41, 42, 43, 44, 45, 46, 47, 25, 26, 107, 108, 109, 115, 116, 117, 124, 125, 126, 127, 128, 121, 122, 123] (by decide +kernel) (by decide +kernel)
set_option maxRecDepth 20000 in
theorem gX7_no_X2_seek : GoodIn wsX7_no (wsV RX7 166 RX2 yX2_seek wsX2_seek) := goodIn_app (goodIn_of _ (by decide +kernel)) ggX7_no_X2_seek
theorem dX7_no_0 : decode cX7_no 0 = .ok (.aload_n 0, 1) := by decide +kernel
theorem dX7_no_1 : decode cX7_no 1 = .ok (.getfield 26, 3) := by decide +kernel
theorem dX7_no_4 : decode cX7_no 4 = .ok (.invokevirtual 170, 3) := by decide +kernel
theorem dX7_no_7 : decode cX7_no 7 = .ok (.istore_n 2, 1) := by decide +kernel
theorem dX7_no_8 : decode cX7_no 8 = .ok (.iload_n 2, 1) := by decide +kernel
theorem dX7_no_9 : decode cX7_no 9 = .ok (.iconst (-1), 1) := by decide +kernel
theorem dX7_no_10 : decode cX7_no 10 = .ok (.if_icmp .eq 14, 3) := by decide +kernel
theorem dX7_no_13 : decode cX7_no 13 = .ok (.aload_n 0, 1) := by decide +kernel
theorem dX7_no_14 : decode cX7_no 14 = .ok (.getfield 12, 3) := by decide +kernel
theorem dX7_no_17 : decode cX7_no 17 = .ok (.iload_n 1, 1) := by decide +kernel
theorem dX7_no_18 : decode cX7_no 18 = .ok (.invokevirtual 57, 3) := by decide +kernel
theorem dX7_no_21 : decode cX7_no 21 = .ok (.ifCond .ne 6, 3) := by decide +kernel
theorem dX7_no_24 : decode cX7_no 24 = .ok (.bipush (-2), 2) := by decide +kernel
theorem dX7_no_26 : decode cX7_no 26 = .ok (.ireturn, 1) := by decide +kernel
theorem dX7_no_27 : decode cX7_no 27 = .ok (.aload_n 0, 1) := by decide +kernel
theorem dX7_no_28 : decode cX7_no 28 = .ok (.getfield 26, 3) := by decide +kernel
theorem dX7_no_31 : decode cX7_no 31 = .ok (.iload_n 1, 1) := by decide +kernel
theorem dX7_no_32 : decode cX7_no 32 = .ok (.aload_n 0, 1) := by decide +kernel
theorem dX7_no_33 : decode cX7_no 33 = .ok (.getfield 12, 3) := by decide +kernel
theorem dX7_no_36 : decode cX7_no 36 = .ok (.iload_n 2, 1) := by decide +kernel
theorem dX7_no_37 : decode cX7_no 37 = .ok (.invokevirtual 96, 3) := by decide +kernel
theorem dX7_no_40 : decode cX7_no 40 = .ok (.invokevirtual 176, 3) := by decide +kernel
theorem dX7_no_43 : decode cX7_no 43 = .ok (.ifCond .ne 6, 3) := by decide +kernel
theorem dX7_no_46 : decode cX7_no 46 = .ok (.bipush (-4), 2) := by decide +kernel
theorem dX7_no_48 : decode cX7_no 48 = .ok (.ireturn, 1) := by decide +kernel
theorem dX7_no_49 : decode cX7_no 49 = .ok (.aload_n 0, 1) := by decide +kernel
theorem dX7_no_50 : decode cX7_no 50 = .ok (.getfield 12, 3) := by decide +kernel
theorem dX7_no_53 : decode cX7_no 53 = .ok (.invokevirtual 61, 3) := by decide +kernel
theorem dX7_no_56 : decode cX7_no 56 = .ok (.ifCond .eq 6, 3) := by decide +kernel
theorem dX7_no_59 : decode cX7_no 59 = .ok (.bipush (-3), 2) := by decide +kernel
theorem dX7_no_61 : decode cX7_no 61 = .ok (.ireturn, 1) := by decide +kernel
theorem dX7_no_62 : decode cX7_no 62 = .ok (.aload_n 0, 1) := by decide +kernel
theorem dX7_no_63 : decode cX7_no 63 = .ok (.iload_n 1, 1) := by decide +kernel
theorem dX7_no_64 : decode cX7_no 64 = .ok (.invokevirtual 68, 3) := by decide +kernel
theorem dX7_no_67 : decode cX7_no 67 = .ok (.istore_n 3, 1) := by decide +kernel
theorem dX7_no_68 : decode cX7_no 68 = .ok (.aload_n 0, 1) := by decide +kernel
theorem dX7_no_69 : decode cX7_no 69 = .ok (.getfield 26, 3) := by decide +kernel
theorem dX7_no_72 : decode cX7_no 72 = .ok (.aload_n 0, 1) := by decide +kernel
theorem dX7_no_73 : decode cX7_no 73 = .ok (.getfield 33, 3) := by decide +kernel
theorem dX7_no_76 : decode cX7_no 76 = .ok (.invokevirtual 166, 3) := by decide +kernel
theorem dX7_no_79 : decode cX7_no 79 = .ok (.pop, 1) := by decide +kernel
theorem dX7_no_80 : decode cX7_no 80 = .ok (.iload_n 3, 1) := by decide +kernel
theorem dX7_no_81 : decode cX7_no 81 = .ok (.ireturn, 1) := by decide +kernel
set_option maxRecDepth 20000 in
theorem ggX7_accepted_X2_agreed : GoodIn wsX7_accepted wsX2_agreed := goodIn_r _ [6, 7, 25, 26, 27] (by decide +kernel) (by decide +kernel)
set_option maxRecDepth 20000 in
theorem gX7_accepted_X2_agreed : GoodIn wsX7_accepted (wsV RX7 179 RX2 yX2_agreed wsX2_agreed) := goodIn_app (goodIn_of _ (by decide +kernel)) ggX7_accepted_X2_agreed
set_option maxRecDepth 20000 in
theorem ggX7_accepted_X4_premise : GoodIn wsX7_accepted wsX4_premise := goodIn_r _ [12, 13, 14, 28, 29, 30] (by decide +kernel) (by decide +kernel)
set_option maxRecDepth 20000 in
theorem gX7_accepted_X4_premise : GoodIn wsX7_accepted (wsV RX7 129 RX4 yX4_premise wsX4_premise) := goodIn_app (goodIn_of _ (by decide +kernel)) ggX7_accepted_X4_premise
set_option maxRecDepth 20000 in
theorem ggX7_accepted_X4_conclusion : GoodIn wsX7_accepted wsX4_conclusion := goodIn_r _ [18, 13, 19, 28, 29, 30] (by decide +kernel) (by decide +kernel)
set_option maxRecDepth 20000 in
theorem gX7_accepted_X4_conclusion : GoodIn wsX7_accepted (wsV RX7 137 RX4 yX4_conclusion wsX4_conclusion) := goodIn_app (goodIn_of _ (by decide +kernel)) ggX7_accepted_X4_conclusion
theorem dX7_accepted_0 : decode cX7_accepted 0 = .ok (.iload_n 2, 1) := by decide +kernel
theorem dX7_accepted_1 : decode cX7_accepted 1 = .ok (.ifCond .lt 8, 3) := by decide +kernel
theorem dX7_accepted_4 : decode cX7_accepted 4 = .ok (.iload_n 2, 1) := by decide +kernel
theorem dX7_accepted_5 : decode cX7_accepted 5 = .ok (.iconst 1, 1) := by decide +kernel
theorem dX7_accepted_6 : decode cX7_accepted 6 = .ok (.if_icmp .le 6, 3) := by decide +kernel
theorem dX7_accepted_9 : decode cX7_accepted 9 = .ok (.bipush (-2), 2) := by decide +kernel
theorem dX7_accepted_11 : decode cX7_accepted 11 = .ok (.ireturn, 1) := by decide +kernel
theorem dX7_accepted_12 : decode cX7_accepted 12 = .ok (.aload_n 0, 1) := by decide +kernel
theorem dX7_accepted_13 : decode cX7_accepted 13 = .ok (.getfield 26, 3) := by decide +kernel
theorem dX7_accepted_16 : decode cX7_accepted 16 = .ok (.invokevirtual 179, 3) := by decide +kernel
theorem dX7_accepted_19 : decode cX7_accepted 19 = .ok (.astore_n 3, 1) := by decide +kernel
theorem dX7_accepted_20 : decode cX7_accepted 20 = .ok (.iload_n 2, 1) := by decide +kernel
theorem dX7_accepted_21 : decode cX7_accepted 21 = .ok (.ifCond .ne 11, 3) := by decide +kernel
theorem dX7_accepted_24 : decode cX7_accepted 24 = .ok (.aload_n 3, 1) := by decide +kernel
theorem dX7_accepted_25 : decode cX7_accepted 25 = .ok (.iload_n 1, 1) := by decide +kernel
theorem dX7_accepted_26 : decode cX7_accepted 26 = .ok (.invokevirtual 129, 3) := by decide +kernel
theorem dX7_accepted_29 : decode cX7_accepted 29 = .ok (.goto 8, 3) := by decide +kernel
theorem dX7_accepted_32 : decode cX7_accepted 32 = .ok (.aload_n 3, 1) := by decide +kernel
theorem dX7_accepted_33 : decode cX7_accepted 33 = .ok (.iload_n 1, 1) := by decide +kernel
theorem dX7_accepted_34 : decode cX7_accepted 34 = .ok (.invokevirtual 137, 3) := by decide +kernel
theorem dX7_accepted_37 : decode cX7_accepted 37 = .ok (.ireturn, 1) := by decide +kernel
set_option maxRecDepth 20000 in
theorem ggX7_count_X6_attributes : GoodIn wsX7_count wsX6_attributes := goodIn_r _ [8, 9, 96, 97, 98] (by decide +kernel) (by decide +kernel)
set_option maxRecDepth 20000 in
theorem gX7_count_X6_attributes : GoodIn wsX7_count (wsV RX7 78 RX6 yX6_attributes wsX6_attributes) := goodIn_app (goodIn_of _ (by decide +kernel)) ggX7_count_X6_attributes
set_option maxRecDepth 20000 in
theorem ggX7_count_X6_size : GoodIn wsX7_count wsX6_size := goodIn_r _ [13, 14, 96, 97, 98] (by decide +kernel) (by decide +kernel)
set_option maxRecDepth 20000 in
theorem gX7_count_X6_size : GoodIn wsX7_count (wsV RX7 49 RX6 yX6_size wsX6_size) := goodIn_app (goodIn_of _ (by decide +kernel)) ggX7_count_X6_size
set_option maxRecDepth 20000 in
theorem ggX7_count_X2_agreed : GoodIn wsX7_count wsX2_agreed := goodIn_r _ [19, 20, 99, 100, 101] (by decide +kernel) (by decide +kernel)
set_option maxRecDepth 20000 in
theorem gX7_count_X2_agreed : GoodIn wsX7_count (wsV RX7 179 RX2 yX2_agreed wsX2_agreed) := goodIn_app (goodIn_of _ (by decide +kernel)) ggX7_count_X2_agreed
set_option maxRecDepth 20000 in
theorem ggX7_count_X4_size : GoodIn wsX7_count wsX4_size := goodIn_r _ [25, 26, 102, 103, 104] (by decide +kernel) (by decide +kernel)
set_option maxRecDepth 20000 in
theorem gX7_count_X4_size : GoodIn wsX7_count (wsV RX7 126 RX4 yX4_size wsX4_size) := goodIn_app (goodIn_of _ (by decide +kernel)) ggX7_count_X4_size
set_option maxRecDepth 20000 in
theorem ggX7_count_X2_isOpen : GoodIn wsX7_count wsX2_isOpen := goodIn_r _ [30, 31, 99, 100, 101] (by decide +kernel) (by decide +kernel)
set_option maxRecDepth 20000 in
theorem gX7_count_X2_isOpen : GoodIn wsX7_count (wsV RX7 182 RX2 yX2_isOpen wsX2_isOpen) := goodIn_app (goodIn_of _ (by decide +kernel)) ggX7_count_X2_isOpen
set_option maxRecDepth 20000 in
theorem ggX7_count_X7_asNumber : GoodIn wsX7_count wsX7_asNumber := goodIn_r _ [35] (by decide +kernel) (by decide +kernel)
set_option maxRecDepth 20000 in
theorem gX7_count_X7_asNumber : GoodIn wsX7_count (va_wsS RX7 150 yX7_asNumber wsX7_asNumber) := goodIn_app (goodIn_of _ (by decide +kernel)) ggX7_count_X7_asNumber
set_option maxRecDepth 20000 in
theorem ggX7_count_X1_arrange : GoodIn wsX7_count wsX1_arrange := goodIn_r _ [40, 41, 42, 43, 44, 45, 46, 39, 47, 48, 49, 50, 51, 52, 53, 54, 55, 56, 57, 58, 59, 60, 61, 62, 63, 64, 65, 66, 67, 68, 69, 70, 71, 72, 73, 11, 12, 7, 13, 14, 74, 75, 76, 77, 78, 79, 80, 81, 82, 105, 106, 107, 108, 109, 96, 97, 98] (by decide +kernel) (by decide +kernel)
set_option maxRecDepth 20000 in
theorem gX7_count_X1_arrange : GoodIn wsX7_count (wsV RX7 103 RX1 yX1_arrange wsX1_arrange) := goodIn_app (goodIn_of _ (by decide +kernel)) ggX7_count_X1_arrange
set_option maxRecDepth 20000 in
theorem ggX7_count_X6_allAttributes : GoodIn wsX7_count wsX6_allAttributes := goodIn_r _ [86, 9, 87, 88, 60, 89, 96, 97, 98] (by decide +kernel) (by decide +kernel)
set_option maxRecDepth 20000 in
theorem gX7_count_X6_allAttributes : GoodIn wsX7_count (wsV RX7 185 RX6 yX6_allAttributes wsX6_allAttributes) := goodIn_app (goodIn_of _ (by decide +kernel)) ggX7_count_X6_allAttributes
set_option maxRecDepth 20000 in
theorem ggX7_count_X1_levelOf : GoodIn wsX7_count wsX1_levelOf := goodIn_r _ [56, 57, 58, 59, 60, 61, 105, 106, 107, 108, 109] (by decide +kernel) (by decide +kernel)
set_option maxRecDepth 20000 in
theorem gX7_count_X1_levelOf : GoodIn wsX7_count (wsV RX7 110 RX1 yX1_levelOf wsX1_levelOf) := goodIn_app (goodIn_of _ (by decide +kernel)) ggX7_count_X1_levelOf
theorem dX7_count_0 : decode cX7_count 0 = .ok (.iload_n 1, 1) := by decide +kernel
theorem dX7_count_1 : decode cX7_count 1 = .ok (.tableswitch 99 0 4 #[35, 43, 51, 62, 73], 35) := by decide +kernel
theorem dX7_count_36 : decode cX7_count 36 = .ok (.aload_n 0, 1) := by decide +kernel
theorem dX7_count_37 : decode cX7_count 37 = .ok (.getfield 12, 3) := by decide +kernel
theorem dX7_count_40 : decode cX7_count 40 = .ok (.invokevirtual 78, 3) := by decide +kernel
theorem dX7_count_43 : decode cX7_count 43 = .ok (.ireturn, 1) := by decide +kernel
theorem dX7_count_44 : decode cX7_count 44 = .ok (.aload_n 0, 1) := by decide +kernel
theorem dX7_count_45 : decode cX7_count 45 = .ok (.getfield 12, 3) := by decide +kernel
theorem dX7_count_48 : decode cX7_count 48 = .ok (.invokevirtual 49, 3) := by decide +kernel
theorem dX7_count_51 : decode cX7_count 51 = .ok (.ireturn, 1) := by decide +kernel
theorem dX7_count_52 : decode cX7_count 52 = .ok (.aload_n 0, 1) := by decide +kernel
theorem dX7_count_53 : decode cX7_count 53 = .ok (.getfield 26, 3) := by decide +kernel
theorem dX7_count_56 : decode cX7_count 56 = .ok (.invokevirtual 179, 3) := by decide +kernel
theorem dX7_count_59 : decode cX7_count 59 = .ok (.invokevirtual 126, 3) := by decide +kernel
theorem dX7_count_62 : decode cX7_count 62 = .ok (.ireturn, 1) := by decide +kernel
theorem dX7_count_63 : decode cX7_count 63 = .ok (.aload_n 0, 1) := by decide +kernel
theorem dX7_count_64 : decode cX7_count 64 = .ok (.getfield 26, 3) := by decide +kernel
theorem dX7_count_67 : decode cX7_count 67 = .ok (.invokevirtual 182, 3) := by decide +kernel
theorem dX7_count_70 : decode cX7_count 70 = .ok (.invokestatic 150, 3) := by decide +kernel
theorem dX7_count_73 : decode cX7_count 73 = .ok (.ireturn, 1) := by decide +kernel
theorem dX7_count_74 : decode cX7_count 74 = .ok (.aload_n 0, 1) := by decide +kernel
theorem dX7_count_75 : decode cX7_count 75 = .ok (.getfield 33, 3) := by decide +kernel
theorem dX7_count_78 : decode cX7_count 78 = .ok (.aload_n 0, 1) := by decide +kernel
theorem dX7_count_79 : decode cX7_count 79 = .ok (.getfield 12, 3) := by decide +kernel
theorem dX7_count_82 : decode cX7_count 82 = .ok (.invokevirtual 103, 3) := by decide +kernel
theorem dX7_count_85 : decode cX7_count 85 = .ok (.aload_n 0, 1) := by decide +kernel
theorem dX7_count_86 : decode cX7_count 86 = .ok (.getfield 33, 3) := by decide +kernel
theorem dX7_count_89 : decode cX7_count 89 = .ok (.aload_n 0, 1) := by decide +kernel
theorem dX7_count_90 : decode cX7_count 90 = .ok (.getfield 12, 3) := by decide +kernel
theorem dX7_count_93 : decode cX7_count 93 = .ok (.invokevirtual 185, 3) := by decide +kernel
theorem dX7_count_96 : decode cX7_count 96 = .ok (.invokevirtual 110, 3) := by decide +kernel
theorem dX7_count_99 : decode cX7_count 99 = .ok (.ireturn, 1) := by decide +kernel
theorem dX7_count_100 : decode cX7_count 100 = .ok (.bipush (-2), 2) := by decide +kernel
theorem dX7_count_102 : decode cX7_count 102 = .ok (.ireturn, 1) := by decide +kernel
set_option maxRecDepth 20000 in
theorem ggX7_addRow_X6_append : GoodIn wsX7_addRow wsX6_append := goodIn_r _ [8, 9, 10, 11, 12, 13, 7, 14, 55, 56, 57] (by decide +kernel) (by decide +kernel)
set_option maxRecDepth 20000 in
theorem gX7_addRow_X6_append : GoodIn wsX7_addRow (wsV RX7 188 RX6 yX6_append wsX6_append) := goodIn_app (goodIn_of _ (by decide +kernel)) ggX7_addRow_X6_append
set_option maxRecDepth 20000 in
theorem ggX7_addRow_X1_meetWith : GoodIn wsX7_addRow wsX1_meetWith := goodIn_r _ [19, 20, 21, 22, 23, 24, 18, 25, 26, 27, 28, 29, 30, 31, 32, 33, 34, 35, 36, 37, 38, 39, 40, 41, 42, 43, 58, 59, 60, 61, 62] (by decide +kernel) (by decide +kernel)
set_option maxRecDepth 20000 in
theorem gX7_addRow_X1_meetWith : GoodIn wsX7_addRow (wsV RX7 84 RX1 yX1_meetWith wsX1_meetWith) := goodIn_app (goodIn_of _ (by decide +kernel)) ggX7_addRow_X1_meetWith
set_option maxRecDepth 20000 in
theorem ggX7_addRow_X0_forget : GoodIn wsX7_addRow wsX0_forget := goodIn_r _ [48, 49, 63, 64, 65] (by decide +kernel) (by decide +kernel)
set_option maxRecDepth 20000 in
theorem gX7_addRow_X0_forget : GoodIn wsX7_addRow (wsV RX7 53 RX0 yX0_forget wsX0_forget) := goodIn_app (goodIn_of _ (by decide +kernel)) ggX7_addRow_X0_forget
theorem dX7_addRow_0 : decode cX7_addRow 0 = .ok (.aload_n 0, 1) := by decide +kernel
theorem dX7_addRow_1 : decode cX7_addRow 1 = .ok (.getfield 12, 3) := by decide +kernel
theorem dX7_addRow_4 : decode cX7_addRow 4 = .ok (.iload_n 1, 1) := by decide +kernel
theorem dX7_addRow_5 : decode cX7_addRow 5 = .ok (.invokevirtual 188, 3) := by decide +kernel
theorem dX7_addRow_8 : decode cX7_addRow 8 = .ok (.istore_n 2, 1) := by decide +kernel
theorem dX7_addRow_9 : decode cX7_addRow 9 = .ok (.aload_n 0, 1) := by decide +kernel
theorem dX7_addRow_10 : decode cX7_addRow 10 = .ok (.getfield 33, 3) := by decide +kernel
theorem dX7_addRow_13 : decode cX7_addRow 13 = .ok (.iload_n 1, 1) := by decide +kernel
theorem dX7_addRow_14 : decode cX7_addRow 14 = .ok (.invokevirtual 84, 3) := by decide +kernel
theorem dX7_addRow_17 : decode cX7_addRow 17 = .ok (.aload_n 0, 1) := by decide +kernel
theorem dX7_addRow_18 : decode cX7_addRow 18 = .ok (.getfield 40, 3) := by decide +kernel
theorem dX7_addRow_21 : decode cX7_addRow 21 = .ok (.invokevirtual 53, 3) := by decide +kernel
theorem dX7_addRow_24 : decode cX7_addRow 24 = .ok (.iload_n 2, 1) := by decide +kernel
theorem dX7_addRow_25 : decode cX7_addRow 25 = .ok (.ireturn, 1) := by decide +kernel
set_option maxRecDepth 20000 in
theorem ggX7_baseRules_X0_build : GoodIn wsX7_baseRules wsX0_build := goodIn_r _ [8, 9, 10, 11, 12, 13, 14, 15, 16, 17, 18, 19, 20, 21, 22, 23, 24, 25, 7, 26, 27, 28, 29, 30, 31, 32, 33, 34, 35, 36, 37, 38, 39, 40, 41, 42, 43, 44, 45, 46, 47, 48, 49, 50, 51, 52, 53, 54, 55, 56, 57, 58, 59, 60, 61, 62, 63, 64, 65, 66, 67, 68, 69, 70, 71, 72, 73, 74, 75, 76, 86, 87, 88, 89, 90, 91, 92, 93, 94, 95, 96, 97, 98, 99] (by decide +kernel) (by decide +kernel)
set_option maxRecDepth 20000 in
theorem gX7_baseRules_X0_build : GoodIn wsX7_baseRules (wsV RX7 191 RX0 yX0_build wsX0_build) := goodIn_app (goodIn_of _ (by decide +kernel)) ggX7_baseRules_X0_build
set_option maxRecDepth 20000 in
theorem ggX7_baseRules_X0_rules : GoodIn wsX7_baseRules wsX0_rules := goodIn_r _ [80, 10, 86, 87, 88] (by decide +kernel) (by decide +kernel)
set_option maxRecDepth 20000 in
theorem gX7_baseRules_X0_rules : GoodIn wsX7_baseRules (wsV RX7 195 RX0 yX0_rules wsX0_rules) := goodIn_app (goodIn_of _ (by decide +kernel)) ggX7_baseRules_X0_rules
theorem dX7_baseRules_0 : decode cX7_baseRules 0 = .ok (.aload_n 0, 1) := by decide +kernel
theorem dX7_baseRules_1 : decode cX7_baseRules 1 = .ok (.getfield 40, 3) := by decide +kernel
theorem dX7_baseRules_4 : decode cX7_baseRules 4 = .ok (.aload_n 0, 1) := by decide +kernel
theorem dX7_baseRules_5 : decode cX7_baseRules 5 = .ok (.getfield 12, 3) := by decide +kernel
theorem dX7_baseRules_8 : decode cX7_baseRules 8 = .ok (.aload_n 0, 1) := by decide +kernel
theorem dX7_baseRules_9 : decode cX7_baseRules 9 = .ok (.getfield 33, 3) := by decide +kernel
theorem dX7_baseRules_12 : decode cX7_baseRules 12 = .ok (.invokevirtual 191, 3) := by decide +kernel
theorem dX7_baseRules_15 : decode cX7_baseRules 15 = .ok (.aload_n 0, 1) := by decide +kernel
theorem dX7_baseRules_16 : decode cX7_baseRules 16 = .ok (.getfield 40, 3) := by decide +kernel
theorem dX7_baseRules_19 : decode cX7_baseRules 19 = .ok (.invokevirtual 195, 3) := by decide +kernel
theorem dX7_baseRules_22 : decode cX7_baseRules 22 = .ok (.areturn, 1) := by decide +kernel
