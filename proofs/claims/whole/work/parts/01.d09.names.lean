theorem dX8_findQuestion_13 : decode cX8_findQuestion 13 = .ok (.ishl, 1) := by decide +kernel
theorem dX8_findQuestion_14 : decode cX8_findQuestion 14 = .ok (.if_icmp .ge 48, 3) := by decide +kernel
theorem dX8_findQuestion_17 : decode cX8_findQuestion 17 = .ok (.aload_n 0, 1) := by decide +kernel
theorem dX8_findQuestion_18 : decode cX8_findQuestion 18 = .ok (.getfield 36, 3) := by decide +kernel
theorem dX8_findQuestion_21 : decode cX8_findQuestion 21 = .ok (.ifCond .ge 41, 3) := by decide +kernel
theorem dX8_findQuestion_24 : decode cX8_findQuestion 24 = .ok (.aload_n 0, 1) := by decide +kernel
theorem dX8_findQuestion_25 : decode cX8_findQuestion 25 = .ok (.iload_n 1, 1) := by decide +kernel
theorem dX8_findQuestion_26 : decode cX8_findQuestion 26 = .ok (.invokevirtual 90, 3) := by decide +kernel
theorem dX8_findQuestion_29 : decode cX8_findQuestion 29 = .ok (.istore_n 2, 1) := by decide +kernel
theorem dX8_findQuestion_30 : decode cX8_findQuestion 30 = .ok (.aload_n 0, 1) := by decide +kernel
theorem dX8_findQuestion_31 : decode cX8_findQuestion 31 = .ok (.aload_n 0, 1) := by decide +kernel
theorem dX8_findQuestion_32 : decode cX8_findQuestion 32 = .ok (.iload_n 2, 1) := by decide +kernel
theorem dX8_findQuestion_33 : decode cX8_findQuestion 33 = .ok (.invokevirtual 87, 3) := by decide +kernel
theorem dX8_findQuestion_36 : decode cX8_findQuestion 36 = .ok (.iload_n 2, 1) := by decide +kernel
theorem dX8_findQuestion_37 : decode cX8_findQuestion 37 = .ok (.if_icmp .eq 15, 3) := by decide +kernel
theorem dX8_findQuestion_40 : decode cX8_findQuestion 40 = .ok (.aload_n 0, 1) := by decide +kernel
theorem dX8_findQuestion_41 : decode cX8_findQuestion 41 = .ok (.iload_n 2, 1) := by decide +kernel
theorem dX8_findQuestion_42 : decode cX8_findQuestion 42 = .ok (.invokevirtual 123, 3) := by decide +kernel
theorem dX8_findQuestion_45 : decode cX8_findQuestion 45 = .ok (.ifCond .eq 7, 3) := by decide +kernel
theorem dX8_findQuestion_48 : decode cX8_findQuestion 48 = .ok (.iload_n 2, 1) := by decide +kernel
theorem dX8_findQuestion_49 : decode cX8_findQuestion 49 = .ok (.goto 4, 3) := by decide +kernel
theorem dX8_findQuestion_52 : decode cX8_findQuestion 52 = .ok (.iconst (-1), 1) := by decide +kernel
theorem dX8_findQuestion_53 : decode cX8_findQuestion 53 = .ok (.putfield 36, 3) := by decide +kernel
theorem dX8_findQuestion_56 : decode cX8_findQuestion 56 = .ok (.iinc 1 1, 3) := by decide +kernel
theorem dX8_findQuestion_59 : decode cX8_findQuestion 59 = .ok (.goto (-52), 3) := by decide +kernel
theorem dX8_findQuestion_62 : decode cX8_findQuestion 62 = .ok (.return_, 1) := by decide +kernel
set_option maxRecDepth 20000 in
theorem ggX8_ask_X8_findQuestion : GoodIn wsX8_ask wsX8_findQuestion := goodIn_r _ [8, 3, 9, 10, 11, 12, 7, 13, 14, 15, 16, 17, 18, 19, 20, 21, 22, 23, 24, 25, 26, 27, 28, 29, 30, 31, 32, 33, 34, 35, 36, 37, 38, 2, 39, 40, 41, 42, 43, 44, 45, 46, 47, 48, 49, 50, 51, 52, 53, 54, 55, 56, 57, 58] (by decide +kernel) (by decide +kernel)
set_option maxRecDepth 20000 in
theorem gX8_ask_X8_findQuestion : GoodIn wsX8_ask (wsV RX8 126 RX8 yX8_findQuestion wsX8_findQuestion) := goodIn_app (goodIn_of _ (by decide +kernel)) ggX8_ask_X8_findQuestion
theorem dX8_ask_0 : decode cX8_ask 0 = .ok (.aload_n 0, 1) := by decide +kernel
theorem dX8_ask_1 : decode cX8_ask 1 = .ok (.iconst 1, 1) := by decide +kernel
theorem dX8_ask_2 : decode cX8_ask 2 = .ok (.putfield 60, 3) := by decide +kernel
theorem dX8_ask_5 : decode cX8_ask 5 = .ok (.aload_n 0, 1) := by decide +kernel
theorem dX8_ask_6 : decode cX8_ask 6 = .ok (.iconst 0, 1) := by decide +kernel
theorem dX8_ask_7 : decode cX8_ask 7 = .ok (.putfield 70, 3) := by decide +kernel
theorem dX8_ask_10 : decode cX8_ask 10 = .ok (.aload_n 0, 1) := by decide +kernel
theorem dX8_ask_11 : decode cX8_ask 11 = .ok (.invokevirtual 126, 3) := by decide +kernel
theorem dX8_ask_14 : decode cX8_ask 14 = .ok (.aload_n 0, 1) := by decide +kernel
theorem dX8_ask_15 : decode cX8_ask 15 = .ok (.getfield 36, 3) := by decide +kernel
theorem dX8_ask_18 : decode cX8_ask 18 = .ok (.ireturn, 1) := by decide +kernel
theorem dX8_question_0 : decode cX8_question 0 = .ok (.aload_n 0, 1) := by decide +kernel
theorem dX8_question_1 : decode cX8_question 1 = .ok (.getfield 60, 3) := by decide +kernel
theorem dX8_question_4 : decode cX8_question 4 = .ok (.ifCond .eq 10, 3) := by decide +kernel
theorem dX8_question_7 : decode cX8_question 7 = .ok (.aload_n 0, 1) := by decide +kernel
theorem dX8_question_8 : decode cX8_question 8 = .ok (.getfield 36, 3) := by decide +kernel
theorem dX8_question_11 : decode cX8_question 11 = .ok (.goto 4, 3) := by decide +kernel
theorem dX8_question_14 : decode cX8_question 14 = .ok (.iconst (-1), 1) := by decide +kernel
theorem dX8_question_15 : decode cX8_question 15 = .ok (.ireturn, 1) := by decide +kernel
set_option maxRecDepth 20000 in
theorem ggX8_yes_X8_closureOf : GoodIn wsX8_yes wsX8_closureOf := goodIn_r _ [10, 11, 12, 13, 9, 14, 15, 16, 17, 18, 19, 20, 21, 22, 23, 24, 25, 26, 27, 28, 41, 42, 43, 44, 45, 46, 47, 48, 49, 50, 51, 52, 53, 54, 55, 56, 57, 58] (by decide +kernel) (by decide +kernel)
set_option maxRecDepth 20000 in
theorem gX8_yes_X8_closureOf : GoodIn wsX8_yes (wsV RX8 87 RX8 yX8_closureOf wsX8_closureOf) := goodIn_app (goodIn_of _ (by decide +kernel)) ggX8_yes_X8_closureOf
set_option maxRecDepth 20000 in
theorem ggX8_yes_X8_findQuestion : GoodIn wsX8_yes wsX8_findQuestion := goodIn_r _ [32, 2, 28, 33, 34, 35, 9, 36, 6, 7, 8, 10, 11, 12, 13, 14, 15, 16, 17, 18, 19, 20, 21, 22, 23, 24, 25, 26, 27, 37, 38, 39, 40, 4, 3, 5, 41, 42, 43, 44, 45, 46, 47, 48, 49, 50, 51, 52, 53, 54, 55, 56, 57, 58] (by decide +kernel) (by decide +kernel)
set_option maxRecDepth 20000 in
theorem gX8_yes_X8_findQuestion : GoodIn wsX8_yes (wsV RX8 126 RX8 yX8_findQuestion wsX8_findQuestion) := goodIn_app (goodIn_of _ (by decide +kernel)) ggX8_yes_X8_findQuestion
theorem dX8_yes_0 : decode cX8_yes 0 = .ok (.aload_n 0, 1) := by decide +kernel
theorem dX8_yes_1 : decode cX8_yes 1 = .ok (.getfield 60, 3) := by decide +kernel
theorem dX8_yes_4 : decode cX8_yes 4 = .ok (.ifCond .eq 10, 3) := by decide +kernel
theorem dX8_yes_7 : decode cX8_yes 7 = .ok (.aload_n 0, 1) := by decide +kernel
theorem dX8_yes_8 : decode cX8_yes 8 = .ok (.getfield 36, 3) := by decide +kernel
theorem dX8_yes_11 : decode cX8_yes 11 = .ok (.ifCond .ge 6, 3) := by decide +kernel
theorem dX8_yes_14 : decode cX8_yes 14 = .ok (.bipush (-2), 2) := by decide +kernel
theorem dX8_yes_16 : decode cX8_yes 16 = .ok (.ireturn, 1) := by decide +kernel
theorem dX8_yes_17 : decode cX8_yes 17 = .ok (.aload_n 0, 1) := by decide +kernel
theorem dX8_yes_18 : decode cX8_yes 18 = .ok (.getfield 39, 3) := by decide +kernel
theorem dX8_yes_21 : decode cX8_yes 21 = .ok (.aload_n 0, 1) := by decide +kernel
theorem dX8_yes_22 : decode cX8_yes 22 = .ok (.getfield 70, 3) := by decide +kernel
theorem dX8_yes_25 : decode cX8_yes 25 = .ok (.aload_n 0, 1) := by decide +kernel
theorem dX8_yes_26 : decode cX8_yes 26 = .ok (.getfield 36, 3) := by decide +kernel
theorem dX8_yes_29 : decode cX8_yes 29 = .ok (.iastore, 1) := by decide +kernel
theorem dX8_yes_30 : decode cX8_yes 30 = .ok (.aload_n 0, 1) := by decide +kernel
theorem dX8_yes_31 : decode cX8_yes 31 = .ok (.getfield 42, 3) := by decide +kernel
theorem dX8_yes_34 : decode cX8_yes 34 = .ok (.aload_n 0, 1) := by decide +kernel
theorem dX8_yes_35 : decode cX8_yes 35 = .ok (.getfield 70, 3) := by decide +kernel
theorem dX8_yes_38 : decode cX8_yes 38 = .ok (.aload_n 0, 1) := by decide +kernel
theorem dX8_yes_39 : decode cX8_yes 39 = .ok (.aload_n 0, 1) := by decide +kernel
theorem dX8_yes_40 : decode cX8_yes 40 = .ok (.getfield 36, 3) := by decide +kernel
theorem dX8_yes_43 : decode cX8_yes 43 = .ok (.invokevirtual 87, 3) := by decide +kernel
theorem dX8_yes_46 : decode cX8_yes 46 = .ok (.iastore, 1) := by decide +kernel
theorem dX8_yes_47 : decode cX8_yes 47 = .ok (.aload_n 0, 1) := by decide +kernel
theorem dX8_yes_48 : decode cX8_yes 48 = .ok (.dup, 1) := by decide +kernel
theorem dX8_yes_49 : decode cX8_yes 49 = .ok (.getfield 70, 3) := by decide +kernel
theorem dX8_yes_52 : decode cX8_yes 52 = .ok (.iconst 1, 1) := by decide +kernel
theorem dX8_yes_53 : decode cX8_yes 53 = .ok (.iadd, 1) := by decide +kernel
theorem dX8_yes_54 : decode cX8_yes 54 = .ok (.putfield 70, 3) := by decide +kernel
theorem dX8_yes_57 : decode cX8_yes 57 = .ok (.aload_n 0, 1) := by decide +kernel
theorem dX8_yes_58 : decode cX8_yes 58 = .ok (.invokevirtual 126, 3) := by decide +kernel
theorem dX8_yes_61 : decode cX8_yes 61 = .ok (.aload_n 0, 1) := by decide +kernel
theorem dX8_yes_62 : decode cX8_yes 62 = .ok (.getfield 36, 3) := by decide +kernel
theorem dX8_yes_65 : decode cX8_yes 65 = .ok (.ireturn, 1) := by decide +kernel
set_option maxRecDepth 20000 in
theorem ggX8_no_X8_isSet : GoodIn wsX8_no wsX8_isSet := goodIn_r _ [10, 11, 12, 13, 9, 14, 15, 16, 17, 18, 46, 47, 48, 49, 50, 51, 52, 53, 54, 55, 56, 57, 58, 59, 60, 61, 62, 63] (by decide +kernel) (by decide +kernel)
set_option maxRecDepth 20000 in
theorem gX8_no_X8_isSet : GoodIn wsX8_no (wsV RX8 76 RX8 yX8_isSet wsX8_isSet) := goodIn_app (goodIn_of _ (by decide +kernel)) ggX8_no_X8_isSet
set_option maxRecDepth 20000 in
theorem ggX8_no_X8_isPart : GoodIn wsX8_no wsX8_isPart := goodIn_r _ [18] (by decide +kernel) (by decide +kernel)
set_option maxRecDepth 20000 in
theorem gX8_no_X8_isPart : GoodIn wsX8_no (va_wsS RX8 52 yX8_isPart wsX8_isPart) := goodIn_app (goodIn_of _ (by decide +kernel)) ggX8_no_X8_isPart
set_option maxRecDepth 20000 in
theorem ggX8_no_X8_closureOf : GoodIn wsX8_no wsX8_closureOf := goodIn_r _ [22, 23, 24, 25, 9, 26, 3, 4, 16, 17, 18, 27, 28, 29, 30, 11, 12, 13, 14, 15, 46, 47, 48, 49, 50, 51, 52, 53, 54, 55, 56, 57, 58, 59, 60, 61, 62, 63] (by decide +kernel) (by decide +kernel)
set_option maxRecDepth 20000 in
theorem gX8_no_X8_closureOf : GoodIn wsX8_no (wsV RX8 87 RX8 yX8_closureOf wsX8_closureOf) := goodIn_app (goodIn_of _ (by decide +kernel)) ggX8_no_X8_closureOf
set_option maxRecDepth 20000 in
theorem ggX8_no_X8_keepsAll : GoodIn wsX8_no wsX8_keepsAll := goodIn_r _ [34, 35, 36, 37, 16, 17, 9, 18, 46, 47, 48, 49, 50, 51, 52, 53, 54, 55, 56, 57, 58, 59, 60, 61, 62, 63] (by decide +kernel) (by decide +kernel)
set_option maxRecDepth 20000 in
theorem gX8_no_X8_keepsAll : GoodIn wsX8_no (wsV RX8 123 RX8 yX8_keepsAll wsX8_keepsAll) := goodIn_app (goodIn_of _ (by decide +kernel)) ggX8_no_X8_keepsAll
set_option maxRecDepth 20000 in
theorem ggX8_no_X8_findQuestion : GoodIn wsX8_no wsX8_findQuestion := goodIn_r _ [41, 2, 15, 42, 43, 44, 9, 45, 19, 20, 21, 22, 23, 24, 25, 26, 3, 4, 16, 17, 18, 27, 28, 29, 30, 11, 12, 13, 14, 31, 32, 33, 34, 35, 36, 37, 46, 47, 48, 49, 50, 51, 52, 53, 54, 55, 56, 57, 58, 59, 60, 61, 62, 63] (by decide +kernel) (by decide +kernel)
set_option maxRecDepth 20000 in
theorem gX8_no_X8_findQuestion : GoodIn wsX8_no (wsV RX8 126 RX8 yX8_findQuestion wsX8_findQuestion) := goodIn_app (goodIn_of _ (by decide +kernel)) ggX8_no_X8_findQuestion
theorem dX8_no_0 : decode cX8_no 0 = .ok (.aload_n 0, 1) := by decide +kernel
theorem dX8_no_1 : decode cX8_no 1 = .ok (.getfield 60, 3) := by decide +kernel
theorem dX8_no_4 : decode cX8_no 4 = .ok (.ifCond .eq 18, 3) := by decide +kernel
theorem dX8_no_7 : decode cX8_no 7 = .ok (.aload_n 0, 1) := by decide +kernel
theorem dX8_no_8 : decode cX8_no 8 = .ok (.getfield 36, 3) := by decide +kernel
theorem dX8_no_11 : decode cX8_no 11 = .ok (.ifCond .lt 11, 3) := by decide +kernel
theorem dX8_no_14 : decode cX8_no 14 = .ok (.aload_n 0, 1) := by decide +kernel
theorem dX8_no_15 : decode cX8_no 15 = .ok (.iload_n 1, 1) := by decide +kernel
theorem dX8_no_16 : decode cX8_no 16 = .ok (.invokevirtual 76, 3) := by decide +kernel
theorem dX8_no_19 : decode cX8_no 19 = .ok (.ifCond .ne 6, 3) := by decide +kernel
theorem dX8_no_22 : decode cX8_no 22 = .ok (.bipush (-2), 2) := by decide +kernel
theorem dX8_no_24 : decode cX8_no 24 = .ok (.ireturn, 1) := by decide +kernel
theorem dX8_no_25 : decode cX8_no 25 = .ok (.aload_n 0, 1) := by decide +kernel
theorem dX8_no_26 : decode cX8_no 26 = .ok (.getfield 36, 3) := by decide +kernel
theorem dX8_no_29 : decode cX8_no 29 = .ok (.iload_n 1, 1) := by decide +kernel
theorem dX8_no_30 : decode cX8_no 30 = .ok (.invokestatic 52, 3) := by decide +kernel
theorem dX8_no_33 : decode cX8_no 33 = .ok (.ifCond .eq 26, 3) := by decide +kernel
theorem dX8_no_36 : decode cX8_no 36 = .ok (.aload_n 0, 1) := by decide +kernel
theorem dX8_no_37 : decode cX8_no 37 = .ok (.aload_n 0, 1) := by decide +kernel
theorem dX8_no_38 : decode cX8_no 38 = .ok (.getfield 36, 3) := by decide +kernel
theorem dX8_no_41 : decode cX8_no 41 = .ok (.invokevirtual 87, 3) := by decide +kernel
theorem dX8_no_44 : decode cX8_no 44 = .ok (.iload_n 1, 1) := by decide +kernel
theorem dX8_no_45 : decode cX8_no 45 = .ok (.invokestatic 52, 3) := by decide +kernel
theorem dX8_no_48 : decode cX8_no 48 = .ok (.ifCond .ne 11, 3) := by decide +kernel
theorem dX8_no_51 : decode cX8_no 51 = .ok (.aload_n 0, 1) := by decide +kernel
theorem dX8_no_52 : decode cX8_no 52 = .ok (.iload_n 1, 1) := by decide +kernel
theorem dX8_no_53 : decode cX8_no 53 = .ok (.invokevirtual 123, 3) := by decide +kernel
theorem dX8_no_56 : decode cX8_no 56 = .ok (.ifCond .ne 6, 3) := by decide +kernel
theorem dX8_no_59 : decode cX8_no 59 = .ok (.bipush (-4), 2) := by decide +kernel
theorem dX8_no_61 : decode cX8_no 61 = .ok (.ireturn, 1) := by decide +kernel
theorem dX8_no_62 : decode cX8_no 62 = .ok (.aload_n 0, 1) := by decide +kernel
theorem dX8_no_63 : decode cX8_no 63 = .ok (.getfield 67, 3) := by decide +kernel
theorem dX8_no_66 : decode cX8_no 66 = .ok (.bipush 20, 2) := by decide +kernel
theorem dX8_no_68 : decode cX8_no 68 = .ok (.if_icmp .ne 6, 3) := by decide +kernel
theorem dX8_no_71 : decode cX8_no 71 = .ok (.bipush (-3), 2) := by decide +kernel
theorem dX8_no_73 : decode cX8_no 73 = .ok (.ireturn, 1) := by decide +kernel
theorem dX8_no_74 : decode cX8_no 74 = .ok (.aload_n 0, 1) := by decide +kernel
theorem dX8_no_75 : decode cX8_no 75 = .ok (.getfield 13, 3) := by decide +kernel
theorem dX8_no_78 : decode cX8_no 78 = .ok (.aload_n 0, 1) := by decide +kernel
theorem dX8_no_79 : decode cX8_no 79 = .ok (.getfield 67, 3) := by decide +kernel
theorem dX8_no_82 : decode cX8_no 82 = .ok (.iload_n 1, 1) := by decide +kernel
theorem dX8_no_83 : decode cX8_no 83 = .ok (.iastore, 1) := by decide +kernel
theorem dX8_no_84 : decode cX8_no 84 = .ok (.aload_n 0, 1) := by decide +kernel
theorem dX8_no_85 : decode cX8_no 85 = .ok (.dup, 1) := by decide +kernel
theorem dX8_no_86 : decode cX8_no 86 = .ok (.getfield 67, 3) := by decide +kernel
theorem dX8_no_89 : decode cX8_no 89 = .ok (.iconst 1, 1) := by decide +kernel
theorem dX8_no_90 : decode cX8_no 90 = .ok (.iadd, 1) := by decide +kernel
theorem dX8_no_91 : decode cX8_no 91 = .ok (.putfield 67, 3) := by decide +kernel
theorem dX8_no_94 : decode cX8_no 94 = .ok (.aload_n 0, 1) := by decide +kernel
theorem dX8_no_95 : decode cX8_no 95 = .ok (.iconst 0, 1) := by decide +kernel
theorem dX8_no_96 : decode cX8_no 96 = .ok (.putfield 56, 3) := by decide +kernel
theorem dX8_no_99 : decode cX8_no 99 = .ok (.aload_n 0, 1) := by decide +kernel
theorem dX8_no_100 : decode cX8_no 100 = .ok (.invokevirtual 126, 3) := by decide +kernel
theorem dX8_no_103 : decode cX8_no 103 = .ok (.aload_n 0, 1) := by decide +kernel
theorem dX8_no_104 : decode cX8_no 104 = .ok (.getfield 67, 3) := by decide +kernel
theorem dX8_no_107 : decode cX8_no 107 = .ok (.iconst 1, 1) := by decide +kernel
theorem dX8_no_108 : decode cX8_no 108 = .ok (.isub, 1) := by decide +kernel
theorem dX8_no_109 : decode cX8_no 109 = .ok (.ireturn, 1) := by decide +kernel
set_option maxRecDepth 20000 in
theorem ggX8_accepted_X8_in : GoodIn wsX8_accepted wsX8_in := goodIn_r _ [7] (by decide +kernel) (by decide +kernel)
set_option maxRecDepth 20000 in
theorem gX8_accepted_X8_in : GoodIn wsX8_accepted (va_wsS RX8 63 yX8_in wsX8_in) := goodIn_app (goodIn_of _ (by decide +kernel)) ggX8_accepted_X8_in
theorem dX8_accepted_0 : decode cX8_accepted 0 = .ok (.iload_n 2, 1) := by decide +kernel
theorem dX8_accepted_1 : decode cX8_accepted 1 = .ok (.iconst 0, 1) := by decide +kernel
theorem dX8_accepted_2 : decode cX8_accepted 2 = .ok (.iconst 1, 1) := by decide +kernel
theorem dX8_accepted_3 : decode cX8_accepted 3 = .ok (.invokestatic 63, 3) := by decide +kernel
theorem dX8_accepted_6 : decode cX8_accepted 6 = .ok (.ifCond .ne 6, 3) := by decide +kernel
theorem dX8_accepted_9 : decode cX8_accepted 9 = .ok (.bipush (-2), 2) := by decide +kernel
theorem dX8_accepted_11 : decode cX8_accepted 11 = .ok (.ireturn, 1) := by decide +kernel
theorem dX8_accepted_12 : decode cX8_accepted 12 = .ok (.iload_n 1, 1) := by decide +kernel
theorem dX8_accepted_13 : decode cX8_accepted 13 = .ok (.iconst 0, 1) := by decide +kernel
theorem dX8_accepted_14 : decode cX8_accepted 14 = .ok (.aload_n 0, 1) := by decide +kernel
theorem dX8_accepted_15 : decode cX8_accepted 15 = .ok (.getfield 70, 3) := by decide +kernel
theorem dX8_accepted_18 : decode cX8_accepted 18 = .ok (.iconst 1, 1) := by decide +kernel
theorem dX8_accepted_19 : decode cX8_accepted 19 = .ok (.isub, 1) := by decide +kernel
theorem dX8_accepted_20 : decode cX8_accepted 20 = .ok (.invokestatic 63, 3) := by decide +kernel
theorem dX8_accepted_23 : decode cX8_accepted 23 = .ok (.ifCond .ne 7, 3) := by decide +kernel
theorem dX8_accepted_26 : decode cX8_accepted 26 = .ok (.iconst (-1), 1) := by decide +kernel
theorem dX8_accepted_27 : decode cX8_accepted 27 = .ok (.goto 22, 3) := by decide +kernel
theorem dX8_accepted_30 : decode cX8_accepted 30 = .ok (.iload_n 2, 1) := by decide +kernel
theorem dX8_accepted_31 : decode cX8_accepted 31 = .ok (.ifCond .ne 12, 3) := by decide +kernel
theorem dX8_accepted_34 : decode cX8_accepted 34 = .ok (.aload_n 0, 1) := by decide +kernel
theorem dX8_accepted_35 : decode cX8_accepted 35 = .ok (.getfield 39, 3) := by decide +kernel
theorem dX8_accepted_38 : decode cX8_accepted 38 = .ok (.iload_n 1, 1) := by decide +kernel
theorem dX8_accepted_39 : decode cX8_accepted 39 = .ok (.iaload, 1) := by decide +kernel
theorem dX8_accepted_40 : decode cX8_accepted 40 = .ok (.goto 9, 3) := by decide +kernel
theorem dX8_accepted_43 : decode cX8_accepted 43 = .ok (.aload_n 0, 1) := by decide +kernel
theorem dX8_accepted_44 : decode cX8_accepted 44 = .ok (.getfield 42, 3) := by decide +kernel
theorem dX8_accepted_47 : decode cX8_accepted 47 = .ok (.iload_n 1, 1) := by decide +kernel
theorem dX8_accepted_48 : decode cX8_accepted 48 = .ok (.iaload, 1) := by decide +kernel
theorem dX8_accepted_49 : decode cX8_accepted 49 = .ok (.ireturn, 1) := by decide +kernel
set_option maxRecDepth 20000 in
theorem ggX8_count_X8_know : GoodIn wsX8_count wsX8_know := goodIn_r _ [11, 12, 5, 13, 1, 14, 15, 16, 17, 18, 19, 10, 20, 21, 22, 23, 24, 25, 26, 27, 28, 2, 29, 30, 31, 32, 33, 34, 35, 36, 37, 38, 39, 40, 41, 42, 43, 44, 6, 45, 46, 47, 48, 49, 50, 51, 52, 53, 54, 55, 56, 57, 58, 59, 60, 61, 62, 63, 64, 65, 66, 67, 68, 69, 70, 71, 72, 73, 74, 75, 76] (by decide +kernel) (by decide +kernel)
set_option maxRecDepth 20000 in
theorem gX8_count_X8_know : GoodIn wsX8_count (wsV RX8 114 RX8 yX8_know wsX8_know) := goodIn_app (goodIn_of _ (by decide +kernel)) ggX8_count_X8_know
theorem dX8_count_0 : decode cX8_count 0 = .ok (.iload_n 1, 1) := by decide +kernel
theorem dX8_count_1 : decode cX8_count 1 = .ok (.tableswitch 108 0 4 #[35, 40, 45, 50, 63], 35) := by decide +kernel
theorem dX8_count_36 : decode cX8_count 36 = .ok (.aload_n 0, 1) := by decide +kernel
theorem dX8_count_37 : decode cX8_count 37 = .ok (.getfield 7, 3) := by decide +kernel
theorem dX8_count_40 : decode cX8_count 40 = .ok (.ireturn, 1) := by decide +kernel
theorem dX8_count_41 : decode cX8_count 41 = .ok (.aload_n 0, 1) := by decide +kernel
theorem dX8_count_42 : decode cX8_count 42 = .ok (.getfield 67, 3) := by decide +kernel
theorem dX8_count_45 : decode cX8_count 45 = .ok (.ireturn, 1) := by decide +kernel
theorem dX8_count_46 : decode cX8_count 46 = .ok (.aload_n 0, 1) := by decide +kernel
theorem dX8_count_47 : decode cX8_count 47 = .ok (.getfield 70, 3) := by decide +kernel
theorem dX8_count_50 : decode cX8_count 50 = .ok (.ireturn, 1) := by decide +kernel
theorem dX8_count_51 : decode cX8_count 51 = .ok (.aload_n 0, 1) := by decide +kernel
theorem dX8_count_52 : decode cX8_count 52 = .ok (.getfield 60, 3) := by decide +kernel
theorem dX8_count_55 : decode cX8_count 55 = .ok (.ifCond .eq 7, 3) := by decide +kernel
theorem dX8_count_58 : decode cX8_count 58 = .ok (.iconst 1, 1) := by decide +kernel
theorem dX8_count_59 : decode cX8_count 59 = .ok (.goto 4, 3) := by decide +kernel
theorem dX8_count_62 : decode cX8_count 62 = .ok (.iconst 0, 1) := by decide +kernel
theorem dX8_count_63 : decode cX8_count 63 = .ok (.ireturn, 1) := by decide +kernel
theorem dX8_count_64 : decode cX8_count 64 = .ok (.aload_n 0, 1) := by decide +kernel
theorem dX8_count_65 : decode cX8_count 65 = .ok (.invokevirtual 114, 3) := by decide +kernel
theorem dX8_count_68 : decode cX8_count 68 = .ok (.iconst 0, 1) := by decide +kernel
theorem dX8_count_69 : decode cX8_count 69 = .ok (.istore_n 2, 1) := by decide +kernel
theorem dX8_count_70 : decode cX8_count 70 = .ok (.iconst 0, 1) := by decide +kernel
theorem dX8_count_71 : decode cX8_count 71 = .ok (.istore_n 3, 1) := by decide +kernel
theorem dX8_count_72 : decode cX8_count 72 = .ok (.iload_n 3, 1) := by decide +kernel
theorem dX8_count_73 : decode cX8_count 73 = .ok (.aload_n 0, 1) := by decide +kernel
theorem dX8_count_74 : decode cX8_count 74 = .ok (.getfield 96, 3) := by decide +kernel
theorem dX8_count_77 : decode cX8_count 77 = .ok (.if_icmp .ge 30, 3) := by decide +kernel
theorem dX8_count_80 : decode cX8_count 80 = .ok (.aload_n 0, 1) := by decide +kernel
theorem dX8_count_81 : decode cX8_count 81 = .ok (.getfield 27, 3) := by decide +kernel
theorem dX8_count_84 : decode cX8_count 84 = .ok (.iload_n 3, 1) := by decide +kernel
theorem dX8_count_85 : decode cX8_count 85 = .ok (.iaload, 1) := by decide +kernel
theorem dX8_count_86 : decode cX8_count 86 = .ok (.iload_n 2, 1) := by decide +kernel
theorem dX8_count_87 : decode cX8_count 87 = .ok (.if_icmp .le 12, 3) := by decide +kernel
theorem dX8_count_90 : decode cX8_count 90 = .ok (.aload_n 0, 1) := by decide +kernel
theorem dX8_count_91 : decode cX8_count 91 = .ok (.getfield 27, 3) := by decide +kernel
theorem dX8_count_94 : decode cX8_count 94 = .ok (.iload_n 3, 1) := by decide +kernel
theorem dX8_count_95 : decode cX8_count 95 = .ok (.iaload, 1) := by decide +kernel
theorem dX8_count_96 : decode cX8_count 96 = .ok (.goto 4, 3) := by decide +kernel
theorem dX8_count_99 : decode cX8_count 99 = .ok (.iload_n 2, 1) := by decide +kernel
theorem dX8_count_100 : decode cX8_count 100 = .ok (.istore_n 2, 1) := by decide +kernel
theorem dX8_count_101 : decode cX8_count 101 = .ok (.iinc 3 1, 3) := by decide +kernel
theorem dX8_count_104 : decode cX8_count 104 = .ok (.goto (-32), 3) := by decide +kernel
theorem dX8_count_107 : decode cX8_count 107 = .ok (.iload_n 2, 1) := by decide +kernel
theorem dX8_count_108 : decode cX8_count 108 = .ok (.ireturn, 1) := by decide +kernel
theorem dX8_count_109 : decode cX8_count 109 = .ok (.bipush (-2), 2) := by decide +kernel
theorem dX8_count_111 : decode cX8_count 111 = .ok (.ireturn, 1) := by decide +kernel
theorem dJ6_bitCount_0f7a4_0 : decode cJ6_bitCount_0f7a4 0 = .ok (.iload_n 0, 1) := by decide +kernel
theorem dJ6_bitCount_0f7a4_1 : decode cJ6_bitCount_0f7a4 1 = .ok (.iload_n 0, 1) := by decide +kernel
theorem dJ6_bitCount_0f7a4_2 : decode cJ6_bitCount_0f7a4 2 = .ok (.iconst 1, 1) := by decide +kernel
theorem dJ6_bitCount_0f7a4_3 : decode cJ6_bitCount_0f7a4 3 = .ok (.iushr, 1) := by decide +kernel
theorem dJ6_bitCount_0f7a4_4 : decode cJ6_bitCount_0f7a4 4 = .ok (.ldc_w 265, 3) := by decide +kernel
theorem dJ6_bitCount_0f7a4_7 : decode cJ6_bitCount_0f7a4 7 = .ok (.iand, 1) := by decide +kernel
theorem dJ6_bitCount_0f7a4_8 : decode cJ6_bitCount_0f7a4 8 = .ok (.isub, 1) := by decide +kernel
theorem dJ6_bitCount_0f7a4_9 : decode cJ6_bitCount_0f7a4 9 = .ok (.istore_n 0, 1) := by decide +kernel
theorem dJ6_bitCount_0f7a4_10 : decode cJ6_bitCount_0f7a4 10 = .ok (.iload_n 0, 1) := by decide +kernel
theorem dJ6_bitCount_0f7a4_11 : decode cJ6_bitCount_0f7a4 11 = .ok (.ldc_w 266, 3) := by decide +kernel
theorem dJ6_bitCount_0f7a4_14 : decode cJ6_bitCount_0f7a4 14 = .ok (.iand, 1) := by decide +kernel
theorem dJ6_bitCount_0f7a4_15 : decode cJ6_bitCount_0f7a4 15 = .ok (.iload_n 0, 1) := by decide +kernel
theorem dJ6_bitCount_0f7a4_16 : decode cJ6_bitCount_0f7a4 16 = .ok (.iconst 2, 1) := by decide +kernel
theorem dJ6_bitCount_0f7a4_17 : decode cJ6_bitCount_0f7a4 17 = .ok (.iushr, 1) := by decide +kernel
theorem dJ6_bitCount_0f7a4_18 : decode cJ6_bitCount_0f7a4 18 = .ok (.ldc_w 266, 3) := by decide +kernel
theorem dJ6_bitCount_0f7a4_21 : decode cJ6_bitCount_0f7a4 21 = .ok (.iand, 1) := by decide +kernel
theorem dJ6_bitCount_0f7a4_22 : decode cJ6_bitCount_0f7a4 22 = .ok (.iadd, 1) := by decide +kernel
theorem dJ6_bitCount_0f7a4_23 : decode cJ6_bitCount_0f7a4 23 = .ok (.istore_n 0, 1) := by decide +kernel
theorem dJ6_bitCount_0f7a4_24 : decode cJ6_bitCount_0f7a4 24 = .ok (.iload_n 0, 1) := by decide +kernel
theorem dJ6_bitCount_0f7a4_25 : decode cJ6_bitCount_0f7a4 25 = .ok (.iload_n 0, 1) := by decide +kernel
theorem dJ6_bitCount_0f7a4_26 : decode cJ6_bitCount_0f7a4 26 = .ok (.iconst 4, 1) := by decide +kernel
theorem dJ6_bitCount_0f7a4_27 : decode cJ6_bitCount_0f7a4 27 = .ok (.iushr, 1) := by decide +kernel
theorem dJ6_bitCount_0f7a4_28 : decode cJ6_bitCount_0f7a4 28 = .ok (.iadd, 1) := by decide +kernel
theorem dJ6_bitCount_0f7a4_29 : decode cJ6_bitCount_0f7a4 29 = .ok (.ldc_w 267, 3) := by decide +kernel
theorem dJ6_bitCount_0f7a4_32 : decode cJ6_bitCount_0f7a4 32 = .ok (.iand, 1) := by decide +kernel
theorem dJ6_bitCount_0f7a4_33 : decode cJ6_bitCount_0f7a4 33 = .ok (.istore_n 0, 1) := by decide +kernel
theorem dJ6_bitCount_0f7a4_34 : decode cJ6_bitCount_0f7a4 34 = .ok (.iload_n 0, 1) := by decide +kernel
theorem dJ6_bitCount_0f7a4_35 : decode cJ6_bitCount_0f7a4 35 = .ok (.iload_n 0, 1) := by decide +kernel
theorem dJ6_bitCount_0f7a4_36 : decode cJ6_bitCount_0f7a4 36 = .ok (.bipush 8, 2) := by decide +kernel
theorem dJ6_bitCount_0f7a4_38 : decode cJ6_bitCount_0f7a4 38 = .ok (.iushr, 1) := by decide +kernel
theorem dJ6_bitCount_0f7a4_39 : decode cJ6_bitCount_0f7a4 39 = .ok (.iadd, 1) := by decide +kernel
theorem dJ6_bitCount_0f7a4_40 : decode cJ6_bitCount_0f7a4 40 = .ok (.istore_n 0, 1) := by decide +kernel
theorem dJ6_bitCount_0f7a4_41 : decode cJ6_bitCount_0f7a4 41 = .ok (.iload_n 0, 1) := by decide +kernel
theorem dJ6_bitCount_0f7a4_42 : decode cJ6_bitCount_0f7a4 42 = .ok (.iload_n 0, 1) := by decide +kernel
theorem dJ6_bitCount_0f7a4_43 : decode cJ6_bitCount_0f7a4 43 = .ok (.bipush 16, 2) := by decide +kernel
theorem dJ6_bitCount_0f7a4_45 : decode cJ6_bitCount_0f7a4 45 = .ok (.iushr, 1) := by decide +kernel
theorem dJ6_bitCount_0f7a4_46 : decode cJ6_bitCount_0f7a4 46 = .ok (.iadd, 1) := by decide +kernel
theorem dJ6_bitCount_0f7a4_47 : decode cJ6_bitCount_0f7a4 47 = .ok (.istore_n 0, 1) := by decide +kernel
theorem dJ6_bitCount_0f7a4_48 : decode cJ6_bitCount_0f7a4 48 = .ok (.iload_n 0, 1) := by decide +kernel
theorem dJ6_bitCount_0f7a4_49 : decode cJ6_bitCount_0f7a4 49 = .ok (.bipush 63, 2) := by decide +kernel
theorem dJ6_bitCount_0f7a4_51 : decode cJ6_bitCount_0f7a4 51 = .ok (.iand, 1) := by decide +kernel
theorem dJ6_bitCount_0f7a4_52 : decode cJ6_bitCount_0f7a4 52 = .ok (.ireturn, 1) := by decide +kernel
theorem dJ9_max_7cf53_0 : decode cJ9_max_7cf53 0 = .ok (.iload_n 0, 1) := by decide +kernel
theorem dJ9_max_7cf53_1 : decode cJ9_max_7cf53 1 = .ok (.iload_n 1, 1) := by decide +kernel
theorem dJ9_max_7cf53_2 : decode cJ9_max_7cf53 2 = .ok (.if_icmp .lt 7, 3) := by decide +kernel
theorem dJ9_max_7cf53_5 : decode cJ9_max_7cf53 5 = .ok (.iload_n 0, 1) := by decide +kernel
theorem dJ9_max_7cf53_6 : decode cJ9_max_7cf53 6 = .ok (.goto 4, 3) := by decide +kernel
theorem dJ9_max_7cf53_9 : decode cJ9_max_7cf53 9 = .ok (.iload_n 1, 1) := by decide +kernel
theorem dJ9_max_7cf53_10 : decode cJ9_max_7cf53 10 = .ok (.ireturn, 1) := by decide +kernel
theorem dJ9_min_7cf53_0 : decode cJ9_min_7cf53 0 = .ok (.iload_n 0, 1) := by decide +kernel
theorem dJ9_min_7cf53_1 : decode cJ9_min_7cf53 1 = .ok (.iload_n 1, 1) := by decide +kernel
theorem dJ9_min_7cf53_2 : decode cJ9_min_7cf53 2 = .ok (.if_icmp .gt 7, 3) := by decide +kernel
theorem dJ9_min_7cf53_5 : decode cJ9_min_7cf53 5 = .ok (.iload_n 0, 1) := by decide +kernel
theorem dJ9_min_7cf53_6 : decode cJ9_min_7cf53 6 = .ok (.goto 4, 3) := by decide +kernel
theorem dJ9_min_7cf53_9 : decode cJ9_min_7cf53 9 = .ok (.iload_n 1, 1) := by decide +kernel
theorem dJ9_min_7cf53_10 : decode cJ9_min_7cf53 10 = .ok (.ireturn, 1) := by decide +kernel
set_option maxRecDepth 20000 in
theorem ggL_law_X7_init : GoodIn wsL_law wsX7_init := goodIn_r _ [8, 9, 10, 11, 12, 13, 14, 15, 16, 17, 18, 19, 20, 21, 22, 23, 24, 25, 26, 27, 28, 29, 30, 31, 32, 33, 34, 35, 36, 37, 38, 39, 40, 41, 42, 43, 44, 45, 46, 47, 48, 49, 50, 51, 52, 53, 54, 55, 56, 57, 58, 59, 60, 61, 62, 63, 64, 65, 66, 67, 68, 69, 70, 71, 72, 73, 74, 75, 76, 77, 78, 79, 80, 81, 82, 83, 84, 85, 86, 87, 88, 89, 90, 91, 92, 93, 94, 95, 96, 97, 98, 99, 100, 101, 102, 103, 104, 105, 106, 690, 691, 692, 667, 668, 669, 670, 671, 693, 694, 695, 696, 697, 698, 699, 700, 701, 702, 703, 704, 705, 706, 707, 708] (by decide +kernel) (by decide +kernel)
set_option maxRecDepth 20000 in
theorem gL_law_X7_init : GoodIn wsL_law (wsX7_init) := ggL_law_X7_init
set_option maxRecDepth 20000 in
theorem ggL_law_X8_init : GoodIn wsL_law wsX8_init := goodIn_r _ [109, 110, 10, 11, 111, 35, 112, 113, 114, 115, 116, 117, 118, 119, 120, 121, 122, 123, 672, 673, 674, 675, 676, 677, 678, 679, 680, 681, 682, 683, 684, 685, 686, 687, 688, 689] (by decide +kernel) (by decide +kernel)
set_option maxRecDepth 20000 in
theorem gL_law_X8_init : GoodIn wsL_law (wsX8_init) := ggL_law_X8_init
set_option maxRecDepth 20000 in
theorem ggL_law_X7_begin : GoodIn wsL_law wsX7_begin := goodIn_r _ [127, 15, 27, 31, 23, 128, 129, 130, 14, 131, 76, 71, 72, 73, 74, 75, 77, 78, 79, 26, 80, 81, 82, 83, 84, 85, 86, 63, 87, 88, 89, 90, 91, 92, 93, 94, 95, 96, 97, 62, 98, 99, 100, 101, 102, 103, 104, 105, 106, 132, 133, 134, 30, 135, 136, 137, 138, 139, 22, 140, 47, 141, 142, 143, 46, 144, 145, 146, 147, 148, 149, 150, 48, 667, 668, 669, 670, 671, 690, 691, 692, 698, 699, 700, 701, 702, 703, 704, 705, 695, 696, 697, 706, 707, 708] (by decide +kernel) (by decide +kernel)
set_option maxRecDepth 20000 in
theorem gL_law_X7_begin : GoodIn wsL_law (wsV RL 13 RX7 yX7_begin wsX7_begin) := goodIn_app (goodIn_of _ (by decide +kernel)) ggL_law_X7_begin
set_option maxRecDepth 20000 in
theorem ggL_law_X8_begin : GoodIn wsL_law wsX8_begin := goodIn_r _ [154, 155, 111, 156, 157, 158, 5, 159, 160, 161, 162, 163, 164, 165, 120, 672, 673, 674, 675, 676, 677, 678, 679, 680, 681, 682, 683, 684, 685, 686, 687, 688, 689] (by decide +kernel) (by decide +kernel)
set_option maxRecDepth 20000 in
theorem gL_law_X8_begin : GoodIn wsL_law (wsV RL 17 RX8 yX8_begin wsX8_begin) := goodIn_app (goodIn_of _ (by decide +kernel)) ggL_law_X8_begin
set_option maxRecDepth 20000 in
theorem ggL_law_X7_object : GoodIn wsL_law wsX7_object := goodIn_r _ [169, 15, 23, 170, 171, 172, 14, 173, 174, 175, 176, 177, 75, 178, 92, 89, 93, 179, 180, 181, 182, 183, 184, 185, 76, 36, 186, 147, 148, 22, 149, 150, 48, 187, 188, 189, 2, 190, 27, 31, 191, 192, 193, 194, 195, 196, 197, 198, 26, 199, 82, 62, 94, 95, 96, 97, 98, 99, 100, 101, 102, 103, 104, 105, 106, 63, 87, 88, 90, 83, 84, 85, 86, 132, 133, 134, 30, 135, 136, 667, 668, 669, 670, 671, 690, 691, 692, 695, 696, 697, 698, 699, 700, 701, 702, 703, 704, 705] (by decide +kernel) (by decide +kernel)
set_option maxRecDepth 20000 in
theorem gL_law_X7_object : GoodIn wsL_law (wsV RL 18 RX7 yX7_object wsX7_object) := goodIn_app (goodIn_of _ (by decide +kernel)) ggL_law_X7_object
set_option maxRecDepth 20000 in
theorem ggL_law_X8_object : GoodIn wsL_law wsX8_object := goodIn_r _ [203, 155, 112, 204, 205, 206, 5, 207, 208, 209, 210, 211, 111, 212, 213, 214, 160, 161, 162, 163, 164, 165, 120, 672, 673, 674, 675, 676, 677, 678, 679, 680, 681, 682, 683, 684, 685, 686, 687, 688, 689] (by decide +kernel) (by decide +kernel)
set_option maxRecDepth 20000 in
theorem gL_law_X8_object : GoodIn wsL_law (wsV RL 21 RX8 yX8_object wsX8_object) := goodIn_app (goodIn_of _ (by decide +kernel)) ggL_law_X8_object
set_option maxRecDepth 20000 in
theorem ggL_law_X7_remove : GoodIn wsL_law wsX7_remove := goodIn_r _ [218, 15, 23, 27, 31, 219, 220, 221, 14, 222, 76, 186, 147, 148, 22, 149, 150, 48, 223, 224, 225, 226, 36, 227, 228, 229, 230, 231, 75, 77, 78, 79, 26, 80, 81, 82, 83, 84, 85, 86, 63, 87, 88, 89, 90, 91, 92, 93, 94, 95, 96, 97, 62, 98, 99, 100, 101, 102, 103, 104, 105, 106, 128, 129, 130, 131, 232, 233, 234, 235, 196, 197, 198, 199, 132, 133, 134, 30, 135, 136, 667, 668, 669, 670, 671, 690, 691, 692, 695, 696, 697, 698, 699, 700, 701, 702, 703, 704, 705] (by decide +kernel) (by decide +kernel)
set_option maxRecDepth 20000 in
theorem gL_law_X7_remove : GoodIn wsL_law (wsV RL 22 RX7 yX7_remove wsX7_remove) := goodIn_app (goodIn_of _ (by decide +kernel)) ggL_law_X7_remove
set_option maxRecDepth 20000 in
theorem ggL_law_X8_remove : GoodIn wsL_law wsX8_remove := goodIn_r _ [239, 155, 112, 157, 158, 5, 159, 160, 161, 162, 163, 164, 165, 120, 672, 673, 674, 675, 676, 677, 678, 679, 680, 681, 682, 683, 684, 685, 686, 687, 688, 689] (by decide +kernel) (by decide +kernel)
set_option maxRecDepth 20000 in
theorem gL_law_X8_remove : GoodIn wsL_law (wsV RL 25 RX8 yX8_remove wsX8_remove) := goodIn_app (goodIn_of _ (by decide +kernel)) ggL_law_X8_remove
set_option maxRecDepth 20000 in
theorem ggL_law_X7_common : GoodIn wsL_law wsX7_common := goodIn_r _ [243, 15, 244, 245, 246, 14, 247, 76, 178, 92, 89, 93, 179, 180, 181, 248, 249, 250, 251, 36, 174, 175, 176, 177, 75, 667, 668, 669, 670, 671, 690, 691, 692] (by decide +kernel) (by decide +kernel)
set_option maxRecDepth 20000 in
theorem gL_law_X7_common : GoodIn wsL_law (wsV RL 26 RX7 yX7_common wsX7_common) := goodIn_app (goodIn_of _ (by decide +kernel)) ggL_law_X7_common
set_option maxRecDepth 20000 in
theorem ggL_law_X8_common : GoodIn wsL_law wsX8_common := goodIn_r _ [255, 155, 212, 213, 5, 214, 256, 257, 258, 259, 112, 208, 209, 210, 211, 111, 672, 673, 674, 675, 676, 677, 678, 679, 680, 681, 682, 683, 684, 685, 686, 687, 688, 689] (by decide +kernel) (by decide +kernel)
set_option maxRecDepth 20000 in
theorem gL_law_X8_common : GoodIn wsL_law (wsV RL 29 RX8 yX8_common wsX8_common) := goodIn_app (goodIn_of _ (by decide +kernel)) ggL_law_X8_common
set_option maxRecDepth 20000 in
theorem ggL_law_X7_extent : GoodIn wsL_law wsX7_extent := goodIn_r _ [263, 15, 170, 171, 172, 14, 173, 174, 175, 176, 177, 75, 178, 92, 89, 93, 179, 180, 181, 264, 265, 266, 267, 76, 36, 667, 668, 669, 670, 671, 690, 691, 692] (by decide +kernel) (by decide +kernel)
set_option maxRecDepth 20000 in
theorem gL_law_X7_extent : GoodIn wsL_law (wsV RL 30 RX7 yX7_extent wsX7_extent) := goodIn_app (goodIn_of _ (by decide +kernel)) ggL_law_X7_extent
set_option maxRecDepth 20000 in
theorem ggL_law_X8_extent : GoodIn wsL_law wsX8_extent := goodIn_r _ [271, 204, 205, 206, 5, 207, 208, 209, 210, 211, 111, 212, 213, 214, 272, 273, 274, 275, 155, 112, 672, 673, 674, 675, 676, 677, 678, 679, 680, 681, 682, 683, 684, 685, 686, 687, 688, 689] (by decide +kernel) (by decide +kernel)
set_option maxRecDepth 20000 in
theorem gL_law_X8_extent : GoodIn wsL_law (wsV RL 33 RX8 yX8_extent wsX8_extent) := goodIn_app (goodIn_of _ (by decide +kernel)) ggL_law_X8_extent
set_option maxRecDepth 20000 in
theorem ggL_law_X7_closure : GoodIn wsL_law wsX7_closure := goodIn_r _ [279, 15, 170, 171, 172, 14, 173, 174, 175, 176, 177, 75, 178, 92, 89, 93, 179, 180, 181, 280, 281, 282, 283, 76, 36, 667, 668, 669, 670, 671, 690, 691, 692] (by decide +kernel) (by decide +kernel)
set_option maxRecDepth 20000 in
theorem gL_law_X7_closure : GoodIn wsL_law (wsV RL 34 RX7 yX7_closure wsX7_closure) := goodIn_app (goodIn_of _ (by decide +kernel)) ggL_law_X7_closure
set_option maxRecDepth 20000 in
theorem ggL_law_X8_closure : GoodIn wsL_law wsX8_closure := goodIn_r _ [287, 204, 205, 206, 5, 207, 208, 209, 210, 211, 111, 212, 213, 214, 288, 289, 290, 291, 272, 273, 274, 275, 155, 112, 256, 257, 258, 259, 672, 673, 674, 675, 676, 677, 678, 679, 680, 681, 682, 683, 684, 685, 686, 687, 688, 689] (by decide +kernel) (by decide +kernel)
set_option maxRecDepth 20000 in
theorem gL_law_X8_closure : GoodIn wsL_law (wsV RL 37 RX8 yX8_closure wsX8_closure) := goodIn_app (goodIn_of _ (by decide +kernel)) ggL_law_X8_closure
set_option maxRecDepth 20000 in
theorem ggL_law_X7_next : GoodIn wsL_law wsX7_next := goodIn_r _ [295, 15, 170, 171, 172, 14, 173, 174, 175, 176, 177, 75, 178, 92, 89, 93, 179, 180, 181, 296, 297, 298, 299, 300, 281, 282, 283, 76, 36, 667, 668, 669, 670, 671, 690, 691, 692] (by decide +kernel) (by decide +kernel)
set_option maxRecDepth 20000 in
theorem gL_law_X7_next : GoodIn wsL_law (wsV RL 38 RX7 yX7_next wsX7_next) := goodIn_app (goodIn_of _ (by decide +kernel)) ggL_law_X7_next
set_option maxRecDepth 20000 in
theorem ggL_law_X8_next : GoodIn wsL_law wsX8_next := goodIn_r _ [304, 111, 204, 205, 206, 5, 207, 208, 209, 210, 211, 212, 213, 214, 305, 306, 307, 308, 309, 310, 311, 288, 289, 290, 291, 272, 273, 274, 275, 155, 112, 256, 257, 258, 259, 672, 673, 674, 675, 676, 677, 678, 679, 680, 681, 682, 683, 684, 685, 686, 687, 688, 689] (by decide +kernel) (by decide +kernel)
set_option maxRecDepth 20000 in
theorem gL_law_X8_next : GoodIn wsL_law (wsV RL 41 RX8 yX8_next wsX8_next) := goodIn_app (goodIn_of _ (by decide +kernel)) ggL_law_X8_next
set_option maxRecDepth 20000 in
theorem ggL_law_X7_concepts : GoodIn wsL_law wsX7_concepts := goodIn_r _ [315, 27, 316, 317, 318, 26, 319, 82, 667, 668, 669, 670, 671, 698, 699, 700, 701, 702] (by decide +kernel) (by decide +kernel)
set_option maxRecDepth 20000 in
theorem gL_law_X7_concepts : GoodIn wsL_law (wsV RL 42 RX7 yX7_concepts wsX7_concepts) := goodIn_app (goodIn_of _ (by decide +kernel)) ggL_law_X7_concepts
set_option maxRecDepth 20000 in
theorem ggL_law_X8_concepts : GoodIn wsL_law wsX8_concepts := goodIn_r _ [323, 324, 325, 326, 327, 5, 328, 164, 329, 111, 113, 115, 116, 305, 306, 307, 308, 288, 289, 290, 291, 272, 273, 274, 275, 155, 112, 212, 213, 214, 256, 257, 258, 259, 208, 209, 210, 211, 330, 331, 332, 333, 117, 334, 335, 336, 337, 338, 339, 340, 123, 118, 119, 341, 342, 343, 344, 672, 673, 674, 675, 676, 677, 678, 679, 680, 681, 682, 683, 684, 685, 686, 687, 688, 689] (by decide +kernel) (by decide +kernel)
set_option maxRecDepth 20000 in
theorem gL_law_X8_concepts : GoodIn wsL_law (wsV RL 46 RX8 yX8_concepts wsX8_concepts) := goodIn_app (goodIn_of _ (by decide +kernel)) ggL_law_X8_concepts
set_option maxRecDepth 20000 in
theorem ggL_law_X7_concept : GoodIn wsL_law wsX7_concept := goodIn_r _ [348, 27, 15, 19, 316, 317, 318, 26, 319, 82, 349, 350, 351, 352, 98, 62, 353, 354, 355, 356, 81, 99, 100, 101, 102, 103, 104, 105, 106, 63, 87, 88, 89, 90, 357, 358, 359, 360, 361, 362, 363, 364, 54, 55, 56, 365, 129, 130, 14, 131, 76, 366, 233, 234, 235, 36, 83, 84, 85, 86, 367, 368, 369, 370, 264, 265, 266, 267, 179, 180, 181, 371, 372, 373, 374, 18, 375, 376, 377, 378, 379, 380, 381, 382, 383, 384, 385, 386, 40, 387, 388, 389, 390, 391, 392, 393, 394, 395, 396, 397, 398, 399, 400, 401, 402, 403, 404, 405, 406, 407, 175, 176, 177, 75, 178, 92, 93, 408, 229, 230, 231, 409, 281, 282, 283, 174, 410, 411, 412, 413, 667, 668, 669, 670, 671, 698, 699, 700, 701, 702, 690, 691, 692, 693, 694] (by decide +kernel) (by decide +kernel)
set_option maxRecDepth 20000 in
theorem gL_law_X7_concept : GoodIn wsL_law (wsV RL 47 RX7 yX7_concept wsX7_concept) := goodIn_app (goodIn_of _ (by decide +kernel)) ggL_law_X7_concept
set_option maxRecDepth 20000 in
theorem ggL_law_X8_concept : GoodIn wsL_law wsX8_concept := goodIn_r _ [417, 324, 116, 117, 325, 326, 327, 5, 328, 164, 329, 111, 113, 115, 305, 306, 307, 308, 288, 289, 290, 291, 272, 273, 274, 275, 155, 112, 212, 213, 214, 256, 257, 258, 259, 208, 209, 210, 211, 330, 331, 332, 333, 334, 335, 336, 337, 338, 339, 340, 123, 118, 119, 341, 342, 343, 344, 157, 158, 159, 418, 419, 420, 421, 672, 673, 674, 675, 676, 677, 678, 679, 680, 681, 682, 683, 684, 685, 686, 687, 688, 689] (by decide +kernel) (by decide +kernel)
set_option maxRecDepth 20000 in
theorem gL_law_X8_concept : GoodIn wsL_law (wsV RL 51 RX8 yX8_concept wsX8_concept) := goodIn_app (goodIn_of _ (by decide +kernel)) ggL_law_X8_concept
set_option maxRecDepth 20000 in
theorem ggL_law_X7_base : GoodIn wsL_law wsX7_base := goodIn_r _ [425, 426, 427, 428, 2, 429, 31, 15, 27, 430, 431, 432, 30, 433, 136, 68, 434, 142, 143, 46, 144, 145, 435, 229, 230, 14, 231, 75, 436, 437, 438, 439, 440, 441, 442, 443, 69, 444, 88, 89, 90, 445, 100, 101, 26, 102, 103, 104, 105, 106, 63, 87, 446, 180, 181, 447, 281, 282, 283, 76, 36, 174, 175, 176, 177, 178, 92, 93, 179, 448, 449, 450, 451, 57, 58, 452, 453, 454, 455, 456, 358, 359, 457, 458, 459, 460, 461, 462, 463, 464, 667, 668, 669, 670, 671, 703, 704, 705, 706, 707, 708, 690, 691, 692, 698, 699, 700, 701, 702] (by decide +kernel) (by decide +kernel)
set_option maxRecDepth 20000 in
theorem gL_law_X7_base : GoodIn wsL_law (wsV RL 52 RX7 yX7_base wsX7_base) := goodIn_app (goodIn_of _ (by decide +kernel)) ggL_law_X7_base
set_option maxRecDepth 20000 in
theorem ggL_law_X8_base : GoodIn wsL_law wsX8_base := goodIn_r _ [468, 329, 325, 326, 327, 5, 328, 164, 324, 111, 113, 115, 116, 305, 306, 307, 308, 288, 289, 290, 291, 272, 273, 274, 275, 155, 112, 212, 213, 214, 256, 257, 258, 259, 208, 209, 210, 211, 330, 331, 332, 333, 117, 334, 335, 336, 337, 338, 339, 340, 123, 118, 119, 341, 342, 343, 344, 672, 673, 674, 675, 676, 677, 678, 679, 680, 681, 682, 683, 684, 685, 686, 687, 688, 689] (by decide +kernel) (by decide +kernel)
set_option maxRecDepth 20000 in
theorem gL_law_X8_base : GoodIn wsL_law (wsV RL 55 RX8 yX8_base wsX8_base) := goodIn_app (goodIn_of _ (by decide +kernel)) ggL_law_X8_base
set_option maxRecDepth 20000 in
theorem ggL_law_X7_rule : GoodIn wsL_law wsX7_rule := goodIn_r _ [472, 15, 426, 427, 428, 2, 429, 31, 27, 430, 431, 432, 30, 433, 136, 68, 434, 142, 143, 46, 144, 145, 435, 229, 230, 14, 231, 75, 436, 437, 438, 439, 440, 441, 442, 443, 69, 444, 88, 89, 90, 445, 100, 101, 26, 102, 103, 104, 105, 106, 63, 87, 446, 180, 181, 447, 281, 282, 283, 76, 36, 174, 175, 176, 177, 178, 92, 93, 179, 448, 449, 450, 451, 57, 58, 452, 453, 454, 455, 456, 358, 359, 457, 458, 459, 460, 473, 474, 475, 476, 264, 265, 266, 267, 477, 478, 479, 480, 481, 482, 483, 484, 485, 486, 487, 667, 668, 669, 670, 671, 703, 704, 705, 706, 707, 708, 690, 691, 692, 698, 699, 700, 701, 702] (by decide +kernel) (by decide +kernel)
set_option maxRecDepth 20000 in
theorem gL_law_X7_rule : GoodIn wsL_law (wsV RL 56 RX7 yX7_rule wsX7_rule) := goodIn_app (goodIn_of _ (by decide +kernel)) ggL_law_X7_rule
set_option maxRecDepth 20000 in
theorem ggL_law_X8_rule : GoodIn wsL_law wsX8_rule := goodIn_r _ [491, 329, 118, 119, 157, 158, 5, 159, 325, 326, 327, 328, 164, 324, 111, 113, 115, 116, 305, 306, 307, 308, 288, 289, 290, 291, 272, 273, 274, 275, 155, 112, 212, 213, 214, 256, 257, 258, 259, 208, 209, 210, 211, 330, 331, 332, 333, 117, 334, 335, 336, 337, 338, 339, 340, 123, 341, 342, 343, 344, 492, 493, 494, 672, 673, 674, 675, 676, 677, 678, 679, 680, 681, 682, 683, 684, 685, 686, 687, 688, 689] (by decide +kernel) (by decide +kernel)
set_option maxRecDepth 20000 in
theorem gL_law_X8_rule : GoodIn wsL_law (wsV RL 59 RX8 yX8_rule wsX8_rule) := goodIn_app (goodIn_of _ (by decide +kernel)) ggL_law_X8_rule
set_option maxRecDepth 20000 in
theorem ggL_law_X7_follows : GoodIn wsL_law wsX7_follows := goodIn_r _ [498, 15, 170, 171, 172, 14, 173, 174, 175, 176, 177, 75, 178, 92, 89, 93, 179, 180, 181, 426, 427, 428, 2, 429, 31, 27, 430, 431, 432, 30, 433, 136, 68, 434, 142, 143, 46, 144, 145, 435, 229, 230, 231, 436, 437, 438, 439, 440, 441, 442, 443, 69, 444, 88, 90, 445, 100, 101, 26, 102, 103, 104, 105, 106, 63, 87, 446, 447, 281, 282, 283, 76, 36, 448, 449, 450, 451, 57, 58, 452, 453, 454, 455, 456, 358, 359, 457, 458, 459, 460, 499, 500, 501, 502, 503, 504, 55, 505, 506, 507, 508, 509, 510, 667, 668, 669, 670, 671, 690, 691, 692, 703, 704, 705, 706, 707, 708, 698, 699, 700, 701, 702] (by decide +kernel) (by decide +kernel)
set_option maxRecDepth 20000 in
theorem gL_law_X7_follows : GoodIn wsL_law (wsV RL 60 RX7 yX7_follows wsX7_follows) := goodIn_app (goodIn_of _ (by decide +kernel)) ggL_law_X7_follows
set_option maxRecDepth 20000 in
theorem ggL_law_X8_follows : GoodIn wsL_law wsX8_follows := goodIn_r _ [514, 329, 118, 119, 204, 205, 206, 5, 207, 208, 209, 210, 211, 111, 212, 213, 214, 325, 326, 327, 328, 164, 324, 113, 115, 116, 305, 306, 307, 308, 288, 289, 290, 291, 272, 273, 274, 275, 155, 112, 256, 257, 258, 259, 330, 331, 332, 333, 117, 334, 335, 336, 337, 338, 339, 340, 123, 341, 342, 343, 344, 672, 673, 674, 675, 676, 677, 678, 679, 680, 681, 682, 683, 684, 685, 686, 687, 688, 689] (by decide +kernel) (by decide +kernel)
set_option maxRecDepth 20000 in
theorem gL_law_X8_follows : GoodIn wsL_law (wsV RL 63 RX8 yX8_follows wsX8_follows) := goodIn_app (goodIn_of _ (by decide +kernel)) ggL_law_X8_follows
set_option maxRecDepth 20000 in
theorem ggL_law_X7_holds : GoodIn wsL_law wsX7_holds := goodIn_r _ [518, 15, 170, 171, 172, 14, 173, 174, 175, 176, 177, 75, 178, 92, 89, 93, 179, 180, 181, 280, 281, 282, 283, 76, 36, 519, 520, 521, 2, 522, 667, 668, 669, 670, 671, 690, 691, 692] (by decide +kernel) (by decide +kernel)
set_option maxRecDepth 20000 in
theorem gL_law_X7_holds : GoodIn wsL_law (wsV RL 64 RX7 yX7_holds wsX7_holds) := goodIn_app (goodIn_of _ (by decide +kernel)) ggL_law_X7_holds
set_option maxRecDepth 20000 in
theorem ggL_law_X8_holds : GoodIn wsL_law wsX8_holds := goodIn_r _ [526, 155, 112, 204, 205, 206, 5, 207, 208, 209, 210, 211, 111, 212, 213, 214, 672, 673, 674, 675, 676, 677, 678, 679, 680, 681, 682, 683, 684, 685, 686, 687, 688, 689] (by decide +kernel) (by decide +kernel)
set_option maxRecDepth 20000 in
theorem gL_law_X8_holds : GoodIn wsL_law (wsV RL 67 RX8 yX8_holds wsX8_holds) := goodIn_app (goodIn_of _ (by decide +kernel)) ggL_law_X8_holds
set_option maxRecDepth 20000 in
theorem ggL_law_X7_needed : GoodIn wsL_law wsX7_needed := goodIn_r _ [530, 15, 531, 532, 533, 14, 534, 75, 535, 536, 537, 538, 539, 265, 266, 267, 76, 36, 179, 180, 89, 181, 540, 541, 542, 543, 520, 521, 2, 522, 667, 668, 669, 670, 671, 690, 691, 692] (by decide +kernel) (by decide +kernel)
set_option maxRecDepth 20000 in
theorem gL_law_X7_needed : GoodIn wsL_law (wsV RL 68 RX7 yX7_needed wsX7_needed) := goodIn_app (goodIn_of _ (by decide +kernel)) ggL_law_X7_needed
set_option maxRecDepth 20000 in
theorem ggL_law_X8_needed : GoodIn wsL_law wsX8_needed := goodIn_r _ [547, 111, 157, 158, 5, 159, 272, 273, 274, 275, 155, 112, 212, 213, 214, 672, 673, 674, 675, 676, 677, 678, 679, 680, 681, 682, 683, 684, 685, 686, 687, 688, 689] (by decide +kernel) (by decide +kernel)
set_option maxRecDepth 20000 in
theorem gL_law_X8_needed : GoodIn wsL_law (wsV RL 71 RX8 yX8_needed wsX8_needed) := goodIn_app (goodIn_of _ (by decide +kernel)) ggL_law_X8_needed
set_option maxRecDepth 20000 in
theorem ggL_law_X7_neededObject : GoodIn wsL_law wsX7_neededObject := goodIn_r _ [551, 15, 219, 220, 221, 14, 222, 76, 552, 553, 554, 555, 36, 556, 233, 234, 235, 540, 541, 89, 542, 543, 180, 181, 557, 249, 250, 251, 174, 175, 176, 177, 75, 178, 92, 93, 520, 521, 2, 522, 667, 668, 669, 670, 671, 690, 691, 692] (by decide +kernel) (by decide +kernel)
set_option maxRecDepth 20000 in
theorem gL_law_X7_neededObject : GoodIn wsL_law (wsV RL 72 RX7 yX7_neededObject wsX7_neededObject) := goodIn_app (goodIn_of _ (by decide +kernel)) ggL_law_X7_neededObject
set_option maxRecDepth 20000 in
theorem ggL_law_X8_neededObject : GoodIn wsL_law wsX8_neededObject := goodIn_r _ [561, 155, 112, 157, 158, 5, 159, 212, 213, 214, 256, 257, 258, 259, 208, 209, 210, 211, 111, 672, 673, 674, 675, 676, 677, 678, 679, 680, 681, 682, 683, 684, 685, 686, 687, 688, 689] (by decide +kernel) (by decide +kernel)
set_option maxRecDepth 20000 in
theorem gL_law_X8_neededObject : GoodIn wsL_law (wsV RL 75 RX8 yX8_neededObject wsX8_neededObject) := goodIn_app (goodIn_of _ (by decide +kernel)) ggL_law_X8_neededObject
set_option maxRecDepth 20000 in
theorem ggL_law_X7_frequent : GoodIn wsL_law wsX7_frequent := goodIn_r _ [565, 27, 15, 316, 317, 318, 26, 319, 82, 367, 368, 369, 370, 62, 264, 265, 266, 14, 267, 76, 36, 179, 180, 89, 181, 477, 478, 479, 480, 481, 482, 483, 667, 668, 669, 670, 671, 698, 699, 700, 701, 702, 690, 691, 692] (by decide +kernel) (by decide +kernel)
set_option maxRecDepth 20000 in
theorem gL_law_X7_frequent : GoodIn wsL_law (wsV RL 76 RX7 yX7_frequent wsX7_frequent) := goodIn_app (goodIn_of _ (by decide +kernel)) ggL_law_X7_frequent
set_option maxRecDepth 20000 in
theorem ggL_law_X8_frequent : GoodIn wsL_law wsX8_frequent := goodIn_r _ [569, 324, 116, 325, 326, 327, 5, 328, 164, 329, 111, 113, 115, 305, 306, 307, 308, 288, 289, 290, 291, 272, 273, 274, 275, 155, 112, 212, 213, 214, 256, 257, 258, 259, 208, 209, 210, 211, 330, 331, 332, 333, 117, 334, 335, 336, 337, 338, 339, 340, 123, 118, 119, 341, 342, 343, 344, 492, 493, 494, 672, 673, 674, 675, 676, 677, 678, 679, 680, 681, 682, 683, 684, 685, 686, 687, 688, 689] (by decide +kernel) (by decide +kernel)
set_option maxRecDepth 20000 in
theorem gL_law_X8_frequent : GoodIn wsL_law (wsV RL 79 RX8 yX8_frequent wsX8_frequent) := goodIn_app (goodIn_of _ (by decide +kernel)) ggL_law_X8_frequent
set_option maxRecDepth 20000 in
theorem ggL_law_X7_ask : GoodIn wsL_law wsX7_ask := goodIn_r _ [573, 23, 27, 574, 575, 576, 22, 577, 47, 150, 48, 141, 142, 143, 46, 144, 145, 578, 579, 580, 581, 582, 583, 584, 26, 585, 81, 586, 100, 101, 102, 103, 104, 105, 106, 63, 87, 88, 89, 90, 587, 588, 589, 590, 57, 58, 510, 180, 181, 591, 358, 359, 667, 668, 669, 670, 671, 695, 696, 697, 706, 707, 708, 698, 699, 700, 701, 702] (by decide +kernel) (by decide +kernel)
set_option maxRecDepth 20000 in
theorem gL_law_X7_ask : GoodIn wsL_law (wsV RL 80 RX7 yX7_ask wsX7_ask) := goodIn_app (goodIn_of _ (by decide +kernel)) ggL_law_X7_ask
set_option maxRecDepth 20000 in
theorem ggL_law_X8_ask : GoodIn wsL_law wsX8_ask := goodIn_r _ [595, 165, 156, 120, 596, 597, 598, 5, 599, 111, 305, 306, 307, 308, 288, 289, 290, 291, 272, 273, 274, 275, 155, 112, 212, 213, 214, 256, 257, 258, 259, 208, 209, 210, 211, 600, 601, 602, 603, 121, 122, 672, 673, 674, 675, 676, 677, 678, 679, 680, 681, 682, 683, 684, 685, 686, 687, 688, 689] (by decide +kernel) (by decide +kernel)
set_option maxRecDepth 20000 in
theorem gL_law_X8_ask : GoodIn wsL_law (wsV RL 83 RX8 yX8_ask wsX8_ask) := goodIn_app (goodIn_of _ (by decide +kernel)) ggL_law_X8_ask
set_option maxRecDepth 20000 in
theorem ggL_law_X7_question : GoodIn wsL_law wsX7_question := goodIn_r _ [607, 23, 608, 609, 610, 22, 611, 48, 667, 668, 669, 670, 671, 695, 696, 697] (by decide +kernel) (by decide +kernel)
set_option maxRecDepth 20000 in
theorem gL_law_X7_question : GoodIn wsL_law (wsV RL 84 RX7 yX7_question wsX7_question) := goodIn_app (goodIn_of _ (by decide +kernel)) ggL_law_X7_question
set_option maxRecDepth 20000 in
theorem ggL_law_X8_question : GoodIn wsL_law wsX8_question := goodIn_r _ [615, 165, 120, 672, 673, 674, 675, 676, 677, 678, 679, 680, 681, 682, 683, 684, 685, 686, 687, 688, 689] (by decide +kernel) (by decide +kernel)
set_option maxRecDepth 20000 in
theorem gL_law_X8_question : GoodIn wsL_law (wsV RL 87 RX8 yX8_question wsX8_question) := goodIn_app (goodIn_of _ (by decide +kernel)) ggL_law_X8_question
set_option maxRecDepth 20000 in
theorem ggL_law_X7_yes : GoodIn wsL_law wsX7_yes := goodIn_r _ [619, 23, 15, 27, 608, 609, 610, 22, 611, 48, 280, 281, 282, 14, 283, 76, 36, 174, 175, 176, 177, 75, 178, 92, 89, 93, 179, 180, 181, 620, 621, 622, 623, 47, 624, 449, 450, 46, 451, 145, 57, 58, 578, 579, 580, 581, 582, 583, 584, 26, 585, 81, 586, 100, 101, 102, 103, 104, 105, 106, 63, 87, 88, 90, 587, 588, 589, 590, 510, 591, 358, 359, 667, 668, 669, 670, 671, 695, 696, 697, 690, 691, 692, 706, 707, 708, 698, 699, 700, 701, 702] (by decide +kernel) (by decide +kernel)
set_option maxRecDepth 20000 in
theorem gL_law_X7_yes : GoodIn wsL_law (wsV RL 88 RX7 yX7_yes wsX7_yes) := goodIn_app (goodIn_of _ (by decide +kernel)) ggL_law_X7_yes
set_option maxRecDepth 20000 in
theorem ggL_law_X8_yes : GoodIn wsL_law wsX8_yes := goodIn_r _ [628, 165, 120, 121, 156, 122, 288, 289, 290, 5, 291, 272, 273, 274, 275, 155, 112, 212, 213, 214, 256, 257, 258, 259, 208, 209, 210, 211, 111, 596, 597, 598, 599, 305, 306, 307, 308, 600, 601, 602, 603, 672, 673, 674, 675, 676, 677, 678, 679, 680, 681, 682, 683, 684, 685, 686, 687, 688, 689] (by decide +kernel) (by decide +kernel)
set_option maxRecDepth 20000 in
theorem gL_law_X8_yes : GoodIn wsL_law (wsV RL 91 RX8 yX8_yes wsX8_yes) := goodIn_app (goodIn_of _ (by decide +kernel)) ggL_law_X8_yes
set_option maxRecDepth 20000 in
theorem ggL_law_X7_no : GoodIn wsL_law wsX7_no := goodIn_r _ [632, 23, 15, 27, 608, 609, 610, 22, 611, 48, 170, 171, 172, 14, 173, 174, 175, 176, 177, 75, 178, 92, 89, 93, 179, 180, 181, 280, 281, 282, 283, 76, 36, 633, 634, 635, 636, 47, 637, 587, 588, 589, 46, 590, 145, 57, 58, 510, 182, 183, 184, 185, 187, 188, 189, 2, 190, 31, 191, 192, 193, 194, 195, 196, 197, 198, 26, 199, 82, 62, 94, 95, 96, 97, 98, 99, 100, 101, 102, 103, 104, 105, 106, 63, 87, 88, 90, 83, 84, 85, 86, 132, 133, 134, 30, 135, 136, 578, 579, 580, 581, 582, 583, 584, 585, 81, 586, 591, 358, 359, 667, 668, 669, 670, 671, 695, 696, 697, 690, 691, 692, 706, 707, 708, 698, 699, 700, 701, 702, 703, 704, 705] (by decide +kernel) (by decide +kernel)
set_option maxRecDepth 20000 in
theorem gL_law_X7_no : GoodIn wsL_law (wsV RL 92 RX7 yX7_no wsX7_no) := goodIn_app (goodIn_of _ (by decide +kernel)) ggL_law_X7_no
set_option maxRecDepth 20000 in
theorem ggL_law_X8_no : GoodIn wsL_law wsX8_no := goodIn_r _ [641, 165, 120, 155, 112, 164, 204, 205, 206, 5, 207, 208, 209, 210, 211, 111, 212, 213, 214, 288, 289, 290, 291, 272, 273, 274, 275, 256, 257, 258, 259, 600, 601, 602, 603, 156, 121, 122, 596, 597, 598, 599, 305, 306, 307, 308, 672, 673, 674, 675, 676, 677, 678, 679, 680, 681, 682, 683, 684, 685, 686, 687, 688, 689] (by decide +kernel) (by decide +kernel)
set_option maxRecDepth 20000 in
theorem gL_law_X8_no : GoodIn wsL_law (wsV RL 95 RX8 yX8_no wsX8_no) := goodIn_app (goodIn_of _ (by decide +kernel)) ggL_law_X8_no
set_option maxRecDepth 20000 in
theorem ggL_law_X7_accepted : GoodIn wsL_law wsX7_accepted := goodIn_r _ [645, 23, 646, 647, 648, 22, 649, 47, 473, 474, 475, 46, 476, 145, 57, 484, 485, 486, 487, 58, 667, 668, 669, 670, 671, 695, 696, 697, 706, 707, 708] (by decide +kernel) (by decide +kernel)
set_option maxRecDepth 20000 in
theorem gL_law_X7_accepted : GoodIn wsL_law (wsV RL 96 RX7 yX7_accepted wsX7_accepted) := goodIn_app (goodIn_of _ (by decide +kernel)) ggL_law_X7_accepted
set_option maxRecDepth 20000 in
theorem ggL_law_X8_accepted : GoodIn wsL_law wsX8_accepted := goodIn_r _ [653, 156, 121, 122, 157, 158, 5, 159, 672, 673, 674, 675, 676, 677, 678, 679, 680, 681, 682, 683, 684, 685, 686, 687, 688, 689] (by decide +kernel) (by decide +kernel)
set_option maxRecDepth 20000 in
theorem gL_law_X8_accepted : GoodIn wsL_law (wsV RL 99 RX8 yX8_accepted wsX8_accepted) := goodIn_app (goodIn_of _ (by decide +kernel)) ggL_law_X8_accepted
set_option maxRecDepth 20000 in
theorem ggL_law_X7_count : GoodIn wsL_law wsX7_count := goodIn_r _ [657, 15, 23, 27, 228, 229, 230, 14, 231, 75, 128, 129, 130, 131, 76, 646, 647, 648, 22, 649, 47, 461, 462, 463, 46, 464, 145, 658, 659, 660, 661, 150, 520, 521, 2, 522, 349, 350, 351, 26, 352, 98, 82, 62, 353, 354, 355, 356, 81, 99, 100, 101, 102, 103, 104, 105, 106, 63, 87, 88, 89, 90, 357, 358, 359, 360, 361, 362, 363, 364, 54, 55, 56, 365, 366, 233, 234, 235, 36, 83, 84, 85, 86, 662, 175, 176, 177, 178, 92, 93, 371, 667, 668, 669, 670, 671, 690, 691, 692, 695, 696, 697, 706, 707, 708, 698, 699, 700, 701, 702] (by decide +kernel) (by decide +kernel)
set_option maxRecDepth 20000 in
theorem gL_law_X7_count : GoodIn wsL_law (wsV RL 100 RX7 yX7_count wsX7_count) := goodIn_app (goodIn_of _ (by decide +kernel)) ggL_law_X7_count
set_option maxRecDepth 20000 in
theorem ggL_law_X8_count : GoodIn wsL_law wsX8_count := goodIn_r _ [666, 111, 155, 156, 165, 324, 117, 325, 326, 327, 5, 328, 164, 329, 113, 115, 116, 305, 306, 307, 308, 288, 289, 290, 291, 272, 273, 274, 275, 112, 212, 213, 214, 256, 257, 258, 259, 208, 209, 210, 211, 330, 331, 332, 333, 334, 335, 336, 337, 338, 339, 340, 123, 118, 119, 341, 342, 343, 344, 672, 673, 674, 675, 676, 677, 678, 679, 680, 681, 682, 683, 684, 685, 686, 687, 688, 689] (by decide +kernel) (by decide +kernel)
set_option maxRecDepth 20000 in
theorem gL_law_X8_count : GoodIn wsL_law (wsV RL 103 RX8 yX8_count wsX8_count) := goodIn_app (goodIn_of _ (by decide +kernel)) ggL_law_X8_count
theorem dL_law_0 : decode cL_law 0 = .ok (.new 7, 3) := by decide +kernel
theorem dL_law_3 : decode cL_law 3 = .ok (.dup, 1) := by decide +kernel
theorem dL_law_4 : decode cL_law 4 = .ok (.invokespecial 9, 3) := by decide +kernel
theorem dL_law_7 : decode cL_law 7 = .ok (.astore_n 1, 1) := by decide +kernel
theorem dL_law_8 : decode cL_law 8 = .ok (.new 10, 3) := by decide +kernel
theorem dL_law_11 : decode cL_law 11 = .ok (.dup, 1) := by decide +kernel
theorem dL_law_12 : decode cL_law 12 = .ok (.invokespecial 12, 3) := by decide +kernel
theorem dL_law_15 : decode cL_law 15 = .ok (.astore_n 2, 1) := by decide +kernel
theorem dL_law_16 : decode cL_law 16 = .ok (.iconst 0, 1) := by decide +kernel
theorem dL_law_17 : decode cL_law 17 = .ok (.istore_n 3, 1) := by decide +kernel
theorem dL_law_18 : decode cL_law 18 = .ok (.iload_n 3, 1) := by decide +kernel
theorem dL_law_19 : decode cL_law 19 = .ok (.aload_n 0, 1) := by decide +kernel
theorem dL_law_20 : decode cL_law 20 = .ok (.arraylength, 1) := by decide +kernel
theorem dL_law_21 : decode cL_law 21 = .ok (.iconst 3, 1) := by decide +kernel
theorem dL_law_22 : decode cL_law 22 = .ok (.isub, 1) := by decide +kernel
theorem dL_law_23 : decode cL_law 23 = .ok (.if_icmp .gt 625, 3) := by decide +kernel
theorem dL_law_26 : decode cL_law 26 = .ok (.aload_n 0, 1) := by decide +kernel
theorem dL_law_27 : decode cL_law 27 = .ok (.iload_n 3, 1) := by decide +kernel
theorem dL_law_28 : decode cL_law 28 = .ok (.iaload, 1) := by decide +kernel
theorem dL_law_29 : decode cL_law 29 = .ok (.bipush 31, 2) := by decide +kernel
theorem dL_law_31 : decode cL_law 31 = .ok (.iand, 1) := by decide +kernel
theorem dL_law_32 : decode cL_law 32 = .ok (.tableswitch 610 0 21 #[104, 127, 150, 173, 196, 219, 242, 265, 278, 311, 324, 357, 390, 423, 446, 469, 492, 505, 518, 531, 554, 587], 104) := by decide +kernel
theorem dL_law_136 : decode cL_law 136 = .ok (.aload_n 1, 1) := by decide +kernel
theorem dL_law_137 : decode cL_law 137 = .ok (.aload_n 0, 1) := by decide +kernel
theorem dL_law_138 : decode cL_law 138 = .ok (.iload_n 3, 1) := by decide +kernel
theorem dL_law_139 : decode cL_law 139 = .ok (.iconst 1, 1) := by decide +kernel
theorem dL_law_140 : decode cL_law 140 = .ok (.iadd, 1) := by decide +kernel
theorem dL_law_141 : decode cL_law 141 = .ok (.iaload, 1) := by decide +kernel
theorem dL_law_142 : decode cL_law 142 = .ok (.invokevirtual 13, 3) := by decide +kernel
theorem dL_law_145 : decode cL_law 145 = .ok (.aload_n 2, 1) := by decide +kernel
theorem dL_law_146 : decode cL_law 146 = .ok (.aload_n 0, 1) := by decide +kernel
theorem dL_law_147 : decode cL_law 147 = .ok (.iload_n 3, 1) := by decide +kernel
theorem dL_law_148 : decode cL_law 148 = .ok (.iconst 1, 1) := by decide +kernel
theorem dL_law_149 : decode cL_law 149 = .ok (.iadd, 1) := by decide +kernel
theorem dL_law_150 : decode cL_law 150 = .ok (.iaload, 1) := by decide +kernel
theorem dL_law_151 : decode cL_law 151 = .ok (.invokevirtual 17, 3) := by decide +kernel
theorem dL_law_154 : decode cL_law 154 = .ok (.if_icmp .eq 488, 3) := by decide +kernel
theorem dL_law_157 : decode cL_law 157 = .ok (.iconst 0, 1) := by decide +kernel
