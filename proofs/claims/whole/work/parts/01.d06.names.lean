theorem dX7_asNumber_0 : decode cX7_asNumber 0 = .ok (.iload_n 0, 1) := by decide +kernel
theorem dX7_asNumber_1 : decode cX7_asNumber 1 = .ok (.ifCond .eq 7, 3) := by decide +kernel
theorem dX7_asNumber_4 : decode cX7_asNumber 4 = .ok (.iconst 1, 1) := by decide +kernel
theorem dX7_asNumber_5 : decode cX7_asNumber 5 = .ok (.goto 4, 3) := by decide +kernel
theorem dX7_asNumber_8 : decode cX7_asNumber 8 = .ok (.iconst 0, 1) := by decide +kernel
theorem dX7_asNumber_9 : decode cX7_asNumber 9 = .ok (.ireturn, 1) := by decide +kernel
theorem dX8_init_0 : decode cX8_init 0 = .ok (.aload_n 0, 1) := by decide +kernel
theorem dX8_init_1 : decode cX8_init 1 = .ok (.invokespecial 1, 3) := by decide +kernel
theorem dX8_init_4 : decode cX8_init 4 = .ok (.aload_n 0, 1) := by decide +kernel
theorem dX8_init_5 : decode cX8_init 5 = .ok (.bipush 6, 2) := by decide +kernel
theorem dX8_init_7 : decode cX8_init 7 = .ok (.putfield 7, 3) := by decide +kernel
theorem dX8_init_10 : decode cX8_init 10 = .ok (.aload_n 0, 1) := by decide +kernel
theorem dX8_init_11 : decode cX8_init 11 = .ok (.bipush 20, 2) := by decide +kernel
theorem dX8_init_13 : decode cX8_init 13 = .ok (.newarray .int, 2) := by decide +kernel
theorem dX8_init_15 : decode cX8_init 15 = .ok (.putfield 13, 3) := by decide +kernel
theorem dX8_init_18 : decode cX8_init 18 = .ok (.aload_n 0, 1) := by decide +kernel
theorem dX8_init_19 : decode cX8_init 19 = .ok (.sipush 4096, 3) := by decide +kernel
theorem dX8_init_22 : decode cX8_init 22 = .ok (.newarray .int, 2) := by decide +kernel
theorem dX8_init_24 : decode cX8_init 24 = .ok (.putfield 17, 3) := by decide +kernel
theorem dX8_init_27 : decode cX8_init 27 = .ok (.aload_n 0, 1) := by decide +kernel
theorem dX8_init_28 : decode cX8_init 28 = .ok (.sipush 4096, 3) := by decide +kernel
theorem dX8_init_31 : decode cX8_init 31 = .ok (.newarray .boolean, 2) := by decide +kernel
theorem dX8_init_33 : decode cX8_init 33 = .ok (.putfield 20, 3) := by decide +kernel
theorem dX8_init_36 : decode cX8_init 36 = .ok (.aload_n 0, 1) := by decide +kernel
theorem dX8_init_37 : decode cX8_init 37 = .ok (.sipush 4096, 3) := by decide +kernel
theorem dX8_init_40 : decode cX8_init 40 = .ok (.newarray .int, 2) := by decide +kernel
theorem dX8_init_42 : decode cX8_init 42 = .ok (.putfield 24, 3) := by decide +kernel
theorem dX8_init_45 : decode cX8_init 45 = .ok (.aload_n 0, 1) := by decide +kernel
theorem dX8_init_46 : decode cX8_init 46 = .ok (.sipush 4096, 3) := by decide +kernel
theorem dX8_init_49 : decode cX8_init 49 = .ok (.newarray .int, 2) := by decide +kernel
theorem dX8_init_51 : decode cX8_init 51 = .ok (.putfield 27, 3) := by decide +kernel
theorem dX8_init_54 : decode cX8_init 54 = .ok (.aload_n 0, 1) := by decide +kernel
theorem dX8_init_55 : decode cX8_init 55 = .ok (.sipush 4096, 3) := by decide +kernel
theorem dX8_init_58 : decode cX8_init 58 = .ok (.newarray .int, 2) := by decide +kernel
theorem dX8_init_60 : decode cX8_init 60 = .ok (.putfield 30, 3) := by decide +kernel
theorem dX8_init_63 : decode cX8_init 63 = .ok (.aload_n 0, 1) := by decide +kernel
theorem dX8_init_64 : decode cX8_init 64 = .ok (.sipush 4096, 3) := by decide +kernel
theorem dX8_init_67 : decode cX8_init 67 = .ok (.newarray .int, 2) := by decide +kernel
theorem dX8_init_69 : decode cX8_init 69 = .ok (.putfield 33, 3) := by decide +kernel
theorem dX8_init_72 : decode cX8_init 72 = .ok (.aload_n 0, 1) := by decide +kernel
theorem dX8_init_73 : decode cX8_init 73 = .ok (.iconst (-1), 1) := by decide +kernel
theorem dX8_init_74 : decode cX8_init 74 = .ok (.putfield 36, 3) := by decide +kernel
theorem dX8_init_77 : decode cX8_init 77 = .ok (.aload_n 0, 1) := by decide +kernel
theorem dX8_init_78 : decode cX8_init 78 = .ok (.sipush 4096, 3) := by decide +kernel
theorem dX8_init_81 : decode cX8_init 81 = .ok (.newarray .int, 2) := by decide +kernel
theorem dX8_init_83 : decode cX8_init 83 = .ok (.putfield 39, 3) := by decide +kernel
theorem dX8_init_86 : decode cX8_init 86 = .ok (.aload_n 0, 1) := by decide +kernel
theorem dX8_init_87 : decode cX8_init 87 = .ok (.sipush 4096, 3) := by decide +kernel
theorem dX8_init_90 : decode cX8_init 90 = .ok (.newarray .int, 2) := by decide +kernel
theorem dX8_init_92 : decode cX8_init 92 = .ok (.putfield 42, 3) := by decide +kernel
theorem dX8_init_95 : decode cX8_init 95 = .ok (.aload_n 0, 1) := by decide +kernel
theorem dX8_init_96 : decode cX8_init 96 = .ok (.sipush 4096, 3) := by decide +kernel
theorem dX8_init_99 : decode cX8_init 99 = .ok (.newarray .boolean, 2) := by decide +kernel
theorem dX8_init_101 : decode cX8_init 101 = .ok (.putfield 45, 3) := by decide +kernel
theorem dX8_init_104 : decode cX8_init 104 = .ok (.aload_n 0, 1) := by decide +kernel
theorem dX8_init_105 : decode cX8_init 105 = .ok (.bipush 6, 2) := by decide +kernel
theorem dX8_init_107 : decode cX8_init 107 = .ok (.putfield 7, 3) := by decide +kernel
theorem dX8_init_110 : decode cX8_init 110 = .ok (.return_, 1) := by decide +kernel
theorem dX8_in_0 : decode cX8_in 0 = .ok (.iload_n 0, 1) := by decide +kernel
theorem dX8_in_1 : decode cX8_in 1 = .ok (.iload_n 1, 1) := by decide +kernel
theorem dX8_in_2 : decode cX8_in 2 = .ok (.if_icmp .lt 12, 3) := by decide +kernel
theorem dX8_in_5 : decode cX8_in 5 = .ok (.iload_n 0, 1) := by decide +kernel
theorem dX8_in_6 : decode cX8_in 6 = .ok (.iload_n 2, 1) := by decide +kernel
theorem dX8_in_7 : decode cX8_in 7 = .ok (.if_icmp .gt 7, 3) := by decide +kernel
theorem dX8_in_10 : decode cX8_in 10 = .ok (.iconst 1, 1) := by decide +kernel
theorem dX8_in_11 : decode cX8_in 11 = .ok (.goto 4, 3) := by decide +kernel
theorem dX8_in_14 : decode cX8_in 14 = .ok (.iconst 0, 1) := by decide +kernel
theorem dX8_in_15 : decode cX8_in 15 = .ok (.ireturn, 1) := by decide +kernel
theorem dX8_isPart_0 : decode cX8_isPart 0 = .ok (.iload_n 0, 1) := by decide +kernel
theorem dX8_isPart_1 : decode cX8_isPart 1 = .ok (.iload_n 1, 1) := by decide +kernel
theorem dX8_isPart_2 : decode cX8_isPart 2 = .ok (.iconst (-1), 1) := by decide +kernel
theorem dX8_isPart_3 : decode cX8_isPart 3 = .ok (.ixor, 1) := by decide +kernel
theorem dX8_isPart_4 : decode cX8_isPart 4 = .ok (.iand, 1) := by decide +kernel
theorem dX8_isPart_5 : decode cX8_isPart 5 = .ok (.ifCond .ne 7, 3) := by decide +kernel
theorem dX8_isPart_8 : decode cX8_isPart 8 = .ok (.iconst 1, 1) := by decide +kernel
theorem dX8_isPart_9 : decode cX8_isPart 9 = .ok (.goto 4, 3) := by decide +kernel
theorem dX8_isPart_12 : decode cX8_isPart 12 = .ok (.iconst 0, 1) := by decide +kernel
theorem dX8_isPart_13 : decode cX8_isPart 13 = .ok (.ireturn, 1) := by decide +kernel
theorem dX8_all_0 : decode cX8_all 0 = .ok (.iconst 1, 1) := by decide +kernel
theorem dX8_all_1 : decode cX8_all 1 = .ok (.aload_n 0, 1) := by decide +kernel
theorem dX8_all_2 : decode cX8_all 2 = .ok (.getfield 7, 3) := by decide +kernel
theorem dX8_all_5 : decode cX8_all 5 = .ok (.ishl, 1) := by decide +kernel
theorem dX8_all_6 : decode cX8_all 6 = .ok (.iconst 1, 1) := by decide +kernel
theorem dX8_all_7 : decode cX8_all 7 = .ok (.isub, 1) := by decide +kernel
theorem dX8_all_8 : decode cX8_all 8 = .ok (.ireturn, 1) := by decide +kernel
set_option maxRecDepth 20000 in
theorem ggX8_isSet_X8_all : GoodIn wsX8_isSet wsX8_all := goodIn_r _ [5, 6, 10, 11, 12, 13, 14, 15, 16, 17, 18, 19, 20, 21, 22, 23, 24, 25, 26, 27] (by decide +kernel) (by decide +kernel)
set_option maxRecDepth 20000 in
theorem gX8_isSet_X8_all : GoodIn wsX8_isSet (wsV RX8 48 RX8 yX8_all wsX8_all) := goodIn_app (goodIn_of _ (by decide +kernel)) ggX8_isSet_X8_all
set_option maxRecDepth 20000 in
theorem ggX8_isSet_X8_isPart : GoodIn wsX8_isSet wsX8_isPart := goodIn_r _ [9] (by decide +kernel) (by decide +kernel)
set_option maxRecDepth 20000 in
theorem gX8_isSet_X8_isPart : GoodIn wsX8_isSet (va_wsS RX8 52 yX8_isPart wsX8_isPart) := goodIn_app (goodIn_of _ (by decide +kernel)) ggX8_isSet_X8_isPart
theorem dX8_isSet_0 : decode cX8_isSet 0 = .ok (.iload_n 1, 1) := by decide +kernel
theorem dX8_isSet_1 : decode cX8_isSet 1 = .ok (.aload_n 0, 1) := by decide +kernel
theorem dX8_isSet_2 : decode cX8_isSet 2 = .ok (.invokevirtual 48, 3) := by decide +kernel
theorem dX8_isSet_5 : decode cX8_isSet 5 = .ok (.invokestatic 52, 3) := by decide +kernel
theorem dX8_isSet_8 : decode cX8_isSet 8 = .ok (.ireturn, 1) := by decide +kernel
theorem dX8_forget_0 : decode cX8_forget 0 = .ok (.aload_n 0, 1) := by decide +kernel
theorem dX8_forget_1 : decode cX8_forget 1 = .ok (.iconst 0, 1) := by decide +kernel
theorem dX8_forget_2 : decode cX8_forget 2 = .ok (.putfield 56, 3) := by decide +kernel
theorem dX8_forget_5 : decode cX8_forget 5 = .ok (.aload_n 0, 1) := by decide +kernel
theorem dX8_forget_6 : decode cX8_forget 6 = .ok (.iconst 0, 1) := by decide +kernel
theorem dX8_forget_7 : decode cX8_forget 7 = .ok (.putfield 60, 3) := by decide +kernel
theorem dX8_forget_10 : decode cX8_forget 10 = .ok (.aload_n 0, 1) := by decide +kernel
theorem dX8_forget_11 : decode cX8_forget 11 = .ok (.iconst (-1), 1) := by decide +kernel
theorem dX8_forget_12 : decode cX8_forget 12 = .ok (.putfield 36, 3) := by decide +kernel
theorem dX8_forget_15 : decode cX8_forget 15 = .ok (.return_, 1) := by decide +kernel
set_option maxRecDepth 20000 in
theorem ggX8_begin_X8_in : GoodIn wsX8_begin wsX8_in := goodIn_r _ [7] (by decide +kernel) (by decide +kernel)
set_option maxRecDepth 20000 in
theorem gX8_begin_X8_in : GoodIn wsX8_begin (va_wsS RX8 63 yX8_in wsX8_in) := goodIn_app (goodIn_of _ (by decide +kernel)) ggX8_begin_X8_in
set_option maxRecDepth 20000 in
theorem ggX8_begin_X8_forget : GoodIn wsX8_begin wsX8_forget := goodIn_r _ [11, 12, 13, 14, 15, 16, 17, 18, 19, 20, 21, 22, 23, 24, 25, 26, 27, 28, 29, 30, 31, 32] (by decide +kernel) (by decide +kernel)
set_option maxRecDepth 20000 in
theorem gX8_begin_X8_forget : GoodIn wsX8_begin (wsV RX8 73 RX8 yX8_forget wsX8_forget) := goodIn_app (goodIn_of _ (by decide +kernel)) ggX8_begin_X8_forget
theorem dX8_begin_0 : decode cX8_begin 0 = .ok (.iload_n 1, 1) := by decide +kernel
theorem dX8_begin_1 : decode cX8_begin 1 = .ok (.iconst 1, 1) := by decide +kernel
theorem dX8_begin_2 : decode cX8_begin 2 = .ok (.bipush 12, 2) := by decide +kernel
theorem dX8_begin_4 : decode cX8_begin 4 = .ok (.invokestatic 63, 3) := by decide +kernel
theorem dX8_begin_7 : decode cX8_begin 7 = .ok (.ifCond .ne 6, 3) := by decide +kernel
theorem dX8_begin_10 : decode cX8_begin 10 = .ok (.bipush (-2), 2) := by decide +kernel
theorem dX8_begin_12 : decode cX8_begin 12 = .ok (.ireturn, 1) := by decide +kernel
theorem dX8_begin_13 : decode cX8_begin 13 = .ok (.aload_n 0, 1) := by decide +kernel
theorem dX8_begin_14 : decode cX8_begin 14 = .ok (.getfield 67, 3) := by decide +kernel
theorem dX8_begin_17 : decode cX8_begin 17 = .ok (.istore_n 2, 1) := by decide +kernel
theorem dX8_begin_18 : decode cX8_begin 18 = .ok (.aload_n 0, 1) := by decide +kernel
theorem dX8_begin_19 : decode cX8_begin 19 = .ok (.iload_n 1, 1) := by decide +kernel
theorem dX8_begin_20 : decode cX8_begin 20 = .ok (.putfield 7, 3) := by decide +kernel
theorem dX8_begin_23 : decode cX8_begin 23 = .ok (.aload_n 0, 1) := by decide +kernel
theorem dX8_begin_24 : decode cX8_begin 24 = .ok (.iconst 0, 1) := by decide +kernel
theorem dX8_begin_25 : decode cX8_begin 25 = .ok (.putfield 67, 3) := by decide +kernel
theorem dX8_begin_28 : decode cX8_begin 28 = .ok (.aload_n 0, 1) := by decide +kernel
theorem dX8_begin_29 : decode cX8_begin 29 = .ok (.iconst 0, 1) := by decide +kernel
theorem dX8_begin_30 : decode cX8_begin 30 = .ok (.putfield 70, 3) := by decide +kernel
theorem dX8_begin_33 : decode cX8_begin 33 = .ok (.aload_n 0, 1) := by decide +kernel
theorem dX8_begin_34 : decode cX8_begin 34 = .ok (.invokevirtual 73, 3) := by decide +kernel
theorem dX8_begin_37 : decode cX8_begin 37 = .ok (.iload_n 2, 1) := by decide +kernel
theorem dX8_begin_38 : decode cX8_begin 38 = .ok (.ireturn, 1) := by decide +kernel
set_option maxRecDepth 20000 in
theorem ggX8_object_X8_isSet : GoodIn wsX8_object wsX8_isSet := goodIn_r _ [7, 8, 9, 10, 6, 11, 12, 13, 14, 15, 23, 24, 25, 26, 27, 28, 29, 30, 31, 32, 33, 34, 35, 36, 37, 38, 39, 40] (by decide +kernel) (by decide +kernel)
set_option maxRecDepth 20000 in
theorem gX8_object_X8_isSet : GoodIn wsX8_object (wsV RX8 76 RX8 yX8_isSet wsX8_isSet) := goodIn_app (goodIn_of _ (by decide +kernel)) ggX8_object_X8_isSet
set_option maxRecDepth 20000 in
theorem ggX8_object_X8_forget : GoodIn wsX8_object wsX8_forget := goodIn_r _ [19, 20, 21, 22, 23, 24, 25, 26, 27, 28, 29, 30, 31, 32, 33, 34, 35, 36, 37, 38, 39, 40] (by decide +kernel) (by decide +kernel)
set_option maxRecDepth 20000 in
theorem gX8_object_X8_forget : GoodIn wsX8_object (wsV RX8 73 RX8 yX8_forget wsX8_forget) := goodIn_app (goodIn_of _ (by decide +kernel)) ggX8_object_X8_forget
theorem dX8_object_0 : decode cX8_object 0 = .ok (.aload_n 0, 1) := by decide +kernel
theorem dX8_object_1 : decode cX8_object 1 = .ok (.iload_n 1, 1) := by decide +kernel
theorem dX8_object_2 : decode cX8_object 2 = .ok (.invokevirtual 76, 3) := by decide +kernel
theorem dX8_object_5 : decode cX8_object 5 = .ok (.ifCond .ne 6, 3) := by decide +kernel
theorem dX8_object_8 : decode cX8_object 8 = .ok (.bipush (-2), 2) := by decide +kernel
theorem dX8_object_10 : decode cX8_object 10 = .ok (.ireturn, 1) := by decide +kernel
theorem dX8_object_11 : decode cX8_object 11 = .ok (.aload_n 0, 1) := by decide +kernel
theorem dX8_object_12 : decode cX8_object 12 = .ok (.getfield 67, 3) := by decide +kernel
theorem dX8_object_15 : decode cX8_object 15 = .ok (.bipush 20, 2) := by decide +kernel
theorem dX8_object_17 : decode cX8_object 17 = .ok (.if_icmp .ne 6, 3) := by decide +kernel
theorem dX8_object_20 : decode cX8_object 20 = .ok (.bipush (-3), 2) := by decide +kernel
theorem dX8_object_22 : decode cX8_object 22 = .ok (.ireturn, 1) := by decide +kernel
theorem dX8_object_23 : decode cX8_object 23 = .ok (.aload_n 0, 1) := by decide +kernel
theorem dX8_object_24 : decode cX8_object 24 = .ok (.getfield 13, 3) := by decide +kernel
theorem dX8_object_27 : decode cX8_object 27 = .ok (.aload_n 0, 1) := by decide +kernel
theorem dX8_object_28 : decode cX8_object 28 = .ok (.getfield 67, 3) := by decide +kernel
theorem dX8_object_31 : decode cX8_object 31 = .ok (.iload_n 1, 1) := by decide +kernel
theorem dX8_object_32 : decode cX8_object 32 = .ok (.iastore, 1) := by decide +kernel
theorem dX8_object_33 : decode cX8_object 33 = .ok (.aload_n 0, 1) := by decide +kernel
theorem dX8_object_34 : decode cX8_object 34 = .ok (.dup, 1) := by decide +kernel
theorem dX8_object_35 : decode cX8_object 35 = .ok (.getfield 67, 3) := by decide +kernel
theorem dX8_object_38 : decode cX8_object 38 = .ok (.iconst 1, 1) := by decide +kernel
theorem dX8_object_39 : decode cX8_object 39 = .ok (.iadd, 1) := by decide +kernel
theorem dX8_object_40 : decode cX8_object 40 = .ok (.putfield 67, 3) := by decide +kernel
theorem dX8_object_43 : decode cX8_object 43 = .ok (.aload_n 0, 1) := by decide +kernel
theorem dX8_object_44 : decode cX8_object 44 = .ok (.invokevirtual 73, 3) := by decide +kernel
theorem dX8_object_47 : decode cX8_object 47 = .ok (.aload_n 0, 1) := by decide +kernel
theorem dX8_object_48 : decode cX8_object 48 = .ok (.getfield 67, 3) := by decide +kernel
theorem dX8_object_51 : decode cX8_object 51 = .ok (.iconst 1, 1) := by decide +kernel
theorem dX8_object_52 : decode cX8_object 52 = .ok (.isub, 1) := by decide +kernel
theorem dX8_object_53 : decode cX8_object 53 = .ok (.ireturn, 1) := by decide +kernel
set_option maxRecDepth 20000 in
theorem ggX8_remove_X8_in : GoodIn wsX8_remove wsX8_in := goodIn_r _ [6] (by decide +kernel) (by decide +kernel)
set_option maxRecDepth 20000 in
theorem gX8_remove_X8_in : GoodIn wsX8_remove (va_wsS RX8 63 yX8_in wsX8_in) := goodIn_app (goodIn_of _ (by decide +kernel)) ggX8_remove_X8_in
set_option maxRecDepth 20000 in
theorem ggX8_remove_X8_forget : GoodIn wsX8_remove wsX8_forget := goodIn_r _ [10, 11, 12, 13, 14, 15, 16, 17, 18, 19, 20, 21, 22, 23, 24, 25, 26, 27, 28, 29, 30, 31] (by decide +kernel) (by decide +kernel)
set_option maxRecDepth 20000 in
theorem gX8_remove_X8_forget : GoodIn wsX8_remove (wsV RX8 73 RX8 yX8_forget wsX8_forget) := goodIn_app (goodIn_of _ (by decide +kernel)) ggX8_remove_X8_forget
theorem dX8_remove_0 : decode cX8_remove 0 = .ok (.iload_n 1, 1) := by decide +kernel
theorem dX8_remove_1 : decode cX8_remove 1 = .ok (.iconst 0, 1) := by decide +kernel
theorem dX8_remove_2 : decode cX8_remove 2 = .ok (.aload_n 0, 1) := by decide +kernel
theorem dX8_remove_3 : decode cX8_remove 3 = .ok (.getfield 67, 3) := by decide +kernel
theorem dX8_remove_6 : decode cX8_remove 6 = .ok (.iconst 1, 1) := by decide +kernel
theorem dX8_remove_7 : decode cX8_remove 7 = .ok (.isub, 1) := by decide +kernel
theorem dX8_remove_8 : decode cX8_remove 8 = .ok (.invokestatic 63, 3) := by decide +kernel
theorem dX8_remove_11 : decode cX8_remove 11 = .ok (.ifCond .ne 6, 3) := by decide +kernel
theorem dX8_remove_14 : decode cX8_remove 14 = .ok (.bipush (-2), 2) := by decide +kernel
theorem dX8_remove_16 : decode cX8_remove 16 = .ok (.ireturn, 1) := by decide +kernel
theorem dX8_remove_17 : decode cX8_remove 17 = .ok (.aload_n 0, 1) := by decide +kernel
theorem dX8_remove_18 : decode cX8_remove 18 = .ok (.getfield 13, 3) := by decide +kernel
theorem dX8_remove_21 : decode cX8_remove 21 = .ok (.iload_n 1, 1) := by decide +kernel
theorem dX8_remove_22 : decode cX8_remove 22 = .ok (.iaload, 1) := by decide +kernel
theorem dX8_remove_23 : decode cX8_remove 23 = .ok (.istore_n 2, 1) := by decide +kernel
theorem dX8_remove_24 : decode cX8_remove 24 = .ok (.aload_n 0, 1) := by decide +kernel
theorem dX8_remove_25 : decode cX8_remove 25 = .ok (.dup, 1) := by decide +kernel
theorem dX8_remove_26 : decode cX8_remove 26 = .ok (.getfield 67, 3) := by decide +kernel
theorem dX8_remove_29 : decode cX8_remove 29 = .ok (.iconst 1, 1) := by decide +kernel
theorem dX8_remove_30 : decode cX8_remove 30 = .ok (.isub, 1) := by decide +kernel
theorem dX8_remove_31 : decode cX8_remove 31 = .ok (.putfield 67, 3) := by decide +kernel
theorem dX8_remove_34 : decode cX8_remove 34 = .ok (.iload_n 1, 1) := by decide +kernel
theorem dX8_remove_35 : decode cX8_remove 35 = .ok (.istore_n 3, 1) := by decide +kernel
theorem dX8_remove_36 : decode cX8_remove 36 = .ok (.iload_n 3, 1) := by decide +kernel
theorem dX8_remove_37 : decode cX8_remove 37 = .ok (.aload_n 0, 1) := by decide +kernel
theorem dX8_remove_38 : decode cX8_remove 38 = .ok (.getfield 67, 3) := by decide +kernel
theorem dX8_remove_41 : decode cX8_remove 41 = .ok (.if_icmp .ge 23, 3) := by decide +kernel
theorem dX8_remove_44 : decode cX8_remove 44 = .ok (.aload_n 0, 1) := by decide +kernel
theorem dX8_remove_45 : decode cX8_remove 45 = .ok (.getfield 13, 3) := by decide +kernel
theorem dX8_remove_48 : decode cX8_remove 48 = .ok (.iload_n 3, 1) := by decide +kernel
theorem dX8_remove_49 : decode cX8_remove 49 = .ok (.aload_n 0, 1) := by decide +kernel
theorem dX8_remove_50 : decode cX8_remove 50 = .ok (.getfield 13, 3) := by decide +kernel
theorem dX8_remove_53 : decode cX8_remove 53 = .ok (.iload_n 3, 1) := by decide +kernel
theorem dX8_remove_54 : decode cX8_remove 54 = .ok (.iconst 1, 1) := by decide +kernel
theorem dX8_remove_55 : decode cX8_remove 55 = .ok (.iadd, 1) := by decide +kernel
theorem dX8_remove_56 : decode cX8_remove 56 = .ok (.iaload, 1) := by decide +kernel
theorem dX8_remove_57 : decode cX8_remove 57 = .ok (.iastore, 1) := by decide +kernel
theorem dX8_remove_58 : decode cX8_remove 58 = .ok (.iinc 3 1, 3) := by decide +kernel
theorem dX8_remove_61 : decode cX8_remove 61 = .ok (.goto (-25), 3) := by decide +kernel
theorem dX8_remove_64 : decode cX8_remove 64 = .ok (.aload_n 0, 1) := by decide +kernel
theorem dX8_remove_65 : decode cX8_remove 65 = .ok (.invokevirtual 73, 3) := by decide +kernel
theorem dX8_remove_68 : decode cX8_remove 68 = .ok (.iload_n 2, 1) := by decide +kernel
theorem dX8_remove_69 : decode cX8_remove 69 = .ok (.ireturn, 1) := by decide +kernel
set_option maxRecDepth 20000 in
theorem ggX8_commonOf_X8_all : GoodIn wsX8_commonOf wsX8_all := goodIn_r _ [7, 8, 9, 10, 11, 12, 13, 14, 15, 16, 17, 18, 19, 20, 21, 22, 23, 24, 25, 26] (by decide +kernel) (by decide +kernel)
set_option maxRecDepth 20000 in
theorem gX8_commonOf_X8_all : GoodIn wsX8_commonOf (wsV RX8 48 RX8 yX8_all wsX8_all) := goodIn_app (goodIn_of _ (by decide +kernel)) ggX8_commonOf_X8_all
theorem dX8_commonOf_0 : decode cX8_commonOf 0 = .ok (.aload_n 0, 1) := by decide +kernel
theorem dX8_commonOf_1 : decode cX8_commonOf 1 = .ok (.invokevirtual 48, 3) := by decide +kernel
theorem dX8_commonOf_4 : decode cX8_commonOf 4 = .ok (.istore_n 2, 1) := by decide +kernel
theorem dX8_commonOf_5 : decode cX8_commonOf 5 = .ok (.iconst 0, 1) := by decide +kernel
theorem dX8_commonOf_6 : decode cX8_commonOf 6 = .ok (.istore_n 3, 1) := by decide +kernel
theorem dX8_commonOf_7 : decode cX8_commonOf 7 = .ok (.iload_n 3, 1) := by decide +kernel
theorem dX8_commonOf_8 : decode cX8_commonOf 8 = .ok (.aload_n 0, 1) := by decide +kernel
theorem dX8_commonOf_9 : decode cX8_commonOf 9 = .ok (.getfield 67, 3) := by decide +kernel
theorem dX8_commonOf_12 : decode cX8_commonOf 12 = .ok (.if_icmp .ge 31, 3) := by decide +kernel
theorem dX8_commonOf_15 : decode cX8_commonOf 15 = .ok (.iload_n 1, 1) := by decide +kernel
theorem dX8_commonOf_16 : decode cX8_commonOf 16 = .ok (.iload_n 3, 1) := by decide +kernel
theorem dX8_commonOf_17 : decode cX8_commonOf 17 = .ok (.ishr, 1) := by decide +kernel
theorem dX8_commonOf_18 : decode cX8_commonOf 18 = .ok (.iconst 1, 1) := by decide +kernel
theorem dX8_commonOf_19 : decode cX8_commonOf 19 = .ok (.iand, 1) := by decide +kernel
theorem dX8_commonOf_20 : decode cX8_commonOf 20 = .ok (.iconst 1, 1) := by decide +kernel
theorem dX8_commonOf_21 : decode cX8_commonOf 21 = .ok (.if_icmp .ne 14, 3) := by decide +kernel
theorem dX8_commonOf_24 : decode cX8_commonOf 24 = .ok (.iload_n 2, 1) := by decide +kernel
theorem dX8_commonOf_25 : decode cX8_commonOf 25 = .ok (.aload_n 0, 1) := by decide +kernel
theorem dX8_commonOf_26 : decode cX8_commonOf 26 = .ok (.getfield 13, 3) := by decide +kernel
theorem dX8_commonOf_29 : decode cX8_commonOf 29 = .ok (.iload_n 3, 1) := by decide +kernel
theorem dX8_commonOf_30 : decode cX8_commonOf 30 = .ok (.iaload, 1) := by decide +kernel
theorem dX8_commonOf_31 : decode cX8_commonOf 31 = .ok (.iand, 1) := by decide +kernel
theorem dX8_commonOf_32 : decode cX8_commonOf 32 = .ok (.goto 4, 3) := by decide +kernel
theorem dX8_commonOf_35 : decode cX8_commonOf 35 = .ok (.iload_n 2, 1) := by decide +kernel
theorem dX8_commonOf_36 : decode cX8_commonOf 36 = .ok (.istore_n 2, 1) := by decide +kernel
theorem dX8_commonOf_37 : decode cX8_commonOf 37 = .ok (.iinc 3 1, 3) := by decide +kernel
theorem dX8_commonOf_40 : decode cX8_commonOf 40 = .ok (.goto (-33), 3) := by decide +kernel
theorem dX8_commonOf_43 : decode cX8_commonOf 43 = .ok (.iload_n 2, 1) := by decide +kernel
theorem dX8_commonOf_44 : decode cX8_commonOf 44 = .ok (.ireturn, 1) := by decide +kernel
set_option maxRecDepth 20000 in
theorem ggX8_extentOf_X8_isPart : GoodIn wsX8_extentOf wsX8_isPart := goodIn_r _ [6] (by decide +kernel) (by decide +kernel)
set_option maxRecDepth 20000 in
theorem gX8_extentOf_X8_isPart : GoodIn wsX8_extentOf (va_wsS RX8 52 yX8_isPart wsX8_isPart) := goodIn_app (goodIn_of _ (by decide +kernel)) ggX8_extentOf_X8_isPart
theorem dX8_extentOf_0 : decode cX8_extentOf 0 = .ok (.iconst 0, 1) := by decide +kernel
theorem dX8_extentOf_1 : decode cX8_extentOf 1 = .ok (.istore_n 2, 1) := by decide +kernel
theorem dX8_extentOf_2 : decode cX8_extentOf 2 = .ok (.iconst 0, 1) := by decide +kernel
theorem dX8_extentOf_3 : decode cX8_extentOf 3 = .ok (.istore_n 3, 1) := by decide +kernel
theorem dX8_extentOf_4 : decode cX8_extentOf 4 = .ok (.iload_n 3, 1) := by decide +kernel
theorem dX8_extentOf_5 : decode cX8_extentOf 5 = .ok (.aload_n 0, 1) := by decide +kernel
theorem dX8_extentOf_6 : decode cX8_extentOf 6 = .ok (.getfield 67, 3) := by decide +kernel
theorem dX8_extentOf_9 : decode cX8_extentOf 9 = .ok (.if_icmp .ge 32, 3) := by decide +kernel
theorem dX8_extentOf_12 : decode cX8_extentOf 12 = .ok (.iload_n 1, 1) := by decide +kernel
theorem dX8_extentOf_13 : decode cX8_extentOf 13 = .ok (.aload_n 0, 1) := by decide +kernel
theorem dX8_extentOf_14 : decode cX8_extentOf 14 = .ok (.getfield 13, 3) := by decide +kernel
theorem dX8_extentOf_17 : decode cX8_extentOf 17 = .ok (.iload_n 3, 1) := by decide +kernel
theorem dX8_extentOf_18 : decode cX8_extentOf 18 = .ok (.iaload, 1) := by decide +kernel
theorem dX8_extentOf_19 : decode cX8_extentOf 19 = .ok (.invokestatic 52, 3) := by decide +kernel
theorem dX8_extentOf_22 : decode cX8_extentOf 22 = .ok (.ifCond .eq 11, 3) := by decide +kernel
theorem dX8_extentOf_25 : decode cX8_extentOf 25 = .ok (.iload_n 2, 1) := by decide +kernel
theorem dX8_extentOf_26 : decode cX8_extentOf 26 = .ok (.iconst 1, 1) := by decide +kernel
theorem dX8_extentOf_27 : decode cX8_extentOf 27 = .ok (.iload_n 3, 1) := by decide +kernel
theorem dX8_extentOf_28 : decode cX8_extentOf 28 = .ok (.ishl, 1) := by decide +kernel
theorem dX8_extentOf_29 : decode cX8_extentOf 29 = .ok (.ior, 1) := by decide +kernel
theorem dX8_extentOf_30 : decode cX8_extentOf 30 = .ok (.goto 4, 3) := by decide +kernel
theorem dX8_extentOf_33 : decode cX8_extentOf 33 = .ok (.iload_n 2, 1) := by decide +kernel
theorem dX8_extentOf_34 : decode cX8_extentOf 34 = .ok (.istore_n 2, 1) := by decide +kernel
theorem dX8_extentOf_35 : decode cX8_extentOf 35 = .ok (.iinc 3 1, 3) := by decide +kernel
theorem dX8_extentOf_38 : decode cX8_extentOf 38 = .ok (.goto (-34), 3) := by decide +kernel
theorem dX8_extentOf_41 : decode cX8_extentOf 41 = .ok (.iload_n 2, 1) := by decide +kernel
theorem dX8_extentOf_42 : decode cX8_extentOf 42 = .ok (.ireturn, 1) := by decide +kernel
set_option maxRecDepth 20000 in
theorem ggX8_closureOf_X8_extentOf : GoodIn wsX8_closureOf wsX8_extentOf := goodIn_r _ [5, 6, 7, 8, 9, 4, 10, 20, 21, 22, 23, 24, 25, 26, 27, 28, 29, 30, 31, 32, 33, 34, 35, 36, 37] (by decide +kernel) (by decide +kernel)
set_option maxRecDepth 20000 in
theorem gX8_closureOf_X8_extentOf : GoodIn wsX8_closureOf (wsV RX8 80 RX8 yX8_extentOf wsX8_extentOf) := goodIn_app (goodIn_of _ (by decide +kernel)) ggX8_closureOf_X8_extentOf
set_option maxRecDepth 20000 in
theorem ggX8_closureOf_X8_commonOf : GoodIn wsX8_closureOf wsX8_commonOf := goodIn_r _ [14, 6, 7, 15, 16, 17, 4, 18, 19, 20, 21, 22, 23, 24, 25, 26, 27, 28, 29, 30, 31, 32, 33, 34, 35, 36, 37] (by decide +kernel) (by decide +kernel)
set_option maxRecDepth 20000 in
theorem gX8_closureOf_X8_commonOf : GoodIn wsX8_closureOf (wsV RX8 84 RX8 yX8_commonOf wsX8_commonOf) := goodIn_app (goodIn_of _ (by decide +kernel)) ggX8_closureOf_X8_commonOf
theorem dX8_closureOf_0 : decode cX8_closureOf 0 = .ok (.aload_n 0, 1) := by decide +kernel
theorem dX8_closureOf_1 : decode cX8_closureOf 1 = .ok (.aload_n 0, 1) := by decide +kernel
theorem dX8_closureOf_2 : decode cX8_closureOf 2 = .ok (.iload_n 1, 1) := by decide +kernel
theorem dX8_closureOf_3 : decode cX8_closureOf 3 = .ok (.invokevirtual 80, 3) := by decide +kernel
theorem dX8_closureOf_6 : decode cX8_closureOf 6 = .ok (.invokevirtual 84, 3) := by decide +kernel
theorem dX8_closureOf_9 : decode cX8_closureOf 9 = .ok (.ireturn, 1) := by decide +kernel
set_option maxRecDepth 20000 in
theorem ggX8_common_X8_isPart : GoodIn wsX8_common wsX8_isPart := goodIn_r _ [5] (by decide +kernel) (by decide +kernel)
set_option maxRecDepth 20000 in
theorem gX8_common_X8_isPart : GoodIn wsX8_common (va_wsS RX8 52 yX8_isPart wsX8_isPart) := goodIn_app (goodIn_of _ (by decide +kernel)) ggX8_common_X8_isPart
set_option maxRecDepth 20000 in
theorem ggX8_common_X8_commonOf : GoodIn wsX8_common wsX8_commonOf := goodIn_r _ [9, 1, 10, 11, 12, 13, 4, 14, 15, 16, 17, 18, 19, 20, 21, 22, 23, 24, 25, 26, 27, 28, 29, 30, 31, 32, 33] (by decide +kernel) (by decide +kernel)
set_option maxRecDepth 20000 in
theorem gX8_common_X8_commonOf : GoodIn wsX8_common (wsV RX8 84 RX8 yX8_commonOf wsX8_commonOf) := goodIn_app (goodIn_of _ (by decide +kernel)) ggX8_common_X8_commonOf
theorem dX8_common_0 : decode cX8_common 0 = .ok (.iload_n 1, 1) := by decide +kernel
theorem dX8_common_1 : decode cX8_common 1 = .ok (.iconst 1, 1) := by decide +kernel
theorem dX8_common_2 : decode cX8_common 2 = .ok (.aload_n 0, 1) := by decide +kernel
theorem dX8_common_3 : decode cX8_common 3 = .ok (.getfield 67, 3) := by decide +kernel
theorem dX8_common_6 : decode cX8_common 6 = .ok (.ishl, 1) := by decide +kernel
theorem dX8_common_7 : decode cX8_common 7 = .ok (.iconst 1, 1) := by decide +kernel
theorem dX8_common_8 : decode cX8_common 8 = .ok (.isub, 1) := by decide +kernel
theorem dX8_common_9 : decode cX8_common 9 = .ok (.invokestatic 52, 3) := by decide +kernel
theorem dX8_common_12 : decode cX8_common 12 = .ok (.ifCond .eq 11, 3) := by decide +kernel
theorem dX8_common_15 : decode cX8_common 15 = .ok (.aload_n 0, 1) := by decide +kernel
theorem dX8_common_16 : decode cX8_common 16 = .ok (.iload_n 1, 1) := by decide +kernel
theorem dX8_common_17 : decode cX8_common 17 = .ok (.invokevirtual 84, 3) := by decide +kernel
theorem dX8_common_20 : decode cX8_common 20 = .ok (.goto 5, 3) := by decide +kernel
theorem dX8_common_23 : decode cX8_common 23 = .ok (.bipush (-2), 2) := by decide +kernel
theorem dX8_common_25 : decode cX8_common 25 = .ok (.ireturn, 1) := by decide +kernel
set_option maxRecDepth 20000 in
theorem ggX8_extent_X8_isSet : GoodIn wsX8_extent wsX8_isSet := goodIn_r _ [5, 6, 7, 8, 4, 9, 10, 11, 12, 13, 20, 21, 22, 23, 24, 25, 26, 27, 28, 29, 30, 31, 32, 33, 34, 35, 36, 37] (by decide +kernel) (by decide +kernel)
set_option maxRecDepth 20000 in
theorem gX8_extent_X8_isSet : GoodIn wsX8_extent (wsV RX8 76 RX8 yX8_isSet wsX8_isSet) := goodIn_app (goodIn_of _ (by decide +kernel)) ggX8_extent_X8_isSet
set_option maxRecDepth 20000 in
theorem ggX8_extent_X8_extentOf : GoodIn wsX8_extent wsX8_extentOf := goodIn_r _ [17, 18, 19, 11, 12, 4, 13, 20, 21, 22, 23, 24, 25, 26, 27, 28, 29, 30, 31, 32, 33, 34, 35, 36, 37] (by decide +kernel) (by decide +kernel)
set_option maxRecDepth 20000 in
theorem gX8_extent_X8_extentOf : GoodIn wsX8_extent (wsV RX8 80 RX8 yX8_extentOf wsX8_extentOf) := goodIn_app (goodIn_of _ (by decide +kernel)) ggX8_extent_X8_extentOf
theorem dX8_extent_0 : decode cX8_extent 0 = .ok (.aload_n 0, 1) := by decide +kernel
theorem dX8_extent_1 : decode cX8_extent 1 = .ok (.iload_n 1, 1) := by decide +kernel
theorem dX8_extent_2 : decode cX8_extent 2 = .ok (.invokevirtual 76, 3) := by decide +kernel
theorem dX8_extent_5 : decode cX8_extent 5 = .ok (.ifCond .eq 11, 3) := by decide +kernel
theorem dX8_extent_8 : decode cX8_extent 8 = .ok (.aload_n 0, 1) := by decide +kernel
theorem dX8_extent_9 : decode cX8_extent 9 = .ok (.iload_n 1, 1) := by decide +kernel
theorem dX8_extent_10 : decode cX8_extent 10 = .ok (.invokevirtual 80, 3) := by decide +kernel
theorem dX8_extent_13 : decode cX8_extent 13 = .ok (.goto 5, 3) := by decide +kernel
theorem dX8_extent_16 : decode cX8_extent 16 = .ok (.bipush (-2), 2) := by decide +kernel
theorem dX8_extent_18 : decode cX8_extent 18 = .ok (.ireturn, 1) := by decide +kernel
set_option maxRecDepth 20000 in
theorem ggX8_closure_X8_isSet : GoodIn wsX8_closure wsX8_isSet := goodIn_r _ [5, 6, 7, 8, 4, 9, 10, 11, 12, 13, 28, 29, 30, 31, 32, 33, 34, 35, 36, 37, 38, 39, 40, 41, 42, 43, 44, 45] (by decide +kernel) (by decide +kernel)
set_option maxRecDepth 20000 in
theorem gX8_closure_X8_isSet : GoodIn wsX8_closure (wsV RX8 76 RX8 yX8_isSet wsX8_isSet) := goodIn_app (goodIn_of _ (by decide +kernel)) ggX8_closure_X8_isSet
set_option maxRecDepth 20000 in
theorem ggX8_closure_X8_closureOf : GoodIn wsX8_closure wsX8_closureOf := goodIn_r _ [17, 18, 19, 20, 4, 21, 22, 23, 11, 12, 13, 24, 25, 26, 27, 6, 7, 8, 9, 10, 28, 29, 30, 31, 32, 33, 34, 35, 36, 37, 38, 39, 40, 41, 42, 43, 44, 45] (by decide +kernel) (by decide +kernel)
set_option maxRecDepth 20000 in
theorem gX8_closure_X8_closureOf : GoodIn wsX8_closure (wsV RX8 87 RX8 yX8_closureOf wsX8_closureOf) := goodIn_app (goodIn_of _ (by decide +kernel)) ggX8_closure_X8_closureOf
theorem dX8_closure_0 : decode cX8_closure 0 = .ok (.aload_n 0, 1) := by decide +kernel
theorem dX8_closure_1 : decode cX8_closure 1 = .ok (.iload_n 1, 1) := by decide +kernel
theorem dX8_closure_2 : decode cX8_closure 2 = .ok (.invokevirtual 76, 3) := by decide +kernel
theorem dX8_closure_5 : decode cX8_closure 5 = .ok (.ifCond .eq 11, 3) := by decide +kernel
theorem dX8_closure_8 : decode cX8_closure 8 = .ok (.aload_n 0, 1) := by decide +kernel
theorem dX8_closure_9 : decode cX8_closure 9 = .ok (.iload_n 1, 1) := by decide +kernel
theorem dX8_closure_10 : decode cX8_closure 10 = .ok (.invokevirtual 87, 3) := by decide +kernel
theorem dX8_closure_13 : decode cX8_closure 13 = .ok (.goto 5, 3) := by decide +kernel
theorem dX8_closure_16 : decode cX8_closure 16 = .ok (.bipush (-2), 2) := by decide +kernel
theorem dX8_closure_18 : decode cX8_closure 18 = .ok (.ireturn, 1) := by decide +kernel
theorem dX8_isLater_0 : decode cX8_isLater 0 = .ok (.iload_n 0, 1) := by decide +kernel
theorem dX8_isLater_1 : decode cX8_isLater 1 = .ok (.iload_n 1, 1) := by decide +kernel
theorem dX8_isLater_2 : decode cX8_isLater 2 = .ok (.ixor, 1) := by decide +kernel
theorem dX8_isLater_3 : decode cX8_isLater 3 = .ok (.istore_n 2, 1) := by decide +kernel
theorem dX8_isLater_4 : decode cX8_isLater 4 = .ok (.iload_n 2, 1) := by decide +kernel
theorem dX8_isLater_5 : decode cX8_isLater 5 = .ok (.ifCond .eq 16, 3) := by decide +kernel
theorem dX8_isLater_8 : decode cX8_isLater 8 = .ok (.iload_n 0, 1) := by decide +kernel
theorem dX8_isLater_9 : decode cX8_isLater 9 = .ok (.iload_n 2, 1) := by decide +kernel
theorem dX8_isLater_10 : decode cX8_isLater 10 = .ok (.iand, 1) := by decide +kernel
theorem dX8_isLater_11 : decode cX8_isLater 11 = .ok (.iload_n 2, 1) := by decide +kernel
theorem dX8_isLater_12 : decode cX8_isLater 12 = .ok (.ineg, 1) := by decide +kernel
theorem dX8_isLater_13 : decode cX8_isLater 13 = .ok (.iand, 1) := by decide +kernel
theorem dX8_isLater_14 : decode cX8_isLater 14 = .ok (.ifCond .eq 7, 3) := by decide +kernel
theorem dX8_isLater_17 : decode cX8_isLater 17 = .ok (.iconst 1, 1) := by decide +kernel
theorem dX8_isLater_18 : decode cX8_isLater 18 = .ok (.goto 4, 3) := by decide +kernel
theorem dX8_isLater_21 : decode cX8_isLater 21 = .ok (.iconst 0, 1) := by decide +kernel
theorem dX8_isLater_22 : decode cX8_isLater 22 = .ok (.ireturn, 1) := by decide +kernel
theorem dX8_turned_0 : decode cX8_turned 0 = .ok (.iconst 0, 1) := by decide +kernel
theorem dX8_turned_1 : decode cX8_turned 1 = .ok (.istore_n 2, 1) := by decide +kernel
theorem dX8_turned_2 : decode cX8_turned 2 = .ok (.iconst 0, 1) := by decide +kernel
theorem dX8_turned_3 : decode cX8_turned 3 = .ok (.istore_n 3, 1) := by decide +kernel
theorem dX8_turned_4 : decode cX8_turned 4 = .ok (.iload_n 3, 1) := by decide +kernel
theorem dX8_turned_5 : decode cX8_turned 5 = .ok (.aload_n 0, 1) := by decide +kernel
theorem dX8_turned_6 : decode cX8_turned 6 = .ok (.getfield 7, 3) := by decide +kernel
theorem dX8_turned_9 : decode cX8_turned 9 = .ok (.if_icmp .ge 35, 3) := by decide +kernel
theorem dX8_turned_12 : decode cX8_turned 12 = .ok (.iload_n 1, 1) := by decide +kernel
theorem dX8_turned_13 : decode cX8_turned 13 = .ok (.aload_n 0, 1) := by decide +kernel
theorem dX8_turned_14 : decode cX8_turned 14 = .ok (.getfield 7, 3) := by decide +kernel
theorem dX8_turned_17 : decode cX8_turned 17 = .ok (.iconst 1, 1) := by decide +kernel
theorem dX8_turned_18 : decode cX8_turned 18 = .ok (.isub, 1) := by decide +kernel
theorem dX8_turned_19 : decode cX8_turned 19 = .ok (.iload_n 3, 1) := by decide +kernel
theorem dX8_turned_20 : decode cX8_turned 20 = .ok (.isub, 1) := by decide +kernel
theorem dX8_turned_21 : decode cX8_turned 21 = .ok (.ishr, 1) := by decide +kernel
theorem dX8_turned_22 : decode cX8_turned 22 = .ok (.iconst 1, 1) := by decide +kernel
theorem dX8_turned_23 : decode cX8_turned 23 = .ok (.iand, 1) := by decide +kernel
theorem dX8_turned_24 : decode cX8_turned 24 = .ok (.iconst 1, 1) := by decide +kernel
theorem dX8_turned_25 : decode cX8_turned 25 = .ok (.if_icmp .ne 11, 3) := by decide +kernel
theorem dX8_turned_28 : decode cX8_turned 28 = .ok (.iload_n 2, 1) := by decide +kernel
theorem dX8_turned_29 : decode cX8_turned 29 = .ok (.iconst 1, 1) := by decide +kernel
theorem dX8_turned_30 : decode cX8_turned 30 = .ok (.iload_n 3, 1) := by decide +kernel
theorem dX8_turned_31 : decode cX8_turned 31 = .ok (.ishl, 1) := by decide +kernel
theorem dX8_turned_32 : decode cX8_turned 32 = .ok (.ior, 1) := by decide +kernel
theorem dX8_turned_33 : decode cX8_turned 33 = .ok (.goto 4, 3) := by decide +kernel
theorem dX8_turned_36 : decode cX8_turned 36 = .ok (.iload_n 2, 1) := by decide +kernel
theorem dX8_turned_37 : decode cX8_turned 37 = .ok (.istore_n 2, 1) := by decide +kernel
theorem dX8_turned_38 : decode cX8_turned 38 = .ok (.iinc 3 1, 3) := by decide +kernel
theorem dX8_turned_41 : decode cX8_turned 41 = .ok (.goto (-37), 3) := by decide +kernel
theorem dX8_turned_44 : decode cX8_turned 44 = .ok (.iload_n 2, 1) := by decide +kernel
theorem dX8_turned_45 : decode cX8_turned 45 = .ok (.ireturn, 1) := by decide +kernel
set_option maxRecDepth 20000 in
theorem ggX8_next_X8_isSet : GoodIn wsX8_next wsX8_isSet := goodIn_r _ [6, 7, 8, 9, 5, 10, 1, 11, 12, 13, 35, 36, 37, 38, 39, 40, 41, 42, 43, 44, 45, 46, 47, 48, 49, 50, 51, 52] (by decide +kernel) (by decide +kernel)
set_option maxRecDepth 20000 in
theorem gX8_next_X8_isSet : GoodIn wsX8_next (wsV RX8 76 RX8 yX8_isSet wsX8_isSet) := goodIn_app (goodIn_of _ (by decide +kernel)) ggX8_next_X8_isSet
set_option maxRecDepth 20000 in
theorem ggX8_next_X8_turned : GoodIn wsX8_next wsX8_turned := goodIn_r _ [17, 1, 35, 36, 37, 38, 39, 40, 41, 42, 43, 44, 45, 46, 47, 48, 49, 50, 51, 52] (by decide +kernel) (by decide +kernel)
set_option maxRecDepth 20000 in
theorem gX8_next_X8_turned : GoodIn wsX8_next (wsV RX8 90 RX8 yX8_turned wsX8_turned) := goodIn_app (goodIn_of _ (by decide +kernel)) ggX8_next_X8_turned
set_option maxRecDepth 20000 in
theorem ggX8_next_X8_isLater : GoodIn wsX8_next wsX8_isLater := goodIn_r _ [20] (by decide +kernel) (by decide +kernel)
set_option maxRecDepth 20000 in
theorem gX8_next_X8_isLater : GoodIn wsX8_next (va_wsS RX8 93 yX8_isLater wsX8_isLater) := goodIn_app (goodIn_of _ (by decide +kernel)) ggX8_next_X8_isLater
set_option maxRecDepth 20000 in
theorem ggX8_next_X8_closureOf : GoodIn wsX8_next wsX8_closureOf := goodIn_r _ [24, 25, 26, 27, 5, 28, 29, 30, 11, 12, 13, 31, 32, 33, 34, 7, 8, 9, 10, 1, 35, 36, 37, 38, 39, 40, 41, 42, 43, 44, 45, 46, 47, 48, 49, 50, 51, 52] (by decide +kernel) (by decide +kernel)
set_option maxRecDepth 20000 in
theorem gX8_next_X8_closureOf : GoodIn wsX8_next (wsV RX8 87 RX8 yX8_closureOf wsX8_closureOf) := goodIn_app (goodIn_of _ (by decide +kernel)) ggX8_next_X8_closureOf
theorem dX8_next_0 : decode cX8_next 0 = .ok (.aload_n 0, 1) := by decide +kernel
theorem dX8_next_1 : decode cX8_next 1 = .ok (.iload_n 1, 1) := by decide +kernel
theorem dX8_next_2 : decode cX8_next 2 = .ok (.invokevirtual 76, 3) := by decide +kernel
theorem dX8_next_5 : decode cX8_next 5 = .ok (.ifCond .ne 6, 3) := by decide +kernel
theorem dX8_next_8 : decode cX8_next 8 = .ok (.bipush (-2), 2) := by decide +kernel
theorem dX8_next_10 : decode cX8_next 10 = .ok (.ireturn, 1) := by decide +kernel
theorem dX8_next_11 : decode cX8_next 11 = .ok (.iconst 0, 1) := by decide +kernel
theorem dX8_next_12 : decode cX8_next 12 = .ok (.istore_n 2, 1) := by decide +kernel
theorem dX8_next_13 : decode cX8_next 13 = .ok (.iload_n 2, 1) := by decide +kernel
theorem dX8_next_14 : decode cX8_next 14 = .ok (.iconst 1, 1) := by decide +kernel
theorem dX8_next_15 : decode cX8_next 15 = .ok (.aload_n 0, 1) := by decide +kernel
theorem dX8_next_16 : decode cX8_next 16 = .ok (.getfield 7, 3) := by decide +kernel
theorem dX8_next_19 : decode cX8_next 19 = .ok (.ishl, 1) := by decide +kernel
theorem dX8_next_20 : decode cX8_next 20 = .ok (.if_icmp .ge 34, 3) := by decide +kernel
theorem dX8_next_23 : decode cX8_next 23 = .ok (.aload_n 0, 1) := by decide +kernel
theorem dX8_next_24 : decode cX8_next 24 = .ok (.iload_n 2, 1) := by decide +kernel
theorem dX8_next_25 : decode cX8_next 25 = .ok (.invokevirtual 90, 3) := by decide +kernel
theorem dX8_next_28 : decode cX8_next 28 = .ok (.istore_n 3, 1) := by decide +kernel
theorem dX8_next_29 : decode cX8_next 29 = .ok (.iload_n 3, 1) := by decide +kernel
theorem dX8_next_30 : decode cX8_next 30 = .ok (.iload_n 1, 1) := by decide +kernel
theorem dX8_next_31 : decode cX8_next 31 = .ok (.invokestatic 93, 3) := by decide +kernel
theorem dX8_next_34 : decode cX8_next 34 = .ok (.ifCond .eq 14, 3) := by decide +kernel
theorem dX8_next_37 : decode cX8_next 37 = .ok (.aload_n 0, 1) := by decide +kernel
theorem dX8_next_38 : decode cX8_next 38 = .ok (.iload_n 3, 1) := by decide +kernel
theorem dX8_next_39 : decode cX8_next 39 = .ok (.invokevirtual 87, 3) := by decide +kernel
theorem dX8_next_42 : decode cX8_next 42 = .ok (.iload_n 3, 1) := by decide +kernel
theorem dX8_next_43 : decode cX8_next 43 = .ok (.if_icmp .ne 5, 3) := by decide +kernel
theorem dX8_next_46 : decode cX8_next 46 = .ok (.iload_n 3, 1) := by decide +kernel
theorem dX8_next_47 : decode cX8_next 47 = .ok (.ireturn, 1) := by decide +kernel
theorem dX8_next_48 : decode cX8_next 48 = .ok (.iinc 2 1, 3) := by decide +kernel
theorem dX8_next_51 : decode cX8_next 51 = .ok (.goto (-38), 3) := by decide +kernel
theorem dX8_next_54 : decode cX8_next 54 = .ok (.iconst (-1), 1) := by decide +kernel
theorem dX8_next_55 : decode cX8_next 55 = .ok (.ireturn, 1) := by decide +kernel
