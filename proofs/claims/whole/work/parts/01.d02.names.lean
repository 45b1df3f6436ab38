theorem dX1_levelFromAbove_39 : decode cX1_levelFromAbove 39 = .ok (.invokestatic 73, 3) := by decide +kernel
theorem dX1_levelFromAbove_42 : decode cX1_levelFromAbove 42 = .ok (.istore_n 3, 1) := by decide +kernel
theorem dX1_levelFromAbove_43 : decode cX1_levelFromAbove 43 = .ok (.iinc 4 1, 3) := by decide +kernel
theorem dX1_levelFromAbove_46 : decode cX1_levelFromAbove 46 = .ok (.goto (-41), 3) := by decide +kernel
theorem dX1_levelFromAbove_49 : decode cX1_levelFromAbove 49 = .ok (.iload_n 3, 1) := by decide +kernel
theorem dX1_levelFromAbove_50 : decode cX1_levelFromAbove 50 = .ok (.ireturn, 1) := by decide +kernel
set_option maxRecDepth 20000 in
theorem ggX2_init_X4_init : GoodIn wsX2_init wsX4_init := goodIn_r _ [11, 12, 2, 3, 13, 14, 15, 16, 17, 18, 19, 20, 21, 22] (by decide +kernel) (by decide +kernel)
set_option maxRecDepth 20000 in
theorem gX2_init_X4_init : GoodIn wsX2_init (wsX4_init) := ggX2_init_X4_init
theorem dX2_init_0 : decode cX2_init 0 = .ok (.aload_n 0, 1) := by decide +kernel
theorem dX2_init_1 : decode cX2_init 1 = .ok (.invokespecial 3, 3) := by decide +kernel
theorem dX2_init_4 : decode cX2_init 4 = .ok (.aload_n 0, 1) := by decide +kernel
theorem dX2_init_5 : decode cX2_init 5 = .ok (.new 9, 3) := by decide +kernel
theorem dX2_init_8 : decode cX2_init 8 = .ok (.dup, 1) := by decide +kernel
theorem dX2_init_9 : decode cX2_init 9 = .ok (.sipush 512, 3) := by decide +kernel
theorem dX2_init_12 : decode cX2_init 12 = .ok (.invokespecial 11, 3) := by decide +kernel
theorem dX2_init_15 : decode cX2_init 15 = .ok (.putfield 14, 3) := by decide +kernel
theorem dX2_init_18 : decode cX2_init 18 = .ok (.aload_n 0, 1) := by decide +kernel
theorem dX2_init_19 : decode cX2_init 19 = .ok (.iconst (-1), 1) := by decide +kernel
theorem dX2_init_20 : decode cX2_init 20 = .ok (.putfield 20, 3) := by decide +kernel
theorem dX2_init_23 : decode cX2_init 23 = .ok (.return_, 1) := by decide +kernel
set_option maxRecDepth 20000 in
theorem ggX2_forget_X4_clear : GoodIn wsX2_forget wsX4_clear := goodIn_r _ [6, 7, 18, 19, 20] (by decide +kernel) (by decide +kernel)
set_option maxRecDepth 20000 in
theorem gX2_forget_X4_clear : GoodIn wsX2_forget (wsV RX2 24 RX4 yX4_clear wsX4_clear) := goodIn_app (goodIn_of _ (by decide +kernel)) ggX2_forget_X4_clear
set_option maxRecDepth 20000 in
theorem ggX2_forget_X2_stop : GoodIn wsX2_forget wsX2_stop := goodIn_r _ [12, 13, 14, 15, 16, 17] (by decide +kernel) (by decide +kernel)
set_option maxRecDepth 20000 in
theorem gX2_forget_X2_stop : GoodIn wsX2_forget (wsV RX2 27 RX2 yX2_stop wsX2_stop) := goodIn_app (goodIn_of _ (by decide +kernel)) ggX2_forget_X2_stop
theorem dX2_forget_0 : decode cX2_forget 0 = .ok (.aload_n 0, 1) := by decide +kernel
theorem dX2_forget_1 : decode cX2_forget 1 = .ok (.getfield 14, 3) := by decide +kernel
theorem dX2_forget_4 : decode cX2_forget 4 = .ok (.invokevirtual 24, 3) := by decide +kernel
theorem dX2_forget_7 : decode cX2_forget 7 = .ok (.aload_n 0, 1) := by decide +kernel
theorem dX2_forget_8 : decode cX2_forget 8 = .ok (.invokevirtual 27, 3) := by decide +kernel
theorem dX2_forget_11 : decode cX2_forget 11 = .ok (.return_, 1) := by decide +kernel
theorem dX2_stop_0 : decode cX2_stop 0 = .ok (.aload_n 0, 1) := by decide +kernel
theorem dX2_stop_1 : decode cX2_stop 1 = .ok (.iconst 0, 1) := by decide +kernel
theorem dX2_stop_2 : decode cX2_stop 2 = .ok (.putfield 30, 3) := by decide +kernel
theorem dX2_stop_5 : decode cX2_stop 5 = .ok (.aload_n 0, 1) := by decide +kernel
theorem dX2_stop_6 : decode cX2_stop 6 = .ok (.iconst (-1), 1) := by decide +kernel
theorem dX2_stop_7 : decode cX2_stop 7 = .ok (.putfield 20, 3) := by decide +kernel
theorem dX2_stop_10 : decode cX2_stop 10 = .ok (.return_, 1) := by decide +kernel
set_option maxRecDepth 20000 in
theorem ggX2_start_X4_clear : GoodIn wsX2_start wsX4_clear := goodIn_r _ [8, 9, 13, 14, 15] (by decide +kernel) (by decide +kernel)
set_option maxRecDepth 20000 in
theorem gX2_start_X4_clear : GoodIn wsX2_start (wsV RX2 24 RX4 yX4_clear wsX4_clear) := goodIn_app (goodIn_of _ (by decide +kernel)) ggX2_start_X4_clear
theorem dX2_start_0 : decode cX2_start 0 = .ok (.aload_n 0, 1) := by decide +kernel
theorem dX2_start_1 : decode cX2_start 1 = .ok (.getfield 14, 3) := by decide +kernel
theorem dX2_start_4 : decode cX2_start 4 = .ok (.invokevirtual 24, 3) := by decide +kernel
theorem dX2_start_7 : decode cX2_start 7 = .ok (.aload_n 0, 1) := by decide +kernel
theorem dX2_start_8 : decode cX2_start 8 = .ok (.iconst 1, 1) := by decide +kernel
theorem dX2_start_9 : decode cX2_start 9 = .ok (.putfield 30, 3) := by decide +kernel
theorem dX2_start_12 : decode cX2_start 12 = .ok (.aload_n 0, 1) := by decide +kernel
theorem dX2_start_13 : decode cX2_start 13 = .ok (.iconst 0, 1) := by decide +kernel
theorem dX2_start_14 : decode cX2_start 14 = .ok (.putfield 20, 3) := by decide +kernel
theorem dX2_start_17 : decode cX2_start 17 = .ok (.return_, 1) := by decide +kernel
theorem dX2_isOpen_0 : decode cX2_isOpen 0 = .ok (.aload_n 0, 1) := by decide +kernel
theorem dX2_isOpen_1 : decode cX2_isOpen 1 = .ok (.getfield 30, 3) := by decide +kernel
theorem dX2_isOpen_4 : decode cX2_isOpen 4 = .ok (.ireturn, 1) := by decide +kernel
theorem dX2_asked_0 : decode cX2_asked 0 = .ok (.aload_n 0, 1) := by decide +kernel
theorem dX2_asked_1 : decode cX2_asked 1 = .ok (.getfield 20, 3) := by decide +kernel
theorem dX2_asked_4 : decode cX2_asked 4 = .ok (.ireturn, 1) := by decide +kernel
theorem dX2_agreed_0 : decode cX2_agreed 0 = .ok (.aload_n 0, 1) := by decide +kernel
theorem dX2_agreed_1 : decode cX2_agreed 1 = .ok (.getfield 14, 3) := by decide +kernel
theorem dX2_agreed_4 : decode cX2_agreed 4 = .ok (.areturn, 1) := by decide +kernel
set_option maxRecDepth 20000 in
theorem ggX2_agree_X4_append : GoodIn wsX2_agree wsX4_append := goodIn_r _ [7, 8, 9, 10, 14, 15, 16] (by decide +kernel) (by decide +kernel)
set_option maxRecDepth 20000 in
theorem gX2_agree_X4_append : GoodIn wsX2_agree (wsV RX2 34 RX4 yX4_append wsX4_append) := goodIn_app (goodIn_of _ (by decide +kernel)) ggX2_agree_X4_append
theorem dX2_agree_0 : decode cX2_agree 0 = .ok (.aload_n 0, 1) := by decide +kernel
theorem dX2_agree_1 : decode cX2_agree 1 = .ok (.getfield 14, 3) := by decide +kernel
theorem dX2_agree_4 : decode cX2_agree 4 = .ok (.aload_n 0, 1) := by decide +kernel
theorem dX2_agree_5 : decode cX2_agree 5 = .ok (.getfield 20, 3) := by decide +kernel
theorem dX2_agree_8 : decode cX2_agree 8 = .ok (.iload_n 1, 1) := by decide +kernel
theorem dX2_agree_9 : decode cX2_agree 9 = .ok (.invokevirtual 34, 3) := by decide +kernel
theorem dX2_agree_12 : decode cX2_agree 12 = .ok (.return_, 1) := by decide +kernel
set_option maxRecDepth 20000 in
theorem ggX2_isCounterexample_X5_hasAll : GoodIn wsX2_isCounterexample wsX5_hasAll := goodIn_r _ [6] (by decide +kernel) (by decide +kernel)
set_option maxRecDepth 20000 in
theorem gX2_isCounterexample_X5_hasAll : GoodIn wsX2_isCounterexample (va_wsS RX2 38 yX5_hasAll wsX5_hasAll) := goodIn_app (goodIn_of _ (by decide +kernel)) ggX2_isCounterexample_X5_hasAll
set_option maxRecDepth 20000 in
theorem ggX2_isCounterexample_X4_areKeptBy : GoodIn wsX2_isCounterexample wsX4_areKeptBy := goodIn_r _ [11, 12, 13, 14, 15, 4, 5, 6, 19, 20, 21] (by decide +kernel) (by decide +kernel)
set_option maxRecDepth 20000 in
theorem gX2_isCounterexample_X4_areKeptBy : GoodIn wsX2_isCounterexample (wsV RX2 44 RX4 yX4_areKeptBy wsX4_areKeptBy) := goodIn_app (goodIn_of _ (by decide +kernel)) ggX2_isCounterexample_X4_areKeptBy
theorem dX2_isCounterexample_0 : decode cX2_isCounterexample 0 = .ok (.iload_n 1, 1) := by decide +kernel
theorem dX2_isCounterexample_1 : decode cX2_isCounterexample 1 = .ok (.aload_n 0, 1) := by decide +kernel
theorem dX2_isCounterexample_2 : decode cX2_isCounterexample 2 = .ok (.getfield 20, 3) := by decide +kernel
theorem dX2_isCounterexample_5 : decode cX2_isCounterexample 5 = .ok (.invokestatic 38, 3) := by decide +kernel
theorem dX2_isCounterexample_8 : decode cX2_isCounterexample 8 = .ok (.ifCond .eq 26, 3) := by decide +kernel
theorem dX2_isCounterexample_11 : decode cX2_isCounterexample 11 = .ok (.iload_n 1, 1) := by decide +kernel
theorem dX2_isCounterexample_12 : decode cX2_isCounterexample 12 = .ok (.iload_n 2, 1) := by decide +kernel
theorem dX2_isCounterexample_13 : decode cX2_isCounterexample 13 = .ok (.invokestatic 38, 3) := by decide +kernel
theorem dX2_isCounterexample_16 : decode cX2_isCounterexample 16 = .ok (.ifCond .ne 18, 3) := by decide +kernel
theorem dX2_isCounterexample_19 : decode cX2_isCounterexample 19 = .ok (.aload_n 0, 1) := by decide +kernel
theorem dX2_isCounterexample_20 : decode cX2_isCounterexample 20 = .ok (.getfield 14, 3) := by decide +kernel
theorem dX2_isCounterexample_23 : decode cX2_isCounterexample 23 = .ok (.iload_n 1, 1) := by decide +kernel
theorem dX2_isCounterexample_24 : decode cX2_isCounterexample 24 = .ok (.invokevirtual 44, 3) := by decide +kernel
theorem dX2_isCounterexample_27 : decode cX2_isCounterexample 27 = .ok (.ifCond .eq 7, 3) := by decide +kernel
theorem dX2_isCounterexample_30 : decode cX2_isCounterexample 30 = .ok (.iconst 1, 1) := by decide +kernel
theorem dX2_isCounterexample_31 : decode cX2_isCounterexample 31 = .ok (.goto 4, 3) := by decide +kernel
theorem dX2_isCounterexample_34 : decode cX2_isCounterexample 34 = .ok (.iconst 0, 1) := by decide +kernel
theorem dX2_isCounterexample_35 : decode cX2_isCounterexample 35 = .ok (.ireturn, 1) := by decide +kernel
set_option maxRecDepth 20000 in
theorem ggX2_seek_X1_attributes : GoodIn wsX2_seek wsX1_attributes := goodIn_r _ [7, 8, 39, 40, 41, 42, 43] (by decide +kernel) (by decide +kernel)
set_option maxRecDepth 20000 in
theorem gX2_seek_X1_attributes : GoodIn wsX2_seek (wsV RX2 48 RX1 yX1_attributes wsX1_attributes) := goodIn_app (goodIn_of _ (by decide +kernel)) ggX2_seek_X1_attributes
set_option maxRecDepth 20000 in
theorem ggX2_seek_X1_isClosed : GoodIn wsX2_seek wsX1_isClosed := goodIn_r _ [12, 13, 14, 15, 6, 16, 17, 18, 19, 20, 21, 39, 40, 41, 42, 43] (by decide +kernel) (by decide +kernel)
set_option maxRecDepth 20000 in
theorem gX2_seek_X1_isClosed : GoodIn wsX2_seek (wsV RX2 54 RX1 yX1_isClosed wsX1_isClosed) := goodIn_app (goodIn_of _ (by decide +kernel)) ggX2_seek_X1_isClosed
set_option maxRecDepth 20000 in
theorem ggX2_seek_X4_areKeptBy : GoodIn wsX2_seek wsX4_areKeptBy := goodIn_r _ [26, 27, 28, 29, 30, 31, 20, 32, 44, 45, 46] (by decide +kernel) (by decide +kernel)
set_option maxRecDepth 20000 in
theorem gX2_seek_X4_areKeptBy : GoodIn wsX2_seek (wsV RX2 44 RX4 yX4_areKeptBy wsX4_areKeptBy) := goodIn_app (goodIn_of _ (by decide +kernel)) ggX2_seek_X4_areKeptBy
set_option maxRecDepth 20000 in
theorem ggX2_seek_X5_rightBehind : GoodIn wsX2_seek wsX5_rightBehind := goodIn_r _ [35] (by decide +kernel) (by decide +kernel)
set_option maxRecDepth 20000 in
theorem gX2_seek_X5_rightBehind : GoodIn wsX2_seek (va_wsS RX2 57 yX5_rightBehind wsX5_rightBehind) := goodIn_app (goodIn_of _ (by decide +kernel)) ggX2_seek_X5_rightBehind
theorem dX2_seek_0 : decode cX2_seek 0 = .ok (.aload_n 1, 1) := by decide +kernel
theorem dX2_seek_1 : decode cX2_seek 1 = .ok (.invokevirtual 48, 3) := by decide +kernel
theorem dX2_seek_4 : decode cX2_seek 4 = .ok (.istore_n 2, 1) := by decide +kernel
theorem dX2_seek_5 : decode cX2_seek 5 = .ok (.iconst 0, 1) := by decide +kernel
theorem dX2_seek_6 : decode cX2_seek 6 = .ok (.istore_n 3, 1) := by decide +kernel
theorem dX2_seek_7 : decode cX2_seek 7 = .ok (.iload_n 3, 1) := by decide +kernel
theorem dX2_seek_8 : decode cX2_seek 8 = .ok (.iconst 1, 1) := by decide +kernel
theorem dX2_seek_9 : decode cX2_seek 9 = .ok (.iload_n 2, 1) := by decide +kernel
theorem dX2_seek_10 : decode cX2_seek 10 = .ok (.ishl, 1) := by decide +kernel
theorem dX2_seek_11 : decode cX2_seek 11 = .ok (.if_icmp .ge 57, 3) := by decide +kernel
theorem dX2_seek_14 : decode cX2_seek 14 = .ok (.aload_n 0, 1) := by decide +kernel
theorem dX2_seek_15 : decode cX2_seek 15 = .ok (.getfield 20, 3) := by decide +kernel
theorem dX2_seek_18 : decode cX2_seek 18 = .ok (.iconst (-1), 1) := by decide +kernel
theorem dX2_seek_19 : decode cX2_seek 19 = .ok (.if_icmp .eq 49, 3) := by decide +kernel
theorem dX2_seek_22 : decode cX2_seek 22 = .ok (.aload_n 1, 1) := by decide +kernel
theorem dX2_seek_23 : decode cX2_seek 23 = .ok (.aload_n 0, 1) := by decide +kernel
theorem dX2_seek_24 : decode cX2_seek 24 = .ok (.getfield 20, 3) := by decide +kernel
theorem dX2_seek_27 : decode cX2_seek 27 = .ok (.invokevirtual 54, 3) := by decide +kernel
theorem dX2_seek_30 : decode cX2_seek 30 = .ok (.ifCond .ne 20, 3) := by decide +kernel
theorem dX2_seek_33 : decode cX2_seek 33 = .ok (.aload_n 0, 1) := by decide +kernel
theorem dX2_seek_34 : decode cX2_seek 34 = .ok (.getfield 14, 3) := by decide +kernel
theorem dX2_seek_37 : decode cX2_seek 37 = .ok (.aload_n 0, 1) := by decide +kernel
theorem dX2_seek_38 : decode cX2_seek 38 = .ok (.getfield 20, 3) := by decide +kernel
theorem dX2_seek_41 : decode cX2_seek 41 = .ok (.invokevirtual 44, 3) := by decide +kernel
theorem dX2_seek_44 : decode cX2_seek 44 = .ok (.ifCond .eq 6, 3) := by decide +kernel
theorem dX2_seek_47 : decode cX2_seek 47 = .ok (.goto 21, 3) := by decide +kernel
theorem dX2_seek_50 : decode cX2_seek 50 = .ok (.aload_n 0, 1) := by decide +kernel
theorem dX2_seek_51 : decode cX2_seek 51 = .ok (.aload_n 0, 1) := by decide +kernel
theorem dX2_seek_52 : decode cX2_seek 52 = .ok (.getfield 20, 3) := by decide +kernel
theorem dX2_seek_55 : decode cX2_seek 55 = .ok (.iload_n 2, 1) := by decide +kernel
theorem dX2_seek_56 : decode cX2_seek 56 = .ok (.invokestatic 57, 3) := by decide +kernel
theorem dX2_seek_59 : decode cX2_seek 59 = .ok (.putfield 20, 3) := by decide +kernel
theorem dX2_seek_62 : decode cX2_seek 62 = .ok (.iinc 3 1, 3) := by decide +kernel
theorem dX2_seek_65 : decode cX2_seek 65 = .ok (.goto (-58), 3) := by decide +kernel
theorem dX2_seek_68 : decode cX2_seek 68 = .ok (.aload_n 0, 1) := by decide +kernel
theorem dX2_seek_69 : decode cX2_seek 69 = .ok (.getfield 20, 3) := by decide +kernel
theorem dX2_seek_72 : decode cX2_seek 72 = .ok (.ireturn, 1) := by decide +kernel
theorem dX3_init_0 : decode cX3_init 0 = .ok (.aload_n 0, 1) := by decide +kernel
theorem dX3_init_1 : decode cX3_init 1 = .ok (.invokespecial 3, 3) := by decide +kernel
theorem dX3_init_4 : decode cX3_init 4 = .ok (.aload_n 0, 1) := by decide +kernel
theorem dX3_init_5 : decode cX3_init 5 = .ok (.bipush 20, 2) := by decide +kernel
theorem dX3_init_7 : decode cX3_init 7 = .ok (.newarray .int, 2) := by decide +kernel
theorem dX3_init_9 : decode cX3_init 9 = .ok (.putfield 9, 3) := by decide +kernel
theorem dX3_init_12 : decode cX3_init 12 = .ok (.return_, 1) := by decide +kernel
theorem dX3_size_0 : decode cX3_size 0 = .ok (.aload_n 0, 1) := by decide +kernel
theorem dX3_size_1 : decode cX3_size 1 = .ok (.getfield 15, 3) := by decide +kernel
theorem dX3_size_4 : decode cX3_size 4 = .ok (.ireturn, 1) := by decide +kernel
theorem dX3_member_0 : decode cX3_member 0 = .ok (.iload_n 1, 1) := by decide +kernel
theorem dX3_member_1 : decode cX3_member 1 = .ok (.ifCond .lt 20, 3) := by decide +kernel
theorem dX3_member_4 : decode cX3_member 4 = .ok (.iload_n 1, 1) := by decide +kernel
theorem dX3_member_5 : decode cX3_member 5 = .ok (.aload_n 0, 1) := by decide +kernel
theorem dX3_member_6 : decode cX3_member 6 = .ok (.getfield 15, 3) := by decide +kernel
theorem dX3_member_9 : decode cX3_member 9 = .ok (.if_icmp .ge 12, 3) := by decide +kernel
theorem dX3_member_12 : decode cX3_member 12 = .ok (.aload_n 0, 1) := by decide +kernel
theorem dX3_member_13 : decode cX3_member 13 = .ok (.getfield 9, 3) := by decide +kernel
theorem dX3_member_16 : decode cX3_member 16 = .ok (.iload_n 1, 1) := by decide +kernel
theorem dX3_member_17 : decode cX3_member 17 = .ok (.iaload, 1) := by decide +kernel
theorem dX3_member_18 : decode cX3_member 18 = .ok (.goto 4, 3) := by decide +kernel
theorem dX3_member_21 : decode cX3_member 21 = .ok (.iconst (-1), 1) := by decide +kernel
theorem dX3_member_22 : decode cX3_member 22 = .ok (.ireturn, 1) := by decide +kernel
set_option maxRecDepth 20000 in
theorem ggX3_findAbove_X6_size : GoodIn wsX3_findAbove wsX6_size := goodIn_r _ [6, 7, 40, 41, 42] (by decide +kernel) (by decide +kernel)
set_option maxRecDepth 20000 in
theorem gX3_findAbove_X6_size : GoodIn wsX3_findAbove (wsV RX3 19 RX6 yX6_size wsX6_size) := goodIn_app (goodIn_of _ (by decide +kernel)) ggX3_findAbove_X6_size
set_option maxRecDepth 20000 in
theorem ggX3_findAbove_X6_row : GoodIn wsX3_findAbove wsX6_row := goodIn_r _ [11, 7, 12, 40, 41, 42] (by decide +kernel) (by decide +kernel)
set_option maxRecDepth 20000 in
theorem gX3_findAbove_X6_row : GoodIn wsX3_findAbove (wsV RX3 24 RX6 yX6_row wsX6_row) := goodIn_app (goodIn_of _ (by decide +kernel)) ggX3_findAbove_X6_row
set_option maxRecDepth 20000 in
theorem ggX3_findAbove_X3_offer : GoodIn wsX3_findAbove wsX3_offer := goodIn_r _ [17, 18, 19, 20, 16, 21, 1, 22, 23, 24, 25, 26, 27, 28, 29, 30, 31, 32, 33, 34, 35, 36, 37, 38, 39] (by decide +kernel) (by decide +kernel)
set_option maxRecDepth 20000 in
theorem gX3_findAbove_X3_offer : GoodIn wsX3_findAbove (wsV RX3 28 RX3 yX3_offer wsX3_offer) := goodIn_app (goodIn_of _ (by decide +kernel)) ggX3_findAbove_X3_offer
theorem dX3_findAbove_0 : decode cX3_findAbove 0 = .ok (.aload_n 0, 1) := by decide +kernel
theorem dX3_findAbove_1 : decode cX3_findAbove 1 = .ok (.iconst 0, 1) := by decide +kernel
theorem dX3_findAbove_2 : decode cX3_findAbove 2 = .ok (.putfield 15, 3) := by decide +kernel
theorem dX3_findAbove_5 : decode cX3_findAbove 5 = .ok (.iconst 0, 1) := by decide +kernel
theorem dX3_findAbove_6 : decode cX3_findAbove 6 = .ok (.istore_n 3, 1) := by decide +kernel
theorem dX3_findAbove_7 : decode cX3_findAbove 7 = .ok (.iload_n 3, 1) := by decide +kernel
theorem dX3_findAbove_8 : decode cX3_findAbove 8 = .ok (.aload_n 2, 1) := by decide +kernel
theorem dX3_findAbove_9 : decode cX3_findAbove 9 = .ok (.invokevirtual 19, 3) := by decide +kernel
theorem dX3_findAbove_12 : decode cX3_findAbove 12 = .ok (.if_icmp .ge 30, 3) := by decide +kernel
theorem dX3_findAbove_15 : decode cX3_findAbove 15 = .ok (.iload_n 1, 1) := by decide +kernel
theorem dX3_findAbove_16 : decode cX3_findAbove 16 = .ok (.aload_n 2, 1) := by decide +kernel
theorem dX3_findAbove_17 : decode cX3_findAbove 17 = .ok (.iload_n 3, 1) := by decide +kernel
theorem dX3_findAbove_18 : decode cX3_findAbove 18 = .ok (.invokevirtual 24, 3) := by decide +kernel
theorem dX3_findAbove_21 : decode cX3_findAbove 21 = .ok (.iand, 1) := by decide +kernel
theorem dX3_findAbove_22 : decode cX3_findAbove 22 = .ok (.istore 4, 2) := by decide +kernel
theorem dX3_findAbove_24 : decode cX3_findAbove 24 = .ok (.iload 4, 2) := by decide +kernel
theorem dX3_findAbove_26 : decode cX3_findAbove 26 = .ok (.iload_n 1, 1) := by decide +kernel
theorem dX3_findAbove_27 : decode cX3_findAbove 27 = .ok (.if_icmp .eq 9, 3) := by decide +kernel
theorem dX3_findAbove_30 : decode cX3_findAbove 30 = .ok (.aload_n 0, 1) := by decide +kernel
theorem dX3_findAbove_31 : decode cX3_findAbove 31 = .ok (.iload 4, 2) := by decide +kernel
theorem dX3_findAbove_33 : decode cX3_findAbove 33 = .ok (.invokevirtual 28, 3) := by decide +kernel
theorem dX3_findAbove_36 : decode cX3_findAbove 36 = .ok (.iinc 3 1, 3) := by decide +kernel
theorem dX3_findAbove_39 : decode cX3_findAbove 39 = .ok (.goto (-32), 3) := by decide +kernel
theorem dX3_findAbove_42 : decode cX3_findAbove 42 = .ok (.return_, 1) := by decide +kernel
set_option maxRecDepth 20000 in
theorem ggX3_findBelow_X6_allAttributes : GoodIn wsX3_findBelow wsX6_allAttributes := goodIn_r _ [6, 7, 8, 9, 10, 11, 50, 51, 52] (by decide +kernel) (by decide +kernel)
set_option maxRecDepth 20000 in
theorem gX3_findBelow_X6_allAttributes : GoodIn wsX3_findBelow (wsV RX3 32 RX6 yX6_allAttributes wsX6_allAttributes) := goodIn_app (goodIn_of _ (by decide +kernel)) ggX3_findBelow_X6_allAttributes
set_option maxRecDepth 20000 in
theorem ggX3_findBelow_X6_attributes : GoodIn wsX3_findBelow wsX6_attributes := goodIn_r _ [15, 7, 50, 51, 52] (by decide +kernel) (by decide +kernel)
set_option maxRecDepth 20000 in
theorem gX3_findBelow_X6_attributes : GoodIn wsX3_findBelow (wsV RX3 35 RX6 yX6_attributes wsX6_attributes) := goodIn_app (goodIn_of _ (by decide +kernel)) ggX3_findBelow_X6_attributes
set_option maxRecDepth 20000 in
theorem ggX3_findBelow_X6_closureOf : GoodIn wsX3_findBelow wsX6_closureOf := goodIn_r _ [19, 20, 21, 22, 3, 4, 5, 6, 7, 8, 9, 10, 11, 23, 24, 25, 50, 51, 52] (by decide +kernel) (by decide +kernel)
set_option maxRecDepth 20000 in
theorem gX3_findBelow_X6_closureOf : GoodIn wsX3_findBelow (wsV RX3 38 RX6 yX6_closureOf wsX6_closureOf) := goodIn_app (goodIn_of _ (by decide +kernel)) ggX3_findBelow_X6_closureOf
set_option maxRecDepth 20000 in
theorem ggX3_findBelow_X3_offer : GoodIn wsX3_findBelow wsX3_offer := goodIn_r _ [30, 31, 32, 33, 29, 34, 1, 35, 36, 24, 10, 25, 37, 38, 39, 40, 41, 42, 43, 44, 45, 46, 47, 48, 49] (by decide +kernel) (by decide +kernel)
set_option maxRecDepth 20000 in
theorem gX3_findBelow_X3_offer : GoodIn wsX3_findBelow (wsV RX3 28 RX3 yX3_offer wsX3_offer) := goodIn_app (goodIn_of _ (by decide +kernel)) ggX3_findBelow_X3_offer
theorem dX3_findBelow_0 : decode cX3_findBelow 0 = .ok (.aload_n 2, 1) := by decide +kernel
theorem dX3_findBelow_1 : decode cX3_findBelow 1 = .ok (.invokevirtual 32, 3) := by decide +kernel
theorem dX3_findBelow_4 : decode cX3_findBelow 4 = .ok (.istore_n 3, 1) := by decide +kernel
theorem dX3_findBelow_5 : decode cX3_findBelow 5 = .ok (.aload_n 0, 1) := by decide +kernel
theorem dX3_findBelow_6 : decode cX3_findBelow 6 = .ok (.iconst 0, 1) := by decide +kernel
theorem dX3_findBelow_7 : decode cX3_findBelow 7 = .ok (.putfield 15, 3) := by decide +kernel
theorem dX3_findBelow_10 : decode cX3_findBelow 10 = .ok (.iconst 0, 1) := by decide +kernel
theorem dX3_findBelow_11 : decode cX3_findBelow 11 = .ok (.istore 4, 2) := by decide +kernel
theorem dX3_findBelow_13 : decode cX3_findBelow 13 = .ok (.iload 4, 2) := by decide +kernel
theorem dX3_findBelow_15 : decode cX3_findBelow 15 = .ok (.aload_n 2, 1) := by decide +kernel
theorem dX3_findBelow_16 : decode cX3_findBelow 16 = .ok (.invokevirtual 35, 3) := by decide +kernel
theorem dX3_findBelow_19 : decode cX3_findBelow 19 = .ok (.if_icmp .ge 36, 3) := by decide +kernel
theorem dX3_findBelow_22 : decode cX3_findBelow 22 = .ok (.iconst 1, 1) := by decide +kernel
theorem dX3_findBelow_23 : decode cX3_findBelow 23 = .ok (.iload 4, 2) := by decide +kernel
theorem dX3_findBelow_25 : decode cX3_findBelow 25 = .ok (.ishl, 1) := by decide +kernel
theorem dX3_findBelow_26 : decode cX3_findBelow 26 = .ok (.istore 5, 2) := by decide +kernel
theorem dX3_findBelow_28 : decode cX3_findBelow 28 = .ok (.iload_n 1, 1) := by decide +kernel
theorem dX3_findBelow_29 : decode cX3_findBelow 29 = .ok (.iload 5, 2) := by decide +kernel
theorem dX3_findBelow_31 : decode cX3_findBelow 31 = .ok (.iand, 1) := by decide +kernel
theorem dX3_findBelow_32 : decode cX3_findBelow 32 = .ok (.ifCond .ne 17, 3) := by decide +kernel
theorem dX3_findBelow_35 : decode cX3_findBelow 35 = .ok (.aload_n 0, 1) := by decide +kernel
theorem dX3_findBelow_36 : decode cX3_findBelow 36 = .ok (.iload_n 3, 1) := by decide +kernel
theorem dX3_findBelow_37 : decode cX3_findBelow 37 = .ok (.aload_n 2, 1) := by decide +kernel
theorem dX3_findBelow_38 : decode cX3_findBelow 38 = .ok (.iload_n 1, 1) := by decide +kernel
theorem dX3_findBelow_39 : decode cX3_findBelow 39 = .ok (.iload 5, 2) := by decide +kernel
theorem dX3_findBelow_41 : decode cX3_findBelow 41 = .ok (.ior, 1) := by decide +kernel
theorem dX3_findBelow_42 : decode cX3_findBelow 42 = .ok (.invokevirtual 38, 3) := by decide +kernel
theorem dX3_findBelow_45 : decode cX3_findBelow 45 = .ok (.ixor, 1) := by decide +kernel
theorem dX3_findBelow_46 : decode cX3_findBelow 46 = .ok (.invokevirtual 28, 3) := by decide +kernel
theorem dX3_findBelow_49 : decode cX3_findBelow 49 = .ok (.iinc 4 1, 3) := by decide +kernel
theorem dX3_findBelow_52 : decode cX3_findBelow 52 = .ok (.goto (-39), 3) := by decide +kernel
theorem dX3_findBelow_55 : decode cX3_findBelow 55 = .ok (.return_, 1) := by decide +kernel
set_option maxRecDepth 20000 in
theorem ggX3_offer_X3_isPartOfFound : GoodIn wsX3_offer wsX3_isPartOfFound := goodIn_r _ [5, 6, 7, 8, 9, 10, 11, 23, 24] (by decide +kernel) (by decide +kernel)
set_option maxRecDepth 20000 in
theorem gX3_offer_X3_isPartOfFound : GoodIn wsX3_offer (wsV RX3 41 RX3 yX3_isPartOfFound wsX3_isPartOfFound) := goodIn_app (goodIn_of _ (by decide +kernel)) ggX3_offer_X3_isPartOfFound
set_option maxRecDepth 20000 in
theorem ggX3_offer_X3_dropPartsOf : GoodIn wsX3_offer wsX3_dropPartsOf := goodIn_r _ [15, 6, 7, 8, 9, 10, 11, 23, 24] (by decide +kernel) (by decide +kernel)
set_option maxRecDepth 20000 in
theorem gX3_offer_X3_dropPartsOf : GoodIn wsX3_offer (wsV RX3 45 RX3 yX3_dropPartsOf wsX3_dropPartsOf) := goodIn_app (goodIn_of _ (by decide +kernel)) ggX3_offer_X3_dropPartsOf
set_option maxRecDepth 20000 in
theorem ggX3_offer_X3_insert : GoodIn wsX3_offer wsX3_insert := goodIn_r _ [19, 6, 7, 20, 21, 10, 22, 23, 24] (by decide +kernel) (by decide +kernel)
set_option maxRecDepth 20000 in
theorem gX3_offer_X3_insert : GoodIn wsX3_offer (wsV RX3 48 RX3 yX3_insert wsX3_insert) := goodIn_app (goodIn_of _ (by decide +kernel)) ggX3_offer_X3_insert
theorem dX3_offer_0 : decode cX3_offer 0 = .ok (.aload_n 0, 1) := by decide +kernel
theorem dX3_offer_1 : decode cX3_offer 1 = .ok (.iload_n 1, 1) := by decide +kernel
theorem dX3_offer_2 : decode cX3_offer 2 = .ok (.invokevirtual 41, 3) := by decide +kernel
theorem dX3_offer_5 : decode cX3_offer 5 = .ok (.ifCond .ne 13, 3) := by decide +kernel
theorem dX3_offer_8 : decode cX3_offer 8 = .ok (.aload_n 0, 1) := by decide +kernel
theorem dX3_offer_9 : decode cX3_offer 9 = .ok (.iload_n 1, 1) := by decide +kernel
theorem dX3_offer_10 : decode cX3_offer 10 = .ok (.invokevirtual 45, 3) := by decide +kernel
theorem dX3_offer_13 : decode cX3_offer 13 = .ok (.aload_n 0, 1) := by decide +kernel
theorem dX3_offer_14 : decode cX3_offer 14 = .ok (.iload_n 1, 1) := by decide +kernel
theorem dX3_offer_15 : decode cX3_offer 15 = .ok (.invokevirtual 48, 3) := by decide +kernel
theorem dX3_offer_18 : decode cX3_offer 18 = .ok (.return_, 1) := by decide +kernel
set_option maxRecDepth 20000 in
theorem ggX3_isPartOfFound_X5_hasAll : GoodIn wsX3_isPartOfFound wsX5_hasAll := goodIn_r _ [6] (by decide +kernel) (by decide +kernel)
set_option maxRecDepth 20000 in
theorem gX3_isPartOfFound_X5_hasAll : GoodIn wsX3_isPartOfFound (va_wsS RX3 51 yX5_hasAll wsX5_hasAll) := goodIn_app (goodIn_of _ (by decide +kernel)) ggX3_isPartOfFound_X5_hasAll
theorem dX3_isPartOfFound_0 : decode cX3_isPartOfFound 0 = .ok (.iconst 0, 1) := by decide +kernel
theorem dX3_isPartOfFound_1 : decode cX3_isPartOfFound 1 = .ok (.istore_n 2, 1) := by decide +kernel
theorem dX3_isPartOfFound_2 : decode cX3_isPartOfFound 2 = .ok (.iload_n 2, 1) := by decide +kernel
theorem dX3_isPartOfFound_3 : decode cX3_isPartOfFound 3 = .ok (.aload_n 0, 1) := by decide +kernel
theorem dX3_isPartOfFound_4 : decode cX3_isPartOfFound 4 = .ok (.getfield 15, 3) := by decide +kernel
theorem dX3_isPartOfFound_7 : decode cX3_isPartOfFound 7 = .ok (.if_icmp .ge 24, 3) := by decide +kernel
theorem dX3_isPartOfFound_10 : decode cX3_isPartOfFound 10 = .ok (.aload_n 0, 1) := by decide +kernel
theorem dX3_isPartOfFound_11 : decode cX3_isPartOfFound 11 = .ok (.getfield 9, 3) := by decide +kernel
theorem dX3_isPartOfFound_14 : decode cX3_isPartOfFound 14 = .ok (.iload_n 2, 1) := by decide +kernel
theorem dX3_isPartOfFound_15 : decode cX3_isPartOfFound 15 = .ok (.iaload, 1) := by decide +kernel
theorem dX3_isPartOfFound_16 : decode cX3_isPartOfFound 16 = .ok (.iload_n 1, 1) := by decide +kernel
theorem dX3_isPartOfFound_17 : decode cX3_isPartOfFound 17 = .ok (.invokestatic 51, 3) := by decide +kernel
theorem dX3_isPartOfFound_20 : decode cX3_isPartOfFound 20 = .ok (.ifCond .eq 5, 3) := by decide +kernel
theorem dX3_isPartOfFound_23 : decode cX3_isPartOfFound 23 = .ok (.iconst 1, 1) := by decide +kernel
theorem dX3_isPartOfFound_24 : decode cX3_isPartOfFound 24 = .ok (.ireturn, 1) := by decide +kernel
theorem dX3_isPartOfFound_25 : decode cX3_isPartOfFound 25 = .ok (.iinc 2 1, 3) := by decide +kernel
theorem dX3_isPartOfFound_28 : decode cX3_isPartOfFound 28 = .ok (.goto (-26), 3) := by decide +kernel
theorem dX3_isPartOfFound_31 : decode cX3_isPartOfFound 31 = .ok (.iconst 0, 1) := by decide +kernel
theorem dX3_isPartOfFound_32 : decode cX3_isPartOfFound 32 = .ok (.ireturn, 1) := by decide +kernel
set_option maxRecDepth 20000 in
theorem ggX3_dropPartsOf_X5_hasAll : GoodIn wsX3_dropPartsOf wsX5_hasAll := goodIn_r _ [6] (by decide +kernel) (by decide +kernel)
set_option maxRecDepth 20000 in
theorem gX3_dropPartsOf_X5_hasAll : GoodIn wsX3_dropPartsOf (va_wsS RX3 51 yX5_hasAll wsX5_hasAll) := goodIn_app (goodIn_of _ (by decide +kernel)) ggX3_dropPartsOf_X5_hasAll
theorem dX3_dropPartsOf_0 : decode cX3_dropPartsOf 0 = .ok (.iconst 0, 1) := by decide +kernel
theorem dX3_dropPartsOf_1 : decode cX3_dropPartsOf 1 = .ok (.istore_n 2, 1) := by decide +kernel
theorem dX3_dropPartsOf_2 : decode cX3_dropPartsOf 2 = .ok (.iconst 0, 1) := by decide +kernel
theorem dX3_dropPartsOf_3 : decode cX3_dropPartsOf 3 = .ok (.istore_n 3, 1) := by decide +kernel
theorem dX3_dropPartsOf_4 : decode cX3_dropPartsOf 4 = .ok (.iload_n 3, 1) := by decide +kernel
theorem dX3_dropPartsOf_5 : decode cX3_dropPartsOf 5 = .ok (.aload_n 0, 1) := by decide +kernel
theorem dX3_dropPartsOf_6 : decode cX3_dropPartsOf 6 = .ok (.getfield 15, 3) := by decide +kernel
theorem dX3_dropPartsOf_9 : decode cX3_dropPartsOf 9 = .ok (.if_icmp .ge 37, 3) := by decide +kernel
theorem dX3_dropPartsOf_12 : decode cX3_dropPartsOf 12 = .ok (.iload_n 1, 1) := by decide +kernel
theorem dX3_dropPartsOf_13 : decode cX3_dropPartsOf 13 = .ok (.aload_n 0, 1) := by decide +kernel
theorem dX3_dropPartsOf_14 : decode cX3_dropPartsOf 14 = .ok (.getfield 9, 3) := by decide +kernel
theorem dX3_dropPartsOf_17 : decode cX3_dropPartsOf 17 = .ok (.iload_n 3, 1) := by decide +kernel
theorem dX3_dropPartsOf_18 : decode cX3_dropPartsOf 18 = .ok (.iaload, 1) := by decide +kernel
theorem dX3_dropPartsOf_19 : decode cX3_dropPartsOf 19 = .ok (.invokestatic 51, 3) := by decide +kernel
theorem dX3_dropPartsOf_22 : decode cX3_dropPartsOf 22 = .ok (.ifCond .ne 18, 3) := by decide +kernel
theorem dX3_dropPartsOf_25 : decode cX3_dropPartsOf 25 = .ok (.aload_n 0, 1) := by decide +kernel
theorem dX3_dropPartsOf_26 : decode cX3_dropPartsOf 26 = .ok (.getfield 9, 3) := by decide +kernel
theorem dX3_dropPartsOf_29 : decode cX3_dropPartsOf 29 = .ok (.iload_n 2, 1) := by decide +kernel
theorem dX3_dropPartsOf_30 : decode cX3_dropPartsOf 30 = .ok (.aload_n 0, 1) := by decide +kernel
theorem dX3_dropPartsOf_31 : decode cX3_dropPartsOf 31 = .ok (.getfield 9, 3) := by decide +kernel
theorem dX3_dropPartsOf_34 : decode cX3_dropPartsOf 34 = .ok (.iload_n 3, 1) := by decide +kernel
theorem dX3_dropPartsOf_35 : decode cX3_dropPartsOf 35 = .ok (.iaload, 1) := by decide +kernel
theorem dX3_dropPartsOf_36 : decode cX3_dropPartsOf 36 = .ok (.iastore, 1) := by decide +kernel
theorem dX3_dropPartsOf_37 : decode cX3_dropPartsOf 37 = .ok (.iinc 2 1, 3) := by decide +kernel
theorem dX3_dropPartsOf_40 : decode cX3_dropPartsOf 40 = .ok (.iinc 3 1, 3) := by decide +kernel
theorem dX3_dropPartsOf_43 : decode cX3_dropPartsOf 43 = .ok (.goto (-39), 3) := by decide +kernel
theorem dX3_dropPartsOf_46 : decode cX3_dropPartsOf 46 = .ok (.aload_n 0, 1) := by decide +kernel
theorem dX3_dropPartsOf_47 : decode cX3_dropPartsOf 47 = .ok (.iload_n 2, 1) := by decide +kernel
theorem dX3_dropPartsOf_48 : decode cX3_dropPartsOf 48 = .ok (.putfield 15, 3) := by decide +kernel
theorem dX3_dropPartsOf_51 : decode cX3_dropPartsOf 51 = .ok (.return_, 1) := by decide +kernel
set_option maxRecDepth 20000 in
theorem ggX3_insert_X5_comesLater : GoodIn wsX3_insert wsX5_comesLater := goodIn_r _ [6] (by decide +kernel) (by decide +kernel)
set_option maxRecDepth 20000 in
theorem gX3_insert_X5_comesLater : GoodIn wsX3_insert (va_wsS RX3 57 yX5_comesLater wsX5_comesLater) := goodIn_app (goodIn_of _ (by decide +kernel)) ggX3_insert_X5_comesLater
theorem dX3_insert_0 : decode cX3_insert 0 = .ok (.aload_n 0, 1) := by decide +kernel
theorem dX3_insert_1 : decode cX3_insert 1 = .ok (.getfield 15, 3) := by decide +kernel
theorem dX3_insert_4 : decode cX3_insert 4 = .ok (.aload_n 0, 1) := by decide +kernel
theorem dX3_insert_5 : decode cX3_insert 5 = .ok (.getfield 9, 3) := by decide +kernel
theorem dX3_insert_8 : decode cX3_insert 8 = .ok (.arraylength, 1) := by decide +kernel
theorem dX3_insert_9 : decode cX3_insert 9 = .ok (.if_icmp .lt 4, 3) := by decide +kernel
theorem dX3_insert_12 : decode cX3_insert 12 = .ok (.return_, 1) := by decide +kernel
theorem dX3_insert_13 : decode cX3_insert 13 = .ok (.aload_n 0, 1) := by decide +kernel
theorem dX3_insert_14 : decode cX3_insert 14 = .ok (.getfield 15, 3) := by decide +kernel
theorem dX3_insert_17 : decode cX3_insert 17 = .ok (.istore_n 2, 1) := by decide +kernel
theorem dX3_insert_18 : decode cX3_insert 18 = .ok (.iload_n 2, 1) := by decide +kernel
theorem dX3_insert_19 : decode cX3_insert 19 = .ok (.ifCond .le 38, 3) := by decide +kernel
theorem dX3_insert_22 : decode cX3_insert 22 = .ok (.aload_n 0, 1) := by decide +kernel
theorem dX3_insert_23 : decode cX3_insert 23 = .ok (.getfield 9, 3) := by decide +kernel
theorem dX3_insert_26 : decode cX3_insert 26 = .ok (.iload_n 2, 1) := by decide +kernel
theorem dX3_insert_27 : decode cX3_insert 27 = .ok (.iconst 1, 1) := by decide +kernel
theorem dX3_insert_28 : decode cX3_insert 28 = .ok (.isub, 1) := by decide +kernel
theorem dX3_insert_29 : decode cX3_insert 29 = .ok (.iaload, 1) := by decide +kernel
theorem dX3_insert_30 : decode cX3_insert 30 = .ok (.iload_n 1, 1) := by decide +kernel
theorem dX3_insert_31 : decode cX3_insert 31 = .ok (.invokestatic 57, 3) := by decide +kernel
theorem dX3_insert_34 : decode cX3_insert 34 = .ok (.ifCond .eq 23, 3) := by decide +kernel
theorem dX3_insert_37 : decode cX3_insert 37 = .ok (.aload_n 0, 1) := by decide +kernel
theorem dX3_insert_38 : decode cX3_insert 38 = .ok (.getfield 9, 3) := by decide +kernel
theorem dX3_insert_41 : decode cX3_insert 41 = .ok (.iload_n 2, 1) := by decide +kernel
theorem dX3_insert_42 : decode cX3_insert 42 = .ok (.aload_n 0, 1) := by decide +kernel
theorem dX3_insert_43 : decode cX3_insert 43 = .ok (.getfield 9, 3) := by decide +kernel
theorem dX3_insert_46 : decode cX3_insert 46 = .ok (.iload_n 2, 1) := by decide +kernel
theorem dX3_insert_47 : decode cX3_insert 47 = .ok (.iconst 1, 1) := by decide +kernel
theorem dX3_insert_48 : decode cX3_insert 48 = .ok (.isub, 1) := by decide +kernel
theorem dX3_insert_49 : decode cX3_insert 49 = .ok (.iaload, 1) := by decide +kernel
theorem dX3_insert_50 : decode cX3_insert 50 = .ok (.iastore, 1) := by decide +kernel
theorem dX3_insert_51 : decode cX3_insert 51 = .ok (.iinc 2 (-1), 3) := by decide +kernel
theorem dX3_insert_54 : decode cX3_insert 54 = .ok (.goto (-36), 3) := by decide +kernel
theorem dX3_insert_57 : decode cX3_insert 57 = .ok (.aload_n 0, 1) := by decide +kernel
theorem dX3_insert_58 : decode cX3_insert 58 = .ok (.getfield 9, 3) := by decide +kernel
theorem dX3_insert_61 : decode cX3_insert 61 = .ok (.iload_n 2, 1) := by decide +kernel
theorem dX3_insert_62 : decode cX3_insert 62 = .ok (.iload_n 1, 1) := by decide +kernel
theorem dX3_insert_63 : decode cX3_insert 63 = .ok (.iastore, 1) := by decide +kernel
theorem dX3_insert_64 : decode cX3_insert 64 = .ok (.aload_n 0, 1) := by decide +kernel
theorem dX3_insert_65 : decode cX3_insert 65 = .ok (.dup, 1) := by decide +kernel
theorem dX3_insert_66 : decode cX3_insert 66 = .ok (.getfield 15, 3) := by decide +kernel
theorem dX3_insert_69 : decode cX3_insert 69 = .ok (.iconst 1, 1) := by decide +kernel
theorem dX3_insert_70 : decode cX3_insert 70 = .ok (.iadd, 1) := by decide +kernel
theorem dX3_insert_71 : decode cX3_insert 71 = .ok (.putfield 15, 3) := by decide +kernel
theorem dX3_insert_74 : decode cX3_insert 74 = .ok (.return_, 1) := by decide +kernel
theorem dX4_init_0 : decode cX4_init 0 = .ok (.aload_n 0, 1) := by decide +kernel
theorem dX4_init_1 : decode cX4_init 1 = .ok (.invokespecial 3, 3) := by decide +kernel
theorem dX4_init_4 : decode cX4_init 4 = .ok (.iload_n 1, 1) := by decide +kernel
theorem dX4_init_5 : decode cX4_init 5 = .ok (.iconst 0, 1) := by decide +kernel
theorem dX4_init_6 : decode cX4_init 6 = .ok (.invokestatic 9, 3) := by decide +kernel
theorem dX4_init_9 : decode cX4_init 9 = .ok (.istore_n 2, 1) := by decide +kernel
theorem dX4_init_10 : decode cX4_init 10 = .ok (.aload_n 0, 1) := by decide +kernel
theorem dX4_init_11 : decode cX4_init 11 = .ok (.iload_n 2, 1) := by decide +kernel
theorem dX4_init_12 : decode cX4_init 12 = .ok (.newarray .int, 2) := by decide +kernel
theorem dX4_init_14 : decode cX4_init 14 = .ok (.putfield 15, 3) := by decide +kernel
theorem dX4_init_17 : decode cX4_init 17 = .ok (.aload_n 0, 1) := by decide +kernel
theorem dX4_init_18 : decode cX4_init 18 = .ok (.iload_n 2, 1) := by decide +kernel
theorem dX4_init_19 : decode cX4_init 19 = .ok (.newarray .int, 2) := by decide +kernel
theorem dX4_init_21 : decode cX4_init 21 = .ok (.putfield 21, 3) := by decide +kernel
theorem dX4_init_24 : decode cX4_init 24 = .ok (.return_, 1) := by decide +kernel
theorem dX4_clear_0 : decode cX4_clear 0 = .ok (.aload_n 0, 1) := by decide +kernel
theorem dX4_clear_1 : decode cX4_clear 1 = .ok (.iconst 0, 1) := by decide +kernel
theorem dX4_clear_2 : decode cX4_clear 2 = .ok (.putfield 24, 3) := by decide +kernel
theorem dX4_clear_5 : decode cX4_clear 5 = .ok (.return_, 1) := by decide +kernel
theorem dX4_append_0 : decode cX4_append 0 = .ok (.aload_n 0, 1) := by decide +kernel
theorem dX4_append_1 : decode cX4_append 1 = .ok (.getfield 24, 3) := by decide +kernel
theorem dX4_append_4 : decode cX4_append 4 = .ok (.aload_n 0, 1) := by decide +kernel
theorem dX4_append_5 : decode cX4_append 5 = .ok (.getfield 15, 3) := by decide +kernel
theorem dX4_append_8 : decode cX4_append 8 = .ok (.arraylength, 1) := by decide +kernel
theorem dX4_append_9 : decode cX4_append 9 = .ok (.if_icmp .ge 33, 3) := by decide +kernel
theorem dX4_append_12 : decode cX4_append 12 = .ok (.aload_n 0, 1) := by decide +kernel
theorem dX4_append_13 : decode cX4_append 13 = .ok (.getfield 15, 3) := by decide +kernel
theorem dX4_append_16 : decode cX4_append 16 = .ok (.aload_n 0, 1) := by decide +kernel
theorem dX4_append_17 : decode cX4_append 17 = .ok (.getfield 24, 3) := by decide +kernel
theorem dX4_append_20 : decode cX4_append 20 = .ok (.iload_n 1, 1) := by decide +kernel
theorem dX4_append_21 : decode cX4_append 21 = .ok (.iastore, 1) := by decide +kernel
theorem dX4_append_22 : decode cX4_append 22 = .ok (.aload_n 0, 1) := by decide +kernel
theorem dX4_append_23 : decode cX4_append 23 = .ok (.getfield 21, 3) := by decide +kernel
theorem dX4_append_26 : decode cX4_append 26 = .ok (.aload_n 0, 1) := by decide +kernel
theorem dX4_append_27 : decode cX4_append 27 = .ok (.getfield 24, 3) := by decide +kernel
theorem dX4_append_30 : decode cX4_append 30 = .ok (.iload_n 2, 1) := by decide +kernel
theorem dX4_append_31 : decode cX4_append 31 = .ok (.iastore, 1) := by decide +kernel
theorem dX4_append_32 : decode cX4_append 32 = .ok (.aload_n 0, 1) := by decide +kernel
theorem dX4_append_33 : decode cX4_append 33 = .ok (.dup, 1) := by decide +kernel
theorem dX4_append_34 : decode cX4_append 34 = .ok (.getfield 24, 3) := by decide +kernel
theorem dX4_append_37 : decode cX4_append 37 = .ok (.iconst 1, 1) := by decide +kernel
theorem dX4_append_38 : decode cX4_append 38 = .ok (.iadd, 1) := by decide +kernel
theorem dX4_append_39 : decode cX4_append 39 = .ok (.putfield 24, 3) := by decide +kernel
theorem dX4_append_42 : decode cX4_append 42 = .ok (.return_, 1) := by decide +kernel
theorem dX4_size_0 : decode cX4_size 0 = .ok (.aload_n 0, 1) := by decide +kernel
theorem dX4_size_1 : decode cX4_size 1 = .ok (.getfield 24, 3) := by decide +kernel
theorem dX4_size_4 : decode cX4_size 4 = .ok (.ireturn, 1) := by decide +kernel
theorem dX4_premise_0 : decode cX4_premise 0 = .ok (.iload_n 1, 1) := by decide +kernel
theorem dX4_premise_1 : decode cX4_premise 1 = .ok (.ifCond .lt 20, 3) := by decide +kernel
theorem dX4_premise_4 : decode cX4_premise 4 = .ok (.iload_n 1, 1) := by decide +kernel
theorem dX4_premise_5 : decode cX4_premise 5 = .ok (.aload_n 0, 1) := by decide +kernel
theorem dX4_premise_6 : decode cX4_premise 6 = .ok (.getfield 24, 3) := by decide +kernel
theorem dX4_premise_9 : decode cX4_premise 9 = .ok (.if_icmp .ge 12, 3) := by decide +kernel
theorem dX4_premise_12 : decode cX4_premise 12 = .ok (.aload_n 0, 1) := by decide +kernel
theorem dX4_premise_13 : decode cX4_premise 13 = .ok (.getfield 15, 3) := by decide +kernel
theorem dX4_premise_16 : decode cX4_premise 16 = .ok (.iload_n 1, 1) := by decide +kernel
theorem dX4_premise_17 : decode cX4_premise 17 = .ok (.iaload, 1) := by decide +kernel
theorem dX4_premise_18 : decode cX4_premise 18 = .ok (.goto 4, 3) := by decide +kernel
theorem dX4_premise_21 : decode cX4_premise 21 = .ok (.iconst (-1), 1) := by decide +kernel
theorem dX4_premise_22 : decode cX4_premise 22 = .ok (.ireturn, 1) := by decide +kernel
theorem dX4_conclusion_0 : decode cX4_conclusion 0 = .ok (.iload_n 1, 1) := by decide +kernel
theorem dX4_conclusion_1 : decode cX4_conclusion 1 = .ok (.ifCond .lt 20, 3) := by decide +kernel
theorem dX4_conclusion_4 : decode cX4_conclusion 4 = .ok (.iload_n 1, 1) := by decide +kernel
theorem dX4_conclusion_5 : decode cX4_conclusion 5 = .ok (.aload_n 0, 1) := by decide +kernel
theorem dX4_conclusion_6 : decode cX4_conclusion 6 = .ok (.getfield 24, 3) := by decide +kernel
theorem dX4_conclusion_9 : decode cX4_conclusion 9 = .ok (.if_icmp .ge 12, 3) := by decide +kernel
theorem dX4_conclusion_12 : decode cX4_conclusion 12 = .ok (.aload_n 0, 1) := by decide +kernel
theorem dX4_conclusion_13 : decode cX4_conclusion 13 = .ok (.getfield 21, 3) := by decide +kernel
theorem dX4_conclusion_16 : decode cX4_conclusion 16 = .ok (.iload_n 1, 1) := by decide +kernel
theorem dX4_conclusion_17 : decode cX4_conclusion 17 = .ok (.iaload, 1) := by decide +kernel
theorem dX4_conclusion_18 : decode cX4_conclusion 18 = .ok (.goto 4, 3) := by decide +kernel
theorem dX4_conclusion_21 : decode cX4_conclusion 21 = .ok (.iconst (-1), 1) := by decide +kernel
theorem dX4_conclusion_22 : decode cX4_conclusion 22 = .ok (.ireturn, 1) := by decide +kernel
set_option maxRecDepth 20000 in
theorem ggX4_areKeptBy_X5_hasAll : GoodIn wsX4_areKeptBy wsX5_hasAll := goodIn_r _ [7] (by decide +kernel) (by decide +kernel)
set_option maxRecDepth 20000 in
theorem gX4_areKeptBy_X5_hasAll : GoodIn wsX4_areKeptBy (va_wsS RX4 28 yX5_hasAll wsX5_hasAll) := goodIn_app (goodIn_of _ (by decide +kernel)) ggX4_areKeptBy_X5_hasAll
theorem dX4_areKeptBy_0 : decode cX4_areKeptBy 0 = .ok (.iconst 0, 1) := by decide +kernel
