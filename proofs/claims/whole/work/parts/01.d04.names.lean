theorem dX6_closedBehind_22 : decode cX6_closedBehind 22 = .ok (.ifCond .eq 11, 3) := by decide +kernel
theorem dX6_closedBehind_25 : decode cX6_closedBehind 25 = .ok (.iload_n 2, 1) := by decide +kernel
theorem dX6_closedBehind_26 : decode cX6_closedBehind 26 = .ok (.iload 4, 2) := by decide +kernel
theorem dX6_closedBehind_28 : decode cX6_closedBehind 28 = .ok (.ixor, 1) := by decide +kernel
theorem dX6_closedBehind_29 : decode cX6_closedBehind 29 = .ok (.istore_n 2, 1) := by decide +kernel
theorem dX6_closedBehind_30 : decode cX6_closedBehind 30 = .ok (.goto 28, 3) := by decide +kernel
theorem dX6_closedBehind_33 : decode cX6_closedBehind 33 = .ok (.aload_n 0, 1) := by decide +kernel
theorem dX6_closedBehind_34 : decode cX6_closedBehind 34 = .ok (.iload_n 2, 1) := by decide +kernel
theorem dX6_closedBehind_35 : decode cX6_closedBehind 35 = .ok (.iload 4, 2) := by decide +kernel
theorem dX6_closedBehind_37 : decode cX6_closedBehind 37 = .ok (.ior, 1) := by decide +kernel
theorem dX6_closedBehind_38 : decode cX6_closedBehind 38 = .ok (.invokevirtual 44, 3) := by decide +kernel
theorem dX6_closedBehind_41 : decode cX6_closedBehind 41 = .ok (.istore 5, 2) := by decide +kernel
theorem dX6_closedBehind_43 : decode cX6_closedBehind 43 = .ok (.iload 5, 2) := by decide +kernel
theorem dX6_closedBehind_45 : decode cX6_closedBehind 45 = .ok (.iload_n 2, 1) := by decide +kernel
theorem dX6_closedBehind_46 : decode cX6_closedBehind 46 = .ok (.ixor, 1) := by decide +kernel
theorem dX6_closedBehind_47 : decode cX6_closedBehind 47 = .ok (.iload 4, 2) := by decide +kernel
theorem dX6_closedBehind_49 : decode cX6_closedBehind 49 = .ok (.iconst 1, 1) := by decide +kernel
theorem dX6_closedBehind_50 : decode cX6_closedBehind 50 = .ok (.isub, 1) := by decide +kernel
theorem dX6_closedBehind_51 : decode cX6_closedBehind 51 = .ok (.iand, 1) := by decide +kernel
theorem dX6_closedBehind_52 : decode cX6_closedBehind 52 = .ok (.ifCond .ne 6, 3) := by decide +kernel
theorem dX6_closedBehind_55 : decode cX6_closedBehind 55 = .ok (.iload 5, 2) := by decide +kernel
theorem dX6_closedBehind_57 : decode cX6_closedBehind 57 = .ok (.ireturn, 1) := by decide +kernel
theorem dX6_closedBehind_58 : decode cX6_closedBehind 58 = .ok (.iinc 3 (-1), 3) := by decide +kernel
theorem dX6_closedBehind_61 : decode cX6_closedBehind 61 = .ok (.goto (-52), 3) := by decide +kernel
theorem dX6_closedBehind_64 : decode cX6_closedBehind 64 = .ok (.iconst (-1), 1) := by decide +kernel
theorem dX6_closedBehind_65 : decode cX6_closedBehind 65 = .ok (.ireturn, 1) := by decide +kernel
set_option maxRecDepth 20000 in
theorem ggX6_needsAttribute_X6_extentOf : GoodIn wsX6_needsAttribute wsX6_extentOf := goodIn_r _ [6, 7, 8, 9, 10, 11, 12, 17, 18, 19] (by decide +kernel) (by decide +kernel)
set_option maxRecDepth 20000 in
theorem gX6_needsAttribute_X6_extentOf : GoodIn wsX6_needsAttribute (wsV RX6 47 RX6 yX6_extentOf wsX6_extentOf) := goodIn_app (goodIn_of _ (by decide +kernel)) ggX6_needsAttribute_X6_extentOf
set_option maxRecDepth 20000 in
theorem ggX6_needsAttribute_X5_hasAllAndMore : GoodIn wsX6_needsAttribute wsX5_hasAllAndMore := goodIn_r _ [15, 16, 10, 11, 12] (by decide +kernel) (by decide +kernel)
set_option maxRecDepth 20000 in
theorem gX6_needsAttribute_X5_hasAllAndMore : GoodIn wsX6_needsAttribute (va_wsS RX6 50 yX5_hasAllAndMore wsX5_hasAllAndMore) := goodIn_app (goodIn_of _ (by decide +kernel)) ggX6_needsAttribute_X5_hasAllAndMore
theorem dX6_needsAttribute_0 : decode cX6_needsAttribute 0 = .ok (.aload_n 0, 1) := by decide +kernel
theorem dX6_needsAttribute_1 : decode cX6_needsAttribute 1 = .ok (.iconst 1, 1) := by decide +kernel
theorem dX6_needsAttribute_2 : decode cX6_needsAttribute 2 = .ok (.iload_n 1, 1) := by decide +kernel
theorem dX6_needsAttribute_3 : decode cX6_needsAttribute 3 = .ok (.ishl, 1) := by decide +kernel
theorem dX6_needsAttribute_4 : decode cX6_needsAttribute 4 = .ok (.invokevirtual 47, 3) := by decide +kernel
theorem dX6_needsAttribute_7 : decode cX6_needsAttribute 7 = .ok (.istore_n 2, 1) := by decide +kernel
theorem dX6_needsAttribute_8 : decode cX6_needsAttribute 8 = .ok (.iconst 0, 1) := by decide +kernel
theorem dX6_needsAttribute_9 : decode cX6_needsAttribute 9 = .ok (.istore_n 3, 1) := by decide +kernel
theorem dX6_needsAttribute_10 : decode cX6_needsAttribute 10 = .ok (.iconst 0, 1) := by decide +kernel
theorem dX6_needsAttribute_11 : decode cX6_needsAttribute 11 = .ok (.istore 4, 2) := by decide +kernel
theorem dX6_needsAttribute_13 : decode cX6_needsAttribute 13 = .ok (.iload 4, 2) := by decide +kernel
theorem dX6_needsAttribute_15 : decode cX6_needsAttribute 15 = .ok (.aload_n 0, 1) := by decide +kernel
theorem dX6_needsAttribute_16 : decode cX6_needsAttribute 16 = .ok (.getfield 15, 3) := by decide +kernel
theorem dX6_needsAttribute_19 : decode cX6_needsAttribute 19 = .ok (.if_icmp .ge 31, 3) := by decide +kernel
theorem dX6_needsAttribute_22 : decode cX6_needsAttribute 22 = .ok (.aload_n 0, 1) := by decide +kernel
theorem dX6_needsAttribute_23 : decode cX6_needsAttribute 23 = .ok (.iconst 1, 1) := by decide +kernel
theorem dX6_needsAttribute_24 : decode cX6_needsAttribute 24 = .ok (.iload 4, 2) := by decide +kernel
theorem dX6_needsAttribute_26 : decode cX6_needsAttribute 26 = .ok (.ishl, 1) := by decide +kernel
theorem dX6_needsAttribute_27 : decode cX6_needsAttribute 27 = .ok (.invokevirtual 47, 3) := by decide +kernel
theorem dX6_needsAttribute_30 : decode cX6_needsAttribute 30 = .ok (.iload_n 2, 1) := by decide +kernel
theorem dX6_needsAttribute_31 : decode cX6_needsAttribute 31 = .ok (.invokestatic 50, 3) := by decide +kernel
theorem dX6_needsAttribute_34 : decode cX6_needsAttribute 34 = .ok (.ifCond .eq 10, 3) := by decide +kernel
theorem dX6_needsAttribute_37 : decode cX6_needsAttribute 37 = .ok (.iload_n 3, 1) := by decide +kernel
theorem dX6_needsAttribute_38 : decode cX6_needsAttribute 38 = .ok (.iconst 1, 1) := by decide +kernel
theorem dX6_needsAttribute_39 : decode cX6_needsAttribute 39 = .ok (.iload 4, 2) := by decide +kernel
theorem dX6_needsAttribute_41 : decode cX6_needsAttribute 41 = .ok (.ishl, 1) := by decide +kernel
theorem dX6_needsAttribute_42 : decode cX6_needsAttribute 42 = .ok (.ior, 1) := by decide +kernel
theorem dX6_needsAttribute_43 : decode cX6_needsAttribute 43 = .ok (.istore_n 3, 1) := by decide +kernel
theorem dX6_needsAttribute_44 : decode cX6_needsAttribute 44 = .ok (.iinc 4 1, 3) := by decide +kernel
theorem dX6_needsAttribute_47 : decode cX6_needsAttribute 47 = .ok (.goto (-34), 3) := by decide +kernel
theorem dX6_needsAttribute_50 : decode cX6_needsAttribute 50 = .ok (.aload_n 0, 1) := by decide +kernel
theorem dX6_needsAttribute_51 : decode cX6_needsAttribute 51 = .ok (.iload_n 3, 1) := by decide +kernel
theorem dX6_needsAttribute_52 : decode cX6_needsAttribute 52 = .ok (.invokevirtual 47, 3) := by decide +kernel
theorem dX6_needsAttribute_55 : decode cX6_needsAttribute 55 = .ok (.iload_n 2, 1) := by decide +kernel
theorem dX6_needsAttribute_56 : decode cX6_needsAttribute 56 = .ok (.if_icmp .eq 7, 3) := by decide +kernel
theorem dX6_needsAttribute_59 : decode cX6_needsAttribute 59 = .ok (.iconst 1, 1) := by decide +kernel
theorem dX6_needsAttribute_60 : decode cX6_needsAttribute 60 = .ok (.goto 4, 3) := by decide +kernel
theorem dX6_needsAttribute_63 : decode cX6_needsAttribute 63 = .ok (.iconst 0, 1) := by decide +kernel
theorem dX6_needsAttribute_64 : decode cX6_needsAttribute 64 = .ok (.ireturn, 1) := by decide +kernel
set_option maxRecDepth 20000 in
theorem ggX6_needsObject_X6_row : GoodIn wsX6_needsObject wsX6_row := goodIn_r _ [7, 1, 2, 27, 28, 29] (by decide +kernel) (by decide +kernel)
set_option maxRecDepth 20000 in
theorem gX6_needsObject_X6_row : GoodIn wsX6_needsObject (wsV RX6 53 RX6 yX6_row wsX6_row) := goodIn_app (goodIn_of _ (by decide +kernel)) ggX6_needsObject_X6_row
set_option maxRecDepth 20000 in
theorem ggX6_needsObject_X5_hasAllAndMore : GoodIn wsX6_needsObject wsX5_hasAllAndMore := goodIn_r _ [11, 12, 13, 10, 14] (by decide +kernel) (by decide +kernel)
set_option maxRecDepth 20000 in
theorem gX6_needsObject_X5_hasAllAndMore : GoodIn wsX6_needsObject (va_wsS RX6 50 yX5_hasAllAndMore wsX5_hasAllAndMore) := goodIn_app (goodIn_of _ (by decide +kernel)) ggX6_needsObject_X5_hasAllAndMore
set_option maxRecDepth 20000 in
theorem ggX6_needsObject_X6_commonOf : GoodIn wsX6_needsObject wsX6_commonOf := goodIn_r _ [18, 1, 2, 19, 20, 21, 6, 22, 23, 24, 25, 10, 26, 27, 28, 29] (by decide +kernel) (by decide +kernel)
set_option maxRecDepth 20000 in
theorem gX6_needsObject_X6_commonOf : GoodIn wsX6_needsObject (wsV RX6 56 RX6 yX6_commonOf wsX6_commonOf) := goodIn_app (goodIn_of _ (by decide +kernel)) ggX6_needsObject_X6_commonOf
theorem dX6_needsObject_0 : decode cX6_needsObject 0 = .ok (.aload_n 0, 1) := by decide +kernel
theorem dX6_needsObject_1 : decode cX6_needsObject 1 = .ok (.iload_n 1, 1) := by decide +kernel
theorem dX6_needsObject_2 : decode cX6_needsObject 2 = .ok (.invokevirtual 53, 3) := by decide +kernel
theorem dX6_needsObject_5 : decode cX6_needsObject 5 = .ok (.istore_n 2, 1) := by decide +kernel
theorem dX6_needsObject_6 : decode cX6_needsObject 6 = .ok (.iconst 0, 1) := by decide +kernel
theorem dX6_needsObject_7 : decode cX6_needsObject 7 = .ok (.istore_n 3, 1) := by decide +kernel
theorem dX6_needsObject_8 : decode cX6_needsObject 8 = .ok (.iconst 0, 1) := by decide +kernel
theorem dX6_needsObject_9 : decode cX6_needsObject 9 = .ok (.istore 4, 2) := by decide +kernel
theorem dX6_needsObject_11 : decode cX6_needsObject 11 = .ok (.iload 4, 2) := by decide +kernel
theorem dX6_needsObject_13 : decode cX6_needsObject 13 = .ok (.aload_n 0, 1) := by decide +kernel
theorem dX6_needsObject_14 : decode cX6_needsObject 14 = .ok (.getfield 19, 3) := by decide +kernel
theorem dX6_needsObject_17 : decode cX6_needsObject 17 = .ok (.if_icmp .ge 30, 3) := by decide +kernel
theorem dX6_needsObject_20 : decode cX6_needsObject 20 = .ok (.aload_n 0, 1) := by decide +kernel
theorem dX6_needsObject_21 : decode cX6_needsObject 21 = .ok (.getfield 9, 3) := by decide +kernel
theorem dX6_needsObject_24 : decode cX6_needsObject 24 = .ok (.iload 4, 2) := by decide +kernel
theorem dX6_needsObject_26 : decode cX6_needsObject 26 = .ok (.iaload, 1) := by decide +kernel
theorem dX6_needsObject_27 : decode cX6_needsObject 27 = .ok (.iload_n 2, 1) := by decide +kernel
theorem dX6_needsObject_28 : decode cX6_needsObject 28 = .ok (.invokestatic 50, 3) := by decide +kernel
theorem dX6_needsObject_31 : decode cX6_needsObject 31 = .ok (.ifCond .eq 10, 3) := by decide +kernel
theorem dX6_needsObject_34 : decode cX6_needsObject 34 = .ok (.iload_n 3, 1) := by decide +kernel
theorem dX6_needsObject_35 : decode cX6_needsObject 35 = .ok (.iconst 1, 1) := by decide +kernel
theorem dX6_needsObject_36 : decode cX6_needsObject 36 = .ok (.iload 4, 2) := by decide +kernel
theorem dX6_needsObject_38 : decode cX6_needsObject 38 = .ok (.ishl, 1) := by decide +kernel
theorem dX6_needsObject_39 : decode cX6_needsObject 39 = .ok (.ior, 1) := by decide +kernel
theorem dX6_needsObject_40 : decode cX6_needsObject 40 = .ok (.istore_n 3, 1) := by decide +kernel
theorem dX6_needsObject_41 : decode cX6_needsObject 41 = .ok (.iinc 4 1, 3) := by decide +kernel
theorem dX6_needsObject_44 : decode cX6_needsObject 44 = .ok (.goto (-33), 3) := by decide +kernel
theorem dX6_needsObject_47 : decode cX6_needsObject 47 = .ok (.aload_n 0, 1) := by decide +kernel
theorem dX6_needsObject_48 : decode cX6_needsObject 48 = .ok (.iload_n 3, 1) := by decide +kernel
theorem dX6_needsObject_49 : decode cX6_needsObject 49 = .ok (.invokevirtual 56, 3) := by decide +kernel
theorem dX6_needsObject_52 : decode cX6_needsObject 52 = .ok (.iload_n 2, 1) := by decide +kernel
theorem dX6_needsObject_53 : decode cX6_needsObject 53 = .ok (.if_icmp .eq 7, 3) := by decide +kernel
theorem dX6_needsObject_56 : decode cX6_needsObject 56 = .ok (.iconst 1, 1) := by decide +kernel
theorem dX6_needsObject_57 : decode cX6_needsObject 57 = .ok (.goto 4, 3) := by decide +kernel
theorem dX6_needsObject_60 : decode cX6_needsObject 60 = .ok (.iconst 0, 1) := by decide +kernel
theorem dX6_needsObject_61 : decode cX6_needsObject 61 = .ok (.ireturn, 1) := by decide +kernel
set_option maxRecDepth 20000 in
theorem ggX7_init_X6_init : GoodIn wsX7_init wsX6_init := goodIn_r _ [25, 26, 2, 3, 27, 28, 99, 100, 101] (by decide +kernel) (by decide +kernel)
set_option maxRecDepth 20000 in
theorem gX7_init_X6_init_n11 : GoodIn wsX7_init (wsX6_init) := ggX7_init_X6_init
set_option maxRecDepth 20000 in
theorem ggX7_init_X3_init : GoodIn wsX7_init wsX3_init := goodIn_r _ [30, 31, 2, 3, 27, 32, 107, 108] (by decide +kernel) (by decide +kernel)
set_option maxRecDepth 20000 in
theorem gX7_init_X3_init_n18 : GoodIn wsX7_init (wsX3_init) := ggX7_init_X3_init
set_option maxRecDepth 20000 in
theorem ggX7_init_X2_init : GoodIn wsX7_init wsX2_init := goodIn_r _ [34, 35, 2, 3, 36, 37, 38, 39, 40, 41, 42, 43, 44, 45, 46, 47, 48, 27, 49, 50, 120, 121, 122, 109, 110, 111] (by decide +kernel) (by decide +kernel)
set_option maxRecDepth 20000 in
theorem gX7_init_X2_init_n25 : GoodIn wsX7_init (wsX2_init) := ggX7_init_X2_init
set_option maxRecDepth 20000 in
theorem ggX7_init_X1_init : GoodIn wsX7_init wsX1_init := goodIn_r _ [52, 53, 2, 3, 27, 54, 55, 112, 113, 114, 115, 116] (by decide +kernel) (by decide +kernel)
set_option maxRecDepth 20000 in
theorem gX7_init_X1_init_n32 : GoodIn wsX7_init (wsX1_init) := ggX7_init_X1_init
set_option maxRecDepth 20000 in
theorem ggX7_init_X0_init : GoodIn wsX7_init wsX0_init := goodIn_r _ [57, 58, 2, 3, 59, 37, 38, 60, 27, 61, 62, 42, 43, 44, 45, 46, 47, 48, 49, 50, 120, 121, 122, 117, 118, 119] (by decide +kernel) (by decide +kernel)
set_option maxRecDepth 20000 in
theorem gX7_init_X0_init_n39 : GoodIn wsX7_init (wsX0_init) := ggX7_init_X0_init
set_option maxRecDepth 20000 in
theorem ggX7_init_X6_restart : GoodIn wsX7_init wsX6_restart := goodIn_r _ [66, 67, 68, 99, 100, 101] (by decide +kernel) (by decide +kernel)
set_option maxRecDepth 20000 in
theorem gX7_init_X6_restart : GoodIn wsX7_init (wsV RX7 44 RX6 yX6_restart wsX6_restart) := goodIn_app (goodIn_of _ (by decide +kernel)) ggX7_init_X6_restart
set_option maxRecDepth 20000 in
theorem ggX7_init_X1_restart : GoodIn wsX7_init wsX1_restart := goodIn_r _ [72, 73, 74, 75, 76, 77, 18, 78, 55, 79, 80, 81, 82, 83, 84, 85, 86, 87, 88, 89, 54, 90, 91, 92, 93, 94, 95, 96, 97, 98, 112, 113, 114, 115, 116] (by decide +kernel) (by decide +kernel)
set_option maxRecDepth 20000 in
theorem gX7_init_X1_restart : GoodIn wsX7_init (wsV RX7 48 RX1 yX1_restart wsX1_restart) := goodIn_app (goodIn_of _ (by decide +kernel)) ggX7_init_X1_restart
theorem dX7_init_0 : decode cX7_init 0 = .ok (.aload_n 0, 1) := by decide +kernel
theorem dX7_init_1 : decode cX7_init 1 = .ok (.invokespecial 3, 3) := by decide +kernel
theorem dX7_init_4 : decode cX7_init 4 = .ok (.aload_n 0, 1) := by decide +kernel
theorem dX7_init_5 : decode cX7_init 5 = .ok (.new 9, 3) := by decide +kernel
theorem dX7_init_8 : decode cX7_init 8 = .ok (.dup, 1) := by decide +kernel
theorem dX7_init_9 : decode cX7_init 9 = .ok (.invokespecial 11, 3) := by decide +kernel
theorem dX7_init_12 : decode cX7_init 12 = .ok (.putfield 12, 3) := by decide +kernel
theorem dX7_init_15 : decode cX7_init 15 = .ok (.aload_n 0, 1) := by decide +kernel
theorem dX7_init_16 : decode cX7_init 16 = .ok (.new 16, 3) := by decide +kernel
theorem dX7_init_19 : decode cX7_init 19 = .ok (.dup, 1) := by decide +kernel
theorem dX7_init_20 : decode cX7_init 20 = .ok (.invokespecial 18, 3) := by decide +kernel
theorem dX7_init_23 : decode cX7_init 23 = .ok (.putfield 19, 3) := by decide +kernel
theorem dX7_init_26 : decode cX7_init 26 = .ok (.aload_n 0, 1) := by decide +kernel
theorem dX7_init_27 : decode cX7_init 27 = .ok (.new 23, 3) := by decide +kernel
theorem dX7_init_30 : decode cX7_init 30 = .ok (.dup, 1) := by decide +kernel
theorem dX7_init_31 : decode cX7_init 31 = .ok (.invokespecial 25, 3) := by decide +kernel
theorem dX7_init_34 : decode cX7_init 34 = .ok (.putfield 26, 3) := by decide +kernel
theorem dX7_init_37 : decode cX7_init 37 = .ok (.aload_n 0, 1) := by decide +kernel
theorem dX7_init_38 : decode cX7_init 38 = .ok (.new 30, 3) := by decide +kernel
theorem dX7_init_41 : decode cX7_init 41 = .ok (.dup, 1) := by decide +kernel
theorem dX7_init_42 : decode cX7_init 42 = .ok (.invokespecial 32, 3) := by decide +kernel
theorem dX7_init_45 : decode cX7_init 45 = .ok (.putfield 33, 3) := by decide +kernel
theorem dX7_init_48 : decode cX7_init 48 = .ok (.aload_n 0, 1) := by decide +kernel
theorem dX7_init_49 : decode cX7_init 49 = .ok (.new 37, 3) := by decide +kernel
theorem dX7_init_52 : decode cX7_init 52 = .ok (.dup, 1) := by decide +kernel
theorem dX7_init_53 : decode cX7_init 53 = .ok (.invokespecial 39, 3) := by decide +kernel
theorem dX7_init_56 : decode cX7_init 56 = .ok (.putfield 40, 3) := by decide +kernel
theorem dX7_init_59 : decode cX7_init 59 = .ok (.aload_n 0, 1) := by decide +kernel
theorem dX7_init_60 : decode cX7_init 60 = .ok (.getfield 12, 3) := by decide +kernel
theorem dX7_init_63 : decode cX7_init 63 = .ok (.bipush 6, 2) := by decide +kernel
theorem dX7_init_65 : decode cX7_init 65 = .ok (.invokevirtual 44, 3) := by decide +kernel
theorem dX7_init_68 : decode cX7_init 68 = .ok (.aload_n 0, 1) := by decide +kernel
theorem dX7_init_69 : decode cX7_init 69 = .ok (.getfield 33, 3) := by decide +kernel
theorem dX7_init_72 : decode cX7_init 72 = .ok (.bipush 6, 2) := by decide +kernel
theorem dX7_init_74 : decode cX7_init 74 = .ok (.invokevirtual 48, 3) := by decide +kernel
theorem dX7_init_77 : decode cX7_init 77 = .ok (.return_, 1) := by decide +kernel
set_option maxRecDepth 20000 in
theorem ggX7_begin_X6_size : GoodIn wsX7_begin wsX6_size := goodIn_r _ [9, 10, 78, 79, 80] (by decide +kernel) (by decide +kernel)
set_option maxRecDepth 20000 in
theorem gX7_begin_X6_size : GoodIn wsX7_begin (wsV RX7 49 RX6 yX6_size wsX6_size) := goodIn_app (goodIn_of _ (by decide +kernel)) ggX7_begin_X6_size
set_option maxRecDepth 20000 in
theorem ggX7_begin_X6_restart : GoodIn wsX7_begin wsX6_restart := goodIn_r _ [14, 15, 10, 78, 79, 80] (by decide +kernel) (by decide +kernel)
set_option maxRecDepth 20000 in
theorem gX7_begin_X6_restart : GoodIn wsX7_begin (wsV RX7 44 RX6 yX6_restart wsX6_restart) := goodIn_app (goodIn_of _ (by decide +kernel)) ggX7_begin_X6_restart
set_option maxRecDepth 20000 in
theorem ggX7_begin_X1_restart : GoodIn wsX7_begin wsX1_restart := goodIn_r _ [20, 21, 22, 23, 24, 25, 19, 26, 27, 28, 29, 30, 31, 32, 33, 34, 35, 36, 37, 38, 39, 40, 41, 42, 43, 44, 45, 46, 47, 48, 81, 82, 83, 84, 85] (by decide +kernel) (by decide +kernel)
set_option maxRecDepth 20000 in
theorem gX7_begin_X1_restart : GoodIn wsX7_begin (wsV RX7 48 RX1 yX1_restart wsX1_restart) := goodIn_app (goodIn_of _ (by decide +kernel)) ggX7_begin_X1_restart
set_option maxRecDepth 20000 in
theorem ggX7_begin_X0_forget : GoodIn wsX7_begin wsX0_forget := goodIn_r _ [53, 54, 86, 87, 88] (by decide +kernel) (by decide +kernel)
set_option maxRecDepth 20000 in
theorem gX7_begin_X0_forget : GoodIn wsX7_begin (wsV RX7 53 RX0 yX0_forget wsX0_forget) := goodIn_app (goodIn_of _ (by decide +kernel)) ggX7_begin_X0_forget
set_option maxRecDepth 20000 in
theorem ggX7_begin_X2_forget : GoodIn wsX7_begin wsX2_forget := goodIn_r _ [59, 60, 61, 62, 63, 64, 65, 66, 67, 68, 69, 58, 70, 71, 72, 89, 90, 91, 92, 93, 94] (by decide +kernel) (by decide +kernel)
set_option maxRecDepth 20000 in
theorem gX7_begin_X2_forget : GoodIn wsX7_begin (wsV RX7 56 RX2 yX2_forget wsX2_forget) := goodIn_app (goodIn_of _ (by decide +kernel)) ggX7_begin_X2_forget
theorem dX7_begin_0 : decode cX7_begin 0 = .ok (.iload_n 1, 1) := by decide +kernel
theorem dX7_begin_1 : decode cX7_begin 1 = .ok (.iconst 1, 1) := by decide +kernel
theorem dX7_begin_2 : decode cX7_begin 2 = .ok (.if_icmp .lt 9, 3) := by decide +kernel
theorem dX7_begin_5 : decode cX7_begin 5 = .ok (.iload_n 1, 1) := by decide +kernel
theorem dX7_begin_6 : decode cX7_begin 6 = .ok (.bipush 12, 2) := by decide +kernel
theorem dX7_begin_8 : decode cX7_begin 8 = .ok (.if_icmp .le 6, 3) := by decide +kernel
theorem dX7_begin_11 : decode cX7_begin 11 = .ok (.bipush (-2), 2) := by decide +kernel
theorem dX7_begin_13 : decode cX7_begin 13 = .ok (.ireturn, 1) := by decide +kernel
theorem dX7_begin_14 : decode cX7_begin 14 = .ok (.aload_n 0, 1) := by decide +kernel
theorem dX7_begin_15 : decode cX7_begin 15 = .ok (.getfield 12, 3) := by decide +kernel
theorem dX7_begin_18 : decode cX7_begin 18 = .ok (.invokevirtual 49, 3) := by decide +kernel
theorem dX7_begin_21 : decode cX7_begin 21 = .ok (.istore_n 2, 1) := by decide +kernel
theorem dX7_begin_22 : decode cX7_begin 22 = .ok (.aload_n 0, 1) := by decide +kernel
theorem dX7_begin_23 : decode cX7_begin 23 = .ok (.getfield 12, 3) := by decide +kernel
theorem dX7_begin_26 : decode cX7_begin 26 = .ok (.iload_n 1, 1) := by decide +kernel
theorem dX7_begin_27 : decode cX7_begin 27 = .ok (.invokevirtual 44, 3) := by decide +kernel
theorem dX7_begin_30 : decode cX7_begin 30 = .ok (.aload_n 0, 1) := by decide +kernel
theorem dX7_begin_31 : decode cX7_begin 31 = .ok (.getfield 33, 3) := by decide +kernel
theorem dX7_begin_34 : decode cX7_begin 34 = .ok (.iload_n 1, 1) := by decide +kernel
theorem dX7_begin_35 : decode cX7_begin 35 = .ok (.invokevirtual 48, 3) := by decide +kernel
theorem dX7_begin_38 : decode cX7_begin 38 = .ok (.aload_n 0, 1) := by decide +kernel
theorem dX7_begin_39 : decode cX7_begin 39 = .ok (.getfield 40, 3) := by decide +kernel
theorem dX7_begin_42 : decode cX7_begin 42 = .ok (.invokevirtual 53, 3) := by decide +kernel
theorem dX7_begin_45 : decode cX7_begin 45 = .ok (.aload_n 0, 1) := by decide +kernel
theorem dX7_begin_46 : decode cX7_begin 46 = .ok (.getfield 26, 3) := by decide +kernel
theorem dX7_begin_49 : decode cX7_begin 49 = .ok (.invokevirtual 56, 3) := by decide +kernel
theorem dX7_begin_52 : decode cX7_begin 52 = .ok (.iload_n 2, 1) := by decide +kernel
theorem dX7_begin_53 : decode cX7_begin 53 = .ok (.ireturn, 1) := by decide +kernel
set_option maxRecDepth 20000 in
theorem ggX7_object_X6_isAttributeSet : GoodIn wsX7_object wsX6_isAttributeSet := goodIn_r _ [7, 8, 9, 10, 6, 11, 12, 13, 14, 15, 16, 17, 18, 19, 84, 85, 86] (by decide +kernel) (by decide +kernel)
set_option maxRecDepth 20000 in
theorem gX7_object_X6_isAttributeSet : GoodIn wsX7_object (wsV RX7 57 RX6 yX6_isAttributeSet wsX6_isAttributeSet) := goodIn_app (goodIn_of _ (by decide +kernel)) ggX7_object_X6_isAttributeSet
set_option maxRecDepth 20000 in
theorem ggX7_object_X6_isFull : GoodIn wsX7_object wsX6_isFull := goodIn_r _ [23, 24, 25, 84, 85, 86] (by decide +kernel) (by decide +kernel)
set_option maxRecDepth 20000 in
theorem gX7_object_X6_isFull : GoodIn wsX7_object (wsV RX7 61 RX6 yX6_isFull wsX6_isFull) := goodIn_app (goodIn_of _ (by decide +kernel)) ggX7_object_X6_isFull
set_option maxRecDepth 20000 in
theorem ggX7_object_X2_stop : GoodIn wsX7_object wsX2_stop := goodIn_r _ [30, 31, 32, 87, 88, 89] (by decide +kernel) (by decide +kernel)
set_option maxRecDepth 20000 in
theorem gX7_object_X2_stop : GoodIn wsX7_object (wsV RX7 65 RX2 yX2_stop wsX2_stop) := goodIn_app (goodIn_of _ (by decide +kernel)) ggX7_object_X2_stop
set_option maxRecDepth 20000 in
theorem ggX7_object_X7_addRow : GoodIn wsX7_object wsX7_addRow := goodIn_r _ [37, 1, 38, 39, 40, 41, 42, 6, 43, 25, 24, 44, 21, 22, 23, 45, 46, 47, 48, 49, 50, 51, 52, 53, 54, 55, 56, 57, 58, 59, 60, 61, 62, 63, 64, 65, 66, 67, 15, 68, 69, 70, 71, 72, 73, 74, 75, 76, 77, 78, 79, 80, 81, 82, 83, 84, 85, 86, 90, 91, 92, 93, 94, 95, 96, 97] (by decide +kernel) (by decide +kernel)
set_option maxRecDepth 20000 in
theorem gX7_object_X7_addRow : GoodIn wsX7_object (wsV RX7 68 RX7 yX7_addRow wsX7_addRow) := goodIn_app (goodIn_of _ (by decide +kernel)) ggX7_object_X7_addRow
theorem dX7_object_0 : decode cX7_object 0 = .ok (.aload_n 0, 1) := by decide +kernel
theorem dX7_object_1 : decode cX7_object 1 = .ok (.getfield 12, 3) := by decide +kernel
theorem dX7_object_4 : decode cX7_object 4 = .ok (.iload_n 1, 1) := by decide +kernel
theorem dX7_object_5 : decode cX7_object 5 = .ok (.invokevirtual 57, 3) := by decide +kernel
theorem dX7_object_8 : decode cX7_object 8 = .ok (.ifCond .ne 6, 3) := by decide +kernel
theorem dX7_object_11 : decode cX7_object 11 = .ok (.bipush (-2), 2) := by decide +kernel
theorem dX7_object_13 : decode cX7_object 13 = .ok (.ireturn, 1) := by decide +kernel
theorem dX7_object_14 : decode cX7_object 14 = .ok (.aload_n 0, 1) := by decide +kernel
theorem dX7_object_15 : decode cX7_object 15 = .ok (.getfield 12, 3) := by decide +kernel
theorem dX7_object_18 : decode cX7_object 18 = .ok (.invokevirtual 61, 3) := by decide +kernel
theorem dX7_object_21 : decode cX7_object 21 = .ok (.ifCond .eq 6, 3) := by decide +kernel
theorem dX7_object_24 : decode cX7_object 24 = .ok (.bipush (-3), 2) := by decide +kernel
theorem dX7_object_26 : decode cX7_object 26 = .ok (.ireturn, 1) := by decide +kernel
theorem dX7_object_27 : decode cX7_object 27 = .ok (.aload_n 0, 1) := by decide +kernel
theorem dX7_object_28 : decode cX7_object 28 = .ok (.getfield 26, 3) := by decide +kernel
theorem dX7_object_31 : decode cX7_object 31 = .ok (.invokevirtual 65, 3) := by decide +kernel
theorem dX7_object_34 : decode cX7_object 34 = .ok (.aload_n 0, 1) := by decide +kernel
theorem dX7_object_35 : decode cX7_object 35 = .ok (.iload_n 1, 1) := by decide +kernel
theorem dX7_object_36 : decode cX7_object 36 = .ok (.invokevirtual 68, 3) := by decide +kernel
theorem dX7_object_39 : decode cX7_object 39 = .ok (.ireturn, 1) := by decide +kernel
set_option maxRecDepth 20000 in
theorem ggX7_remove_X6_isObject : GoodIn wsX7_remove wsX6_isObject := goodIn_r _ [9, 10, 85, 86, 87] (by decide +kernel) (by decide +kernel)
set_option maxRecDepth 20000 in
theorem gX7_remove_X6_isObject : GoodIn wsX7_remove (wsV RX7 72 RX6 yX6_isObject wsX6_isObject) := goodIn_app (goodIn_of _ (by decide +kernel)) ggX7_remove_X6_isObject
set_option maxRecDepth 20000 in
theorem ggX7_remove_X2_stop : GoodIn wsX7_remove wsX2_stop := goodIn_r _ [15, 16, 17, 88, 89, 90] (by decide +kernel) (by decide +kernel)
set_option maxRecDepth 20000 in
theorem gX7_remove_X2_stop : GoodIn wsX7_remove (wsV RX7 65 RX2 yX2_stop wsX2_stop) := goodIn_app (goodIn_of _ (by decide +kernel)) ggX7_remove_X2_stop
set_option maxRecDepth 20000 in
theorem ggX7_remove_X6_takeOut : GoodIn wsX7_remove wsX6_takeOut := goodIn_r _ [21, 22, 10, 23, 6, 7, 8, 9, 85, 86, 87] (by decide +kernel) (by decide +kernel)
set_option maxRecDepth 20000 in
theorem gX7_remove_X6_takeOut : GoodIn wsX7_remove (wsV RX7 75 RX6 yX6_takeOut wsX6_takeOut) := goodIn_app (goodIn_of _ (by decide +kernel)) ggX7_remove_X6_takeOut
set_option maxRecDepth 20000 in
theorem ggX7_remove_X6_attributes : GoodIn wsX7_remove wsX6_attributes := goodIn_r _ [27, 28, 85, 86, 87] (by decide +kernel) (by decide +kernel)
set_option maxRecDepth 20000 in
theorem gX7_remove_X6_attributes : GoodIn wsX7_remove (wsV RX7 78 RX6 yX6_attributes wsX6_attributes) := goodIn_app (goodIn_of _ (by decide +kernel)) ggX7_remove_X6_attributes
set_option maxRecDepth 20000 in
theorem ggX7_remove_X1_restart : GoodIn wsX7_remove wsX1_restart := goodIn_r _ [33, 34, 35, 36, 37, 38, 32, 39, 40, 41, 42, 43, 44, 45, 46, 47, 48, 49, 50, 51, 52, 53, 54, 55, 56, 57, 58, 59, 60, 61, 91, 92, 93, 94, 95] (by decide +kernel) (by decide +kernel)
set_option maxRecDepth 20000 in
theorem gX7_remove_X1_restart : GoodIn wsX7_remove (wsV RX7 48 RX1 yX1_restart wsX1_restart) := goodIn_app (goodIn_of _ (by decide +kernel)) ggX7_remove_X1_restart
set_option maxRecDepth 20000 in
theorem ggX7_remove_X6_size : GoodIn wsX7_remove wsX6_size := goodIn_r _ [65, 10, 85, 86, 87] (by decide +kernel) (by decide +kernel)
set_option maxRecDepth 20000 in
theorem gX7_remove_X6_size : GoodIn wsX7_remove (wsV RX7 49 RX6 yX6_size wsX6_size) := goodIn_app (goodIn_of _ (by decide +kernel)) ggX7_remove_X6_size
set_option maxRecDepth 20000 in
theorem ggX7_remove_X6_row : GoodIn wsX7_remove wsX6_row := goodIn_r _ [69, 10, 22, 85, 86, 87] (by decide +kernel) (by decide +kernel)
set_option maxRecDepth 20000 in
theorem gX7_remove_X6_row : GoodIn wsX7_remove (wsV RX7 81 RX6 yX6_row wsX6_row) := goodIn_app (goodIn_of _ (by decide +kernel)) ggX7_remove_X6_row
set_option maxRecDepth 20000 in
theorem ggX7_remove_X1_meetWith : GoodIn wsX7_remove wsX1_meetWith := goodIn_r _ [73, 35, 52, 48, 49, 50, 32, 51, 53, 54, 55, 56, 57, 58, 59, 60, 61, 40, 41, 42, 43, 44, 36, 37, 38, 39, 91, 92, 93, 94, 95] (by decide +kernel) (by decide +kernel)
set_option maxRecDepth 20000 in
theorem gX7_remove_X1_meetWith : GoodIn wsX7_remove (wsV RX7 84 RX1 yX1_meetWith wsX1_meetWith) := goodIn_app (goodIn_of _ (by decide +kernel)) ggX7_remove_X1_meetWith
set_option maxRecDepth 20000 in
theorem ggX7_remove_X0_forget : GoodIn wsX7_remove wsX0_forget := goodIn_r _ [78, 79, 96, 97, 98] (by decide +kernel) (by decide +kernel)
set_option maxRecDepth 20000 in
theorem gX7_remove_X0_forget : GoodIn wsX7_remove (wsV RX7 53 RX0 yX0_forget wsX0_forget) := goodIn_app (goodIn_of _ (by decide +kernel)) ggX7_remove_X0_forget
theorem dX7_remove_0 : decode cX7_remove 0 = .ok (.aload_n 0, 1) := by decide +kernel
theorem dX7_remove_1 : decode cX7_remove 1 = .ok (.getfield 12, 3) := by decide +kernel
theorem dX7_remove_4 : decode cX7_remove 4 = .ok (.iload_n 1, 1) := by decide +kernel
theorem dX7_remove_5 : decode cX7_remove 5 = .ok (.invokevirtual 72, 3) := by decide +kernel
theorem dX7_remove_8 : decode cX7_remove 8 = .ok (.ifCond .ne 6, 3) := by decide +kernel
theorem dX7_remove_11 : decode cX7_remove 11 = .ok (.bipush (-2), 2) := by decide +kernel
theorem dX7_remove_13 : decode cX7_remove 13 = .ok (.ireturn, 1) := by decide +kernel
theorem dX7_remove_14 : decode cX7_remove 14 = .ok (.aload_n 0, 1) := by decide +kernel
theorem dX7_remove_15 : decode cX7_remove 15 = .ok (.getfield 26, 3) := by decide +kernel
theorem dX7_remove_18 : decode cX7_remove 18 = .ok (.invokevirtual 65, 3) := by decide +kernel
theorem dX7_remove_21 : decode cX7_remove 21 = .ok (.aload_n 0, 1) := by decide +kernel
theorem dX7_remove_22 : decode cX7_remove 22 = .ok (.getfield 12, 3) := by decide +kernel
theorem dX7_remove_25 : decode cX7_remove 25 = .ok (.iload_n 1, 1) := by decide +kernel
theorem dX7_remove_26 : decode cX7_remove 26 = .ok (.invokevirtual 75, 3) := by decide +kernel
theorem dX7_remove_29 : decode cX7_remove 29 = .ok (.istore_n 2, 1) := by decide +kernel
theorem dX7_remove_30 : decode cX7_remove 30 = .ok (.aload_n 0, 1) := by decide +kernel
theorem dX7_remove_31 : decode cX7_remove 31 = .ok (.getfield 33, 3) := by decide +kernel
theorem dX7_remove_34 : decode cX7_remove 34 = .ok (.aload_n 0, 1) := by decide +kernel
theorem dX7_remove_35 : decode cX7_remove 35 = .ok (.getfield 12, 3) := by decide +kernel
theorem dX7_remove_38 : decode cX7_remove 38 = .ok (.invokevirtual 78, 3) := by decide +kernel
theorem dX7_remove_41 : decode cX7_remove 41 = .ok (.invokevirtual 48, 3) := by decide +kernel
theorem dX7_remove_44 : decode cX7_remove 44 = .ok (.iconst 0, 1) := by decide +kernel
theorem dX7_remove_45 : decode cX7_remove 45 = .ok (.istore_n 3, 1) := by decide +kernel
theorem dX7_remove_46 : decode cX7_remove 46 = .ok (.iload_n 3, 1) := by decide +kernel
theorem dX7_remove_47 : decode cX7_remove 47 = .ok (.aload_n 0, 1) := by decide +kernel
theorem dX7_remove_48 : decode cX7_remove 48 = .ok (.getfield 12, 3) := by decide +kernel
theorem dX7_remove_51 : decode cX7_remove 51 = .ok (.invokevirtual 49, 3) := by decide +kernel
theorem dX7_remove_54 : decode cX7_remove 54 = .ok (.if_icmp .ge 24, 3) := by decide +kernel
theorem dX7_remove_57 : decode cX7_remove 57 = .ok (.aload_n 0, 1) := by decide +kernel
theorem dX7_remove_58 : decode cX7_remove 58 = .ok (.getfield 33, 3) := by decide +kernel
theorem dX7_remove_61 : decode cX7_remove 61 = .ok (.aload_n 0, 1) := by decide +kernel
theorem dX7_remove_62 : decode cX7_remove 62 = .ok (.getfield 12, 3) := by decide +kernel
theorem dX7_remove_65 : decode cX7_remove 65 = .ok (.iload_n 3, 1) := by decide +kernel
theorem dX7_remove_66 : decode cX7_remove 66 = .ok (.invokevirtual 81, 3) := by decide +kernel
theorem dX7_remove_69 : decode cX7_remove 69 = .ok (.invokevirtual 84, 3) := by decide +kernel
theorem dX7_remove_72 : decode cX7_remove 72 = .ok (.iinc 3 1, 3) := by decide +kernel
theorem dX7_remove_75 : decode cX7_remove 75 = .ok (.goto (-29), 3) := by decide +kernel
theorem dX7_remove_78 : decode cX7_remove 78 = .ok (.aload_n 0, 1) := by decide +kernel
theorem dX7_remove_79 : decode cX7_remove 79 = .ok (.getfield 40, 3) := by decide +kernel
theorem dX7_remove_82 : decode cX7_remove 82 = .ok (.invokevirtual 53, 3) := by decide +kernel
theorem dX7_remove_85 : decode cX7_remove 85 = .ok (.iload_n 2, 1) := by decide +kernel
theorem dX7_remove_86 : decode cX7_remove 86 = .ok (.ireturn, 1) := by decide +kernel
set_option maxRecDepth 20000 in
theorem ggX7_common_X6_isObjectSet : GoodIn wsX7_common wsX6_isObjectSet := goodIn_r _ [6, 7, 8, 9, 10, 11, 12, 13, 14, 30, 31, 32] (by decide +kernel) (by decide +kernel)
set_option maxRecDepth 20000 in
theorem gX7_common_X6_isObjectSet : GoodIn wsX7_common (wsV RX7 87 RX6 yX6_isObjectSet wsX6_isObjectSet) := goodIn_app (goodIn_of _ (by decide +kernel)) ggX7_common_X6_isObjectSet
set_option maxRecDepth 20000 in
theorem ggX7_common_X6_commonOf : GoodIn wsX7_common wsX6_commonOf := goodIn_r _ [18, 7, 19, 20, 21, 22, 5, 23, 24, 8, 9, 10, 11, 30, 31, 32] (by decide +kernel) (by decide +kernel)
set_option maxRecDepth 20000 in
theorem gX7_common_X6_commonOf : GoodIn wsX7_common (wsV RX7 90 RX6 yX6_commonOf wsX6_commonOf) := goodIn_app (goodIn_of _ (by decide +kernel)) ggX7_common_X6_commonOf
theorem dX7_common_0 : decode cX7_common 0 = .ok (.aload_n 0, 1) := by decide +kernel
theorem dX7_common_1 : decode cX7_common 1 = .ok (.getfield 12, 3) := by decide +kernel
theorem dX7_common_4 : decode cX7_common 4 = .ok (.iload_n 1, 1) := by decide +kernel
theorem dX7_common_5 : decode cX7_common 5 = .ok (.invokevirtual 87, 3) := by decide +kernel
theorem dX7_common_8 : decode cX7_common 8 = .ok (.ifCond .eq 14, 3) := by decide +kernel
theorem dX7_common_11 : decode cX7_common 11 = .ok (.aload_n 0, 1) := by decide +kernel
theorem dX7_common_12 : decode cX7_common 12 = .ok (.getfield 12, 3) := by decide +kernel
theorem dX7_common_15 : decode cX7_common 15 = .ok (.iload_n 1, 1) := by decide +kernel
theorem dX7_common_16 : decode cX7_common 16 = .ok (.invokevirtual 90, 3) := by decide +kernel
theorem dX7_common_19 : decode cX7_common 19 = .ok (.goto 5, 3) := by decide +kernel
theorem dX7_common_22 : decode cX7_common 22 = .ok (.bipush (-2), 2) := by decide +kernel
theorem dX7_common_24 : decode cX7_common 24 = .ok (.ireturn, 1) := by decide +kernel
set_option maxRecDepth 20000 in
theorem ggX7_extent_X6_isAttributeSet : GoodIn wsX7_extent wsX6_isAttributeSet := goodIn_r _ [6, 7, 8, 9, 5, 10, 11, 12, 13, 14, 15, 16, 17, 18, 30, 31, 32] (by decide +kernel) (by decide +kernel)
set_option maxRecDepth 20000 in
theorem gX7_extent_X6_isAttributeSet : GoodIn wsX7_extent (wsV RX7 57 RX6 yX6_isAttributeSet wsX6_isAttributeSet) := goodIn_app (goodIn_of _ (by decide +kernel)) ggX7_extent_X6_isAttributeSet
set_option maxRecDepth 20000 in
theorem ggX7_extent_X6_extentOf : GoodIn wsX7_extent wsX6_extentOf := goodIn_r _ [22, 23, 24, 16, 17, 14, 18, 30, 31, 32] (by decide +kernel) (by decide +kernel)
set_option maxRecDepth 20000 in
theorem gX7_extent_X6_extentOf : GoodIn wsX7_extent (wsV RX7 93 RX6 yX6_extentOf wsX6_extentOf) := goodIn_app (goodIn_of _ (by decide +kernel)) ggX7_extent_X6_extentOf
theorem dX7_extent_0 : decode cX7_extent 0 = .ok (.aload_n 0, 1) := by decide +kernel
theorem dX7_extent_1 : decode cX7_extent 1 = .ok (.getfield 12, 3) := by decide +kernel
theorem dX7_extent_4 : decode cX7_extent 4 = .ok (.iload_n 1, 1) := by decide +kernel
theorem dX7_extent_5 : decode cX7_extent 5 = .ok (.invokevirtual 57, 3) := by decide +kernel
theorem dX7_extent_8 : decode cX7_extent 8 = .ok (.ifCond .eq 14, 3) := by decide +kernel
theorem dX7_extent_11 : decode cX7_extent 11 = .ok (.aload_n 0, 1) := by decide +kernel
theorem dX7_extent_12 : decode cX7_extent 12 = .ok (.getfield 12, 3) := by decide +kernel
theorem dX7_extent_15 : decode cX7_extent 15 = .ok (.iload_n 1, 1) := by decide +kernel
theorem dX7_extent_16 : decode cX7_extent 16 = .ok (.invokevirtual 93, 3) := by decide +kernel
theorem dX7_extent_19 : decode cX7_extent 19 = .ok (.goto 5, 3) := by decide +kernel
theorem dX7_extent_22 : decode cX7_extent 22 = .ok (.bipush (-2), 2) := by decide +kernel
theorem dX7_extent_24 : decode cX7_extent 24 = .ok (.ireturn, 1) := by decide +kernel
set_option maxRecDepth 20000 in
theorem ggX7_closure_X6_isAttributeSet : GoodIn wsX7_closure wsX6_isAttributeSet := goodIn_r _ [6, 7, 8, 9, 5, 10, 11, 12, 13, 14, 15, 16, 17, 18, 30, 31, 32] (by decide +kernel) (by decide +kernel)
set_option maxRecDepth 20000 in
theorem gX7_closure_X6_isAttributeSet : GoodIn wsX7_closure (wsV RX7 57 RX6 yX6_isAttributeSet wsX6_isAttributeSet) := goodIn_app (goodIn_of _ (by decide +kernel)) ggX7_closure_X6_isAttributeSet
set_option maxRecDepth 20000 in
theorem ggX7_closure_X6_closureOf : GoodIn wsX7_closure wsX6_closureOf := goodIn_r _ [22, 23, 24, 7, 8, 9, 5, 10, 11, 12, 13, 14, 15, 16, 17, 18, 30, 31, 32] (by decide +kernel) (by decide +kernel)
set_option maxRecDepth 20000 in
theorem gX7_closure_X6_closureOf : GoodIn wsX7_closure (wsV RX7 96 RX6 yX6_closureOf wsX6_closureOf) := goodIn_app (goodIn_of _ (by decide +kernel)) ggX7_closure_X6_closureOf
theorem dX7_closure_0 : decode cX7_closure 0 = .ok (.aload_n 0, 1) := by decide +kernel
theorem dX7_closure_1 : decode cX7_closure 1 = .ok (.getfield 12, 3) := by decide +kernel
theorem dX7_closure_4 : decode cX7_closure 4 = .ok (.iload_n 1, 1) := by decide +kernel
theorem dX7_closure_5 : decode cX7_closure 5 = .ok (.invokevirtual 57, 3) := by decide +kernel
theorem dX7_closure_8 : decode cX7_closure 8 = .ok (.ifCond .eq 14, 3) := by decide +kernel
theorem dX7_closure_11 : decode cX7_closure 11 = .ok (.aload_n 0, 1) := by decide +kernel
theorem dX7_closure_12 : decode cX7_closure 12 = .ok (.getfield 12, 3) := by decide +kernel
theorem dX7_closure_15 : decode cX7_closure 15 = .ok (.iload_n 1, 1) := by decide +kernel
theorem dX7_closure_16 : decode cX7_closure 16 = .ok (.invokevirtual 96, 3) := by decide +kernel
theorem dX7_closure_19 : decode cX7_closure 19 = .ok (.goto 5, 3) := by decide +kernel
theorem dX7_closure_22 : decode cX7_closure 22 = .ok (.bipush (-2), 2) := by decide +kernel
theorem dX7_closure_24 : decode cX7_closure 24 = .ok (.ireturn, 1) := by decide +kernel
set_option maxRecDepth 20000 in
theorem ggX7_next_X6_isAttributeSet : GoodIn wsX7_next wsX6_isAttributeSet := goodIn_r _ [6, 7, 8, 9, 5, 10, 11, 12, 13, 14, 15, 16, 17, 18, 34, 35, 36] (by decide +kernel) (by decide +kernel)
set_option maxRecDepth 20000 in
theorem gX7_next_X6_isAttributeSet : GoodIn wsX7_next (wsV RX7 57 RX6 yX6_isAttributeSet wsX6_isAttributeSet) := goodIn_app (goodIn_of _ (by decide +kernel)) ggX7_next_X6_isAttributeSet
set_option maxRecDepth 20000 in
theorem ggX7_next_X6_closedBehind : GoodIn wsX7_next wsX6_closedBehind := goodIn_r _ [22, 11, 23, 24, 25, 5, 26, 27, 28, 7, 8, 9, 10, 12, 13, 14, 15, 16, 17, 18, 34, 35, 36] (by decide +kernel) (by decide +kernel)
set_option maxRecDepth 20000 in
theorem gX7_next_X6_closedBehind : GoodIn wsX7_next (wsV RX7 99 RX6 yX6_closedBehind wsX6_closedBehind) := goodIn_app (goodIn_of _ (by decide +kernel)) ggX7_next_X6_closedBehind
theorem dX7_next_0 : decode cX7_next 0 = .ok (.aload_n 0, 1) := by decide +kernel
theorem dX7_next_1 : decode cX7_next 1 = .ok (.getfield 12, 3) := by decide +kernel
theorem dX7_next_4 : decode cX7_next 4 = .ok (.iload_n 1, 1) := by decide +kernel
theorem dX7_next_5 : decode cX7_next 5 = .ok (.invokevirtual 57, 3) := by decide +kernel
theorem dX7_next_8 : decode cX7_next 8 = .ok (.ifCond .eq 14, 3) := by decide +kernel
theorem dX7_next_11 : decode cX7_next 11 = .ok (.aload_n 0, 1) := by decide +kernel
theorem dX7_next_12 : decode cX7_next 12 = .ok (.getfield 12, 3) := by decide +kernel
theorem dX7_next_15 : decode cX7_next 15 = .ok (.iload_n 1, 1) := by decide +kernel
theorem dX7_next_16 : decode cX7_next 16 = .ok (.invokevirtual 99, 3) := by decide +kernel
theorem dX7_next_19 : decode cX7_next 19 = .ok (.goto 5, 3) := by decide +kernel
theorem dX7_next_22 : decode cX7_next 22 = .ok (.bipush (-2), 2) := by decide +kernel
theorem dX7_next_24 : decode cX7_next 24 = .ok (.ireturn, 1) := by decide +kernel
set_option maxRecDepth 20000 in
theorem ggX7_concepts_X1_size : GoodIn wsX7_concepts wsX1_size := goodIn_r _ [6, 7, 13, 14, 15, 16, 17] (by decide +kernel) (by decide +kernel)
set_option maxRecDepth 20000 in
theorem gX7_concepts_X1_size : GoodIn wsX7_concepts (wsV RX7 102 RX1 yX1_size wsX1_size) := goodIn_app (goodIn_of _ (by decide +kernel)) ggX7_concepts_X1_size
theorem dX7_concepts_0 : decode cX7_concepts 0 = .ok (.aload_n 0, 1) := by decide +kernel
theorem dX7_concepts_1 : decode cX7_concepts 1 = .ok (.getfield 33, 3) := by decide +kernel
theorem dX7_concepts_4 : decode cX7_concepts 4 = .ok (.invokevirtual 102, 3) := by decide +kernel
theorem dX7_concepts_7 : decode cX7_concepts 7 = .ok (.ireturn, 1) := by decide +kernel
set_option maxRecDepth 20000 in
theorem ggX7_concept_X1_size : GoodIn wsX7_concept wsX1_size := goodIn_r _ [8, 9, 135, 136, 137, 138, 139] (by decide +kernel) (by decide +kernel)
set_option maxRecDepth 20000 in
theorem gX7_concept_X1_size : GoodIn wsX7_concept (wsV RX7 102 RX1 yX1_size wsX1_size) := goodIn_app (goodIn_of _ (by decide +kernel)) ggX7_concept_X1_size
set_option maxRecDepth 20000 in
theorem ggX7_concept_X1_arrange : GoodIn wsX7_concept wsX1_arrange := goodIn_r _ [13, 14, 9, 15, 16, 17, 18, 7, 19, 20, 21, 22, 23, 24, 25, 26, 27, 28, 29, 30, 31, 32, 33, 34, 35, 36, 37, 38, 39, 40, 41, 42, 43, 44, 45, 46, 47, 48, 49, 50, 51, 52, 53, 54, 55, 56, 57, 58, 59, 135, 136, 137, 138, 139, 140, 141, 142] (by decide +kernel) (by decide +kernel)
set_option maxRecDepth 20000 in
theorem gX7_concept_X1_arrange : GoodIn wsX7_concept (wsV RX7 103 RX1 yX1_arrange wsX1_arrange) := goodIn_app (goodIn_of _ (by decide +kernel)) ggX7_concept_X1_arrange
set_option maxRecDepth 20000 in
theorem ggX7_concept_X1_member : GoodIn wsX7_concept wsX1_member := goodIn_r _ [63, 9, 15, 135, 136, 137, 138, 139] (by decide +kernel) (by decide +kernel)
set_option maxRecDepth 20000 in
theorem gX7_concept_X1_member : GoodIn wsX7_concept (wsV RX7 107 RX1 yX1_member wsX1_member) := goodIn_app (goodIn_of _ (by decide +kernel)) ggX7_concept_X1_member
set_option maxRecDepth 20000 in
theorem ggX7_concept_X6_extentOf : GoodIn wsX7_concept wsX6_extentOf := goodIn_r _ [67, 50, 55, 68, 69, 32, 70, 140, 141, 142] (by decide +kernel) (by decide +kernel)
set_option maxRecDepth 20000 in
theorem gX7_concept_X6_extentOf : GoodIn wsX7_concept (wsV RX7 93 RX6 yX6_extentOf wsX6_extentOf) := goodIn_app (goodIn_of _ (by decide +kernel)) ggX7_concept_X6_extentOf
set_option maxRecDepth 20000 in
theorem ggX7_concept_X1_levelOf : GoodIn wsX7_concept wsX1_levelOf := goodIn_r _ [28, 29, 30, 31, 32, 33, 135, 136, 137, 138, 139] (by decide +kernel) (by decide +kernel)
set_option maxRecDepth 20000 in
theorem gX7_concept_X1_levelOf : GoodIn wsX7_concept (wsV RX7 110 RX1 yX1_levelOf wsX1_levelOf) := goodIn_app (goodIn_of _ (by decide +kernel)) ggX7_concept_X1_levelOf
set_option maxRecDepth 20000 in
theorem ggX7_concept_X3_findAbove : GoodIn wsX7_concept wsX3_findAbove := goodIn_r _ [76, 77, 78, 46, 47, 48, 49, 50, 79, 52, 53, 54, 55, 80, 81, 82, 75, 83, 84, 85, 86, 87, 88, 89, 69, 32, 70, 90, 91, 92, 93, 94, 95, 96, 97, 98, 99, 100, 143, 144, 140, 141, 142] (by decide +kernel) (by decide +kernel)
set_option maxRecDepth 20000 in
theorem gX7_concept_X3_findAbove : GoodIn wsX7_concept (wsV RX7 113 RX3 yX3_findAbove wsX3_findAbove) := goodIn_app (goodIn_of _ (by decide +kernel)) ggX7_concept_X3_findAbove
set_option maxRecDepth 20000 in
theorem ggX7_concept_X3_size : GoodIn wsX7_concept wsX3_size := goodIn_r _ [104, 77, 143, 144] (by decide +kernel) (by decide +kernel)
set_option maxRecDepth 20000 in
theorem gX7_concept_X3_size : GoodIn wsX7_concept (wsV RX7 117 RX3 yX3_size wsX3_size) := goodIn_app (goodIn_of _ (by decide +kernel)) ggX7_concept_X3_size
set_option maxRecDepth 20000 in
theorem ggX7_concept_X3_findBelow : GoodIn wsX7_concept wsX3_findBelow := goodIn_r _ [108, 77, 109, 110, 111, 48, 112, 113, 114, 115, 32, 116, 117, 118, 119, 120, 121, 122, 123, 124, 50, 55, 125, 68, 69, 70, 80, 81, 82, 75, 83, 84, 85, 86, 87, 88, 89, 90, 91, 92, 93, 94, 95, 96, 97, 98, 99, 100, 143, 144, 140, 141, 142] (by decide +kernel) (by decide +kernel)
set_option maxRecDepth 20000 in
theorem gX7_concept_X3_findBelow : GoodIn wsX7_concept (wsV RX7 118 RX3 yX3_findBelow wsX3_findBelow) := goodIn_app (goodIn_of _ (by decide +kernel)) ggX7_concept_X3_findBelow
set_option maxRecDepth 20000 in
theorem ggX7_concept_X3_member : GoodIn wsX7_concept wsX3_member := goodIn_r _ [129, 77, 88, 143, 144] (by decide +kernel) (by decide +kernel)
set_option maxRecDepth 20000 in
theorem gX7_concept_X3_member : GoodIn wsX7_concept (wsV RX7 121 RX3 yX3_member wsX3_member) := goodIn_app (goodIn_of _ (by decide +kernel)) ggX7_concept_X3_member
theorem dX7_concept_0 : decode cX7_concept 0 = .ok (.iload_n 2, 1) := by decide +kernel
theorem dX7_concept_1 : decode cX7_concept 1 = .ok (.ifCond .ge 6, 3) := by decide +kernel
theorem dX7_concept_4 : decode cX7_concept 4 = .ok (.bipush (-2), 2) := by decide +kernel
theorem dX7_concept_6 : decode cX7_concept 6 = .ok (.ireturn, 1) := by decide +kernel
theorem dX7_concept_7 : decode cX7_concept 7 = .ok (.iload_n 1, 1) := by decide +kernel
theorem dX7_concept_8 : decode cX7_concept 8 = .ok (.ifCond .lt 14, 3) := by decide +kernel
theorem dX7_concept_11 : decode cX7_concept 11 = .ok (.iload_n 1, 1) := by decide +kernel
theorem dX7_concept_12 : decode cX7_concept 12 = .ok (.aload_n 0, 1) := by decide +kernel
theorem dX7_concept_13 : decode cX7_concept 13 = .ok (.getfield 33, 3) := by decide +kernel
theorem dX7_concept_16 : decode cX7_concept 16 = .ok (.invokevirtual 102, 3) := by decide +kernel
theorem dX7_concept_19 : decode cX7_concept 19 = .ok (.if_icmp .lt 5, 3) := by decide +kernel
theorem dX7_concept_22 : decode cX7_concept 22 = .ok (.iconst (-1), 1) := by decide +kernel
theorem dX7_concept_23 : decode cX7_concept 23 = .ok (.ireturn, 1) := by decide +kernel
theorem dX7_concept_24 : decode cX7_concept 24 = .ok (.aload_n 0, 1) := by decide +kernel
theorem dX7_concept_25 : decode cX7_concept 25 = .ok (.getfield 33, 3) := by decide +kernel
theorem dX7_concept_28 : decode cX7_concept 28 = .ok (.aload_n 0, 1) := by decide +kernel
theorem dX7_concept_29 : decode cX7_concept 29 = .ok (.getfield 12, 3) := by decide +kernel
theorem dX7_concept_32 : decode cX7_concept 32 = .ok (.invokevirtual 103, 3) := by decide +kernel
theorem dX7_concept_35 : decode cX7_concept 35 = .ok (.aload_n 0, 1) := by decide +kernel
theorem dX7_concept_36 : decode cX7_concept 36 = .ok (.getfield 33, 3) := by decide +kernel
theorem dX7_concept_39 : decode cX7_concept 39 = .ok (.iload_n 1, 1) := by decide +kernel
theorem dX7_concept_40 : decode cX7_concept 40 = .ok (.invokevirtual 107, 3) := by decide +kernel
theorem dX7_concept_43 : decode cX7_concept 43 = .ok (.istore_n 3, 1) := by decide +kernel
theorem dX7_concept_44 : decode cX7_concept 44 = .ok (.iload_n 2, 1) := by decide +kernel
theorem dX7_concept_45 : decode cX7_concept 45 = .ok (.tableswitch 95 0 4 #[35, 37, 46, 55, 75], 35) := by decide +kernel
theorem dX7_concept_80 : decode cX7_concept 80 = .ok (.iload_n 3, 1) := by decide +kernel
theorem dX7_concept_81 : decode cX7_concept 81 = .ok (.ireturn, 1) := by decide +kernel
theorem dX7_concept_82 : decode cX7_concept 82 = .ok (.aload_n 0, 1) := by decide +kernel
theorem dX7_concept_83 : decode cX7_concept 83 = .ok (.getfield 12, 3) := by decide +kernel
theorem dX7_concept_86 : decode cX7_concept 86 = .ok (.iload_n 3, 1) := by decide +kernel
theorem dX7_concept_87 : decode cX7_concept 87 = .ok (.invokevirtual 93, 3) := by decide +kernel
theorem dX7_concept_90 : decode cX7_concept 90 = .ok (.ireturn, 1) := by decide +kernel
theorem dX7_concept_91 : decode cX7_concept 91 = .ok (.aload_n 0, 1) := by decide +kernel
theorem dX7_concept_92 : decode cX7_concept 92 = .ok (.getfield 33, 3) := by decide +kernel
theorem dX7_concept_95 : decode cX7_concept 95 = .ok (.iload_n 3, 1) := by decide +kernel
theorem dX7_concept_96 : decode cX7_concept 96 = .ok (.invokevirtual 110, 3) := by decide +kernel
theorem dX7_concept_99 : decode cX7_concept 99 = .ok (.ireturn, 1) := by decide +kernel
theorem dX7_concept_100 : decode cX7_concept 100 = .ok (.aload_n 0, 1) := by decide +kernel
theorem dX7_concept_101 : decode cX7_concept 101 = .ok (.getfield 19, 3) := by decide +kernel
theorem dX7_concept_104 : decode cX7_concept 104 = .ok (.iload_n 3, 1) := by decide +kernel
theorem dX7_concept_105 : decode cX7_concept 105 = .ok (.aload_n 0, 1) := by decide +kernel
theorem dX7_concept_106 : decode cX7_concept 106 = .ok (.getfield 12, 3) := by decide +kernel
theorem dX7_concept_109 : decode cX7_concept 109 = .ok (.invokevirtual 113, 3) := by decide +kernel
theorem dX7_concept_112 : decode cX7_concept 112 = .ok (.aload_n 0, 1) := by decide +kernel
theorem dX7_concept_113 : decode cX7_concept 113 = .ok (.getfield 19, 3) := by decide +kernel
