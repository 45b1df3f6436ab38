theorem dX4_areKeptBy_1 : decode cX4_areKeptBy 1 = .ok (.istore_n 2, 1) := by decide +kernel
theorem dX4_areKeptBy_2 : decode cX4_areKeptBy 2 = .ok (.iload_n 2, 1) := by decide +kernel
theorem dX4_areKeptBy_3 : decode cX4_areKeptBy 3 = .ok (.aload_n 0, 1) := by decide +kernel
theorem dX4_areKeptBy_4 : decode cX4_areKeptBy 4 = .ok (.getfield 24, 3) := by decide +kernel
theorem dX4_areKeptBy_7 : decode cX4_areKeptBy 7 = .ok (.if_icmp .ge 37, 3) := by decide +kernel
theorem dX4_areKeptBy_10 : decode cX4_areKeptBy 10 = .ok (.iload_n 1, 1) := by decide +kernel
theorem dX4_areKeptBy_11 : decode cX4_areKeptBy 11 = .ok (.aload_n 0, 1) := by decide +kernel
theorem dX4_areKeptBy_12 : decode cX4_areKeptBy 12 = .ok (.getfield 15, 3) := by decide +kernel
theorem dX4_areKeptBy_15 : decode cX4_areKeptBy 15 = .ok (.iload_n 2, 1) := by decide +kernel
theorem dX4_areKeptBy_16 : decode cX4_areKeptBy 16 = .ok (.iaload, 1) := by decide +kernel
theorem dX4_areKeptBy_17 : decode cX4_areKeptBy 17 = .ok (.invokestatic 28, 3) := by decide +kernel
theorem dX4_areKeptBy_20 : decode cX4_areKeptBy 20 = .ok (.ifCond .eq 18, 3) := by decide +kernel
theorem dX4_areKeptBy_23 : decode cX4_areKeptBy 23 = .ok (.iload_n 1, 1) := by decide +kernel
theorem dX4_areKeptBy_24 : decode cX4_areKeptBy 24 = .ok (.aload_n 0, 1) := by decide +kernel
theorem dX4_areKeptBy_25 : decode cX4_areKeptBy 25 = .ok (.getfield 21, 3) := by decide +kernel
theorem dX4_areKeptBy_28 : decode cX4_areKeptBy 28 = .ok (.iload_n 2, 1) := by decide +kernel
theorem dX4_areKeptBy_29 : decode cX4_areKeptBy 29 = .ok (.iaload, 1) := by decide +kernel
theorem dX4_areKeptBy_30 : decode cX4_areKeptBy 30 = .ok (.invokestatic 28, 3) := by decide +kernel
theorem dX4_areKeptBy_33 : decode cX4_areKeptBy 33 = .ok (.ifCond .ne 5, 3) := by decide +kernel
theorem dX4_areKeptBy_36 : decode cX4_areKeptBy 36 = .ok (.iconst 0, 1) := by decide +kernel
theorem dX4_areKeptBy_37 : decode cX4_areKeptBy 37 = .ok (.ireturn, 1) := by decide +kernel
theorem dX4_areKeptBy_38 : decode cX4_areKeptBy 38 = .ok (.iinc 2 1, 3) := by decide +kernel
theorem dX4_areKeptBy_41 : decode cX4_areKeptBy 41 = .ok (.goto (-39), 3) := by decide +kernel
theorem dX4_areKeptBy_44 : decode cX4_areKeptBy 44 = .ok (.iconst 1, 1) := by decide +kernel
theorem dX4_areKeptBy_45 : decode cX4_areKeptBy 45 = .ok (.ireturn, 1) := by decide +kernel
set_option maxRecDepth 20000 in
theorem ggX4_leastKeeping_X4_applyOnce : GoodIn wsX4_leastKeeping wsX4_applyOnce := goodIn_r _ [10, 11, 12, 13, 14, 15, 16, 17, 18, 19] (by decide +kernel) (by decide +kernel)
set_option maxRecDepth 20000 in
theorem gX4_leastKeeping_X4_applyOnce : GoodIn wsX4_leastKeeping (wsV RX4 37 RX4 yX4_applyOnce wsX4_applyOnce) := goodIn_app (goodIn_of _ (by decide +kernel)) ggX4_leastKeeping_X4_applyOnce
theorem dX4_leastKeeping_0 : decode cX4_leastKeeping 0 = .ok (.iload_n 1, 1) := by decide +kernel
theorem dX4_leastKeeping_1 : decode cX4_leastKeeping 1 = .ok (.istore_n 3, 1) := by decide +kernel
theorem dX4_leastKeeping_2 : decode cX4_leastKeeping 2 = .ok (.iconst 0, 1) := by decide +kernel
theorem dX4_leastKeeping_3 : decode cX4_leastKeeping 3 = .ok (.istore 4, 2) := by decide +kernel
theorem dX4_leastKeeping_5 : decode cX4_leastKeeping 5 = .ok (.iload 4, 2) := by decide +kernel
theorem dX4_leastKeeping_7 : decode cX4_leastKeeping 7 = .ok (.bipush 12, 2) := by decide +kernel
theorem dX4_leastKeeping_9 : decode cX4_leastKeeping 9 = .ok (.if_icmp .gt 35, 3) := by decide +kernel
theorem dX4_leastKeeping_12 : decode cX4_leastKeeping 12 = .ok (.iload_n 3, 1) := by decide +kernel
theorem dX4_leastKeeping_13 : decode cX4_leastKeeping 13 = .ok (.istore 5, 2) := by decide +kernel
theorem dX4_leastKeeping_15 : decode cX4_leastKeeping 15 = .ok (.aload_n 0, 1) := by decide +kernel
theorem dX4_leastKeeping_16 : decode cX4_leastKeeping 16 = .ok (.iload_n 3, 1) := by decide +kernel
theorem dX4_leastKeeping_17 : decode cX4_leastKeeping 17 = .ok (.iload_n 2, 1) := by decide +kernel
theorem dX4_leastKeeping_18 : decode cX4_leastKeeping 18 = .ok (.aload_n 0, 1) := by decide +kernel
theorem dX4_leastKeeping_19 : decode cX4_leastKeeping 19 = .ok (.getfield 24, 3) := by decide +kernel
theorem dX4_leastKeeping_22 : decode cX4_leastKeeping 22 = .ok (.invokestatic 34, 3) := by decide +kernel
theorem dX4_leastKeeping_25 : decode cX4_leastKeeping 25 = .ok (.invokevirtual 37, 3) := by decide +kernel
theorem dX4_leastKeeping_28 : decode cX4_leastKeeping 28 = .ok (.istore_n 3, 1) := by decide +kernel
theorem dX4_leastKeeping_29 : decode cX4_leastKeeping 29 = .ok (.iload_n 3, 1) := by decide +kernel
theorem dX4_leastKeeping_30 : decode cX4_leastKeeping 30 = .ok (.iload 5, 2) := by decide +kernel
theorem dX4_leastKeeping_32 : decode cX4_leastKeeping 32 = .ok (.if_icmp .ne 6, 3) := by decide +kernel
theorem dX4_leastKeeping_35 : decode cX4_leastKeeping 35 = .ok (.goto 9, 3) := by decide +kernel
theorem dX4_leastKeeping_38 : decode cX4_leastKeeping 38 = .ok (.iinc 4 1, 3) := by decide +kernel
theorem dX4_leastKeeping_41 : decode cX4_leastKeeping 41 = .ok (.goto (-36), 3) := by decide +kernel
theorem dX4_leastKeeping_44 : decode cX4_leastKeeping 44 = .ok (.iload_n 3, 1) := by decide +kernel
theorem dX4_leastKeeping_45 : decode cX4_leastKeeping 45 = .ok (.ireturn, 1) := by decide +kernel
set_option maxRecDepth 20000 in
theorem ggX4_applyOnce_X5_hasAll : GoodIn wsX4_applyOnce wsX5_hasAll := goodIn_r _ [6] (by decide +kernel) (by decide +kernel)
set_option maxRecDepth 20000 in
theorem gX4_applyOnce_X5_hasAll : GoodIn wsX4_applyOnce (va_wsS RX4 28 yX5_hasAll wsX5_hasAll) := goodIn_app (goodIn_of _ (by decide +kernel)) ggX4_applyOnce_X5_hasAll
theorem dX4_applyOnce_0 : decode cX4_applyOnce 0 = .ok (.iload_n 1, 1) := by decide +kernel
theorem dX4_applyOnce_1 : decode cX4_applyOnce 1 = .ok (.istore_n 3, 1) := by decide +kernel
theorem dX4_applyOnce_2 : decode cX4_applyOnce 2 = .ok (.iconst 0, 1) := by decide +kernel
theorem dX4_applyOnce_3 : decode cX4_applyOnce 3 = .ok (.istore 4, 2) := by decide +kernel
theorem dX4_applyOnce_5 : decode cX4_applyOnce 5 = .ok (.iload 4, 2) := by decide +kernel
theorem dX4_applyOnce_7 : decode cX4_applyOnce 7 = .ok (.iload_n 2, 1) := by decide +kernel
theorem dX4_applyOnce_8 : decode cX4_applyOnce 8 = .ok (.if_icmp .ge 33, 3) := by decide +kernel
theorem dX4_applyOnce_11 : decode cX4_applyOnce 11 = .ok (.iload_n 3, 1) := by decide +kernel
theorem dX4_applyOnce_12 : decode cX4_applyOnce 12 = .ok (.aload_n 0, 1) := by decide +kernel
theorem dX4_applyOnce_13 : decode cX4_applyOnce 13 = .ok (.getfield 15, 3) := by decide +kernel
theorem dX4_applyOnce_16 : decode cX4_applyOnce 16 = .ok (.iload 4, 2) := by decide +kernel
theorem dX4_applyOnce_18 : decode cX4_applyOnce 18 = .ok (.iaload, 1) := by decide +kernel
theorem dX4_applyOnce_19 : decode cX4_applyOnce 19 = .ok (.invokestatic 28, 3) := by decide +kernel
theorem dX4_applyOnce_22 : decode cX4_applyOnce 22 = .ok (.ifCond .eq 13, 3) := by decide +kernel
theorem dX4_applyOnce_25 : decode cX4_applyOnce 25 = .ok (.iload_n 3, 1) := by decide +kernel
theorem dX4_applyOnce_26 : decode cX4_applyOnce 26 = .ok (.aload_n 0, 1) := by decide +kernel
theorem dX4_applyOnce_27 : decode cX4_applyOnce 27 = .ok (.getfield 21, 3) := by decide +kernel
theorem dX4_applyOnce_30 : decode cX4_applyOnce 30 = .ok (.iload 4, 2) := by decide +kernel
theorem dX4_applyOnce_32 : decode cX4_applyOnce 32 = .ok (.iaload, 1) := by decide +kernel
theorem dX4_applyOnce_33 : decode cX4_applyOnce 33 = .ok (.ior, 1) := by decide +kernel
theorem dX4_applyOnce_34 : decode cX4_applyOnce 34 = .ok (.istore_n 3, 1) := by decide +kernel
theorem dX4_applyOnce_35 : decode cX4_applyOnce 35 = .ok (.iinc 4 1, 3) := by decide +kernel
theorem dX4_applyOnce_38 : decode cX4_applyOnce 38 = .ok (.goto (-33), 3) := by decide +kernel
theorem dX4_applyOnce_41 : decode cX4_applyOnce 41 = .ok (.iload_n 3, 1) := by decide +kernel
theorem dX4_applyOnce_42 : decode cX4_applyOnce 42 = .ok (.ireturn, 1) := by decide +kernel
theorem dX5_isIndexIn_0 : decode cX5_isIndexIn 0 = .ok (.iload_n 1, 1) := by decide +kernel
theorem dX5_isIndexIn_1 : decode cX5_isIndexIn 1 = .ok (.ifCond .lt 13, 3) := by decide +kernel
theorem dX5_isIndexIn_4 : decode cX5_isIndexIn 4 = .ok (.iload_n 1, 1) := by decide +kernel
theorem dX5_isIndexIn_5 : decode cX5_isIndexIn 5 = .ok (.aload_n 0, 1) := by decide +kernel
theorem dX5_isIndexIn_6 : decode cX5_isIndexIn 6 = .ok (.arraylength, 1) := by decide +kernel
theorem dX5_isIndexIn_7 : decode cX5_isIndexIn 7 = .ok (.if_icmp .ge 7, 3) := by decide +kernel
theorem dX5_isIndexIn_10 : decode cX5_isIndexIn 10 = .ok (.iconst 1, 1) := by decide +kernel
theorem dX5_isIndexIn_11 : decode cX5_isIndexIn 11 = .ok (.goto 4, 3) := by decide +kernel
theorem dX5_isIndexIn_14 : decode cX5_isIndexIn 14 = .ok (.iconst 0, 1) := by decide +kernel
theorem dX5_isIndexIn_15 : decode cX5_isIndexIn 15 = .ok (.ireturn, 1) := by decide +kernel
theorem dX5_allOf_0 : decode cX5_allOf 0 = .ok (.iconst 1, 1) := by decide +kernel
theorem dX5_allOf_1 : decode cX5_allOf 1 = .ok (.iload_n 0, 1) := by decide +kernel
theorem dX5_allOf_2 : decode cX5_allOf 2 = .ok (.ishl, 1) := by decide +kernel
theorem dX5_allOf_3 : decode cX5_allOf 3 = .ok (.iconst 1, 1) := by decide +kernel
theorem dX5_allOf_4 : decode cX5_allOf 4 = .ok (.isub, 1) := by decide +kernel
theorem dX5_allOf_5 : decode cX5_allOf 5 = .ok (.ireturn, 1) := by decide +kernel
theorem dX5_hasAll_0 : decode cX5_hasAll 0 = .ok (.iload_n 1, 1) := by decide +kernel
theorem dX5_hasAll_1 : decode cX5_hasAll 1 = .ok (.iload_n 0, 1) := by decide +kernel
theorem dX5_hasAll_2 : decode cX5_hasAll 2 = .ok (.iconst (-1), 1) := by decide +kernel
theorem dX5_hasAll_3 : decode cX5_hasAll 3 = .ok (.ixor, 1) := by decide +kernel
theorem dX5_hasAll_4 : decode cX5_hasAll 4 = .ok (.iand, 1) := by decide +kernel
theorem dX5_hasAll_5 : decode cX5_hasAll 5 = .ok (.ifCond .ne 7, 3) := by decide +kernel
theorem dX5_hasAll_8 : decode cX5_hasAll 8 = .ok (.iconst 1, 1) := by decide +kernel
theorem dX5_hasAll_9 : decode cX5_hasAll 9 = .ok (.goto 4, 3) := by decide +kernel
theorem dX5_hasAll_12 : decode cX5_hasAll 12 = .ok (.iconst 0, 1) := by decide +kernel
theorem dX5_hasAll_13 : decode cX5_hasAll 13 = .ok (.ireturn, 1) := by decide +kernel
set_option maxRecDepth 20000 in
theorem ggX5_hasAllAndMore_X5_hasAll : GoodIn wsX5_hasAllAndMore wsX5_hasAll := goodIn_r _ [4] (by decide +kernel) (by decide +kernel)
set_option maxRecDepth 20000 in
theorem gX5_hasAllAndMore_X5_hasAll : GoodIn wsX5_hasAllAndMore (va_wsS RX5 9 yX5_hasAll wsX5_hasAll) := goodIn_app (goodIn_of _ (by decide +kernel)) ggX5_hasAllAndMore_X5_hasAll
theorem dX5_hasAllAndMore_0 : decode cX5_hasAllAndMore 0 = .ok (.iload_n 0, 1) := by decide +kernel
theorem dX5_hasAllAndMore_1 : decode cX5_hasAllAndMore 1 = .ok (.iload_n 1, 1) := by decide +kernel
theorem dX5_hasAllAndMore_2 : decode cX5_hasAllAndMore 2 = .ok (.if_icmp .eq 15, 3) := by decide +kernel
theorem dX5_hasAllAndMore_5 : decode cX5_hasAllAndMore 5 = .ok (.iload_n 0, 1) := by decide +kernel
theorem dX5_hasAllAndMore_6 : decode cX5_hasAllAndMore 6 = .ok (.iload_n 1, 1) := by decide +kernel
theorem dX5_hasAllAndMore_7 : decode cX5_hasAllAndMore 7 = .ok (.invokestatic 9, 3) := by decide +kernel
theorem dX5_hasAllAndMore_10 : decode cX5_hasAllAndMore 10 = .ok (.ifCond .eq 7, 3) := by decide +kernel
theorem dX5_hasAllAndMore_13 : decode cX5_hasAllAndMore 13 = .ok (.iconst 1, 1) := by decide +kernel
theorem dX5_hasAllAndMore_14 : decode cX5_hasAllAndMore 14 = .ok (.goto 4, 3) := by decide +kernel
theorem dX5_hasAllAndMore_17 : decode cX5_hasAllAndMore 17 = .ok (.iconst 0, 1) := by decide +kernel
theorem dX5_hasAllAndMore_18 : decode cX5_hasAllAndMore 18 = .ok (.ireturn, 1) := by decide +kernel
theorem dX5_comesLater_0 : decode cX5_comesLater 0 = .ok (.iload_n 0, 1) := by decide +kernel
theorem dX5_comesLater_1 : decode cX5_comesLater 1 = .ok (.iload_n 1, 1) := by decide +kernel
theorem dX5_comesLater_2 : decode cX5_comesLater 2 = .ok (.ixor, 1) := by decide +kernel
theorem dX5_comesLater_3 : decode cX5_comesLater 3 = .ok (.istore_n 2, 1) := by decide +kernel
theorem dX5_comesLater_4 : decode cX5_comesLater 4 = .ok (.iload_n 2, 1) := by decide +kernel
theorem dX5_comesLater_5 : decode cX5_comesLater 5 = .ok (.iload_n 2, 1) := by decide +kernel
theorem dX5_comesLater_6 : decode cX5_comesLater 6 = .ok (.ineg, 1) := by decide +kernel
theorem dX5_comesLater_7 : decode cX5_comesLater 7 = .ok (.iand, 1) := by decide +kernel
theorem dX5_comesLater_8 : decode cX5_comesLater 8 = .ok (.istore_n 3, 1) := by decide +kernel
theorem dX5_comesLater_9 : decode cX5_comesLater 9 = .ok (.iload_n 0, 1) := by decide +kernel
theorem dX5_comesLater_10 : decode cX5_comesLater 10 = .ok (.iload_n 3, 1) := by decide +kernel
theorem dX5_comesLater_11 : decode cX5_comesLater 11 = .ok (.iand, 1) := by decide +kernel
theorem dX5_comesLater_12 : decode cX5_comesLater 12 = .ok (.ifCond .eq 7, 3) := by decide +kernel
theorem dX5_comesLater_15 : decode cX5_comesLater 15 = .ok (.iconst 1, 1) := by decide +kernel
theorem dX5_comesLater_16 : decode cX5_comesLater 16 = .ok (.goto 4, 3) := by decide +kernel
theorem dX5_comesLater_19 : decode cX5_comesLater 19 = .ok (.iconst 0, 1) := by decide +kernel
theorem dX5_comesLater_20 : decode cX5_comesLater 20 = .ok (.ireturn, 1) := by decide +kernel
theorem dX5_rightBehind_0 : decode cX5_rightBehind 0 = .ok (.iload_n 0, 1) := by decide +kernel
theorem dX5_rightBehind_1 : decode cX5_rightBehind 1 = .ok (.istore_n 2, 1) := by decide +kernel
theorem dX5_rightBehind_2 : decode cX5_rightBehind 2 = .ok (.iload_n 1, 1) := by decide +kernel
theorem dX5_rightBehind_3 : decode cX5_rightBehind 3 = .ok (.iconst 1, 1) := by decide +kernel
theorem dX5_rightBehind_4 : decode cX5_rightBehind 4 = .ok (.isub, 1) := by decide +kernel
theorem dX5_rightBehind_5 : decode cX5_rightBehind 5 = .ok (.istore_n 3, 1) := by decide +kernel
theorem dX5_rightBehind_6 : decode cX5_rightBehind 6 = .ok (.iload_n 3, 1) := by decide +kernel
theorem dX5_rightBehind_7 : decode cX5_rightBehind 7 = .ok (.ifCond .lt 31, 3) := by decide +kernel
theorem dX5_rightBehind_10 : decode cX5_rightBehind 10 = .ok (.iconst 1, 1) := by decide +kernel
theorem dX5_rightBehind_11 : decode cX5_rightBehind 11 = .ok (.iload_n 3, 1) := by decide +kernel
theorem dX5_rightBehind_12 : decode cX5_rightBehind 12 = .ok (.ishl, 1) := by decide +kernel
theorem dX5_rightBehind_13 : decode cX5_rightBehind 13 = .ok (.istore 4, 2) := by decide +kernel
theorem dX5_rightBehind_15 : decode cX5_rightBehind 15 = .ok (.iload_n 2, 1) := by decide +kernel
theorem dX5_rightBehind_16 : decode cX5_rightBehind 16 = .ok (.iload 4, 2) := by decide +kernel
theorem dX5_rightBehind_18 : decode cX5_rightBehind 18 = .ok (.iand, 1) := by decide +kernel
theorem dX5_rightBehind_19 : decode cX5_rightBehind 19 = .ok (.ifCond .ne 8, 3) := by decide +kernel
theorem dX5_rightBehind_22 : decode cX5_rightBehind 22 = .ok (.iload_n 2, 1) := by decide +kernel
theorem dX5_rightBehind_23 : decode cX5_rightBehind 23 = .ok (.iload 4, 2) := by decide +kernel
theorem dX5_rightBehind_25 : decode cX5_rightBehind 25 = .ok (.ior, 1) := by decide +kernel
theorem dX5_rightBehind_26 : decode cX5_rightBehind 26 = .ok (.ireturn, 1) := by decide +kernel
theorem dX5_rightBehind_27 : decode cX5_rightBehind 27 = .ok (.iload_n 2, 1) := by decide +kernel
theorem dX5_rightBehind_28 : decode cX5_rightBehind 28 = .ok (.iload 4, 2) := by decide +kernel
theorem dX5_rightBehind_30 : decode cX5_rightBehind 30 = .ok (.ixor, 1) := by decide +kernel
theorem dX5_rightBehind_31 : decode cX5_rightBehind 31 = .ok (.istore_n 2, 1) := by decide +kernel
theorem dX5_rightBehind_32 : decode cX5_rightBehind 32 = .ok (.iinc 3 (-1), 3) := by decide +kernel
theorem dX5_rightBehind_35 : decode cX5_rightBehind 35 = .ok (.goto (-29), 3) := by decide +kernel
theorem dX5_rightBehind_38 : decode cX5_rightBehind 38 = .ok (.iconst (-1), 1) := by decide +kernel
theorem dX5_rightBehind_39 : decode cX5_rightBehind 39 = .ok (.ireturn, 1) := by decide +kernel
theorem dX6_init_0 : decode cX6_init 0 = .ok (.aload_n 0, 1) := by decide +kernel
theorem dX6_init_1 : decode cX6_init 1 = .ok (.invokespecial 3, 3) := by decide +kernel
theorem dX6_init_4 : decode cX6_init 4 = .ok (.aload_n 0, 1) := by decide +kernel
theorem dX6_init_5 : decode cX6_init 5 = .ok (.bipush 20, 2) := by decide +kernel
theorem dX6_init_7 : decode cX6_init 7 = .ok (.newarray .int, 2) := by decide +kernel
theorem dX6_init_9 : decode cX6_init 9 = .ok (.putfield 9, 3) := by decide +kernel
theorem dX6_init_12 : decode cX6_init 12 = .ok (.return_, 1) := by decide +kernel
theorem dX6_restart_0 : decode cX6_restart 0 = .ok (.aload_n 0, 1) := by decide +kernel
theorem dX6_restart_1 : decode cX6_restart 1 = .ok (.iload_n 1, 1) := by decide +kernel
theorem dX6_restart_2 : decode cX6_restart 2 = .ok (.putfield 15, 3) := by decide +kernel
theorem dX6_restart_5 : decode cX6_restart 5 = .ok (.aload_n 0, 1) := by decide +kernel
theorem dX6_restart_6 : decode cX6_restart 6 = .ok (.iconst 0, 1) := by decide +kernel
theorem dX6_restart_7 : decode cX6_restart 7 = .ok (.putfield 19, 3) := by decide +kernel
theorem dX6_restart_10 : decode cX6_restart 10 = .ok (.return_, 1) := by decide +kernel
theorem dX6_attributes_0 : decode cX6_attributes 0 = .ok (.aload_n 0, 1) := by decide +kernel
theorem dX6_attributes_1 : decode cX6_attributes 1 = .ok (.getfield 15, 3) := by decide +kernel
theorem dX6_attributes_4 : decode cX6_attributes 4 = .ok (.ireturn, 1) := by decide +kernel
theorem dX6_size_0 : decode cX6_size 0 = .ok (.aload_n 0, 1) := by decide +kernel
theorem dX6_size_1 : decode cX6_size 1 = .ok (.getfield 19, 3) := by decide +kernel
theorem dX6_size_4 : decode cX6_size 4 = .ok (.ireturn, 1) := by decide +kernel
theorem dX6_isFull_0 : decode cX6_isFull 0 = .ok (.aload_n 0, 1) := by decide +kernel
theorem dX6_isFull_1 : decode cX6_isFull 1 = .ok (.getfield 19, 3) := by decide +kernel
theorem dX6_isFull_4 : decode cX6_isFull 4 = .ok (.aload_n 0, 1) := by decide +kernel
theorem dX6_isFull_5 : decode cX6_isFull 5 = .ok (.getfield 9, 3) := by decide +kernel
theorem dX6_isFull_8 : decode cX6_isFull 8 = .ok (.arraylength, 1) := by decide +kernel
theorem dX6_isFull_9 : decode cX6_isFull 9 = .ok (.if_icmp .lt 7, 3) := by decide +kernel
theorem dX6_isFull_12 : decode cX6_isFull 12 = .ok (.iconst 1, 1) := by decide +kernel
theorem dX6_isFull_13 : decode cX6_isFull 13 = .ok (.goto 4, 3) := by decide +kernel
theorem dX6_isFull_16 : decode cX6_isFull 16 = .ok (.iconst 0, 1) := by decide +kernel
theorem dX6_isFull_17 : decode cX6_isFull 17 = .ok (.ireturn, 1) := by decide +kernel
theorem dX6_row_0 : decode cX6_row 0 = .ok (.iload_n 1, 1) := by decide +kernel
theorem dX6_row_1 : decode cX6_row 1 = .ok (.ifCond .lt 20, 3) := by decide +kernel
theorem dX6_row_4 : decode cX6_row 4 = .ok (.iload_n 1, 1) := by decide +kernel
theorem dX6_row_5 : decode cX6_row 5 = .ok (.aload_n 0, 1) := by decide +kernel
theorem dX6_row_6 : decode cX6_row 6 = .ok (.getfield 19, 3) := by decide +kernel
theorem dX6_row_9 : decode cX6_row 9 = .ok (.if_icmp .ge 12, 3) := by decide +kernel
theorem dX6_row_12 : decode cX6_row 12 = .ok (.aload_n 0, 1) := by decide +kernel
theorem dX6_row_13 : decode cX6_row 13 = .ok (.getfield 9, 3) := by decide +kernel
theorem dX6_row_16 : decode cX6_row 16 = .ok (.iload_n 1, 1) := by decide +kernel
theorem dX6_row_17 : decode cX6_row 17 = .ok (.iaload, 1) := by decide +kernel
theorem dX6_row_18 : decode cX6_row 18 = .ok (.goto 4, 3) := by decide +kernel
theorem dX6_row_21 : decode cX6_row 21 = .ok (.iconst 0, 1) := by decide +kernel
theorem dX6_row_22 : decode cX6_row 22 = .ok (.ireturn, 1) := by decide +kernel
set_option maxRecDepth 20000 in
theorem ggX6_allAttributes_X5_allOf : GoodIn wsX6_allAttributes wsX5_allOf := goodIn_r _ [5] (by decide +kernel) (by decide +kernel)
set_option maxRecDepth 20000 in
theorem gX6_allAttributes_X5_allOf : GoodIn wsX6_allAttributes (va_wsS RX6 22 yX5_allOf wsX5_allOf) := goodIn_app (goodIn_of _ (by decide +kernel)) ggX6_allAttributes_X5_allOf
theorem dX6_allAttributes_0 : decode cX6_allAttributes 0 = .ok (.aload_n 0, 1) := by decide +kernel
theorem dX6_allAttributes_1 : decode cX6_allAttributes 1 = .ok (.getfield 15, 3) := by decide +kernel
theorem dX6_allAttributes_4 : decode cX6_allAttributes 4 = .ok (.invokestatic 22, 3) := by decide +kernel
theorem dX6_allAttributes_7 : decode cX6_allAttributes 7 = .ok (.ireturn, 1) := by decide +kernel
theorem dX6_isAttribute_0 : decode cX6_isAttribute 0 = .ok (.iload_n 1, 1) := by decide +kernel
theorem dX6_isAttribute_1 : decode cX6_isAttribute 1 = .ok (.ifCond .lt 15, 3) := by decide +kernel
theorem dX6_isAttribute_4 : decode cX6_isAttribute 4 = .ok (.iload_n 1, 1) := by decide +kernel
theorem dX6_isAttribute_5 : decode cX6_isAttribute 5 = .ok (.aload_n 0, 1) := by decide +kernel
theorem dX6_isAttribute_6 : decode cX6_isAttribute 6 = .ok (.getfield 15, 3) := by decide +kernel
theorem dX6_isAttribute_9 : decode cX6_isAttribute 9 = .ok (.if_icmp .ge 7, 3) := by decide +kernel
theorem dX6_isAttribute_12 : decode cX6_isAttribute 12 = .ok (.iconst 1, 1) := by decide +kernel
theorem dX6_isAttribute_13 : decode cX6_isAttribute 13 = .ok (.goto 4, 3) := by decide +kernel
theorem dX6_isAttribute_16 : decode cX6_isAttribute 16 = .ok (.iconst 0, 1) := by decide +kernel
theorem dX6_isAttribute_17 : decode cX6_isAttribute 17 = .ok (.ireturn, 1) := by decide +kernel
theorem dX6_isObject_0 : decode cX6_isObject 0 = .ok (.iload_n 1, 1) := by decide +kernel
theorem dX6_isObject_1 : decode cX6_isObject 1 = .ok (.ifCond .lt 15, 3) := by decide +kernel
theorem dX6_isObject_4 : decode cX6_isObject 4 = .ok (.iload_n 1, 1) := by decide +kernel
theorem dX6_isObject_5 : decode cX6_isObject 5 = .ok (.aload_n 0, 1) := by decide +kernel
theorem dX6_isObject_6 : decode cX6_isObject 6 = .ok (.getfield 19, 3) := by decide +kernel
theorem dX6_isObject_9 : decode cX6_isObject 9 = .ok (.if_icmp .ge 7, 3) := by decide +kernel
theorem dX6_isObject_12 : decode cX6_isObject 12 = .ok (.iconst 1, 1) := by decide +kernel
theorem dX6_isObject_13 : decode cX6_isObject 13 = .ok (.goto 4, 3) := by decide +kernel
theorem dX6_isObject_16 : decode cX6_isObject 16 = .ok (.iconst 0, 1) := by decide +kernel
theorem dX6_isObject_17 : decode cX6_isObject 17 = .ok (.ireturn, 1) := by decide +kernel
set_option maxRecDepth 20000 in
theorem ggX6_isAttributeSet_X6_allAttributes : GoodIn wsX6_isAttributeSet wsX6_allAttributes := goodIn_r _ [5, 6, 7, 8, 9, 10, 14, 15, 16] (by decide +kernel) (by decide +kernel)
set_option maxRecDepth 20000 in
theorem gX6_isAttributeSet_X6_allAttributes : GoodIn wsX6_isAttributeSet (wsV RX6 28 RX6 yX6_allAttributes wsX6_allAttributes) := goodIn_app (goodIn_of _ (by decide +kernel)) ggX6_isAttributeSet_X6_allAttributes
set_option maxRecDepth 20000 in
theorem ggX6_isAttributeSet_X5_hasAll : GoodIn wsX6_isAttributeSet wsX5_hasAll := goodIn_r _ [13] (by decide +kernel) (by decide +kernel)
set_option maxRecDepth 20000 in
theorem gX6_isAttributeSet_X5_hasAll : GoodIn wsX6_isAttributeSet (va_wsS RX6 32 yX5_hasAll wsX5_hasAll) := goodIn_app (goodIn_of _ (by decide +kernel)) ggX6_isAttributeSet_X5_hasAll
theorem dX6_isAttributeSet_0 : decode cX6_isAttributeSet 0 = .ok (.aload_n 0, 1) := by decide +kernel
theorem dX6_isAttributeSet_1 : decode cX6_isAttributeSet 1 = .ok (.invokevirtual 28, 3) := by decide +kernel
theorem dX6_isAttributeSet_4 : decode cX6_isAttributeSet 4 = .ok (.iload_n 1, 1) := by decide +kernel
theorem dX6_isAttributeSet_5 : decode cX6_isAttributeSet 5 = .ok (.invokestatic 32, 3) := by decide +kernel
theorem dX6_isAttributeSet_8 : decode cX6_isAttributeSet 8 = .ok (.ireturn, 1) := by decide +kernel
set_option maxRecDepth 20000 in
theorem ggX6_isObjectSet_X5_allOf : GoodIn wsX6_isObjectSet wsX5_allOf := goodIn_r _ [5] (by decide +kernel) (by decide +kernel)
set_option maxRecDepth 20000 in
theorem gX6_isObjectSet_X5_allOf : GoodIn wsX6_isObjectSet (va_wsS RX6 22 yX5_allOf wsX5_allOf) := goodIn_app (goodIn_of _ (by decide +kernel)) ggX6_isObjectSet_X5_allOf
set_option maxRecDepth 20000 in
theorem ggX6_isObjectSet_X5_hasAll : GoodIn wsX6_isObjectSet wsX5_hasAll := goodIn_r _ [8] (by decide +kernel) (by decide +kernel)
set_option maxRecDepth 20000 in
theorem gX6_isObjectSet_X5_hasAll : GoodIn wsX6_isObjectSet (va_wsS RX6 32 yX5_hasAll wsX5_hasAll) := goodIn_app (goodIn_of _ (by decide +kernel)) ggX6_isObjectSet_X5_hasAll
theorem dX6_isObjectSet_0 : decode cX6_isObjectSet 0 = .ok (.aload_n 0, 1) := by decide +kernel
theorem dX6_isObjectSet_1 : decode cX6_isObjectSet 1 = .ok (.getfield 19, 3) := by decide +kernel
theorem dX6_isObjectSet_4 : decode cX6_isObjectSet 4 = .ok (.invokestatic 22, 3) := by decide +kernel
theorem dX6_isObjectSet_7 : decode cX6_isObjectSet 7 = .ok (.iload_n 1, 1) := by decide +kernel
theorem dX6_isObjectSet_8 : decode cX6_isObjectSet 8 = .ok (.invokestatic 32, 3) := by decide +kernel
theorem dX6_isObjectSet_11 : decode cX6_isObjectSet 11 = .ok (.ireturn, 1) := by decide +kernel
set_option maxRecDepth 20000 in
theorem ggX6_append_X6_isFull : GoodIn wsX6_append wsX6_isFull := goodIn_r _ [7, 2, 1, 8, 9, 10] (by decide +kernel) (by decide +kernel)
set_option maxRecDepth 20000 in
theorem gX6_append_X6_isFull : GoodIn wsX6_append (wsV RX6 36 RX6 yX6_isFull wsX6_isFull) := goodIn_app (goodIn_of _ (by decide +kernel)) ggX6_append_X6_isFull
theorem dX6_append_0 : decode cX6_append 0 = .ok (.aload_n 0, 1) := by decide +kernel
theorem dX6_append_1 : decode cX6_append 1 = .ok (.invokevirtual 36, 3) := by decide +kernel
theorem dX6_append_4 : decode cX6_append 4 = .ok (.ifCond .eq 6, 3) := by decide +kernel
theorem dX6_append_7 : decode cX6_append 7 = .ok (.bipush (-3), 2) := by decide +kernel
theorem dX6_append_9 : decode cX6_append 9 = .ok (.ireturn, 1) := by decide +kernel
theorem dX6_append_10 : decode cX6_append 10 = .ok (.aload_n 0, 1) := by decide +kernel
theorem dX6_append_11 : decode cX6_append 11 = .ok (.getfield 9, 3) := by decide +kernel
theorem dX6_append_14 : decode cX6_append 14 = .ok (.aload_n 0, 1) := by decide +kernel
theorem dX6_append_15 : decode cX6_append 15 = .ok (.getfield 19, 3) := by decide +kernel
theorem dX6_append_18 : decode cX6_append 18 = .ok (.iload_n 1, 1) := by decide +kernel
theorem dX6_append_19 : decode cX6_append 19 = .ok (.iastore, 1) := by decide +kernel
theorem dX6_append_20 : decode cX6_append 20 = .ok (.aload_n 0, 1) := by decide +kernel
theorem dX6_append_21 : decode cX6_append 21 = .ok (.dup, 1) := by decide +kernel
theorem dX6_append_22 : decode cX6_append 22 = .ok (.getfield 19, 3) := by decide +kernel
theorem dX6_append_25 : decode cX6_append 25 = .ok (.iconst 1, 1) := by decide +kernel
theorem dX6_append_26 : decode cX6_append 26 = .ok (.iadd, 1) := by decide +kernel
theorem dX6_append_27 : decode cX6_append 27 = .ok (.putfield 19, 3) := by decide +kernel
theorem dX6_append_30 : decode cX6_append 30 = .ok (.aload_n 0, 1) := by decide +kernel
theorem dX6_append_31 : decode cX6_append 31 = .ok (.getfield 19, 3) := by decide +kernel
theorem dX6_append_34 : decode cX6_append 34 = .ok (.iconst 1, 1) := by decide +kernel
theorem dX6_append_35 : decode cX6_append 35 = .ok (.isub, 1) := by decide +kernel
theorem dX6_append_36 : decode cX6_append 36 = .ok (.ireturn, 1) := by decide +kernel
set_option maxRecDepth 20000 in
theorem ggX6_takeOut_X6_isObject : GoodIn wsX6_takeOut wsX6_isObject := goodIn_r _ [7, 2, 8, 9, 10] (by decide +kernel) (by decide +kernel)
set_option maxRecDepth 20000 in
theorem gX6_takeOut_X6_isObject : GoodIn wsX6_takeOut (wsV RX6 40 RX6 yX6_isObject wsX6_isObject) := goodIn_app (goodIn_of _ (by decide +kernel)) ggX6_takeOut_X6_isObject
theorem dX6_takeOut_0 : decode cX6_takeOut 0 = .ok (.aload_n 0, 1) := by decide +kernel
theorem dX6_takeOut_1 : decode cX6_takeOut 1 = .ok (.iload_n 1, 1) := by decide +kernel
theorem dX6_takeOut_2 : decode cX6_takeOut 2 = .ok (.invokevirtual 40, 3) := by decide +kernel
theorem dX6_takeOut_5 : decode cX6_takeOut 5 = .ok (.ifCond .ne 6, 3) := by decide +kernel
theorem dX6_takeOut_8 : decode cX6_takeOut 8 = .ok (.bipush (-2), 2) := by decide +kernel
theorem dX6_takeOut_10 : decode cX6_takeOut 10 = .ok (.ireturn, 1) := by decide +kernel
theorem dX6_takeOut_11 : decode cX6_takeOut 11 = .ok (.aload_n 0, 1) := by decide +kernel
theorem dX6_takeOut_12 : decode cX6_takeOut 12 = .ok (.getfield 9, 3) := by decide +kernel
theorem dX6_takeOut_15 : decode cX6_takeOut 15 = .ok (.iload_n 1, 1) := by decide +kernel
theorem dX6_takeOut_16 : decode cX6_takeOut 16 = .ok (.iaload, 1) := by decide +kernel
theorem dX6_takeOut_17 : decode cX6_takeOut 17 = .ok (.istore_n 2, 1) := by decide +kernel
theorem dX6_takeOut_18 : decode cX6_takeOut 18 = .ok (.iload_n 1, 1) := by decide +kernel
theorem dX6_takeOut_19 : decode cX6_takeOut 19 = .ok (.iconst 1, 1) := by decide +kernel
theorem dX6_takeOut_20 : decode cX6_takeOut 20 = .ok (.iadd, 1) := by decide +kernel
theorem dX6_takeOut_21 : decode cX6_takeOut 21 = .ok (.istore_n 3, 1) := by decide +kernel
theorem dX6_takeOut_22 : decode cX6_takeOut 22 = .ok (.iload_n 3, 1) := by decide +kernel
theorem dX6_takeOut_23 : decode cX6_takeOut 23 = .ok (.aload_n 0, 1) := by decide +kernel
theorem dX6_takeOut_24 : decode cX6_takeOut 24 = .ok (.getfield 19, 3) := by decide +kernel
theorem dX6_takeOut_27 : decode cX6_takeOut 27 = .ok (.if_icmp .ge 23, 3) := by decide +kernel
theorem dX6_takeOut_30 : decode cX6_takeOut 30 = .ok (.aload_n 0, 1) := by decide +kernel
theorem dX6_takeOut_31 : decode cX6_takeOut 31 = .ok (.getfield 9, 3) := by decide +kernel
theorem dX6_takeOut_34 : decode cX6_takeOut 34 = .ok (.iload_n 3, 1) := by decide +kernel
theorem dX6_takeOut_35 : decode cX6_takeOut 35 = .ok (.iconst 1, 1) := by decide +kernel
theorem dX6_takeOut_36 : decode cX6_takeOut 36 = .ok (.isub, 1) := by decide +kernel
theorem dX6_takeOut_37 : decode cX6_takeOut 37 = .ok (.aload_n 0, 1) := by decide +kernel
theorem dX6_takeOut_38 : decode cX6_takeOut 38 = .ok (.getfield 9, 3) := by decide +kernel
theorem dX6_takeOut_41 : decode cX6_takeOut 41 = .ok (.iload_n 3, 1) := by decide +kernel
theorem dX6_takeOut_42 : decode cX6_takeOut 42 = .ok (.iaload, 1) := by decide +kernel
theorem dX6_takeOut_43 : decode cX6_takeOut 43 = .ok (.iastore, 1) := by decide +kernel
theorem dX6_takeOut_44 : decode cX6_takeOut 44 = .ok (.iinc 3 1, 3) := by decide +kernel
theorem dX6_takeOut_47 : decode cX6_takeOut 47 = .ok (.goto (-25), 3) := by decide +kernel
theorem dX6_takeOut_50 : decode cX6_takeOut 50 = .ok (.aload_n 0, 1) := by decide +kernel
theorem dX6_takeOut_51 : decode cX6_takeOut 51 = .ok (.dup, 1) := by decide +kernel
theorem dX6_takeOut_52 : decode cX6_takeOut 52 = .ok (.getfield 19, 3) := by decide +kernel
theorem dX6_takeOut_55 : decode cX6_takeOut 55 = .ok (.iconst 1, 1) := by decide +kernel
theorem dX6_takeOut_56 : decode cX6_takeOut 56 = .ok (.isub, 1) := by decide +kernel
theorem dX6_takeOut_57 : decode cX6_takeOut 57 = .ok (.putfield 19, 3) := by decide +kernel
theorem dX6_takeOut_60 : decode cX6_takeOut 60 = .ok (.iload_n 2, 1) := by decide +kernel
theorem dX6_takeOut_61 : decode cX6_takeOut 61 = .ok (.ireturn, 1) := by decide +kernel
set_option maxRecDepth 20000 in
theorem ggX6_commonOf_X6_allAttributes : GoodIn wsX6_commonOf wsX6_allAttributes := goodIn_r _ [7, 8, 9, 10, 11, 12, 13, 14, 15] (by decide +kernel) (by decide +kernel)
set_option maxRecDepth 20000 in
theorem gX6_commonOf_X6_allAttributes : GoodIn wsX6_commonOf (wsV RX6 28 RX6 yX6_allAttributes wsX6_allAttributes) := goodIn_app (goodIn_of _ (by decide +kernel)) ggX6_commonOf_X6_allAttributes
theorem dX6_commonOf_0 : decode cX6_commonOf 0 = .ok (.aload_n 0, 1) := by decide +kernel
theorem dX6_commonOf_1 : decode cX6_commonOf 1 = .ok (.invokevirtual 28, 3) := by decide +kernel
theorem dX6_commonOf_4 : decode cX6_commonOf 4 = .ok (.istore_n 2, 1) := by decide +kernel
theorem dX6_commonOf_5 : decode cX6_commonOf 5 = .ok (.iconst 0, 1) := by decide +kernel
theorem dX6_commonOf_6 : decode cX6_commonOf 6 = .ok (.istore_n 3, 1) := by decide +kernel
theorem dX6_commonOf_7 : decode cX6_commonOf 7 = .ok (.iload_n 3, 1) := by decide +kernel
theorem dX6_commonOf_8 : decode cX6_commonOf 8 = .ok (.aload_n 0, 1) := by decide +kernel
theorem dX6_commonOf_9 : decode cX6_commonOf 9 = .ok (.getfield 19, 3) := by decide +kernel
theorem dX6_commonOf_12 : decode cX6_commonOf 12 = .ok (.if_icmp .ge 26, 3) := by decide +kernel
theorem dX6_commonOf_15 : decode cX6_commonOf 15 = .ok (.iload_n 1, 1) := by decide +kernel
theorem dX6_commonOf_16 : decode cX6_commonOf 16 = .ok (.iconst 1, 1) := by decide +kernel
theorem dX6_commonOf_17 : decode cX6_commonOf 17 = .ok (.iload_n 3, 1) := by decide +kernel
theorem dX6_commonOf_18 : decode cX6_commonOf 18 = .ok (.ishl, 1) := by decide +kernel
theorem dX6_commonOf_19 : decode cX6_commonOf 19 = .ok (.iand, 1) := by decide +kernel
theorem dX6_commonOf_20 : decode cX6_commonOf 20 = .ok (.ifCond .eq 12, 3) := by decide +kernel
theorem dX6_commonOf_23 : decode cX6_commonOf 23 = .ok (.iload_n 2, 1) := by decide +kernel
theorem dX6_commonOf_24 : decode cX6_commonOf 24 = .ok (.aload_n 0, 1) := by decide +kernel
theorem dX6_commonOf_25 : decode cX6_commonOf 25 = .ok (.getfield 9, 3) := by decide +kernel
theorem dX6_commonOf_28 : decode cX6_commonOf 28 = .ok (.iload_n 3, 1) := by decide +kernel
theorem dX6_commonOf_29 : decode cX6_commonOf 29 = .ok (.iaload, 1) := by decide +kernel
theorem dX6_commonOf_30 : decode cX6_commonOf 30 = .ok (.iand, 1) := by decide +kernel
theorem dX6_commonOf_31 : decode cX6_commonOf 31 = .ok (.istore_n 2, 1) := by decide +kernel
theorem dX6_commonOf_32 : decode cX6_commonOf 32 = .ok (.iinc 3 1, 3) := by decide +kernel
theorem dX6_commonOf_35 : decode cX6_commonOf 35 = .ok (.goto (-28), 3) := by decide +kernel
theorem dX6_commonOf_38 : decode cX6_commonOf 38 = .ok (.iload_n 2, 1) := by decide +kernel
theorem dX6_commonOf_39 : decode cX6_commonOf 39 = .ok (.ireturn, 1) := by decide +kernel
set_option maxRecDepth 20000 in
theorem ggX6_extentOf_X5_hasAll : GoodIn wsX6_extentOf wsX5_hasAll := goodIn_r _ [6] (by decide +kernel) (by decide +kernel)
set_option maxRecDepth 20000 in
theorem gX6_extentOf_X5_hasAll : GoodIn wsX6_extentOf (va_wsS RX6 32 yX5_hasAll wsX5_hasAll) := goodIn_app (goodIn_of _ (by decide +kernel)) ggX6_extentOf_X5_hasAll
theorem dX6_extentOf_0 : decode cX6_extentOf 0 = .ok (.iconst 0, 1) := by decide +kernel
theorem dX6_extentOf_1 : decode cX6_extentOf 1 = .ok (.istore_n 2, 1) := by decide +kernel
theorem dX6_extentOf_2 : decode cX6_extentOf 2 = .ok (.iconst 0, 1) := by decide +kernel
theorem dX6_extentOf_3 : decode cX6_extentOf 3 = .ok (.istore_n 3, 1) := by decide +kernel
theorem dX6_extentOf_4 : decode cX6_extentOf 4 = .ok (.iload_n 3, 1) := by decide +kernel
theorem dX6_extentOf_5 : decode cX6_extentOf 5 = .ok (.aload_n 0, 1) := by decide +kernel
theorem dX6_extentOf_6 : decode cX6_extentOf 6 = .ok (.getfield 19, 3) := by decide +kernel
theorem dX6_extentOf_9 : decode cX6_extentOf 9 = .ok (.if_icmp .ge 28, 3) := by decide +kernel
theorem dX6_extentOf_12 : decode cX6_extentOf 12 = .ok (.aload_n 0, 1) := by decide +kernel
theorem dX6_extentOf_13 : decode cX6_extentOf 13 = .ok (.getfield 9, 3) := by decide +kernel
theorem dX6_extentOf_16 : decode cX6_extentOf 16 = .ok (.iload_n 3, 1) := by decide +kernel
theorem dX6_extentOf_17 : decode cX6_extentOf 17 = .ok (.iaload, 1) := by decide +kernel
theorem dX6_extentOf_18 : decode cX6_extentOf 18 = .ok (.iload_n 1, 1) := by decide +kernel
theorem dX6_extentOf_19 : decode cX6_extentOf 19 = .ok (.invokestatic 32, 3) := by decide +kernel
theorem dX6_extentOf_22 : decode cX6_extentOf 22 = .ok (.ifCond .eq 9, 3) := by decide +kernel
theorem dX6_extentOf_25 : decode cX6_extentOf 25 = .ok (.iload_n 2, 1) := by decide +kernel
theorem dX6_extentOf_26 : decode cX6_extentOf 26 = .ok (.iconst 1, 1) := by decide +kernel
theorem dX6_extentOf_27 : decode cX6_extentOf 27 = .ok (.iload_n 3, 1) := by decide +kernel
theorem dX6_extentOf_28 : decode cX6_extentOf 28 = .ok (.ishl, 1) := by decide +kernel
theorem dX6_extentOf_29 : decode cX6_extentOf 29 = .ok (.ior, 1) := by decide +kernel
theorem dX6_extentOf_30 : decode cX6_extentOf 30 = .ok (.istore_n 2, 1) := by decide +kernel
theorem dX6_extentOf_31 : decode cX6_extentOf 31 = .ok (.iinc 3 1, 3) := by decide +kernel
theorem dX6_extentOf_34 : decode cX6_extentOf 34 = .ok (.goto (-30), 3) := by decide +kernel
theorem dX6_extentOf_37 : decode cX6_extentOf 37 = .ok (.iload_n 2, 1) := by decide +kernel
theorem dX6_extentOf_38 : decode cX6_extentOf 38 = .ok (.ireturn, 1) := by decide +kernel
set_option maxRecDepth 20000 in
theorem ggX6_closureOf_X6_allAttributes : GoodIn wsX6_closureOf wsX6_allAttributes := goodIn_r _ [7, 8, 9, 10, 11, 12, 16, 17, 18] (by decide +kernel) (by decide +kernel)
set_option maxRecDepth 20000 in
theorem gX6_closureOf_X6_allAttributes : GoodIn wsX6_closureOf (wsV RX6 28 RX6 yX6_allAttributes wsX6_allAttributes) := goodIn_app (goodIn_of _ (by decide +kernel)) ggX6_closureOf_X6_allAttributes
set_option maxRecDepth 20000 in
theorem ggX6_closureOf_X5_hasAll : GoodIn wsX6_closureOf wsX5_hasAll := goodIn_r _ [15] (by decide +kernel) (by decide +kernel)
set_option maxRecDepth 20000 in
theorem gX6_closureOf_X5_hasAll : GoodIn wsX6_closureOf (va_wsS RX6 32 yX5_hasAll wsX5_hasAll) := goodIn_app (goodIn_of _ (by decide +kernel)) ggX6_closureOf_X5_hasAll
theorem dX6_closureOf_0 : decode cX6_closureOf 0 = .ok (.aload_n 0, 1) := by decide +kernel
theorem dX6_closureOf_1 : decode cX6_closureOf 1 = .ok (.invokevirtual 28, 3) := by decide +kernel
theorem dX6_closureOf_4 : decode cX6_closureOf 4 = .ok (.istore_n 2, 1) := by decide +kernel
theorem dX6_closureOf_5 : decode cX6_closureOf 5 = .ok (.iconst 0, 1) := by decide +kernel
theorem dX6_closureOf_6 : decode cX6_closureOf 6 = .ok (.istore_n 3, 1) := by decide +kernel
theorem dX6_closureOf_7 : decode cX6_closureOf 7 = .ok (.iload_n 3, 1) := by decide +kernel
theorem dX6_closureOf_8 : decode cX6_closureOf 8 = .ok (.aload_n 0, 1) := by decide +kernel
theorem dX6_closureOf_9 : decode cX6_closureOf 9 = .ok (.getfield 19, 3) := by decide +kernel
theorem dX6_closureOf_12 : decode cX6_closureOf 12 = .ok (.if_icmp .ge 31, 3) := by decide +kernel
theorem dX6_closureOf_15 : decode cX6_closureOf 15 = .ok (.aload_n 0, 1) := by decide +kernel
theorem dX6_closureOf_16 : decode cX6_closureOf 16 = .ok (.getfield 9, 3) := by decide +kernel
theorem dX6_closureOf_19 : decode cX6_closureOf 19 = .ok (.iload_n 3, 1) := by decide +kernel
theorem dX6_closureOf_20 : decode cX6_closureOf 20 = .ok (.iaload, 1) := by decide +kernel
theorem dX6_closureOf_21 : decode cX6_closureOf 21 = .ok (.iload_n 1, 1) := by decide +kernel
theorem dX6_closureOf_22 : decode cX6_closureOf 22 = .ok (.invokestatic 32, 3) := by decide +kernel
theorem dX6_closureOf_25 : decode cX6_closureOf 25 = .ok (.ifCond .eq 12, 3) := by decide +kernel
theorem dX6_closureOf_28 : decode cX6_closureOf 28 = .ok (.iload_n 2, 1) := by decide +kernel
theorem dX6_closureOf_29 : decode cX6_closureOf 29 = .ok (.aload_n 0, 1) := by decide +kernel
theorem dX6_closureOf_30 : decode cX6_closureOf 30 = .ok (.getfield 9, 3) := by decide +kernel
theorem dX6_closureOf_33 : decode cX6_closureOf 33 = .ok (.iload_n 3, 1) := by decide +kernel
theorem dX6_closureOf_34 : decode cX6_closureOf 34 = .ok (.iaload, 1) := by decide +kernel
theorem dX6_closureOf_35 : decode cX6_closureOf 35 = .ok (.iand, 1) := by decide +kernel
theorem dX6_closureOf_36 : decode cX6_closureOf 36 = .ok (.istore_n 2, 1) := by decide +kernel
theorem dX6_closureOf_37 : decode cX6_closureOf 37 = .ok (.iinc 3 1, 3) := by decide +kernel
theorem dX6_closureOf_40 : decode cX6_closureOf 40 = .ok (.goto (-33), 3) := by decide +kernel
theorem dX6_closureOf_43 : decode cX6_closureOf 43 = .ok (.iload_n 2, 1) := by decide +kernel
theorem dX6_closureOf_44 : decode cX6_closureOf 44 = .ok (.ireturn, 1) := by decide +kernel
set_option maxRecDepth 20000 in
theorem ggX6_closedBehind_X6_closureOf : GoodIn wsX6_closedBehind wsX6_closureOf := goodIn_r _ [6, 7, 8, 9, 10, 11, 5, 12, 1, 13, 14, 15, 16, 17, 18, 19, 20, 21, 22] (by decide +kernel) (by decide +kernel)
set_option maxRecDepth 20000 in
theorem gX6_closedBehind_X6_closureOf : GoodIn wsX6_closedBehind (wsV RX6 44 RX6 yX6_closureOf wsX6_closureOf) := goodIn_app (goodIn_of _ (by decide +kernel)) ggX6_closedBehind_X6_closureOf
theorem dX6_closedBehind_0 : decode cX6_closedBehind 0 = .ok (.iload_n 1, 1) := by decide +kernel
theorem dX6_closedBehind_1 : decode cX6_closedBehind 1 = .ok (.istore_n 2, 1) := by decide +kernel
theorem dX6_closedBehind_2 : decode cX6_closedBehind 2 = .ok (.aload_n 0, 1) := by decide +kernel
theorem dX6_closedBehind_3 : decode cX6_closedBehind 3 = .ok (.getfield 15, 3) := by decide +kernel
theorem dX6_closedBehind_6 : decode cX6_closedBehind 6 = .ok (.iconst 1, 1) := by decide +kernel
theorem dX6_closedBehind_7 : decode cX6_closedBehind 7 = .ok (.isub, 1) := by decide +kernel
theorem dX6_closedBehind_8 : decode cX6_closedBehind 8 = .ok (.istore_n 3, 1) := by decide +kernel
theorem dX6_closedBehind_9 : decode cX6_closedBehind 9 = .ok (.iload_n 3, 1) := by decide +kernel
theorem dX6_closedBehind_10 : decode cX6_closedBehind 10 = .ok (.ifCond .lt 54, 3) := by decide +kernel
theorem dX6_closedBehind_13 : decode cX6_closedBehind 13 = .ok (.iconst 1, 1) := by decide +kernel
theorem dX6_closedBehind_14 : decode cX6_closedBehind 14 = .ok (.iload_n 3, 1) := by decide +kernel
theorem dX6_closedBehind_15 : decode cX6_closedBehind 15 = .ok (.ishl, 1) := by decide +kernel
theorem dX6_closedBehind_16 : decode cX6_closedBehind 16 = .ok (.istore 4, 2) := by decide +kernel
theorem dX6_closedBehind_18 : decode cX6_closedBehind 18 = .ok (.iload_n 2, 1) := by decide +kernel
theorem dX6_closedBehind_19 : decode cX6_closedBehind 19 = .ok (.iload 4, 2) := by decide +kernel
theorem dX6_closedBehind_21 : decode cX6_closedBehind 21 = .ok (.iand, 1) := by decide +kernel
