theorem dX9_has_0 : decode cX9_has 0 = .ok (.iload_n 1, 1) := by decide +kernel
theorem dX9_has_1 : decode cX9_has 1 = .ok (.ifCond .lt 24, 3) := by decide +kernel
theorem dX9_has_4 : decode cX9_has 4 = .ok (.iload_n 1, 1) := by decide +kernel
theorem dX9_has_5 : decode cX9_has 5 = .ok (.aload_n 0, 1) := by decide +kernel
theorem dX9_has_6 : decode cX9_has 6 = .ok (.getfield 24, 3) := by decide +kernel
theorem dX9_has_9 : decode cX9_has 9 = .ok (.if_icmp .ge 16, 3) := by decide +kernel
theorem dX9_has_12 : decode cX9_has 12 = .ok (.iload_n 1, 1) := by decide +kernel
theorem dX9_has_13 : decode cX9_has 13 = .ok (.aload_n 0, 1) := by decide +kernel
theorem dX9_has_14 : decode cX9_has 14 = .ok (.getfield 9, 3) := by decide +kernel
theorem dX9_has_17 : decode cX9_has 17 = .ok (.arraylength, 1) := by decide +kernel
theorem dX9_has_18 : decode cX9_has 18 = .ok (.if_icmp .ge 7, 3) := by decide +kernel
theorem dX9_has_21 : decode cX9_has 21 = .ok (.iconst 1, 1) := by decide +kernel
theorem dX9_has_22 : decode cX9_has 22 = .ok (.goto 4, 3) := by decide +kernel
theorem dX9_has_25 : decode cX9_has 25 = .ok (.iconst 0, 1) := by decide +kernel
theorem dX9_has_26 : decode cX9_has 26 = .ok (.ireturn, 1) := by decide +kernel
theorem dX9_kindAt_0 : decode cX9_kindAt 0 = .ok (.iload_n 1, 1) := by decide +kernel
theorem dX9_kindAt_1 : decode cX9_kindAt 1 = .ok (.ifCond .lt 11, 3) := by decide +kernel
theorem dX9_kindAt_4 : decode cX9_kindAt 4 = .ok (.iload_n 1, 1) := by decide +kernel
theorem dX9_kindAt_5 : decode cX9_kindAt 5 = .ok (.aload_n 0, 1) := by decide +kernel
theorem dX9_kindAt_6 : decode cX9_kindAt 6 = .ok (.getfield 24, 3) := by decide +kernel
theorem dX9_kindAt_9 : decode cX9_kindAt 9 = .ok (.if_icmp .lt 7, 3) := by decide +kernel
theorem dX9_kindAt_16 : decode cX9_kindAt 16 = .ok (.aload_n 0, 1) := by decide +kernel
theorem dX9_kindAt_17 : decode cX9_kindAt 17 = .ok (.getfield 9, 3) := by decide +kernel
theorem dX9_kindAt_20 : decode cX9_kindAt 20 = .ok (.iload_n 1, 1) := by decide +kernel
theorem dX9_kindAt_21 : decode cX9_kindAt 21 = .ok (.iaload, 1) := by decide +kernel
theorem dX9_kindAt_22 : decode cX9_kindAt 22 = .ok (.ireturn, 1) := by decide +kernel
theorem dX9_keyAt_0 : decode cX9_keyAt 0 = .ok (.iload_n 1, 1) := by decide +kernel
theorem dX9_keyAt_1 : decode cX9_keyAt 1 = .ok (.ifCond .lt 11, 3) := by decide +kernel
theorem dX9_keyAt_4 : decode cX9_keyAt 4 = .ok (.iload_n 1, 1) := by decide +kernel
theorem dX9_keyAt_5 : decode cX9_keyAt 5 = .ok (.aload_n 0, 1) := by decide +kernel
theorem dX9_keyAt_6 : decode cX9_keyAt 6 = .ok (.getfield 24, 3) := by decide +kernel
theorem dX9_keyAt_9 : decode cX9_keyAt 9 = .ok (.if_icmp .lt 7, 3) := by decide +kernel
theorem dX9_keyAt_16 : decode cX9_keyAt 16 = .ok (.aload_n 0, 1) := by decide +kernel
theorem dX9_keyAt_17 : decode cX9_keyAt 17 = .ok (.getfield 18, 3) := by decide +kernel
theorem dX9_keyAt_20 : decode cX9_keyAt 20 = .ok (.iload_n 1, 1) := by decide +kernel
theorem dX9_keyAt_21 : decode cX9_keyAt 21 = .ok (.iaload, 1) := by decide +kernel
theorem dX9_keyAt_22 : decode cX9_keyAt 22 = .ok (.ireturn, 1) := by decide +kernel
theorem dX9_depthAt_0 : decode cX9_depthAt 0 = .ok (.iload_n 1, 1) := by decide +kernel
theorem dX9_depthAt_1 : decode cX9_depthAt 1 = .ok (.ifCond .lt 11, 3) := by decide +kernel
theorem dX9_depthAt_4 : decode cX9_depthAt 4 = .ok (.iload_n 1, 1) := by decide +kernel
theorem dX9_depthAt_5 : decode cX9_depthAt 5 = .ok (.aload_n 0, 1) := by decide +kernel
theorem dX9_depthAt_6 : decode cX9_depthAt 6 = .ok (.getfield 24, 3) := by decide +kernel
theorem dX9_depthAt_9 : decode cX9_depthAt 9 = .ok (.if_icmp .lt 7, 3) := by decide +kernel
theorem dX9_depthAt_16 : decode cX9_depthAt 16 = .ok (.aload_n 0, 1) := by decide +kernel
theorem dX9_depthAt_17 : decode cX9_depthAt 17 = .ok (.getfield 21, 3) := by decide +kernel
theorem dX9_depthAt_20 : decode cX9_depthAt 20 = .ok (.iload_n 1, 1) := by decide +kernel
theorem dX9_depthAt_21 : decode cX9_depthAt 21 = .ok (.iaload, 1) := by decide +kernel
theorem dX9_depthAt_22 : decode cX9_depthAt 22 = .ok (.ireturn, 1) := by decide +kernel
theorem dX9_end_0 : decode cX9_end 0 = .ok (.iload_n 1, 1) := by decide +kernel
theorem dX9_end_1 : decode cX9_end 1 = .ok (.ifCond .lt 11, 3) := by decide +kernel
theorem dX9_end_4 : decode cX9_end 4 = .ok (.iload_n 1, 1) := by decide +kernel
theorem dX9_end_5 : decode cX9_end 5 = .ok (.aload_n 0, 1) := by decide +kernel
theorem dX9_end_6 : decode cX9_end 6 = .ok (.getfield 24, 3) := by decide +kernel
theorem dX9_end_9 : decode cX9_end 9 = .ok (.if_icmp .lt 5, 3) := by decide +kernel
theorem dX9_end_14 : decode cX9_end 14 = .ok (.iload_n 1, 1) := by decide +kernel
theorem dX9_end_15 : decode cX9_end 15 = .ok (.istore_n 2, 1) := by decide +kernel
theorem dX9_end_16 : decode cX9_end 16 = .ok (.iload_n 1, 1) := by decide +kernel
theorem dX9_end_17 : decode cX9_end 17 = .ok (.iconst 1, 1) := by decide +kernel
theorem dX9_end_18 : decode cX9_end 18 = .ok (.iadd, 1) := by decide +kernel
theorem dX9_end_19 : decode cX9_end 19 = .ok (.istore_n 3, 1) := by decide +kernel
theorem dX9_end_20 : decode cX9_end 20 = .ok (.iload_n 3, 1) := by decide +kernel
theorem dX9_end_21 : decode cX9_end 21 = .ok (.aload_n 0, 1) := by decide +kernel
theorem dX9_end_22 : decode cX9_end 22 = .ok (.getfield 24, 3) := by decide +kernel
theorem dX9_end_25 : decode cX9_end 25 = .ok (.if_icmp .ge 26, 3) := by decide +kernel
theorem dX9_end_51 : decode cX9_end 51 = .ok (.iload_n 2, 1) := by decide +kernel
theorem dX9_end_52 : decode cX9_end 52 = .ok (.ireturn, 1) := by decide +kernel
set_option maxRecDepth 100000 in
theorem ggX9_sizeOf_X9_end : GoodIn wsX9_sizeOf wsX9_end := (gi_cons 6 rfl rfl (gi_cons 1 rfl rfl (gi_cons 7 rfl rfl (gi_cons 8 rfl rfl (gi_cons 9 rfl rfl (gi_cons 10 rfl rfl (gi_cons 11 rfl rfl (gi_cons 12 rfl rfl gi_nil))))))))
set_option maxRecDepth 20000 in
theorem gX9_sizeOf_X9_end : GoodIn wsX9_sizeOf (wsV RX9 28 RX9 yX9_end wsX9_end) := goodIn_app (goodIn_of _ (by decide +kernel)) ggX9_sizeOf_X9_end
theorem dX9_sizeOf_0 : decode cX9_sizeOf 0 = .ok (.iload_n 1, 1) := by decide +kernel
theorem dX9_sizeOf_1 : decode cX9_sizeOf 1 = .ok (.ifCond .lt 11, 3) := by decide +kernel
theorem dX9_sizeOf_4 : decode cX9_sizeOf 4 = .ok (.iload_n 1, 1) := by decide +kernel
theorem dX9_sizeOf_5 : decode cX9_sizeOf 5 = .ok (.aload_n 0, 1) := by decide +kernel
theorem dX9_sizeOf_6 : decode cX9_sizeOf 6 = .ok (.getfield 24, 3) := by decide +kernel
theorem dX9_sizeOf_9 : decode cX9_sizeOf 9 = .ok (.if_icmp .lt 7, 3) := by decide +kernel
theorem dX9_sizeOf_16 : decode cX9_sizeOf 16 = .ok (.aload_n 0, 1) := by decide +kernel
theorem dX9_sizeOf_17 : decode cX9_sizeOf 17 = .ok (.iload_n 1, 1) := by decide +kernel
theorem dX9_sizeOf_18 : decode cX9_sizeOf 18 = .ok (.invokevirtual 28, 3) := by decide +kernel
theorem dX9_sizeOf_21 : decode cX9_sizeOf 21 = .ok (.iload_n 1, 1) := by decide +kernel
theorem dX9_sizeOf_22 : decode cX9_sizeOf 22 = .ok (.isub, 1) := by decide +kernel
theorem dX9_sizeOf_23 : decode cX9_sizeOf 23 = .ok (.iconst 1, 1) := by decide +kernel
theorem dX9_sizeOf_24 : decode cX9_sizeOf 24 = .ok (.iadd, 1) := by decide +kernel
theorem dX9_sizeOf_25 : decode cX9_sizeOf 25 = .ok (.ireturn, 1) := by decide +kernel
theorem dX9_parentOf_0 : decode cX9_parentOf 0 = .ok (.iload_n 1, 1) := by decide +kernel
theorem dX9_parentOf_1 : decode cX9_parentOf 1 = .ok (.ifCond .lt 11, 3) := by decide +kernel
theorem dX9_parentOf_4 : decode cX9_parentOf 4 = .ok (.iload_n 1, 1) := by decide +kernel
theorem dX9_parentOf_5 : decode cX9_parentOf 5 = .ok (.aload_n 0, 1) := by decide +kernel
theorem dX9_parentOf_6 : decode cX9_parentOf 6 = .ok (.getfield 24, 3) := by decide +kernel
theorem dX9_parentOf_9 : decode cX9_parentOf 9 = .ok (.if_icmp .lt 5, 3) := by decide +kernel
theorem dX9_parentOf_14 : decode cX9_parentOf 14 = .ok (.iload_n 1, 1) := by decide +kernel
theorem dX9_parentOf_15 : decode cX9_parentOf 15 = .ok (.iconst 1, 1) := by decide +kernel
theorem dX9_parentOf_16 : decode cX9_parentOf 16 = .ok (.isub, 1) := by decide +kernel
theorem dX9_parentOf_17 : decode cX9_parentOf 17 = .ok (.istore_n 2, 1) := by decide +kernel
theorem dX9_parentOf_18 : decode cX9_parentOf 18 = .ok (.iload_n 2, 1) := by decide +kernel
theorem dX9_parentOf_19 : decode cX9_parentOf 19 = .ok (.ifCond .lt 26, 3) := by decide +kernel
theorem dX9_parentOf_45 : decode cX9_parentOf 45 = .ok (.iconst (-1), 1) := by decide +kernel
theorem dX9_parentOf_46 : decode cX9_parentOf 46 = .ok (.ireturn, 1) := by decide +kernel
theorem dX9_placeOf_0 : decode cX9_placeOf 0 = .ok (.iload_n 1, 1) := by decide +kernel
theorem dX9_placeOf_1 : decode cX9_placeOf 1 = .ok (.iconst 1, 1) := by decide +kernel
theorem dX9_placeOf_2 : decode cX9_placeOf 2 = .ok (.if_icmp .lt 11, 3) := by decide +kernel
theorem dX9_placeOf_13 : decode cX9_placeOf 13 = .ok (.iconst (-1), 1) := by decide +kernel
theorem dX9_placeOf_14 : decode cX9_placeOf 14 = .ok (.ireturn, 1) := by decide +kernel
theorem dX9_childCount_0 : decode cX9_childCount 0 = .ok (.iload_n 1, 1) := by decide +kernel
theorem dX9_childCount_1 : decode cX9_childCount 1 = .ok (.ifCond .lt 11, 3) := by decide +kernel
theorem dX9_childCount_4 : decode cX9_childCount 4 = .ok (.iload_n 1, 1) := by decide +kernel
theorem dX9_childCount_5 : decode cX9_childCount 5 = .ok (.aload_n 0, 1) := by decide +kernel
theorem dX9_childCount_6 : decode cX9_childCount 6 = .ok (.getfield 24, 3) := by decide +kernel
theorem dX9_childCount_9 : decode cX9_childCount 9 = .ok (.if_icmp .lt 5, 3) := by decide +kernel
theorem dX9_childCount_14 : decode cX9_childCount 14 = .ok (.iconst 0, 1) := by decide +kernel
theorem dX9_childCount_15 : decode cX9_childCount 15 = .ok (.istore_n 2, 1) := by decide +kernel
theorem dX9_childCount_16 : decode cX9_childCount 16 = .ok (.iload_n 1, 1) := by decide +kernel
theorem dX9_childCount_17 : decode cX9_childCount 17 = .ok (.iconst 1, 1) := by decide +kernel
theorem dX9_childCount_18 : decode cX9_childCount 18 = .ok (.iadd, 1) := by decide +kernel
theorem dX9_childCount_19 : decode cX9_childCount 19 = .ok (.istore_n 3, 1) := by decide +kernel
theorem dX9_childCount_20 : decode cX9_childCount 20 = .ok (.iload_n 3, 1) := by decide +kernel
theorem dX9_childCount_21 : decode cX9_childCount 21 = .ok (.aload_n 0, 1) := by decide +kernel
theorem dX9_childCount_22 : decode cX9_childCount 22 = .ok (.getfield 24, 3) := by decide +kernel
theorem dX9_childCount_25 : decode cX9_childCount 25 = .ok (.if_icmp .ge 44, 3) := by decide +kernel
theorem dX9_childCount_69 : decode cX9_childCount 69 = .ok (.iload_n 2, 1) := by decide +kernel
theorem dX9_childCount_70 : decode cX9_childCount 70 = .ok (.ireturn, 1) := by decide +kernel
theorem dX9_childAt_0 : decode cX9_childAt 0 = .ok (.iload_n 1, 1) := by decide +kernel
theorem dX9_childAt_1 : decode cX9_childAt 1 = .ok (.ifCond .lt 11, 3) := by decide +kernel
theorem dX9_childAt_4 : decode cX9_childAt 4 = .ok (.iload_n 1, 1) := by decide +kernel
theorem dX9_childAt_5 : decode cX9_childAt 5 = .ok (.aload_n 0, 1) := by decide +kernel
theorem dX9_childAt_6 : decode cX9_childAt 6 = .ok (.getfield 24, 3) := by decide +kernel
theorem dX9_childAt_9 : decode cX9_childAt 9 = .ok (.if_icmp .lt 5, 3) := by decide +kernel
theorem dX9_childAt_14 : decode cX9_childAt 14 = .ok (.iconst 0, 1) := by decide +kernel
theorem dX9_childAt_15 : decode cX9_childAt 15 = .ok (.istore_n 3, 1) := by decide +kernel
theorem dX9_childAt_16 : decode cX9_childAt 16 = .ok (.iload_n 1, 1) := by decide +kernel
theorem dX9_childAt_17 : decode cX9_childAt 17 = .ok (.iconst 1, 1) := by decide +kernel
theorem dX9_childAt_18 : decode cX9_childAt 18 = .ok (.iadd, 1) := by decide +kernel
theorem dX9_childAt_19 : decode cX9_childAt 19 = .ok (.istore 4, 2) := by decide +kernel
theorem dX9_childAt_21 : decode cX9_childAt 21 = .ok (.iload 4, 2) := by decide +kernel
theorem dX9_childAt_23 : decode cX9_childAt 23 = .ok (.aload_n 0, 1) := by decide +kernel
theorem dX9_childAt_24 : decode cX9_childAt 24 = .ok (.getfield 24, 3) := by decide +kernel
theorem dX9_childAt_27 : decode cX9_childAt 27 = .ok (.if_icmp .ge 54, 3) := by decide +kernel
theorem dX9_childAt_81 : decode cX9_childAt 81 = .ok (.iconst (-1), 1) := by decide +kernel
theorem dX9_childAt_82 : decode cX9_childAt 82 = .ok (.ireturn, 1) := by decide +kernel
theorem dX9_deepest_0 : decode cX9_deepest 0 = .ok (.iconst 0, 1) := by decide +kernel
theorem dX9_deepest_1 : decode cX9_deepest 1 = .ok (.istore_n 1, 1) := by decide +kernel
theorem dX9_deepest_2 : decode cX9_deepest 2 = .ok (.iconst 0, 1) := by decide +kernel
theorem dX9_deepest_3 : decode cX9_deepest 3 = .ok (.istore_n 2, 1) := by decide +kernel
theorem dX9_deepest_4 : decode cX9_deepest 4 = .ok (.iload_n 2, 1) := by decide +kernel
theorem dX9_deepest_5 : decode cX9_deepest 5 = .ok (.aload_n 0, 1) := by decide +kernel
theorem dX9_deepest_6 : decode cX9_deepest 6 = .ok (.getfield 24, 3) := by decide +kernel
theorem dX9_deepest_9 : decode cX9_deepest 9 = .ok (.if_icmp .ge 20, 3) := by decide +kernel
theorem dX9_deepest_12 : decode cX9_deepest 12 = .ok (.iload_n 1, 1) := by decide +kernel
theorem dX9_deepest_13 : decode cX9_deepest 13 = .ok (.aload_n 0, 1) := by decide +kernel
theorem dX9_deepest_14 : decode cX9_deepest 14 = .ok (.getfield 21, 3) := by decide +kernel
theorem dX9_deepest_17 : decode cX9_deepest 17 = .ok (.iload_n 2, 1) := by decide +kernel
theorem dX9_deepest_18 : decode cX9_deepest 18 = .ok (.iaload, 1) := by decide +kernel
theorem dX9_deepest_19 : decode cX9_deepest 19 = .ok (.invokestatic 32, 3) := by decide +kernel
theorem dX9_deepest_22 : decode cX9_deepest 22 = .ok (.istore_n 1, 1) := by decide +kernel
theorem dX9_deepest_23 : decode cX9_deepest 23 = .ok (.iinc 2 1, 3) := by decide +kernel
theorem dX9_deepest_26 : decode cX9_deepest 26 = .ok (.goto (-22), 3) := by decide +kernel
theorem dX9_deepest_29 : decode cX9_deepest 29 = .ok (.iload_n 1, 1) := by decide +kernel
theorem dX9_deepest_30 : decode cX9_deepest 30 = .ok (.ireturn, 1) := by decide +kernel
theorem dX9_countKind_0 : decode cX9_countKind 0 = .ok (.iconst 0, 1) := by decide +kernel
theorem dX9_countKind_1 : decode cX9_countKind 1 = .ok (.istore_n 2, 1) := by decide +kernel
theorem dX9_countKind_2 : decode cX9_countKind 2 = .ok (.iconst 0, 1) := by decide +kernel
theorem dX9_countKind_3 : decode cX9_countKind 3 = .ok (.istore_n 3, 1) := by decide +kernel
theorem dX9_countKind_4 : decode cX9_countKind 4 = .ok (.iload_n 3, 1) := by decide +kernel
theorem dX9_countKind_5 : decode cX9_countKind 5 = .ok (.aload_n 0, 1) := by decide +kernel
theorem dX9_countKind_6 : decode cX9_countKind 6 = .ok (.getfield 24, 3) := by decide +kernel
theorem dX9_countKind_9 : decode cX9_countKind 9 = .ok (.if_icmp .ge 22, 3) := by decide +kernel
theorem dX9_countKind_12 : decode cX9_countKind 12 = .ok (.aload_n 0, 1) := by decide +kernel
theorem dX9_countKind_13 : decode cX9_countKind 13 = .ok (.getfield 9, 3) := by decide +kernel
theorem dX9_countKind_16 : decode cX9_countKind 16 = .ok (.iload_n 3, 1) := by decide +kernel
theorem dX9_countKind_17 : decode cX9_countKind 17 = .ok (.iaload, 1) := by decide +kernel
theorem dX9_countKind_18 : decode cX9_countKind 18 = .ok (.iload_n 1, 1) := by decide +kernel
theorem dX9_countKind_19 : decode cX9_countKind 19 = .ok (.if_icmp .ne 6, 3) := by decide +kernel
theorem dX9_countKind_22 : decode cX9_countKind 22 = .ok (.iinc 2 1, 3) := by decide +kernel
theorem dX9_countKind_25 : decode cX9_countKind 25 = .ok (.iinc 3 1, 3) := by decide +kernel
theorem dX9_countKind_28 : decode cX9_countKind 28 = .ok (.goto (-24), 3) := by decide +kernel
theorem dX9_countKind_31 : decode cX9_countKind 31 = .ok (.iload_n 2, 1) := by decide +kernel
theorem dX9_countKind_32 : decode cX9_countKind 32 = .ok (.ireturn, 1) := by decide +kernel
theorem dX9_sum_0 : decode cX9_sum 0 = .ok (.iconst 0, 1) := by decide +kernel
theorem dX9_sum_1 : decode cX9_sum 1 = .ok (.istore_n 1, 1) := by decide +kernel
theorem dX9_sum_2 : decode cX9_sum 2 = .ok (.iconst 0, 1) := by decide +kernel
theorem dX9_sum_3 : decode cX9_sum 3 = .ok (.istore_n 2, 1) := by decide +kernel
theorem dX9_sum_4 : decode cX9_sum 4 = .ok (.iload_n 2, 1) := by decide +kernel
theorem dX9_sum_5 : decode cX9_sum 5 = .ok (.aload_n 0, 1) := by decide +kernel
theorem dX9_sum_6 : decode cX9_sum 6 = .ok (.getfield 24, 3) := by decide +kernel
theorem dX9_sum_9 : decode cX9_sum 9 = .ok (.if_icmp .ge 27, 3) := by decide +kernel
theorem dX9_sum_12 : decode cX9_sum 12 = .ok (.aload_n 0, 1) := by decide +kernel
theorem dX9_sum_13 : decode cX9_sum 13 = .ok (.getfield 9, 3) := by decide +kernel
theorem dX9_sum_16 : decode cX9_sum 16 = .ok (.iload_n 2, 1) := by decide +kernel
theorem dX9_sum_17 : decode cX9_sum 17 = .ok (.iaload, 1) := by decide +kernel
theorem dX9_sum_18 : decode cX9_sum 18 = .ok (.ifCond .ne 12, 3) := by decide +kernel
theorem dX9_sum_30 : decode cX9_sum 30 = .ok (.iinc 2 1, 3) := by decide +kernel
theorem dX9_sum_33 : decode cX9_sum 33 = .ok (.goto (-29), 3) := by decide +kernel
theorem dX9_sum_36 : decode cX9_sum 36 = .ok (.iload_n 1, 1) := by decide +kernel
theorem dX9_sum_37 : decode cX9_sum 37 = .ok (.ireturn, 1) := by decide +kernel
theorem dX9_twinsOf_0 : decode cX9_twinsOf 0 = .ok (.iconst 0, 1) := by decide +kernel
theorem dX9_twinsOf_1 : decode cX9_twinsOf 1 = .ok (.istore_n 2, 1) := by decide +kernel
theorem dX9_twinsOf_2 : decode cX9_twinsOf 2 = .ok (.iconst 0, 1) := by decide +kernel
theorem dX9_twinsOf_3 : decode cX9_twinsOf 3 = .ok (.istore_n 3, 1) := by decide +kernel
theorem dX9_twinsOf_4 : decode cX9_twinsOf 4 = .ok (.iload_n 3, 1) := by decide +kernel
theorem dX9_twinsOf_5 : decode cX9_twinsOf 5 = .ok (.aload_n 0, 1) := by decide +kernel
theorem dX9_twinsOf_6 : decode cX9_twinsOf 6 = .ok (.getfield 24, 3) := by decide +kernel
theorem dX9_twinsOf_9 : decode cX9_twinsOf 9 = .ok (.if_icmp .ge 28, 3) := by decide +kernel
theorem dX9_twinsOf_12 : decode cX9_twinsOf 12 = .ok (.iload_n 3, 1) := by decide +kernel
theorem dX9_twinsOf_13 : decode cX9_twinsOf 13 = .ok (.iload_n 1, 1) := by decide +kernel
theorem dX9_twinsOf_14 : decode cX9_twinsOf 14 = .ok (.if_icmp .eq 17, 3) := by decide +kernel
theorem dX9_twinsOf_31 : decode cX9_twinsOf 31 = .ok (.iinc 3 1, 3) := by decide +kernel
theorem dX9_twinsOf_34 : decode cX9_twinsOf 34 = .ok (.goto (-30), 3) := by decide +kernel
theorem dX9_twinsOf_37 : decode cX9_twinsOf 37 = .ok (.iload_n 2, 1) := by decide +kernel
theorem dX9_twinsOf_38 : decode cX9_twinsOf 38 = .ok (.ireturn, 1) := by decide +kernel
theorem dX9_unlike_0 : decode cX9_unlike 0 = .ok (.iconst 0, 1) := by decide +kernel
theorem dX9_unlike_1 : decode cX9_unlike 1 = .ok (.istore_n 1, 1) := by decide +kernel
theorem dX9_unlike_2 : decode cX9_unlike 2 = .ok (.iconst 0, 1) := by decide +kernel
theorem dX9_unlike_3 : decode cX9_unlike 3 = .ok (.istore_n 2, 1) := by decide +kernel
theorem dX9_unlike_4 : decode cX9_unlike 4 = .ok (.iload_n 2, 1) := by decide +kernel
theorem dX9_unlike_5 : decode cX9_unlike 5 = .ok (.aload_n 0, 1) := by decide +kernel
theorem dX9_unlike_6 : decode cX9_unlike 6 = .ok (.getfield 24, 3) := by decide +kernel
theorem dX9_unlike_9 : decode cX9_unlike 9 = .ok (.if_icmp .ge 55, 3) := by decide +kernel
theorem dX9_unlike_12 : decode cX9_unlike 12 = .ok (.iconst 1, 1) := by decide +kernel
theorem dX9_unlike_13 : decode cX9_unlike 13 = .ok (.istore_n 3, 1) := by decide +kernel
theorem dX9_unlike_14 : decode cX9_unlike 14 = .ok (.iconst 0, 1) := by decide +kernel
theorem dX9_unlike_15 : decode cX9_unlike 15 = .ok (.istore 4, 2) := by decide +kernel
theorem dX9_unlike_17 : decode cX9_unlike 17 = .ok (.iload 4, 2) := by decide +kernel
theorem dX9_unlike_19 : decode cX9_unlike 19 = .ok (.iload_n 2, 1) := by decide +kernel
theorem dX9_unlike_20 : decode cX9_unlike 20 = .ok (.if_icmp .ge 31, 3) := by decide +kernel
theorem dX9_unlike_51 : decode cX9_unlike 51 = .ok (.iload_n 3, 1) := by decide +kernel
theorem dX9_unlike_52 : decode cX9_unlike 52 = .ok (.ifCond .eq 6, 3) := by decide +kernel
theorem dX9_unlike_55 : decode cX9_unlike 55 = .ok (.iinc 1 1, 3) := by decide +kernel
theorem dX9_unlike_58 : decode cX9_unlike 58 = .ok (.iinc 2 1, 3) := by decide +kernel
theorem dX9_unlike_61 : decode cX9_unlike 61 = .ok (.goto (-57), 3) := by decide +kernel
theorem dX9_unlike_64 : decode cX9_unlike 64 = .ok (.iload_n 1, 1) := by decide +kernel
theorem dX9_unlike_65 : decode cX9_unlike 65 = .ok (.ireturn, 1) := by decide +kernel
