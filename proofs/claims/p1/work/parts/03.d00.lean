theorem dX9_init_0 : decode cX9_init 0 = .ok (.aload_n 0, 1) := by decide +kernel
theorem dX9_init_1 : decode cX9_init 1 = .ok (.invokespecial 3, 3) := by decide +kernel
theorem dX9_init_4 : decode cX9_init 4 = .ok (.iload_n 1, 1) := by decide +kernel
theorem dX9_init_5 : decode cX9_init 5 = .ok (.iconst 1, 1) := by decide +kernel
theorem dX9_init_6 : decode cX9_init 6 = .ok (.if_icmp .ge 7, 3) := by decide +kernel
theorem dX9_init_9 : decode cX9_init 9 = .ok (.iconst 1, 1) := by decide +kernel
theorem dX9_init_10 : decode cX9_init 10 = .ok (.goto 4, 3) := by decide +kernel
theorem dX9_init_13 : decode cX9_init 13 = .ok (.iload_n 1, 1) := by decide +kernel
theorem dX9_init_14 : decode cX9_init 14 = .ok (.istore_n 2, 1) := by decide +kernel
theorem dX9_init_15 : decode cX9_init 15 = .ok (.aload_n 0, 1) := by decide +kernel
theorem dX9_init_16 : decode cX9_init 16 = .ok (.iload_n 2, 1) := by decide +kernel
theorem dX9_init_17 : decode cX9_init 17 = .ok (.newarray .int, 2) := by decide +kernel
theorem dX9_init_19 : decode cX9_init 19 = .ok (.putfield 9, 3) := by decide +kernel
theorem dX9_init_22 : decode cX9_init 22 = .ok (.aload_n 0, 1) := by decide +kernel
theorem dX9_init_23 : decode cX9_init 23 = .ok (.iload_n 2, 1) := by decide +kernel
theorem dX9_init_24 : decode cX9_init 24 = .ok (.newarray .int, 2) := by decide +kernel
theorem dX9_init_26 : decode cX9_init 26 = .ok (.putfield 15, 3) := by decide +kernel
theorem dX9_init_29 : decode cX9_init 29 = .ok (.aload_n 0, 1) := by decide +kernel
theorem dX9_init_30 : decode cX9_init 30 = .ok (.iload_n 2, 1) := by decide +kernel
theorem dX9_init_31 : decode cX9_init 31 = .ok (.newarray .int, 2) := by decide +kernel
theorem dX9_init_33 : decode cX9_init 33 = .ok (.putfield 18, 3) := by decide +kernel
theorem dX9_init_36 : decode cX9_init 36 = .ok (.aload_n 0, 1) := by decide +kernel
theorem dX9_init_37 : decode cX9_init 37 = .ok (.iload_n 2, 1) := by decide +kernel
theorem dX9_init_38 : decode cX9_init 38 = .ok (.newarray .int, 2) := by decide +kernel
theorem dX9_init_40 : decode cX9_init 40 = .ok (.putfield 21, 3) := by decide +kernel
theorem dX9_init_43 : decode cX9_init 43 = .ok (.return_, 1) := by decide +kernel
theorem dX9_has_0 : decode cX9_has 0 = .ok (.iload_n 1, 1) := by decide +kernel
theorem dX9_has_1 : decode cX9_has 1 = .ok (.ifCond .lt 24, 3) := by decide +kernel
theorem dX9_has_4 : decode cX9_has 4 = .ok (.iload_n 1, 1) := by decide +kernel
theorem dX9_has_5 : decode cX9_has 5 = .ok (.aload_n 0, 1) := by decide +kernel
theorem dX9_has_6 : decode cX9_has 6 = .ok (.getfield 24, 3) := by decide +kernel
theorem dX9_has_9 : decode cX9_has 9 = .ok (.if_icmp .ge 16, 3) := by decide +kernel
theorem dX9_has_12 : decode cX9_has 12 = .ok (.iload_n 1, 1) := by decide +kernel
theorem dX9_has_13 : decode cX9_has 13 = .ok (.aload_n 0, 1) := by decide +kernel
theorem dX9_has_14 : decode cX9_has 14 = .ok (.getfield 9, 3) := by decide +kernel
theorem dX9_has_17 : decode cX9_has 17 = .ok (.arraylength, 1) := by decide +kernel
theorem dX9_has_18 : decode cX9_has 18 = .ok (.if_icmp .ge 7, 3) := by decide +kernel
theorem dX9_has_21 : decode cX9_has 21 = .ok (.iconst 1, 1) := by decide +kernel
theorem dX9_has_22 : decode cX9_has 22 = .ok (.goto 4, 3) := by decide +kernel
theorem dX9_has_25 : decode cX9_has 25 = .ok (.iconst 0, 1) := by decide +kernel
theorem dX9_has_26 : decode cX9_has 26 = .ok (.ireturn, 1) := by decide +kernel
theorem dX9_kindAt_0 : decode cX9_kindAt 0 = .ok (.iload_n 1, 1) := by decide +kernel
theorem dX9_kindAt_1 : decode cX9_kindAt 1 = .ok (.ifCond .lt 11, 3) := by decide +kernel
theorem dX9_kindAt_4 : decode cX9_kindAt 4 = .ok (.iload_n 1, 1) := by decide +kernel
theorem dX9_kindAt_5 : decode cX9_kindAt 5 = .ok (.aload_n 0, 1) := by decide +kernel
theorem dX9_kindAt_6 : decode cX9_kindAt 6 = .ok (.getfield 24, 3) := by decide +kernel
theorem dX9_kindAt_9 : decode cX9_kindAt 9 = .ok (.if_icmp .lt 7, 3) := by decide +kernel
theorem dX9_kindAt_12 : decode cX9_kindAt 12 = .ok (.iconst (-1), 1) := by decide +kernel
theorem dX9_kindAt_13 : decode cX9_kindAt 13 = .ok (.goto 9, 3) := by decide +kernel
theorem dX9_kindAt_16 : decode cX9_kindAt 16 = .ok (.aload_n 0, 1) := by decide +kernel
theorem dX9_kindAt_17 : decode cX9_kindAt 17 = .ok (.getfield 9, 3) := by decide +kernel
theorem dX9_kindAt_20 : decode cX9_kindAt 20 = .ok (.iload_n 1, 1) := by decide +kernel
theorem dX9_kindAt_21 : decode cX9_kindAt 21 = .ok (.iaload, 1) := by decide +kernel
theorem dX9_kindAt_22 : decode cX9_kindAt 22 = .ok (.ireturn, 1) := by decide +kernel
theorem dX9_keyAt_0 : decode cX9_keyAt 0 = .ok (.iload_n 1, 1) := by decide +kernel
theorem dX9_keyAt_1 : decode cX9_keyAt 1 = .ok (.ifCond .lt 11, 3) := by decide +kernel
theorem dX9_keyAt_4 : decode cX9_keyAt 4 = .ok (.iload_n 1, 1) := by decide +kernel
theorem dX9_keyAt_5 : decode cX9_keyAt 5 = .ok (.aload_n 0, 1) := by decide +kernel
theorem dX9_keyAt_6 : decode cX9_keyAt 6 = .ok (.getfield 24, 3) := by decide +kernel
theorem dX9_keyAt_9 : decode cX9_keyAt 9 = .ok (.if_icmp .lt 7, 3) := by decide +kernel
theorem dX9_keyAt_12 : decode cX9_keyAt 12 = .ok (.iconst 0, 1) := by decide +kernel
theorem dX9_keyAt_13 : decode cX9_keyAt 13 = .ok (.goto 9, 3) := by decide +kernel
theorem dX9_keyAt_16 : decode cX9_keyAt 16 = .ok (.aload_n 0, 1) := by decide +kernel
theorem dX9_keyAt_17 : decode cX9_keyAt 17 = .ok (.getfield 18, 3) := by decide +kernel
theorem dX9_keyAt_20 : decode cX9_keyAt 20 = .ok (.iload_n 1, 1) := by decide +kernel
theorem dX9_keyAt_21 : decode cX9_keyAt 21 = .ok (.iaload, 1) := by decide +kernel
theorem dX9_keyAt_22 : decode cX9_keyAt 22 = .ok (.ireturn, 1) := by decide +kernel
theorem dX9_depthAt_0 : decode cX9_depthAt 0 = .ok (.iload_n 1, 1) := by decide +kernel
theorem dX9_depthAt_1 : decode cX9_depthAt 1 = .ok (.ifCond .lt 11, 3) := by decide +kernel
theorem dX9_depthAt_4 : decode cX9_depthAt 4 = .ok (.iload_n 1, 1) := by decide +kernel
theorem dX9_depthAt_5 : decode cX9_depthAt 5 = .ok (.aload_n 0, 1) := by decide +kernel
theorem dX9_depthAt_6 : decode cX9_depthAt 6 = .ok (.getfield 24, 3) := by decide +kernel
theorem dX9_depthAt_9 : decode cX9_depthAt 9 = .ok (.if_icmp .lt 7, 3) := by decide +kernel
theorem dX9_depthAt_12 : decode cX9_depthAt 12 = .ok (.iconst (-1), 1) := by decide +kernel
theorem dX9_depthAt_13 : decode cX9_depthAt 13 = .ok (.goto 9, 3) := by decide +kernel
theorem dX9_depthAt_16 : decode cX9_depthAt 16 = .ok (.aload_n 0, 1) := by decide +kernel
theorem dX9_depthAt_17 : decode cX9_depthAt 17 = .ok (.getfield 21, 3) := by decide +kernel
theorem dX9_depthAt_20 : decode cX9_depthAt 20 = .ok (.iload_n 1, 1) := by decide +kernel
theorem dX9_depthAt_21 : decode cX9_depthAt 21 = .ok (.iaload, 1) := by decide +kernel
theorem dX9_depthAt_22 : decode cX9_depthAt 22 = .ok (.ireturn, 1) := by decide +kernel
theorem dX9_valueAt_0 : decode cX9_valueAt 0 = .ok (.iload_n 1, 1) := by decide +kernel
theorem dX9_valueAt_1 : decode cX9_valueAt 1 = .ok (.ifCond .lt 11, 3) := by decide +kernel
theorem dX9_valueAt_4 : decode cX9_valueAt 4 = .ok (.iload_n 1, 1) := by decide +kernel
theorem dX9_valueAt_5 : decode cX9_valueAt 5 = .ok (.aload_n 0, 1) := by decide +kernel
theorem dX9_valueAt_6 : decode cX9_valueAt 6 = .ok (.getfield 24, 3) := by decide +kernel
theorem dX9_valueAt_9 : decode cX9_valueAt 9 = .ok (.if_icmp .lt 7, 3) := by decide +kernel
theorem dX9_valueAt_12 : decode cX9_valueAt 12 = .ok (.iconst 0, 1) := by decide +kernel
theorem dX9_valueAt_13 : decode cX9_valueAt 13 = .ok (.goto 9, 3) := by decide +kernel
theorem dX9_valueAt_16 : decode cX9_valueAt 16 = .ok (.aload_n 0, 1) := by decide +kernel
theorem dX9_valueAt_17 : decode cX9_valueAt 17 = .ok (.getfield 15, 3) := by decide +kernel
theorem dX9_valueAt_20 : decode cX9_valueAt 20 = .ok (.iload_n 1, 1) := by decide +kernel
theorem dX9_valueAt_21 : decode cX9_valueAt 21 = .ok (.iaload, 1) := by decide +kernel
theorem dX9_valueAt_22 : decode cX9_valueAt 22 = .ok (.ireturn, 1) := by decide +kernel
theorem dX9_end_0 : decode cX9_end 0 = .ok (.iload_n 1, 1) := by decide +kernel
theorem dX9_end_1 : decode cX9_end 1 = .ok (.ifCond .lt 11, 3) := by decide +kernel
theorem dX9_end_4 : decode cX9_end 4 = .ok (.iload_n 1, 1) := by decide +kernel
theorem dX9_end_5 : decode cX9_end 5 = .ok (.aload_n 0, 1) := by decide +kernel
theorem dX9_end_6 : decode cX9_end 6 = .ok (.getfield 24, 3) := by decide +kernel
theorem dX9_end_9 : decode cX9_end 9 = .ok (.if_icmp .lt 5, 3) := by decide +kernel
theorem dX9_end_12 : decode cX9_end 12 = .ok (.iconst (-1), 1) := by decide +kernel
theorem dX9_end_13 : decode cX9_end 13 = .ok (.ireturn, 1) := by decide +kernel
theorem dX9_end_14 : decode cX9_end 14 = .ok (.iload_n 1, 1) := by decide +kernel
theorem dX9_end_15 : decode cX9_end 15 = .ok (.istore_n 2, 1) := by decide +kernel
theorem dX9_end_16 : decode cX9_end 16 = .ok (.iload_n 1, 1) := by decide +kernel
theorem dX9_end_17 : decode cX9_end 17 = .ok (.iconst 1, 1) := by decide +kernel
theorem dX9_end_18 : decode cX9_end 18 = .ok (.iadd, 1) := by decide +kernel
theorem dX9_end_19 : decode cX9_end 19 = .ok (.istore_n 3, 1) := by decide +kernel
theorem dX9_end_20 : decode cX9_end 20 = .ok (.iload_n 3, 1) := by decide +kernel
theorem dX9_end_21 : decode cX9_end 21 = .ok (.aload_n 0, 1) := by decide +kernel
theorem dX9_end_22 : decode cX9_end 22 = .ok (.getfield 24, 3) := by decide +kernel
theorem dX9_end_25 : decode cX9_end 25 = .ok (.if_icmp .ge 26, 3) := by decide +kernel
theorem dX9_end_28 : decode cX9_end 28 = .ok (.aload_n 0, 1) := by decide +kernel
theorem dX9_end_29 : decode cX9_end 29 = .ok (.getfield 21, 3) := by decide +kernel
theorem dX9_end_32 : decode cX9_end 32 = .ok (.iload_n 3, 1) := by decide +kernel
theorem dX9_end_33 : decode cX9_end 33 = .ok (.iaload, 1) := by decide +kernel
theorem dX9_end_34 : decode cX9_end 34 = .ok (.aload_n 0, 1) := by decide +kernel
theorem dX9_end_35 : decode cX9_end 35 = .ok (.getfield 21, 3) := by decide +kernel
theorem dX9_end_38 : decode cX9_end 38 = .ok (.iload_n 1, 1) := by decide +kernel
theorem dX9_end_39 : decode cX9_end 39 = .ok (.iaload, 1) := by decide +kernel
theorem dX9_end_40 : decode cX9_end 40 = .ok (.if_icmp .le 11, 3) := by decide +kernel
theorem dX9_end_43 : decode cX9_end 43 = .ok (.iload_n 3, 1) := by decide +kernel
theorem dX9_end_44 : decode cX9_end 44 = .ok (.istore_n 2, 1) := by decide +kernel
theorem dX9_end_45 : decode cX9_end 45 = .ok (.iinc 3 1, 3) := by decide +kernel
theorem dX9_end_48 : decode cX9_end 48 = .ok (.goto (-28), 3) := by decide +kernel
theorem dX9_end_51 : decode cX9_end 51 = .ok (.iload_n 2, 1) := by decide +kernel
theorem dX9_end_52 : decode cX9_end 52 = .ok (.ireturn, 1) := by decide +kernel
set_option maxRecDepth 20000 in
theorem ggX9_sizeOf_X9_end : GoodIn wsX9_sizeOf wsX9_end := goodIn_r _ [6, 1, 7, 8, 9, 10, 11, 12] (by decide +kernel) (by decide +kernel)
set_option maxRecDepth 20000 in
theorem gX9_sizeOf_X9_end : GoodIn wsX9_sizeOf (wsV RX9 28 RX9 yX9_end wsX9_end) := goodIn_app (goodIn_of _ (by decide +kernel)) ggX9_sizeOf_X9_end
theorem dX9_sizeOf_0 : decode cX9_sizeOf 0 = .ok (.iload_n 1, 1) := by decide +kernel
theorem dX9_sizeOf_1 : decode cX9_sizeOf 1 = .ok (.ifCond .lt 11, 3) := by decide +kernel
theorem dX9_sizeOf_4 : decode cX9_sizeOf 4 = .ok (.iload_n 1, 1) := by decide +kernel
theorem dX9_sizeOf_5 : decode cX9_sizeOf 5 = .ok (.aload_n 0, 1) := by decide +kernel
theorem dX9_sizeOf_6 : decode cX9_sizeOf 6 = .ok (.getfield 24, 3) := by decide +kernel
theorem dX9_sizeOf_9 : decode cX9_sizeOf 9 = .ok (.if_icmp .lt 7, 3) := by decide +kernel
theorem dX9_sizeOf_12 : decode cX9_sizeOf 12 = .ok (.iconst 0, 1) := by decide +kernel
theorem dX9_sizeOf_13 : decode cX9_sizeOf 13 = .ok (.goto 12, 3) := by decide +kernel
theorem dX9_sizeOf_16 : decode cX9_sizeOf 16 = .ok (.aload_n 0, 1) := by decide +kernel
theorem dX9_sizeOf_17 : decode cX9_sizeOf 17 = .ok (.iload_n 1, 1) := by decide +kernel
theorem dX9_sizeOf_18 : decode cX9_sizeOf 18 = .ok (.invokevirtual 28, 3) := by decide +kernel
theorem dX9_sizeOf_21 : decode cX9_sizeOf 21 = .ok (.iload_n 1, 1) := by decide +kernel
theorem dX9_sizeOf_22 : decode cX9_sizeOf 22 = .ok (.isub, 1) := by decide +kernel
theorem dX9_sizeOf_23 : decode cX9_sizeOf 23 = .ok (.iconst 1, 1) := by decide +kernel
theorem dX9_sizeOf_24 : decode cX9_sizeOf 24 = .ok (.iadd, 1) := by decide +kernel
theorem dX9_sizeOf_25 : decode cX9_sizeOf 25 = .ok (.ireturn, 1) := by decide +kernel
theorem dX9_parentOf_0 : decode cX9_parentOf 0 = .ok (.iload_n 1, 1) := by decide +kernel
theorem dX9_parentOf_1 : decode cX9_parentOf 1 = .ok (.ifCond .lt 11, 3) := by decide +kernel
theorem dX9_parentOf_4 : decode cX9_parentOf 4 = .ok (.iload_n 1, 1) := by decide +kernel
theorem dX9_parentOf_5 : decode cX9_parentOf 5 = .ok (.aload_n 0, 1) := by decide +kernel
theorem dX9_parentOf_6 : decode cX9_parentOf 6 = .ok (.getfield 24, 3) := by decide +kernel
theorem dX9_parentOf_9 : decode cX9_parentOf 9 = .ok (.if_icmp .lt 5, 3) := by decide +kernel
theorem dX9_parentOf_12 : decode cX9_parentOf 12 = .ok (.iconst (-1), 1) := by decide +kernel
theorem dX9_parentOf_13 : decode cX9_parentOf 13 = .ok (.ireturn, 1) := by decide +kernel
theorem dX9_parentOf_14 : decode cX9_parentOf 14 = .ok (.iload_n 1, 1) := by decide +kernel
theorem dX9_parentOf_15 : decode cX9_parentOf 15 = .ok (.iconst 1, 1) := by decide +kernel
theorem dX9_parentOf_16 : decode cX9_parentOf 16 = .ok (.isub, 1) := by decide +kernel
theorem dX9_parentOf_17 : decode cX9_parentOf 17 = .ok (.istore_n 2, 1) := by decide +kernel
theorem dX9_parentOf_18 : decode cX9_parentOf 18 = .ok (.iload_n 2, 1) := by decide +kernel
theorem dX9_parentOf_19 : decode cX9_parentOf 19 = .ok (.ifCond .lt 26, 3) := by decide +kernel
theorem dX9_parentOf_22 : decode cX9_parentOf 22 = .ok (.aload_n 0, 1) := by decide +kernel
theorem dX9_parentOf_23 : decode cX9_parentOf 23 = .ok (.getfield 21, 3) := by decide +kernel
theorem dX9_parentOf_26 : decode cX9_parentOf 26 = .ok (.iload_n 2, 1) := by decide +kernel
theorem dX9_parentOf_27 : decode cX9_parentOf 27 = .ok (.iaload, 1) := by decide +kernel
theorem dX9_parentOf_28 : decode cX9_parentOf 28 = .ok (.aload_n 0, 1) := by decide +kernel
theorem dX9_parentOf_29 : decode cX9_parentOf 29 = .ok (.getfield 21, 3) := by decide +kernel
theorem dX9_parentOf_32 : decode cX9_parentOf 32 = .ok (.iload_n 1, 1) := by decide +kernel
theorem dX9_parentOf_33 : decode cX9_parentOf 33 = .ok (.iaload, 1) := by decide +kernel
theorem dX9_parentOf_34 : decode cX9_parentOf 34 = .ok (.if_icmp .ge 5, 3) := by decide +kernel
theorem dX9_parentOf_37 : decode cX9_parentOf 37 = .ok (.iload_n 2, 1) := by decide +kernel
theorem dX9_parentOf_38 : decode cX9_parentOf 38 = .ok (.ireturn, 1) := by decide +kernel
theorem dX9_parentOf_39 : decode cX9_parentOf 39 = .ok (.iinc 2 (-1), 3) := by decide +kernel
theorem dX9_parentOf_42 : decode cX9_parentOf 42 = .ok (.goto (-24), 3) := by decide +kernel
theorem dX9_parentOf_45 : decode cX9_parentOf 45 = .ok (.iconst (-1), 1) := by decide +kernel
theorem dX9_parentOf_46 : decode cX9_parentOf 46 = .ok (.ireturn, 1) := by decide +kernel
theorem dX9_placeOf_0 : decode cX9_placeOf 0 = .ok (.iload_n 1, 1) := by decide +kernel
theorem dX9_placeOf_1 : decode cX9_placeOf 1 = .ok (.iconst 1, 1) := by decide +kernel
theorem dX9_placeOf_2 : decode cX9_placeOf 2 = .ok (.if_icmp .lt 11, 3) := by decide +kernel
theorem dX9_placeOf_5 : decode cX9_placeOf 5 = .ok (.iload_n 1, 1) := by decide +kernel
theorem dX9_placeOf_6 : decode cX9_placeOf 6 = .ok (.aload_n 0, 1) := by decide +kernel
theorem dX9_placeOf_7 : decode cX9_placeOf 7 = .ok (.getfield 24, 3) := by decide +kernel
theorem dX9_placeOf_10 : decode cX9_placeOf 10 = .ok (.if_icmp .lt 5, 3) := by decide +kernel
theorem dX9_placeOf_13 : decode cX9_placeOf 13 = .ok (.iconst (-1), 1) := by decide +kernel
theorem dX9_placeOf_14 : decode cX9_placeOf 14 = .ok (.ireturn, 1) := by decide +kernel
theorem dX9_placeOf_15 : decode cX9_placeOf 15 = .ok (.iconst 0, 1) := by decide +kernel
theorem dX9_placeOf_16 : decode cX9_placeOf 16 = .ok (.istore_n 2, 1) := by decide +kernel
theorem dX9_placeOf_17 : decode cX9_placeOf 17 = .ok (.iload_n 1, 1) := by decide +kernel
theorem dX9_placeOf_18 : decode cX9_placeOf 18 = .ok (.iconst 1, 1) := by decide +kernel
theorem dX9_placeOf_19 : decode cX9_placeOf 19 = .ok (.isub, 1) := by decide +kernel
theorem dX9_placeOf_20 : decode cX9_placeOf 20 = .ok (.istore_n 3, 1) := by decide +kernel
theorem dX9_placeOf_21 : decode cX9_placeOf 21 = .ok (.iload_n 3, 1) := by decide +kernel
theorem dX9_placeOf_22 : decode cX9_placeOf 22 = .ok (.ifCond .lt 42, 3) := by decide +kernel
theorem dX9_placeOf_25 : decode cX9_placeOf 25 = .ok (.aload_n 0, 1) := by decide +kernel
theorem dX9_placeOf_26 : decode cX9_placeOf 26 = .ok (.getfield 21, 3) := by decide +kernel
theorem dX9_placeOf_29 : decode cX9_placeOf 29 = .ok (.iload_n 3, 1) := by decide +kernel
theorem dX9_placeOf_30 : decode cX9_placeOf 30 = .ok (.iaload, 1) := by decide +kernel
theorem dX9_placeOf_31 : decode cX9_placeOf 31 = .ok (.aload_n 0, 1) := by decide +kernel
theorem dX9_placeOf_32 : decode cX9_placeOf 32 = .ok (.getfield 21, 3) := by decide +kernel
theorem dX9_placeOf_35 : decode cX9_placeOf 35 = .ok (.iload_n 1, 1) := by decide +kernel
theorem dX9_placeOf_36 : decode cX9_placeOf 36 = .ok (.iaload, 1) := by decide +kernel
theorem dX9_placeOf_37 : decode cX9_placeOf 37 = .ok (.if_icmp .lt 27, 3) := by decide +kernel
theorem dX9_placeOf_40 : decode cX9_placeOf 40 = .ok (.aload_n 0, 1) := by decide +kernel
theorem dX9_placeOf_41 : decode cX9_placeOf 41 = .ok (.getfield 21, 3) := by decide +kernel
theorem dX9_placeOf_44 : decode cX9_placeOf 44 = .ok (.iload_n 3, 1) := by decide +kernel
theorem dX9_placeOf_45 : decode cX9_placeOf 45 = .ok (.iaload, 1) := by decide +kernel
theorem dX9_placeOf_46 : decode cX9_placeOf 46 = .ok (.aload_n 0, 1) := by decide +kernel
theorem dX9_placeOf_47 : decode cX9_placeOf 47 = .ok (.getfield 21, 3) := by decide +kernel
theorem dX9_placeOf_50 : decode cX9_placeOf 50 = .ok (.iload_n 1, 1) := by decide +kernel
theorem dX9_placeOf_51 : decode cX9_placeOf 51 = .ok (.iaload, 1) := by decide +kernel
theorem dX9_placeOf_52 : decode cX9_placeOf 52 = .ok (.if_icmp .ne 6, 3) := by decide +kernel
theorem dX9_placeOf_55 : decode cX9_placeOf 55 = .ok (.iinc 2 1, 3) := by decide +kernel
theorem dX9_placeOf_58 : decode cX9_placeOf 58 = .ok (.iinc 3 (-1), 3) := by decide +kernel
theorem dX9_placeOf_61 : decode cX9_placeOf 61 = .ok (.goto (-40), 3) := by decide +kernel
theorem dX9_placeOf_64 : decode cX9_placeOf 64 = .ok (.iload_n 2, 1) := by decide +kernel
theorem dX9_placeOf_65 : decode cX9_placeOf 65 = .ok (.ireturn, 1) := by decide +kernel
theorem dX9_childCount_0 : decode cX9_childCount 0 = .ok (.iload_n 1, 1) := by decide +kernel
theorem dX9_childCount_1 : decode cX9_childCount 1 = .ok (.ifCond .lt 11, 3) := by decide +kernel
theorem dX9_childCount_4 : decode cX9_childCount 4 = .ok (.iload_n 1, 1) := by decide +kernel
theorem dX9_childCount_5 : decode cX9_childCount 5 = .ok (.aload_n 0, 1) := by decide +kernel
theorem dX9_childCount_6 : decode cX9_childCount 6 = .ok (.getfield 24, 3) := by decide +kernel
theorem dX9_childCount_9 : decode cX9_childCount 9 = .ok (.if_icmp .lt 5, 3) := by decide +kernel
theorem dX9_childCount_12 : decode cX9_childCount 12 = .ok (.iconst 0, 1) := by decide +kernel
theorem dX9_childCount_13 : decode cX9_childCount 13 = .ok (.ireturn, 1) := by decide +kernel
theorem dX9_childCount_14 : decode cX9_childCount 14 = .ok (.iconst 0, 1) := by decide +kernel
theorem dX9_childCount_15 : decode cX9_childCount 15 = .ok (.istore_n 2, 1) := by decide +kernel
theorem dX9_childCount_16 : decode cX9_childCount 16 = .ok (.iload_n 1, 1) := by decide +kernel
theorem dX9_childCount_17 : decode cX9_childCount 17 = .ok (.iconst 1, 1) := by decide +kernel
theorem dX9_childCount_18 : decode cX9_childCount 18 = .ok (.iadd, 1) := by decide +kernel
theorem dX9_childCount_19 : decode cX9_childCount 19 = .ok (.istore_n 3, 1) := by decide +kernel
theorem dX9_childCount_20 : decode cX9_childCount 20 = .ok (.iload_n 3, 1) := by decide +kernel
theorem dX9_childCount_21 : decode cX9_childCount 21 = .ok (.aload_n 0, 1) := by decide +kernel
theorem dX9_childCount_22 : decode cX9_childCount 22 = .ok (.getfield 24, 3) := by decide +kernel
theorem dX9_childCount_25 : decode cX9_childCount 25 = .ok (.if_icmp .ge 44, 3) := by decide +kernel
theorem dX9_childCount_28 : decode cX9_childCount 28 = .ok (.aload_n 0, 1) := by decide +kernel
theorem dX9_childCount_29 : decode cX9_childCount 29 = .ok (.getfield 21, 3) := by decide +kernel
theorem dX9_childCount_32 : decode cX9_childCount 32 = .ok (.iload_n 3, 1) := by decide +kernel
theorem dX9_childCount_33 : decode cX9_childCount 33 = .ok (.iaload, 1) := by decide +kernel
theorem dX9_childCount_34 : decode cX9_childCount 34 = .ok (.aload_n 0, 1) := by decide +kernel
theorem dX9_childCount_35 : decode cX9_childCount 35 = .ok (.getfield 21, 3) := by decide +kernel
theorem dX9_childCount_38 : decode cX9_childCount 38 = .ok (.iload_n 1, 1) := by decide +kernel
theorem dX9_childCount_39 : decode cX9_childCount 39 = .ok (.iaload, 1) := by decide +kernel
theorem dX9_childCount_40 : decode cX9_childCount 40 = .ok (.if_icmp .le 29, 3) := by decide +kernel
theorem dX9_childCount_43 : decode cX9_childCount 43 = .ok (.aload_n 0, 1) := by decide +kernel
theorem dX9_childCount_44 : decode cX9_childCount 44 = .ok (.getfield 21, 3) := by decide +kernel
theorem dX9_childCount_47 : decode cX9_childCount 47 = .ok (.iload_n 3, 1) := by decide +kernel
theorem dX9_childCount_48 : decode cX9_childCount 48 = .ok (.iaload, 1) := by decide +kernel
theorem dX9_childCount_49 : decode cX9_childCount 49 = .ok (.aload_n 0, 1) := by decide +kernel
theorem dX9_childCount_50 : decode cX9_childCount 50 = .ok (.getfield 21, 3) := by decide +kernel
theorem dX9_childCount_53 : decode cX9_childCount 53 = .ok (.iload_n 1, 1) := by decide +kernel
theorem dX9_childCount_54 : decode cX9_childCount 54 = .ok (.iaload, 1) := by decide +kernel
theorem dX9_childCount_55 : decode cX9_childCount 55 = .ok (.iconst 1, 1) := by decide +kernel
theorem dX9_childCount_56 : decode cX9_childCount 56 = .ok (.iadd, 1) := by decide +kernel
theorem dX9_childCount_57 : decode cX9_childCount 57 = .ok (.if_icmp .ne 6, 3) := by decide +kernel
theorem dX9_childCount_60 : decode cX9_childCount 60 = .ok (.iinc 2 1, 3) := by decide +kernel
theorem dX9_childCount_63 : decode cX9_childCount 63 = .ok (.iinc 3 1, 3) := by decide +kernel
theorem dX9_childCount_66 : decode cX9_childCount 66 = .ok (.goto (-46), 3) := by decide +kernel
theorem dX9_childCount_69 : decode cX9_childCount 69 = .ok (.iload_n 2, 1) := by decide +kernel
theorem dX9_childCount_70 : decode cX9_childCount 70 = .ok (.ireturn, 1) := by decide +kernel
theorem dX9_childAt_0 : decode cX9_childAt 0 = .ok (.iload_n 1, 1) := by decide +kernel
theorem dX9_childAt_1 : decode cX9_childAt 1 = .ok (.ifCond .lt 11, 3) := by decide +kernel
theorem dX9_childAt_4 : decode cX9_childAt 4 = .ok (.iload_n 1, 1) := by decide +kernel
theorem dX9_childAt_5 : decode cX9_childAt 5 = .ok (.aload_n 0, 1) := by decide +kernel
theorem dX9_childAt_6 : decode cX9_childAt 6 = .ok (.getfield 24, 3) := by decide +kernel
theorem dX9_childAt_9 : decode cX9_childAt 9 = .ok (.if_icmp .lt 5, 3) := by decide +kernel
theorem dX9_childAt_12 : decode cX9_childAt 12 = .ok (.iconst (-1), 1) := by decide +kernel
theorem dX9_childAt_13 : decode cX9_childAt 13 = .ok (.ireturn, 1) := by decide +kernel
theorem dX9_childAt_14 : decode cX9_childAt 14 = .ok (.iconst 0, 1) := by decide +kernel
theorem dX9_childAt_15 : decode cX9_childAt 15 = .ok (.istore_n 3, 1) := by decide +kernel
theorem dX9_childAt_16 : decode cX9_childAt 16 = .ok (.iload_n 1, 1) := by decide +kernel
theorem dX9_childAt_17 : decode cX9_childAt 17 = .ok (.iconst 1, 1) := by decide +kernel
theorem dX9_childAt_18 : decode cX9_childAt 18 = .ok (.iadd, 1) := by decide +kernel
theorem dX9_childAt_19 : decode cX9_childAt 19 = .ok (.istore 4, 2) := by decide +kernel
theorem dX9_childAt_21 : decode cX9_childAt 21 = .ok (.iload 4, 2) := by decide +kernel
theorem dX9_childAt_23 : decode cX9_childAt 23 = .ok (.aload_n 0, 1) := by decide +kernel
theorem dX9_childAt_24 : decode cX9_childAt 24 = .ok (.getfield 24, 3) := by decide +kernel
theorem dX9_childAt_27 : decode cX9_childAt 27 = .ok (.if_icmp .ge 54, 3) := by decide +kernel
theorem dX9_childAt_30 : decode cX9_childAt 30 = .ok (.aload_n 0, 1) := by decide +kernel
theorem dX9_childAt_31 : decode cX9_childAt 31 = .ok (.getfield 21, 3) := by decide +kernel
theorem dX9_childAt_34 : decode cX9_childAt 34 = .ok (.iload 4, 2) := by decide +kernel
theorem dX9_childAt_36 : decode cX9_childAt 36 = .ok (.iaload, 1) := by decide +kernel
theorem dX9_childAt_37 : decode cX9_childAt 37 = .ok (.aload_n 0, 1) := by decide +kernel
theorem dX9_childAt_38 : decode cX9_childAt 38 = .ok (.getfield 21, 3) := by decide +kernel
theorem dX9_childAt_41 : decode cX9_childAt 41 = .ok (.iload_n 1, 1) := by decide +kernel
theorem dX9_childAt_42 : decode cX9_childAt 42 = .ok (.iaload, 1) := by decide +kernel
theorem dX9_childAt_43 : decode cX9_childAt 43 = .ok (.if_icmp .le 38, 3) := by decide +kernel
theorem dX9_childAt_46 : decode cX9_childAt 46 = .ok (.aload_n 0, 1) := by decide +kernel
theorem dX9_childAt_47 : decode cX9_childAt 47 = .ok (.getfield 21, 3) := by decide +kernel
theorem dX9_childAt_50 : decode cX9_childAt 50 = .ok (.iload 4, 2) := by decide +kernel
theorem dX9_childAt_52 : decode cX9_childAt 52 = .ok (.iaload, 1) := by decide +kernel
theorem dX9_childAt_53 : decode cX9_childAt 53 = .ok (.aload_n 0, 1) := by decide +kernel
theorem dX9_childAt_54 : decode cX9_childAt 54 = .ok (.getfield 21, 3) := by decide +kernel
theorem dX9_childAt_57 : decode cX9_childAt 57 = .ok (.iload_n 1, 1) := by decide +kernel
theorem dX9_childAt_58 : decode cX9_childAt 58 = .ok (.iaload, 1) := by decide +kernel
theorem dX9_childAt_59 : decode cX9_childAt 59 = .ok (.iconst 1, 1) := by decide +kernel
theorem dX9_childAt_60 : decode cX9_childAt 60 = .ok (.iadd, 1) := by decide +kernel
theorem dX9_childAt_61 : decode cX9_childAt 61 = .ok (.if_icmp .ne 14, 3) := by decide +kernel
theorem dX9_childAt_64 : decode cX9_childAt 64 = .ok (.iload_n 3, 1) := by decide +kernel
theorem dX9_childAt_65 : decode cX9_childAt 65 = .ok (.iload_n 2, 1) := by decide +kernel
theorem dX9_childAt_66 : decode cX9_childAt 66 = .ok (.if_icmp .ne 6, 3) := by decide +kernel
theorem dX9_childAt_69 : decode cX9_childAt 69 = .ok (.iload 4, 2) := by decide +kernel
theorem dX9_childAt_71 : decode cX9_childAt 71 = .ok (.ireturn, 1) := by decide +kernel
theorem dX9_childAt_72 : decode cX9_childAt 72 = .ok (.iinc 3 1, 3) := by decide +kernel
theorem dX9_childAt_75 : decode cX9_childAt 75 = .ok (.iinc 4 1, 3) := by decide +kernel
theorem dX9_childAt_78 : decode cX9_childAt 78 = .ok (.goto (-57), 3) := by decide +kernel
theorem dX9_childAt_81 : decode cX9_childAt 81 = .ok (.iconst (-1), 1) := by decide +kernel
theorem dX9_childAt_82 : decode cX9_childAt 82 = .ok (.ireturn, 1) := by decide +kernel
theorem dX9_deepest_0 : decode cX9_deepest 0 = .ok (.iconst 0, 1) := by decide +kernel
theorem dX9_deepest_1 : decode cX9_deepest 1 = .ok (.istore_n 1, 1) := by decide +kernel
theorem dX9_deepest_2 : decode cX9_deepest 2 = .ok (.iconst 0, 1) := by decide +kernel
theorem dX9_deepest_3 : decode cX9_deepest 3 = .ok (.istore_n 2, 1) := by decide +kernel
theorem dX9_deepest_4 : decode cX9_deepest 4 = .ok (.iload_n 2, 1) := by decide +kernel
theorem dX9_deepest_5 : decode cX9_deepest 5 = .ok (.aload_n 0, 1) := by decide +kernel
theorem dX9_deepest_6 : decode cX9_deepest 6 = .ok (.getfield 24, 3) := by decide +kernel
theorem dX9_deepest_9 : decode cX9_deepest 9 = .ok (.if_icmp .ge 20, 3) := by decide +kernel
theorem dX9_deepest_12 : decode cX9_deepest 12 = .ok (.iload_n 1, 1) := by decide +kernel
theorem dX9_deepest_13 : decode cX9_deepest 13 = .ok (.aload_n 0, 1) := by decide +kernel
theorem dX9_deepest_14 : decode cX9_deepest 14 = .ok (.getfield 21, 3) := by decide +kernel
theorem dX9_deepest_17 : decode cX9_deepest 17 = .ok (.iload_n 2, 1) := by decide +kernel
theorem dX9_deepest_18 : decode cX9_deepest 18 = .ok (.iaload, 1) := by decide +kernel
theorem dX9_deepest_19 : decode cX9_deepest 19 = .ok (.invokestatic 32, 3) := by decide +kernel
theorem dX9_deepest_22 : decode cX9_deepest 22 = .ok (.istore_n 1, 1) := by decide +kernel
theorem dX9_deepest_23 : decode cX9_deepest 23 = .ok (.iinc 2 1, 3) := by decide +kernel
theorem dX9_deepest_26 : decode cX9_deepest 26 = .ok (.goto (-22), 3) := by decide +kernel
theorem dX9_deepest_29 : decode cX9_deepest 29 = .ok (.iload_n 1, 1) := by decide +kernel
theorem dX9_deepest_30 : decode cX9_deepest 30 = .ok (.ireturn, 1) := by decide +kernel
theorem dX9_countKind_0 : decode cX9_countKind 0 = .ok (.iconst 0, 1) := by decide +kernel
theorem dX9_countKind_1 : decode cX9_countKind 1 = .ok (.istore_n 2, 1) := by decide +kernel
theorem dX9_countKind_2 : decode cX9_countKind 2 = .ok (.iconst 0, 1) := by decide +kernel
theorem dX9_countKind_3 : decode cX9_countKind 3 = .ok (.istore_n 3, 1) := by decide +kernel
theorem dX9_countKind_4 : decode cX9_countKind 4 = .ok (.iload_n 3, 1) := by decide +kernel
theorem dX9_countKind_5 : decode cX9_countKind 5 = .ok (.aload_n 0, 1) := by decide +kernel
theorem dX9_countKind_6 : decode cX9_countKind 6 = .ok (.getfield 24, 3) := by decide +kernel
theorem dX9_countKind_9 : decode cX9_countKind 9 = .ok (.if_icmp .ge 22, 3) := by decide +kernel
theorem dX9_countKind_12 : decode cX9_countKind 12 = .ok (.aload_n 0, 1) := by decide +kernel
theorem dX9_countKind_13 : decode cX9_countKind 13 = .ok (.getfield 9, 3) := by decide +kernel
theorem dX9_countKind_16 : decode cX9_countKind 16 = .ok (.iload_n 3, 1) := by decide +kernel
theorem dX9_countKind_17 : decode cX9_countKind 17 = .ok (.iaload, 1) := by decide +kernel
theorem dX9_countKind_18 : decode cX9_countKind 18 = .ok (.iload_n 1, 1) := by decide +kernel
theorem dX9_countKind_19 : decode cX9_countKind 19 = .ok (.if_icmp .ne 6, 3) := by decide +kernel
theorem dX9_countKind_22 : decode cX9_countKind 22 = .ok (.iinc 2 1, 3) := by decide +kernel
theorem dX9_countKind_25 : decode cX9_countKind 25 = .ok (.iinc 3 1, 3) := by decide +kernel
theorem dX9_countKind_28 : decode cX9_countKind 28 = .ok (.goto (-24), 3) := by decide +kernel
theorem dX9_countKind_31 : decode cX9_countKind 31 = .ok (.iload_n 2, 1) := by decide +kernel
theorem dX9_countKind_32 : decode cX9_countKind 32 = .ok (.ireturn, 1) := by decide +kernel
theorem dX9_sum_0 : decode cX9_sum 0 = .ok (.iconst 0, 1) := by decide +kernel
theorem dX9_sum_1 : decode cX9_sum 1 = .ok (.istore_n 1, 1) := by decide +kernel
theorem dX9_sum_2 : decode cX9_sum 2 = .ok (.iconst 0, 1) := by decide +kernel
theorem dX9_sum_3 : decode cX9_sum 3 = .ok (.istore_n 2, 1) := by decide +kernel
theorem dX9_sum_4 : decode cX9_sum 4 = .ok (.iload_n 2, 1) := by decide +kernel
theorem dX9_sum_5 : decode cX9_sum 5 = .ok (.aload_n 0, 1) := by decide +kernel
theorem dX9_sum_6 : decode cX9_sum 6 = .ok (.getfield 24, 3) := by decide +kernel
theorem dX9_sum_9 : decode cX9_sum 9 = .ok (.if_icmp .ge 27, 3) := by decide +kernel
theorem dX9_sum_12 : decode cX9_sum 12 = .ok (.aload_n 0, 1) := by decide +kernel
theorem dX9_sum_13 : decode cX9_sum 13 = .ok (.getfield 9, 3) := by decide +kernel
theorem dX9_sum_16 : decode cX9_sum 16 = .ok (.iload_n 2, 1) := by decide +kernel
theorem dX9_sum_17 : decode cX9_sum 17 = .ok (.iaload, 1) := by decide +kernel
theorem dX9_sum_18 : decode cX9_sum 18 = .ok (.ifCond .ne 12, 3) := by decide +kernel
theorem dX9_sum_21 : decode cX9_sum 21 = .ok (.iload_n 1, 1) := by decide +kernel
theorem dX9_sum_22 : decode cX9_sum 22 = .ok (.aload_n 0, 1) := by decide +kernel
theorem dX9_sum_23 : decode cX9_sum 23 = .ok (.getfield 15, 3) := by decide +kernel
theorem dX9_sum_26 : decode cX9_sum 26 = .ok (.iload_n 2, 1) := by decide +kernel
theorem dX9_sum_27 : decode cX9_sum 27 = .ok (.iaload, 1) := by decide +kernel
theorem dX9_sum_28 : decode cX9_sum 28 = .ok (.iadd, 1) := by decide +kernel
theorem dX9_sum_29 : decode cX9_sum 29 = .ok (.istore_n 1, 1) := by decide +kernel
theorem dX9_sum_30 : decode cX9_sum 30 = .ok (.iinc 2 1, 3) := by decide +kernel
theorem dX9_sum_33 : decode cX9_sum 33 = .ok (.goto (-29), 3) := by decide +kernel
theorem dX9_sum_36 : decode cX9_sum 36 = .ok (.iload_n 1, 1) := by decide +kernel
theorem dX9_sum_37 : decode cX9_sum 37 = .ok (.ireturn, 1) := by decide +kernel
set_option maxRecDepth 20000 in
theorem ggX9_like_X9_kindAt : GoodIn wsX9_like wsX9_kindAt := goodIn_r _ [5, 6, 7, 38, 39, 40, 41, 42] (by decide +kernel) (by decide +kernel)
set_option maxRecDepth 20000 in
theorem gX9_like_X9_kindAt : GoodIn wsX9_like (wsV RX9 38 RX9 yX9_kindAt wsX9_kindAt) := goodIn_app (goodIn_of _ (by decide +kernel)) ggX9_like_X9_kindAt
set_option maxRecDepth 20000 in
theorem ggX9_like_X9_valueAt : GoodIn wsX9_like wsX9_valueAt := goodIn_r _ [11, 6, 12, 38, 39, 40, 41, 42] (by decide +kernel) (by decide +kernel)
set_option maxRecDepth 20000 in
theorem gX9_like_X9_valueAt : GoodIn wsX9_like (wsV RX9 41 RX9 yX9_valueAt wsX9_valueAt) := goodIn_app (goodIn_of _ (by decide +kernel)) ggX9_like_X9_valueAt
set_option maxRecDepth 20000 in
theorem ggX9_like_X9_sizeOf : GoodIn wsX9_like wsX9_sizeOf := goodIn_r _ [16, 6, 17, 18, 19, 4, 20, 21, 38, 39, 40, 41, 42] (by decide +kernel) (by decide +kernel)
set_option maxRecDepth 20000 in
theorem gX9_like_X9_sizeOf : GoodIn wsX9_like (wsV RX9 44 RX9 yX9_sizeOf wsX9_sizeOf) := goodIn_app (goodIn_of _ (by decide +kernel)) ggX9_like_X9_sizeOf
set_option maxRecDepth 20000 in
theorem ggX9_like_X9_childCount : GoodIn wsX9_like wsX9_childCount := goodIn_r _ [25, 6, 21, 38, 39, 40, 41, 42] (by decide +kernel) (by decide +kernel)
set_option maxRecDepth 20000 in
theorem gX9_like_X9_childCount : GoodIn wsX9_like (wsV RX9 47 RX9 yX9_childCount wsX9_childCount) := goodIn_app (goodIn_of _ (by decide +kernel)) ggX9_like_X9_childCount
set_option maxRecDepth 20000 in
theorem ggX9_like_X9_keyAt : GoodIn wsX9_like wsX9_keyAt := goodIn_r _ [29, 6, 30, 38, 39, 40, 41, 42] (by decide +kernel) (by decide +kernel)
set_option maxRecDepth 20000 in
theorem gX9_like_X9_keyAt : GoodIn wsX9_like (wsV RX9 50 RX9 yX9_keyAt wsX9_keyAt) := goodIn_app (goodIn_of _ (by decide +kernel)) ggX9_like_X9_keyAt
set_option maxRecDepth 20000 in
theorem ggX9_like_X9_like : GoodIn wsX9_like wsX9_like := goodIn_r _ [0, 1, 2, 3, 4, 5, 6, 7, 8, 9, 10, 11, 12, 13, 14, 15, 16, 17, 18, 19, 20, 21, 22, 23, 24, 25, 26, 27, 28, 29, 30, 31, 32, 33, 34, 35, 36, 37, 38, 39, 40, 41, 42] (by decide +kernel) (by decide +kernel)
set_option maxRecDepth 20000 in
theorem gX9_like_X9_like : GoodIn wsX9_like (wsV RX9 56 RX9 yX9_like wsX9_like) := goodIn_app (goodIn_of _ (by decide +kernel)) ggX9_like_X9_like
set_option maxRecDepth 20000 in
theorem ggX9_like_X9_end : GoodIn wsX9_like wsX9_end := goodIn_r _ [20, 6, 21, 38, 39, 40, 41, 42] (by decide +kernel) (by decide +kernel)
set_option maxRecDepth 20000 in
theorem gX9_like_X9_end : GoodIn wsX9_like (wsV RX9 28 RX9 yX9_end wsX9_end) := goodIn_app (goodIn_of _ (by decide +kernel)) ggX9_like_X9_end
theorem dX9_like_0 : decode cX9_like 0 = .ok (.aload_n 0, 1) := by decide +kernel
theorem dX9_like_1 : decode cX9_like 1 = .ok (.iload_n 1, 1) := by decide +kernel
theorem dX9_like_2 : decode cX9_like 2 = .ok (.invokevirtual 38, 3) := by decide +kernel
theorem dX9_like_5 : decode cX9_like 5 = .ok (.istore 5, 2) := by decide +kernel
theorem dX9_like_7 : decode cX9_like 7 = .ok (.iload 5, 2) := by decide +kernel
theorem dX9_like_9 : decode cX9_like 9 = .ok (.ifCond .lt 20, 3) := by decide +kernel
theorem dX9_like_12 : decode cX9_like 12 = .ok (.iload 5, 2) := by decide +kernel
theorem dX9_like_14 : decode cX9_like 14 = .ok (.aload_n 2, 1) := by decide +kernel
theorem dX9_like_15 : decode cX9_like 15 = .ok (.iload_n 3, 1) := by decide +kernel
theorem dX9_like_16 : decode cX9_like 16 = .ok (.invokevirtual 38, 3) := by decide +kernel
theorem dX9_like_19 : decode cX9_like 19 = .ok (.if_icmp .ne 10, 3) := by decide +kernel
theorem dX9_like_22 : decode cX9_like 22 = .ok (.iload 4, 2) := by decide +kernel
theorem dX9_like_24 : decode cX9_like 24 = .ok (.bipush 16, 2) := by decide +kernel
theorem dX9_like_26 : decode cX9_like 26 = .ok (.if_icmp .le 5, 3) := by decide +kernel
theorem dX9_like_29 : decode cX9_like 29 = .ok (.iconst 0, 1) := by decide +kernel
theorem dX9_like_30 : decode cX9_like 30 = .ok (.ireturn, 1) := by decide +kernel
theorem dX9_like_31 : decode cX9_like 31 = .ok (.iload 5, 2) := by decide +kernel
theorem dX9_like_33 : decode cX9_like 33 = .ok (.ifCond .eq 9, 3) := by decide +kernel
theorem dX9_like_36 : decode cX9_like 36 = .ok (.iload 5, 2) := by decide +kernel
theorem dX9_like_38 : decode cX9_like 38 = .ok (.iconst 1, 1) := by decide +kernel
theorem dX9_like_39 : decode cX9_like 39 = .ok (.if_icmp .ne 22, 3) := by decide +kernel
theorem dX9_like_42 : decode cX9_like 42 = .ok (.aload_n 0, 1) := by decide +kernel
theorem dX9_like_43 : decode cX9_like 43 = .ok (.iload_n 1, 1) := by decide +kernel
theorem dX9_like_44 : decode cX9_like 44 = .ok (.invokevirtual 41, 3) := by decide +kernel
theorem dX9_like_47 : decode cX9_like 47 = .ok (.aload_n 2, 1) := by decide +kernel
theorem dX9_like_48 : decode cX9_like 48 = .ok (.iload_n 3, 1) := by decide +kernel
theorem dX9_like_49 : decode cX9_like 49 = .ok (.invokevirtual 41, 3) := by decide +kernel
theorem dX9_like_52 : decode cX9_like 52 = .ok (.if_icmp .ne 7, 3) := by decide +kernel
theorem dX9_like_55 : decode cX9_like 55 = .ok (.iconst 1, 1) := by decide +kernel
theorem dX9_like_56 : decode cX9_like 56 = .ok (.goto 4, 3) := by decide +kernel
theorem dX9_like_59 : decode cX9_like 59 = .ok (.iconst 0, 1) := by decide +kernel
theorem dX9_like_60 : decode cX9_like 60 = .ok (.ireturn, 1) := by decide +kernel
theorem dX9_like_61 : decode cX9_like 61 = .ok (.aload_n 0, 1) := by decide +kernel
theorem dX9_like_62 : decode cX9_like 62 = .ok (.iload_n 1, 1) := by decide +kernel
theorem dX9_like_63 : decode cX9_like 63 = .ok (.invokevirtual 44, 3) := by decide +kernel
theorem dX9_like_66 : decode cX9_like 66 = .ok (.aload_n 2, 1) := by decide +kernel
theorem dX9_like_67 : decode cX9_like 67 = .ok (.iload_n 3, 1) := by decide +kernel
theorem dX9_like_68 : decode cX9_like 68 = .ok (.invokevirtual 44, 3) := by decide +kernel
theorem dX9_like_71 : decode cX9_like 71 = .ok (.if_icmp .eq 5, 3) := by decide +kernel
theorem dX9_like_74 : decode cX9_like 74 = .ok (.iconst 0, 1) := by decide +kernel
theorem dX9_like_75 : decode cX9_like 75 = .ok (.ireturn, 1) := by decide +kernel
theorem dX9_like_76 : decode cX9_like 76 = .ok (.aload_n 0, 1) := by decide +kernel
theorem dX9_like_77 : decode cX9_like 77 = .ok (.iload_n 1, 1) := by decide +kernel
theorem dX9_like_78 : decode cX9_like 78 = .ok (.invokevirtual 47, 3) := by decide +kernel
theorem dX9_like_81 : decode cX9_like 81 = .ok (.istore 6, 2) := by decide +kernel
theorem dX9_like_83 : decode cX9_like 83 = .ok (.iload 6, 2) := by decide +kernel
theorem dX9_like_85 : decode cX9_like 85 = .ok (.aload_n 2, 1) := by decide +kernel
theorem dX9_like_86 : decode cX9_like 86 = .ok (.iload_n 3, 1) := by decide +kernel
theorem dX9_like_87 : decode cX9_like 87 = .ok (.invokevirtual 47, 3) := by decide +kernel
theorem dX9_like_90 : decode cX9_like 90 = .ok (.if_icmp .eq 5, 3) := by decide +kernel
theorem dX9_like_93 : decode cX9_like 93 = .ok (.iconst 0, 1) := by decide +kernel
theorem dX9_like_94 : decode cX9_like 94 = .ok (.ireturn, 1) := by decide +kernel
theorem dX9_like_95 : decode cX9_like 95 = .ok (.iload_n 1, 1) := by decide +kernel
theorem dX9_like_96 : decode cX9_like 96 = .ok (.iconst 1, 1) := by decide +kernel
theorem dX9_like_97 : decode cX9_like 97 = .ok (.iadd, 1) := by decide +kernel
theorem dX9_like_98 : decode cX9_like 98 = .ok (.istore 7, 2) := by decide +kernel
theorem dX9_like_100 : decode cX9_like 100 = .ok (.iload_n 3, 1) := by decide +kernel
theorem dX9_like_101 : decode cX9_like 101 = .ok (.iconst 1, 1) := by decide +kernel
theorem dX9_like_102 : decode cX9_like 102 = .ok (.iadd, 1) := by decide +kernel
theorem dX9_like_103 : decode cX9_like 103 = .ok (.istore 8, 2) := by decide +kernel
theorem dX9_like_105 : decode cX9_like 105 = .ok (.iconst 0, 1) := by decide +kernel
theorem dX9_like_106 : decode cX9_like 106 = .ok (.istore 9, 2) := by decide +kernel
theorem dX9_like_108 : decode cX9_like 108 = .ok (.iload 9, 2) := by decide +kernel
theorem dX9_like_110 : decode cX9_like 110 = .ok (.iload 6, 2) := by decide +kernel
theorem dX9_like_112 : decode cX9_like 112 = .ok (.if_icmp .ge 71, 3) := by decide +kernel
theorem dX9_like_115 : decode cX9_like 115 = .ok (.iload 5, 2) := by decide +kernel
theorem dX9_like_117 : decode cX9_like 117 = .ok (.iconst 3, 1) := by decide +kernel
theorem dX9_like_118 : decode cX9_like 118 = .ok (.if_icmp .ne 17, 3) := by decide +kernel
theorem dX9_like_121 : decode cX9_like 121 = .ok (.aload_n 2, 1) := by decide +kernel
theorem dX9_like_122 : decode cX9_like 122 = .ok (.iload_n 3, 1) := by decide +kernel
theorem dX9_like_123 : decode cX9_like 123 = .ok (.aload_n 0, 1) := by decide +kernel
theorem dX9_like_124 : decode cX9_like 124 = .ok (.iload 7, 2) := by decide +kernel
theorem dX9_like_126 : decode cX9_like 126 = .ok (.invokevirtual 50, 3) := by decide +kernel
theorem dX9_like_129 : decode cX9_like 129 = .ok (.invokevirtual 53, 3) := by decide +kernel
theorem dX9_like_132 : decode cX9_like 132 = .ok (.goto 5, 3) := by decide +kernel
theorem dX9_like_135 : decode cX9_like 135 = .ok (.iload 8, 2) := by decide +kernel
theorem dX9_like_137 : decode cX9_like 137 = .ok (.istore 10, 2) := by decide +kernel
theorem dX9_like_139 : decode cX9_like 139 = .ok (.aload_n 0, 1) := by decide +kernel
theorem dX9_like_140 : decode cX9_like 140 = .ok (.iload 7, 2) := by decide +kernel
theorem dX9_like_142 : decode cX9_like 142 = .ok (.aload_n 2, 1) := by decide +kernel
theorem dX9_like_143 : decode cX9_like 143 = .ok (.iload 10, 2) := by decide +kernel
theorem dX9_like_145 : decode cX9_like 145 = .ok (.iload 4, 2) := by decide +kernel
theorem dX9_like_147 : decode cX9_like 147 = .ok (.iconst 1, 1) := by decide +kernel
theorem dX9_like_148 : decode cX9_like 148 = .ok (.iadd, 1) := by decide +kernel
theorem dX9_like_149 : decode cX9_like 149 = .ok (.invokevirtual 56, 3) := by decide +kernel
theorem dX9_like_152 : decode cX9_like 152 = .ok (.ifCond .ne 5, 3) := by decide +kernel
theorem dX9_like_155 : decode cX9_like 155 = .ok (.iconst 0, 1) := by decide +kernel
theorem dX9_like_156 : decode cX9_like 156 = .ok (.ireturn, 1) := by decide +kernel
theorem dX9_like_157 : decode cX9_like 157 = .ok (.aload_n 0, 1) := by decide +kernel
theorem dX9_like_158 : decode cX9_like 158 = .ok (.iload 7, 2) := by decide +kernel
theorem dX9_like_160 : decode cX9_like 160 = .ok (.invokevirtual 28, 3) := by decide +kernel
theorem dX9_like_163 : decode cX9_like 163 = .ok (.iconst 1, 1) := by decide +kernel
theorem dX9_like_164 : decode cX9_like 164 = .ok (.iadd, 1) := by decide +kernel
theorem dX9_like_165 : decode cX9_like 165 = .ok (.istore 7, 2) := by decide +kernel
theorem dX9_like_167 : decode cX9_like 167 = .ok (.aload_n 2, 1) := by decide +kernel
theorem dX9_like_168 : decode cX9_like 168 = .ok (.iload 8, 2) := by decide +kernel
theorem dX9_like_170 : decode cX9_like 170 = .ok (.invokevirtual 28, 3) := by decide +kernel
theorem dX9_like_173 : decode cX9_like 173 = .ok (.iconst 1, 1) := by decide +kernel
theorem dX9_like_174 : decode cX9_like 174 = .ok (.iadd, 1) := by decide +kernel
theorem dX9_like_175 : decode cX9_like 175 = .ok (.istore 8, 2) := by decide +kernel
theorem dX9_like_177 : decode cX9_like 177 = .ok (.iinc 9 1, 3) := by decide +kernel
theorem dX9_like_180 : decode cX9_like 180 = .ok (.goto (-72), 3) := by decide +kernel
theorem dX9_like_183 : decode cX9_like 183 = .ok (.iconst 1, 1) := by decide +kernel
theorem dX9_like_184 : decode cX9_like 184 = .ok (.ireturn, 1) := by decide +kernel
set_option maxRecDepth 20000 in
theorem ggX9_twinsOf_X9_like : GoodIn wsX9_twinsOf wsX9_like := goodIn_r _ [6, 7, 8, 9, 5, 10, 1, 11, 12, 13, 14, 15, 16, 17, 18, 19, 20, 21, 22, 23, 24, 25, 26, 27, 28, 29, 30, 31, 32, 33, 34, 35, 36, 37, 38, 2, 3, 4, 39, 40, 41, 42, 43] (by decide +kernel) (by decide +kernel)
set_option maxRecDepth 20000 in
theorem gX9_twinsOf_X9_like : GoodIn wsX9_twinsOf (wsV RX9 56 RX9 yX9_like wsX9_like) := goodIn_app (goodIn_of _ (by decide +kernel)) ggX9_twinsOf_X9_like
theorem dX9_twinsOf_0 : decode cX9_twinsOf 0 = .ok (.iconst 0, 1) := by decide +kernel
theorem dX9_twinsOf_1 : decode cX9_twinsOf 1 = .ok (.istore_n 2, 1) := by decide +kernel
theorem dX9_twinsOf_2 : decode cX9_twinsOf 2 = .ok (.iconst 0, 1) := by decide +kernel
theorem dX9_twinsOf_3 : decode cX9_twinsOf 3 = .ok (.istore_n 3, 1) := by decide +kernel
theorem dX9_twinsOf_4 : decode cX9_twinsOf 4 = .ok (.iload_n 3, 1) := by decide +kernel
theorem dX9_twinsOf_5 : decode cX9_twinsOf 5 = .ok (.aload_n 0, 1) := by decide +kernel
theorem dX9_twinsOf_6 : decode cX9_twinsOf 6 = .ok (.getfield 24, 3) := by decide +kernel
theorem dX9_twinsOf_9 : decode cX9_twinsOf 9 = .ok (.if_icmp .ge 28, 3) := by decide +kernel
theorem dX9_twinsOf_12 : decode cX9_twinsOf 12 = .ok (.iload_n 3, 1) := by decide +kernel
theorem dX9_twinsOf_13 : decode cX9_twinsOf 13 = .ok (.iload_n 1, 1) := by decide +kernel
theorem dX9_twinsOf_14 : decode cX9_twinsOf 14 = .ok (.if_icmp .eq 17, 3) := by decide +kernel
theorem dX9_twinsOf_17 : decode cX9_twinsOf 17 = .ok (.aload_n 0, 1) := by decide +kernel
theorem dX9_twinsOf_18 : decode cX9_twinsOf 18 = .ok (.iload_n 1, 1) := by decide +kernel
theorem dX9_twinsOf_19 : decode cX9_twinsOf 19 = .ok (.aload_n 0, 1) := by decide +kernel
theorem dX9_twinsOf_20 : decode cX9_twinsOf 20 = .ok (.iload_n 3, 1) := by decide +kernel
theorem dX9_twinsOf_21 : decode cX9_twinsOf 21 = .ok (.iconst 0, 1) := by decide +kernel
theorem dX9_twinsOf_22 : decode cX9_twinsOf 22 = .ok (.invokevirtual 56, 3) := by decide +kernel
theorem dX9_twinsOf_25 : decode cX9_twinsOf 25 = .ok (.ifCond .eq 6, 3) := by decide +kernel
theorem dX9_twinsOf_28 : decode cX9_twinsOf 28 = .ok (.iinc 2 1, 3) := by decide +kernel
theorem dX9_twinsOf_31 : decode cX9_twinsOf 31 = .ok (.iinc 3 1, 3) := by decide +kernel
theorem dX9_twinsOf_34 : decode cX9_twinsOf 34 = .ok (.goto (-30), 3) := by decide +kernel
theorem dX9_twinsOf_37 : decode cX9_twinsOf 37 = .ok (.iload_n 2, 1) := by decide +kernel
theorem dX9_twinsOf_38 : decode cX9_twinsOf 38 = .ok (.ireturn, 1) := by decide +kernel
