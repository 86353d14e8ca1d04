theorem dX9_has_0 : decode cX9_has 0 = .ok (.iload_n 1, 1) := by decide +kernel
theorem dX9_has_1 : decode cX9_has 1 = .ok (.ifCond .lt 24, 3) := by decide +kernel
theorem dX9_has_4 : decode cX9_has 4 = .ok (.iload_n 1, 1) := by decide +kernel
theorem dX9_has_5 : decode cX9_has 5 = .ok (.aload_n 0, 1) := by decide +kernel
theorem dX9_has_6 : decode cX9_has 6 = .ok (.getfield 24, 3) := by decide +kernel
theorem dX9_has_9 : decode cX9_has 9 = .ok (.if_icmp .ge 16, 3) := by decide +kernel
theorem dX9_has_12 : decode cX9_has 12 = .ok (.iload_n 1, 1) := by decide +kernel
theorem dX9_has_13 : decode cX9_has 13 = .ok (.aload_n 0, 1) := by decide +kernel
theorem dX9_has_14 : decode cX9_has 14 = .ok (.getfield 9, 3) := by decide +kernel
theorem dX9_has_17 : decode cX9_has 17 = .ok (.arraylength, 1) := by decide +kernel
theorem dX9_has_18 : decode cX9_has 18 = .ok (.if_icmp .ge 7, 3) := by decide +kernel
theorem dX9_has_21 : decode cX9_has 21 = .ok (.iconst 1, 1) := by decide +kernel
theorem dX9_has_22 : decode cX9_has 22 = .ok (.goto 4, 3) := by decide +kernel
theorem dX9_has_25 : decode cX9_has 25 = .ok (.iconst 0, 1) := by decide +kernel
theorem dX9_has_26 : decode cX9_has 26 = .ok (.ireturn, 1) := by decide +kernel
theorem dX9_kindAt_0 : decode cX9_kindAt 0 = .ok (.iload_n 1, 1) := by decide +kernel
theorem dX9_kindAt_1 : decode cX9_kindAt 1 = .ok (.ifCond .lt 11, 3) := by decide +kernel
theorem dX9_kindAt_4 : decode cX9_kindAt 4 = .ok (.iload_n 1, 1) := by decide +kernel
theorem dX9_kindAt_5 : decode cX9_kindAt 5 = .ok (.aload_n 0, 1) := by decide +kernel
theorem dX9_kindAt_6 : decode cX9_kindAt 6 = .ok (.getfield 24, 3) := by decide +kernel
theorem dX9_kindAt_9 : decode cX9_kindAt 9 = .ok (.if_icmp .lt 7, 3) := by decide +kernel
theorem dX9_kindAt_12 : decode cX9_kindAt 12 = .ok (.iconst (-1), 1) := by decide +kernel
theorem dX9_kindAt_13 : decode cX9_kindAt 13 = .ok (.goto 9, 3) := by decide +kernel
theorem dX9_kindAt_16 : decode cX9_kindAt 16 = .ok (.aload_n 0, 1) := by decide +kernel
theorem dX9_kindAt_17 : decode cX9_kindAt 17 = .ok (.getfield 9, 3) := by decide +kernel
theorem dX9_kindAt_20 : decode cX9_kindAt 20 = .ok (.iload_n 1, 1) := by decide +kernel
theorem dX9_kindAt_21 : decode cX9_kindAt 21 = .ok (.iaload, 1) := by decide +kernel
theorem dX9_kindAt_22 : decode cX9_kindAt 22 = .ok (.ireturn, 1) := by decide +kernel
theorem dX9_valueAt_0 : decode cX9_valueAt 0 = .ok (.iload_n 1, 1) := by decide +kernel
theorem dX9_valueAt_1 : decode cX9_valueAt 1 = .ok (.ifCond .lt 11, 3) := by decide +kernel
theorem dX9_valueAt_4 : decode cX9_valueAt 4 = .ok (.iload_n 1, 1) := by decide +kernel
theorem dX9_valueAt_5 : decode cX9_valueAt 5 = .ok (.aload_n 0, 1) := by decide +kernel
theorem dX9_valueAt_6 : decode cX9_valueAt 6 = .ok (.getfield 24, 3) := by decide +kernel
theorem dX9_valueAt_9 : decode cX9_valueAt 9 = .ok (.if_icmp .lt 7, 3) := by decide +kernel
theorem dX9_valueAt_12 : decode cX9_valueAt 12 = .ok (.iconst 0, 1) := by decide +kernel
theorem dX9_valueAt_13 : decode cX9_valueAt 13 = .ok (.goto 9, 3) := by decide +kernel
theorem dX9_valueAt_16 : decode cX9_valueAt 16 = .ok (.aload_n 0, 1) := by decide +kernel
theorem dX9_valueAt_17 : decode cX9_valueAt 17 = .ok (.getfield 15, 3) := by decide +kernel
theorem dX9_valueAt_20 : decode cX9_valueAt 20 = .ok (.iload_n 1, 1) := by decide +kernel
theorem dX9_valueAt_21 : decode cX9_valueAt 21 = .ok (.iaload, 1) := by decide +kernel
theorem dX9_valueAt_22 : decode cX9_valueAt 22 = .ok (.ireturn, 1) := by decide +kernel
theorem dX9_keyAt_0 : decode cX9_keyAt 0 = .ok (.iload_n 1, 1) := by decide +kernel
theorem dX9_keyAt_1 : decode cX9_keyAt 1 = .ok (.ifCond .lt 11, 3) := by decide +kernel
theorem dX9_keyAt_4 : decode cX9_keyAt 4 = .ok (.iload_n 1, 1) := by decide +kernel
theorem dX9_keyAt_5 : decode cX9_keyAt 5 = .ok (.aload_n 0, 1) := by decide +kernel
theorem dX9_keyAt_6 : decode cX9_keyAt 6 = .ok (.getfield 24, 3) := by decide +kernel
theorem dX9_keyAt_9 : decode cX9_keyAt 9 = .ok (.if_icmp .lt 7, 3) := by decide +kernel
theorem dX9_keyAt_12 : decode cX9_keyAt 12 = .ok (.iconst 0, 1) := by decide +kernel
theorem dX9_keyAt_13 : decode cX9_keyAt 13 = .ok (.goto 9, 3) := by decide +kernel
theorem dX9_keyAt_16 : decode cX9_keyAt 16 = .ok (.aload_n 0, 1) := by decide +kernel
theorem dX9_keyAt_17 : decode cX9_keyAt 17 = .ok (.getfield 18, 3) := by decide +kernel
theorem dX9_keyAt_20 : decode cX9_keyAt 20 = .ok (.iload_n 1, 1) := by decide +kernel
theorem dX9_keyAt_21 : decode cX9_keyAt 21 = .ok (.iaload, 1) := by decide +kernel
theorem dX9_keyAt_22 : decode cX9_keyAt 22 = .ok (.ireturn, 1) := by decide +kernel
theorem dX9_depthAt_0 : decode cX9_depthAt 0 = .ok (.iload_n 1, 1) := by decide +kernel
theorem dX9_depthAt_1 : decode cX9_depthAt 1 = .ok (.ifCond .lt 11, 3) := by decide +kernel
theorem dX9_depthAt_4 : decode cX9_depthAt 4 = .ok (.iload_n 1, 1) := by decide +kernel
theorem dX9_depthAt_5 : decode cX9_depthAt 5 = .ok (.aload_n 0, 1) := by decide +kernel
theorem dX9_depthAt_6 : decode cX9_depthAt 6 = .ok (.getfield 24, 3) := by decide +kernel
theorem dX9_depthAt_9 : decode cX9_depthAt 9 = .ok (.if_icmp .lt 7, 3) := by decide +kernel
theorem dX9_depthAt_12 : decode cX9_depthAt 12 = .ok (.iconst (-1), 1) := by decide +kernel
theorem dX9_depthAt_13 : decode cX9_depthAt 13 = .ok (.goto 9, 3) := by decide +kernel
theorem dX9_depthAt_16 : decode cX9_depthAt 16 = .ok (.aload_n 0, 1) := by decide +kernel
theorem dX9_depthAt_17 : decode cX9_depthAt 17 = .ok (.getfield 21, 3) := by decide +kernel
theorem dX9_depthAt_20 : decode cX9_depthAt 20 = .ok (.iload_n 1, 1) := by decide +kernel
theorem dX9_depthAt_21 : decode cX9_depthAt 21 = .ok (.iaload, 1) := by decide +kernel
theorem dX9_depthAt_22 : decode cX9_depthAt 22 = .ok (.ireturn, 1) := by decide +kernel
theorem dX9_end_0 : decode cX9_end 0 = .ok (.iload_n 1, 1) := by decide +kernel
theorem dX9_end_1 : decode cX9_end 1 = .ok (.ifCond .lt 11, 3) := by decide +kernel
theorem dX9_end_4 : decode cX9_end 4 = .ok (.iload_n 1, 1) := by decide +kernel
theorem dX9_end_5 : decode cX9_end 5 = .ok (.aload_n 0, 1) := by decide +kernel
theorem dX9_end_6 : decode cX9_end 6 = .ok (.getfield 24, 3) := by decide +kernel
theorem dX9_end_9 : decode cX9_end 9 = .ok (.if_icmp .lt 5, 3) := by decide +kernel
theorem dX9_end_12 : decode cX9_end 12 = .ok (.iconst (-1), 1) := by decide +kernel
theorem dX9_end_13 : decode cX9_end 13 = .ok (.ireturn, 1) := by decide +kernel
theorem dX9_end_14 : decode cX9_end 14 = .ok (.iload_n 1, 1) := by decide +kernel
theorem dX9_end_15 : decode cX9_end 15 = .ok (.istore_n 2, 1) := by decide +kernel
theorem dX9_end_16 : decode cX9_end 16 = .ok (.iload_n 1, 1) := by decide +kernel
theorem dX9_end_17 : decode cX9_end 17 = .ok (.iconst 1, 1) := by decide +kernel
theorem dX9_end_18 : decode cX9_end 18 = .ok (.iadd, 1) := by decide +kernel
theorem dX9_end_19 : decode cX9_end 19 = .ok (.istore_n 3, 1) := by decide +kernel
theorem dX9_end_20 : decode cX9_end 20 = .ok (.iload_n 3, 1) := by decide +kernel
theorem dX9_end_21 : decode cX9_end 21 = .ok (.aload_n 0, 1) := by decide +kernel
theorem dX9_end_22 : decode cX9_end 22 = .ok (.getfield 24, 3) := by decide +kernel
theorem dX9_end_25 : decode cX9_end 25 = .ok (.if_icmp .ge 26, 3) := by decide +kernel
theorem dX9_end_28 : decode cX9_end 28 = .ok (.aload_n 0, 1) := by decide +kernel
theorem dX9_end_29 : decode cX9_end 29 = .ok (.getfield 21, 3) := by decide +kernel
theorem dX9_end_32 : decode cX9_end 32 = .ok (.iload_n 3, 1) := by decide +kernel
theorem dX9_end_33 : decode cX9_end 33 = .ok (.iaload, 1) := by decide +kernel
theorem dX9_end_34 : decode cX9_end 34 = .ok (.aload_n 0, 1) := by decide +kernel
theorem dX9_end_35 : decode cX9_end 35 = .ok (.getfield 21, 3) := by decide +kernel
theorem dX9_end_38 : decode cX9_end 38 = .ok (.iload_n 1, 1) := by decide +kernel
theorem dX9_end_39 : decode cX9_end 39 = .ok (.iaload, 1) := by decide +kernel
theorem dX9_end_40 : decode cX9_end 40 = .ok (.if_icmp .le 11, 3) := by decide +kernel
theorem dX9_end_43 : decode cX9_end 43 = .ok (.iload_n 3, 1) := by decide +kernel
theorem dX9_end_44 : decode cX9_end 44 = .ok (.istore_n 2, 1) := by decide +kernel
theorem dX9_end_45 : decode cX9_end 45 = .ok (.iinc 3 1, 3) := by decide +kernel
theorem dX9_end_48 : decode cX9_end 48 = .ok (.goto (-28), 3) := by decide +kernel
theorem dX9_end_51 : decode cX9_end 51 = .ok (.iload_n 2, 1) := by decide +kernel
theorem dX9_end_52 : decode cX9_end 52 = .ok (.ireturn, 1) := by decide +kernel
theorem dX9_sizeOf_0 : decode cX9_sizeOf 0 = .ok (.iload_n 1, 1) := by decide +kernel
theorem dX9_sizeOf_1 : decode cX9_sizeOf 1 = .ok (.ifCond .lt 11, 3) := by decide +kernel
theorem dX9_sizeOf_4 : decode cX9_sizeOf 4 = .ok (.iload_n 1, 1) := by decide +kernel
theorem dX9_sizeOf_5 : decode cX9_sizeOf 5 = .ok (.aload_n 0, 1) := by decide +kernel
theorem dX9_sizeOf_6 : decode cX9_sizeOf 6 = .ok (.getfield 24, 3) := by decide +kernel
theorem dX9_sizeOf_9 : decode cX9_sizeOf 9 = .ok (.if_icmp .lt 7, 3) := by decide +kernel
theorem dX9_sizeOf_12 : decode cX9_sizeOf 12 = .ok (.iconst 0, 1) := by decide +kernel
theorem dX9_sizeOf_13 : decode cX9_sizeOf 13 = .ok (.goto 12, 3) := by decide +kernel
theorem dX9_sizeOf_16 : decode cX9_sizeOf 16 = .ok (.aload_n 0, 1) := by decide +kernel
theorem dX9_sizeOf_17 : decode cX9_sizeOf 17 = .ok (.iload_n 1, 1) := by decide +kernel
theorem dX9_sizeOf_18 : decode cX9_sizeOf 18 = .ok (.invokevirtual 28, 3) := by decide +kernel
theorem dX9_sizeOf_21 : decode cX9_sizeOf 21 = .ok (.iload_n 1, 1) := by decide +kernel
theorem dX9_sizeOf_22 : decode cX9_sizeOf 22 = .ok (.isub, 1) := by decide +kernel
theorem dX9_sizeOf_23 : decode cX9_sizeOf 23 = .ok (.iconst 1, 1) := by decide +kernel
theorem dX9_sizeOf_24 : decode cX9_sizeOf 24 = .ok (.iadd, 1) := by decide +kernel
theorem dX9_sizeOf_25 : decode cX9_sizeOf 25 = .ok (.ireturn, 1) := by decide +kernel
theorem dX9_ancestorAt_0 : decode cX9_ancestorAt 0 = .ok (.iload_n 1, 1) := by decide +kernel
theorem dX9_ancestorAt_1 : decode cX9_ancestorAt 1 = .ok (.ifCond .lt 11, 3) := by decide +kernel
theorem dX9_ancestorAt_4 : decode cX9_ancestorAt 4 = .ok (.iload_n 1, 1) := by decide +kernel
theorem dX9_ancestorAt_5 : decode cX9_ancestorAt 5 = .ok (.aload_n 0, 1) := by decide +kernel
theorem dX9_ancestorAt_6 : decode cX9_ancestorAt 6 = .ok (.getfield 24, 3) := by decide +kernel
theorem dX9_ancestorAt_9 : decode cX9_ancestorAt 9 = .ok (.if_icmp .lt 5, 3) := by decide +kernel
theorem dX9_ancestorAt_12 : decode cX9_ancestorAt 12 = .ok (.iconst (-1), 1) := by decide +kernel
theorem dX9_ancestorAt_13 : decode cX9_ancestorAt 13 = .ok (.ireturn, 1) := by decide +kernel
theorem dX9_ancestorAt_14 : decode cX9_ancestorAt 14 = .ok (.iload_n 1, 1) := by decide +kernel
theorem dX9_ancestorAt_15 : decode cX9_ancestorAt 15 = .ok (.istore_n 3, 1) := by decide +kernel
theorem dX9_ancestorAt_16 : decode cX9_ancestorAt 16 = .ok (.iload_n 3, 1) := by decide +kernel
theorem dX9_ancestorAt_17 : decode cX9_ancestorAt 17 = .ok (.ifCond .lt 21, 3) := by decide +kernel
theorem dX9_ancestorAt_20 : decode cX9_ancestorAt 20 = .ok (.aload_n 0, 1) := by decide +kernel
theorem dX9_ancestorAt_21 : decode cX9_ancestorAt 21 = .ok (.getfield 21, 3) := by decide +kernel
theorem dX9_ancestorAt_24 : decode cX9_ancestorAt 24 = .ok (.iload_n 3, 1) := by decide +kernel
theorem dX9_ancestorAt_25 : decode cX9_ancestorAt 25 = .ok (.iaload, 1) := by decide +kernel
theorem dX9_ancestorAt_26 : decode cX9_ancestorAt 26 = .ok (.iload_n 2, 1) := by decide +kernel
theorem dX9_ancestorAt_27 : decode cX9_ancestorAt 27 = .ok (.if_icmp .gt 5, 3) := by decide +kernel
theorem dX9_ancestorAt_30 : decode cX9_ancestorAt 30 = .ok (.iload_n 3, 1) := by decide +kernel
theorem dX9_ancestorAt_31 : decode cX9_ancestorAt 31 = .ok (.ireturn, 1) := by decide +kernel
theorem dX9_ancestorAt_32 : decode cX9_ancestorAt 32 = .ok (.iinc 3 (-1), 3) := by decide +kernel
theorem dX9_ancestorAt_35 : decode cX9_ancestorAt 35 = .ok (.goto (-19), 3) := by decide +kernel
theorem dX9_ancestorAt_38 : decode cX9_ancestorAt 38 = .ok (.iconst (-1), 1) := by decide +kernel
theorem dX9_ancestorAt_39 : decode cX9_ancestorAt 39 = .ok (.ireturn, 1) := by decide +kernel
theorem dX9_parentOf_0 : decode cX9_parentOf 0 = .ok (.iload_n 1, 1) := by decide +kernel
theorem dX9_parentOf_1 : decode cX9_parentOf 1 = .ok (.ifCond .lt 11, 3) := by decide +kernel
theorem dX9_parentOf_4 : decode cX9_parentOf 4 = .ok (.iload_n 1, 1) := by decide +kernel
theorem dX9_parentOf_5 : decode cX9_parentOf 5 = .ok (.aload_n 0, 1) := by decide +kernel
theorem dX9_parentOf_6 : decode cX9_parentOf 6 = .ok (.getfield 24, 3) := by decide +kernel
theorem dX9_parentOf_9 : decode cX9_parentOf 9 = .ok (.if_icmp .lt 5, 3) := by decide +kernel
theorem dX9_parentOf_12 : decode cX9_parentOf 12 = .ok (.iconst (-1), 1) := by decide +kernel
theorem dX9_parentOf_13 : decode cX9_parentOf 13 = .ok (.ireturn, 1) := by decide +kernel
theorem dX9_parentOf_14 : decode cX9_parentOf 14 = .ok (.iload_n 1, 1) := by decide +kernel
theorem dX9_parentOf_15 : decode cX9_parentOf 15 = .ok (.iconst 1, 1) := by decide +kernel
theorem dX9_parentOf_16 : decode cX9_parentOf 16 = .ok (.isub, 1) := by decide +kernel
theorem dX9_parentOf_17 : decode cX9_parentOf 17 = .ok (.istore_n 2, 1) := by decide +kernel
theorem dX9_parentOf_18 : decode cX9_parentOf 18 = .ok (.iload_n 2, 1) := by decide +kernel
theorem dX9_parentOf_19 : decode cX9_parentOf 19 = .ok (.ifCond .lt 26, 3) := by decide +kernel
theorem dX9_parentOf_22 : decode cX9_parentOf 22 = .ok (.aload_n 0, 1) := by decide +kernel
theorem dX9_parentOf_23 : decode cX9_parentOf 23 = .ok (.getfield 21, 3) := by decide +kernel
theorem dX9_parentOf_26 : decode cX9_parentOf 26 = .ok (.iload_n 2, 1) := by decide +kernel
theorem dX9_parentOf_27 : decode cX9_parentOf 27 = .ok (.iaload, 1) := by decide +kernel
theorem dX9_parentOf_28 : decode cX9_parentOf 28 = .ok (.aload_n 0, 1) := by decide +kernel
theorem dX9_parentOf_29 : decode cX9_parentOf 29 = .ok (.getfield 21, 3) := by decide +kernel
theorem dX9_parentOf_32 : decode cX9_parentOf 32 = .ok (.iload_n 1, 1) := by decide +kernel
theorem dX9_parentOf_33 : decode cX9_parentOf 33 = .ok (.iaload, 1) := by decide +kernel
theorem dX9_parentOf_34 : decode cX9_parentOf 34 = .ok (.if_icmp .ge 5, 3) := by decide +kernel
theorem dX9_parentOf_37 : decode cX9_parentOf 37 = .ok (.iload_n 2, 1) := by decide +kernel
theorem dX9_parentOf_38 : decode cX9_parentOf 38 = .ok (.ireturn, 1) := by decide +kernel
theorem dX9_parentOf_39 : decode cX9_parentOf 39 = .ok (.iinc 2 (-1), 3) := by decide +kernel
theorem dX9_parentOf_42 : decode cX9_parentOf 42 = .ok (.goto (-24), 3) := by decide +kernel
theorem dX9_parentOf_45 : decode cX9_parentOf 45 = .ok (.iconst (-1), 1) := by decide +kernel
theorem dX9_parentOf_46 : decode cX9_parentOf 46 = .ok (.ireturn, 1) := by decide +kernel
theorem dX9_placeOf_0 : decode cX9_placeOf 0 = .ok (.iload_n 1, 1) := by decide +kernel
theorem dX9_placeOf_1 : decode cX9_placeOf 1 = .ok (.iconst 1, 1) := by decide +kernel
theorem dX9_placeOf_2 : decode cX9_placeOf 2 = .ok (.if_icmp .lt 11, 3) := by decide +kernel
theorem dX9_placeOf_5 : decode cX9_placeOf 5 = .ok (.iload_n 1, 1) := by decide +kernel
theorem dX9_placeOf_6 : decode cX9_placeOf 6 = .ok (.aload_n 0, 1) := by decide +kernel
theorem dX9_placeOf_7 : decode cX9_placeOf 7 = .ok (.getfield 24, 3) := by decide +kernel
theorem dX9_placeOf_10 : decode cX9_placeOf 10 = .ok (.if_icmp .lt 5, 3) := by decide +kernel
theorem dX9_placeOf_13 : decode cX9_placeOf 13 = .ok (.iconst (-1), 1) := by decide +kernel
theorem dX9_placeOf_14 : decode cX9_placeOf 14 = .ok (.ireturn, 1) := by decide +kernel
theorem dX9_placeOf_15 : decode cX9_placeOf 15 = .ok (.iconst 0, 1) := by decide +kernel
theorem dX9_placeOf_16 : decode cX9_placeOf 16 = .ok (.istore_n 2, 1) := by decide +kernel
theorem dX9_placeOf_17 : decode cX9_placeOf 17 = .ok (.iload_n 1, 1) := by decide +kernel
theorem dX9_placeOf_18 : decode cX9_placeOf 18 = .ok (.iconst 1, 1) := by decide +kernel
theorem dX9_placeOf_19 : decode cX9_placeOf 19 = .ok (.isub, 1) := by decide +kernel
theorem dX9_placeOf_20 : decode cX9_placeOf 20 = .ok (.istore_n 3, 1) := by decide +kernel
theorem dX9_placeOf_21 : decode cX9_placeOf 21 = .ok (.iload_n 3, 1) := by decide +kernel
theorem dX9_placeOf_22 : decode cX9_placeOf 22 = .ok (.ifCond .lt 42, 3) := by decide +kernel
theorem dX9_placeOf_25 : decode cX9_placeOf 25 = .ok (.aload_n 0, 1) := by decide +kernel
theorem dX9_placeOf_26 : decode cX9_placeOf 26 = .ok (.getfield 21, 3) := by decide +kernel
theorem dX9_placeOf_29 : decode cX9_placeOf 29 = .ok (.iload_n 3, 1) := by decide +kernel
theorem dX9_placeOf_30 : decode cX9_placeOf 30 = .ok (.iaload, 1) := by decide +kernel
theorem dX9_placeOf_31 : decode cX9_placeOf 31 = .ok (.aload_n 0, 1) := by decide +kernel
theorem dX9_placeOf_32 : decode cX9_placeOf 32 = .ok (.getfield 21, 3) := by decide +kernel
theorem dX9_placeOf_35 : decode cX9_placeOf 35 = .ok (.iload_n 1, 1) := by decide +kernel
theorem dX9_placeOf_36 : decode cX9_placeOf 36 = .ok (.iaload, 1) := by decide +kernel
theorem dX9_placeOf_37 : decode cX9_placeOf 37 = .ok (.if_icmp .lt 27, 3) := by decide +kernel
theorem dX9_placeOf_40 : decode cX9_placeOf 40 = .ok (.aload_n 0, 1) := by decide +kernel
theorem dX9_placeOf_41 : decode cX9_placeOf 41 = .ok (.getfield 21, 3) := by decide +kernel
theorem dX9_placeOf_44 : decode cX9_placeOf 44 = .ok (.iload_n 3, 1) := by decide +kernel
theorem dX9_placeOf_45 : decode cX9_placeOf 45 = .ok (.iaload, 1) := by decide +kernel
theorem dX9_placeOf_46 : decode cX9_placeOf 46 = .ok (.aload_n 0, 1) := by decide +kernel
theorem dX9_placeOf_47 : decode cX9_placeOf 47 = .ok (.getfield 21, 3) := by decide +kernel
theorem dX9_placeOf_50 : decode cX9_placeOf 50 = .ok (.iload_n 1, 1) := by decide +kernel
theorem dX9_placeOf_51 : decode cX9_placeOf 51 = .ok (.iaload, 1) := by decide +kernel
theorem dX9_placeOf_52 : decode cX9_placeOf 52 = .ok (.if_icmp .ne 6, 3) := by decide +kernel
theorem dX9_placeOf_55 : decode cX9_placeOf 55 = .ok (.iinc 2 1, 3) := by decide +kernel
theorem dX9_placeOf_58 : decode cX9_placeOf 58 = .ok (.iinc 3 (-1), 3) := by decide +kernel
theorem dX9_placeOf_61 : decode cX9_placeOf 61 = .ok (.goto (-40), 3) := by decide +kernel
theorem dX9_placeOf_64 : decode cX9_placeOf 64 = .ok (.iload_n 2, 1) := by decide +kernel
theorem dX9_placeOf_65 : decode cX9_placeOf 65 = .ok (.ireturn, 1) := by decide +kernel
theorem dX9_childCount_0 : decode cX9_childCount 0 = .ok (.iload_n 1, 1) := by decide +kernel
theorem dX9_childCount_1 : decode cX9_childCount 1 = .ok (.ifCond .lt 11, 3) := by decide +kernel
theorem dX9_childCount_4 : decode cX9_childCount 4 = .ok (.iload_n 1, 1) := by decide +kernel
theorem dX9_childCount_5 : decode cX9_childCount 5 = .ok (.aload_n 0, 1) := by decide +kernel
theorem dX9_childCount_6 : decode cX9_childCount 6 = .ok (.getfield 24, 3) := by decide +kernel
theorem dX9_childCount_9 : decode cX9_childCount 9 = .ok (.if_icmp .lt 5, 3) := by decide +kernel
theorem dX9_childCount_12 : decode cX9_childCount 12 = .ok (.iconst 0, 1) := by decide +kernel
theorem dX9_childCount_13 : decode cX9_childCount 13 = .ok (.ireturn, 1) := by decide +kernel
theorem dX9_childCount_14 : decode cX9_childCount 14 = .ok (.iconst 0, 1) := by decide +kernel
theorem dX9_childCount_15 : decode cX9_childCount 15 = .ok (.istore_n 2, 1) := by decide +kernel
theorem dX9_childCount_16 : decode cX9_childCount 16 = .ok (.iload_n 1, 1) := by decide +kernel
theorem dX9_childCount_17 : decode cX9_childCount 17 = .ok (.iconst 1, 1) := by decide +kernel
theorem dX9_childCount_18 : decode cX9_childCount 18 = .ok (.iadd, 1) := by decide +kernel
theorem dX9_childCount_19 : decode cX9_childCount 19 = .ok (.istore_n 3, 1) := by decide +kernel
theorem dX9_childCount_20 : decode cX9_childCount 20 = .ok (.iload_n 3, 1) := by decide +kernel
theorem dX9_childCount_21 : decode cX9_childCount 21 = .ok (.aload_n 0, 1) := by decide +kernel
theorem dX9_childCount_22 : decode cX9_childCount 22 = .ok (.getfield 24, 3) := by decide +kernel
theorem dX9_childCount_25 : decode cX9_childCount 25 = .ok (.if_icmp .ge 44, 3) := by decide +kernel
theorem dX9_childCount_28 : decode cX9_childCount 28 = .ok (.aload_n 0, 1) := by decide +kernel
theorem dX9_childCount_29 : decode cX9_childCount 29 = .ok (.getfield 21, 3) := by decide +kernel
theorem dX9_childCount_32 : decode cX9_childCount 32 = .ok (.iload_n 3, 1) := by decide +kernel
theorem dX9_childCount_33 : decode cX9_childCount 33 = .ok (.iaload, 1) := by decide +kernel
theorem dX9_childCount_34 : decode cX9_childCount 34 = .ok (.aload_n 0, 1) := by decide +kernel
theorem dX9_childCount_35 : decode cX9_childCount 35 = .ok (.getfield 21, 3) := by decide +kernel
theorem dX9_childCount_38 : decode cX9_childCount 38 = .ok (.iload_n 1, 1) := by decide +kernel
theorem dX9_childCount_39 : decode cX9_childCount 39 = .ok (.iaload, 1) := by decide +kernel
theorem dX9_childCount_40 : decode cX9_childCount 40 = .ok (.if_icmp .le 29, 3) := by decide +kernel
theorem dX9_childCount_43 : decode cX9_childCount 43 = .ok (.aload_n 0, 1) := by decide +kernel
theorem dX9_childCount_44 : decode cX9_childCount 44 = .ok (.getfield 21, 3) := by decide +kernel
theorem dX9_childCount_47 : decode cX9_childCount 47 = .ok (.iload_n 3, 1) := by decide +kernel
theorem dX9_childCount_48 : decode cX9_childCount 48 = .ok (.iaload, 1) := by decide +kernel
theorem dX9_childCount_49 : decode cX9_childCount 49 = .ok (.aload_n 0, 1) := by decide +kernel
theorem dX9_childCount_50 : decode cX9_childCount 50 = .ok (.getfield 21, 3) := by decide +kernel
theorem dX9_childCount_53 : decode cX9_childCount 53 = .ok (.iload_n 1, 1) := by decide +kernel
theorem dX9_childCount_54 : decode cX9_childCount 54 = .ok (.iaload, 1) := by decide +kernel
theorem dX9_childCount_55 : decode cX9_childCount 55 = .ok (.iconst 1, 1) := by decide +kernel
theorem dX9_childCount_56 : decode cX9_childCount 56 = .ok (.iadd, 1) := by decide +kernel
theorem dX9_childCount_57 : decode cX9_childCount 57 = .ok (.if_icmp .ne 6, 3) := by decide +kernel
theorem dX9_childCount_60 : decode cX9_childCount 60 = .ok (.iinc 2 1, 3) := by decide +kernel
theorem dX9_childCount_63 : decode cX9_childCount 63 = .ok (.iinc 3 1, 3) := by decide +kernel
theorem dX9_childCount_66 : decode cX9_childCount 66 = .ok (.goto (-46), 3) := by decide +kernel
theorem dX9_childCount_69 : decode cX9_childCount 69 = .ok (.iload_n 2, 1) := by decide +kernel
theorem dX9_childCount_70 : decode cX9_childCount 70 = .ok (.ireturn, 1) := by decide +kernel
theorem dX9_childAt_0 : decode cX9_childAt 0 = .ok (.iload_n 1, 1) := by decide +kernel
theorem dX9_childAt_1 : decode cX9_childAt 1 = .ok (.ifCond .lt 11, 3) := by decide +kernel
theorem dX9_childAt_4 : decode cX9_childAt 4 = .ok (.iload_n 1, 1) := by decide +kernel
theorem dX9_childAt_5 : decode cX9_childAt 5 = .ok (.aload_n 0, 1) := by decide +kernel
theorem dX9_childAt_6 : decode cX9_childAt 6 = .ok (.getfield 24, 3) := by decide +kernel
theorem dX9_childAt_9 : decode cX9_childAt 9 = .ok (.if_icmp .lt 5, 3) := by decide +kernel
theorem dX9_childAt_12 : decode cX9_childAt 12 = .ok (.iconst (-1), 1) := by decide +kernel
theorem dX9_childAt_13 : decode cX9_childAt 13 = .ok (.ireturn, 1) := by decide +kernel
theorem dX9_childAt_14 : decode cX9_childAt 14 = .ok (.iconst 0, 1) := by decide +kernel
theorem dX9_childAt_15 : decode cX9_childAt 15 = .ok (.istore_n 3, 1) := by decide +kernel
theorem dX9_childAt_16 : decode cX9_childAt 16 = .ok (.iload_n 1, 1) := by decide +kernel
theorem dX9_childAt_17 : decode cX9_childAt 17 = .ok (.iconst 1, 1) := by decide +kernel
theorem dX9_childAt_18 : decode cX9_childAt 18 = .ok (.iadd, 1) := by decide +kernel
theorem dX9_childAt_19 : decode cX9_childAt 19 = .ok (.istore 4, 2) := by decide +kernel
theorem dX9_childAt_21 : decode cX9_childAt 21 = .ok (.iload 4, 2) := by decide +kernel
theorem dX9_childAt_23 : decode cX9_childAt 23 = .ok (.aload_n 0, 1) := by decide +kernel
theorem dX9_childAt_24 : decode cX9_childAt 24 = .ok (.getfield 24, 3) := by decide +kernel
theorem dX9_childAt_27 : decode cX9_childAt 27 = .ok (.if_icmp .ge 54, 3) := by decide +kernel
theorem dX9_childAt_30 : decode cX9_childAt 30 = .ok (.aload_n 0, 1) := by decide +kernel
theorem dX9_childAt_31 : decode cX9_childAt 31 = .ok (.getfield 21, 3) := by decide +kernel
theorem dX9_childAt_34 : decode cX9_childAt 34 = .ok (.iload 4, 2) := by decide +kernel
theorem dX9_childAt_36 : decode cX9_childAt 36 = .ok (.iaload, 1) := by decide +kernel
theorem dX9_childAt_37 : decode cX9_childAt 37 = .ok (.aload_n 0, 1) := by decide +kernel
theorem dX9_childAt_38 : decode cX9_childAt 38 = .ok (.getfield 21, 3) := by decide +kernel
theorem dX9_childAt_41 : decode cX9_childAt 41 = .ok (.iload_n 1, 1) := by decide +kernel
theorem dX9_childAt_42 : decode cX9_childAt 42 = .ok (.iaload, 1) := by decide +kernel
theorem dX9_childAt_43 : decode cX9_childAt 43 = .ok (.if_icmp .le 38, 3) := by decide +kernel
theorem dX9_childAt_46 : decode cX9_childAt 46 = .ok (.aload_n 0, 1) := by decide +kernel
theorem dX9_childAt_47 : decode cX9_childAt 47 = .ok (.getfield 21, 3) := by decide +kernel
theorem dX9_childAt_50 : decode cX9_childAt 50 = .ok (.iload 4, 2) := by decide +kernel
theorem dX9_childAt_52 : decode cX9_childAt 52 = .ok (.iaload, 1) := by decide +kernel
theorem dX9_childAt_53 : decode cX9_childAt 53 = .ok (.aload_n 0, 1) := by decide +kernel
theorem dX9_childAt_54 : decode cX9_childAt 54 = .ok (.getfield 21, 3) := by decide +kernel
theorem dX9_childAt_57 : decode cX9_childAt 57 = .ok (.iload_n 1, 1) := by decide +kernel
theorem dX9_childAt_58 : decode cX9_childAt 58 = .ok (.iaload, 1) := by decide +kernel
theorem dX9_childAt_59 : decode cX9_childAt 59 = .ok (.iconst 1, 1) := by decide +kernel
theorem dX9_childAt_60 : decode cX9_childAt 60 = .ok (.iadd, 1) := by decide +kernel
theorem dX9_childAt_61 : decode cX9_childAt 61 = .ok (.if_icmp .ne 14, 3) := by decide +kernel
theorem dX9_childAt_64 : decode cX9_childAt 64 = .ok (.iload_n 3, 1) := by decide +kernel
theorem dX9_childAt_65 : decode cX9_childAt 65 = .ok (.iload_n 2, 1) := by decide +kernel
theorem dX9_childAt_66 : decode cX9_childAt 66 = .ok (.if_icmp .ne 6, 3) := by decide +kernel
theorem dX9_childAt_69 : decode cX9_childAt 69 = .ok (.iload 4, 2) := by decide +kernel
theorem dX9_childAt_71 : decode cX9_childAt 71 = .ok (.ireturn, 1) := by decide +kernel
theorem dX9_childAt_72 : decode cX9_childAt 72 = .ok (.iinc 3 1, 3) := by decide +kernel
theorem dX9_childAt_75 : decode cX9_childAt 75 = .ok (.iinc 4 1, 3) := by decide +kernel
theorem dX9_childAt_78 : decode cX9_childAt 78 = .ok (.goto (-57), 3) := by decide +kernel
theorem dX9_childAt_81 : decode cX9_childAt 81 = .ok (.iconst (-1), 1) := by decide +kernel
theorem dX9_childAt_82 : decode cX9_childAt 82 = .ok (.ireturn, 1) := by decide +kernel
theorem dX9_childBy_0 : decode cX9_childBy 0 = .ok (.iload_n 1, 1) := by decide +kernel
theorem dX9_childBy_1 : decode cX9_childBy 1 = .ok (.ifCond .lt 21, 3) := by decide +kernel
theorem dX9_childBy_4 : decode cX9_childBy 4 = .ok (.iload_n 1, 1) := by decide +kernel
theorem dX9_childBy_5 : decode cX9_childBy 5 = .ok (.aload_n 0, 1) := by decide +kernel
theorem dX9_childBy_6 : decode cX9_childBy 6 = .ok (.getfield 24, 3) := by decide +kernel
theorem dX9_childBy_9 : decode cX9_childBy 9 = .ok (.if_icmp .ge 13, 3) := by decide +kernel
theorem dX9_childBy_12 : decode cX9_childBy 12 = .ok (.aload_n 0, 1) := by decide +kernel
theorem dX9_childBy_13 : decode cX9_childBy 13 = .ok (.getfield 9, 3) := by decide +kernel
theorem dX9_childBy_16 : decode cX9_childBy 16 = .ok (.iload_n 1, 1) := by decide +kernel
theorem dX9_childBy_17 : decode cX9_childBy 17 = .ok (.iaload, 1) := by decide +kernel
theorem dX9_childBy_18 : decode cX9_childBy 18 = .ok (.iconst 3, 1) := by decide +kernel
theorem dX9_childBy_19 : decode cX9_childBy 19 = .ok (.if_icmp .eq 5, 3) := by decide +kernel
theorem dX9_childBy_22 : decode cX9_childBy 22 = .ok (.iconst (-1), 1) := by decide +kernel
theorem dX9_childBy_23 : decode cX9_childBy 23 = .ok (.ireturn, 1) := by decide +kernel
theorem dX9_childBy_24 : decode cX9_childBy 24 = .ok (.iload_n 1, 1) := by decide +kernel
theorem dX9_childBy_25 : decode cX9_childBy 25 = .ok (.iconst 1, 1) := by decide +kernel
theorem dX9_childBy_26 : decode cX9_childBy 26 = .ok (.iadd, 1) := by decide +kernel
theorem dX9_childBy_27 : decode cX9_childBy 27 = .ok (.istore_n 3, 1) := by decide +kernel
theorem dX9_childBy_28 : decode cX9_childBy 28 = .ok (.iload_n 3, 1) := by decide +kernel
theorem dX9_childBy_29 : decode cX9_childBy 29 = .ok (.aload_n 0, 1) := by decide +kernel
theorem dX9_childBy_30 : decode cX9_childBy 30 = .ok (.getfield 24, 3) := by decide +kernel
theorem dX9_childBy_33 : decode cX9_childBy 33 = .ok (.if_icmp .ge 53, 3) := by decide +kernel
theorem dX9_childBy_36 : decode cX9_childBy 36 = .ok (.aload_n 0, 1) := by decide +kernel
theorem dX9_childBy_37 : decode cX9_childBy 37 = .ok (.getfield 21, 3) := by decide +kernel
theorem dX9_childBy_40 : decode cX9_childBy 40 = .ok (.iload_n 3, 1) := by decide +kernel
theorem dX9_childBy_41 : decode cX9_childBy 41 = .ok (.iaload, 1) := by decide +kernel
theorem dX9_childBy_42 : decode cX9_childBy 42 = .ok (.aload_n 0, 1) := by decide +kernel
theorem dX9_childBy_43 : decode cX9_childBy 43 = .ok (.getfield 21, 3) := by decide +kernel
theorem dX9_childBy_46 : decode cX9_childBy 46 = .ok (.iload_n 1, 1) := by decide +kernel
theorem dX9_childBy_47 : decode cX9_childBy 47 = .ok (.iaload, 1) := by decide +kernel
theorem dX9_childBy_48 : decode cX9_childBy 48 = .ok (.if_icmp .le 38, 3) := by decide +kernel
theorem dX9_childBy_51 : decode cX9_childBy 51 = .ok (.aload_n 0, 1) := by decide +kernel
theorem dX9_childBy_52 : decode cX9_childBy 52 = .ok (.getfield 21, 3) := by decide +kernel
theorem dX9_childBy_55 : decode cX9_childBy 55 = .ok (.iload_n 3, 1) := by decide +kernel
theorem dX9_childBy_56 : decode cX9_childBy 56 = .ok (.iaload, 1) := by decide +kernel
theorem dX9_childBy_57 : decode cX9_childBy 57 = .ok (.aload_n 0, 1) := by decide +kernel
theorem dX9_childBy_58 : decode cX9_childBy 58 = .ok (.getfield 21, 3) := by decide +kernel
theorem dX9_childBy_61 : decode cX9_childBy 61 = .ok (.iload_n 1, 1) := by decide +kernel
theorem dX9_childBy_62 : decode cX9_childBy 62 = .ok (.iaload, 1) := by decide +kernel
theorem dX9_childBy_63 : decode cX9_childBy 63 = .ok (.iconst 1, 1) := by decide +kernel
theorem dX9_childBy_64 : decode cX9_childBy 64 = .ok (.iadd, 1) := by decide +kernel
theorem dX9_childBy_65 : decode cX9_childBy 65 = .ok (.if_icmp .ne 15, 3) := by decide +kernel
theorem dX9_childBy_68 : decode cX9_childBy 68 = .ok (.aload_n 0, 1) := by decide +kernel
theorem dX9_childBy_69 : decode cX9_childBy 69 = .ok (.getfield 18, 3) := by decide +kernel
theorem dX9_childBy_72 : decode cX9_childBy 72 = .ok (.iload_n 3, 1) := by decide +kernel
theorem dX9_childBy_73 : decode cX9_childBy 73 = .ok (.iaload, 1) := by decide +kernel
theorem dX9_childBy_74 : decode cX9_childBy 74 = .ok (.iload_n 2, 1) := by decide +kernel
theorem dX9_childBy_75 : decode cX9_childBy 75 = .ok (.if_icmp .ne 5, 3) := by decide +kernel
theorem dX9_childBy_78 : decode cX9_childBy 78 = .ok (.iload_n 3, 1) := by decide +kernel
theorem dX9_childBy_79 : decode cX9_childBy 79 = .ok (.ireturn, 1) := by decide +kernel
theorem dX9_childBy_80 : decode cX9_childBy 80 = .ok (.iinc 3 1, 3) := by decide +kernel
theorem dX9_childBy_83 : decode cX9_childBy 83 = .ok (.goto (-55), 3) := by decide +kernel
theorem dX9_childBy_86 : decode cX9_childBy 86 = .ok (.iconst (-1), 1) := by decide +kernel
theorem dX9_childBy_87 : decode cX9_childBy 87 = .ok (.ireturn, 1) := by decide +kernel
theorem dX9_listed_0 : decode cX9_listed 0 = .ok (.iload_n 1, 1) := by decide +kernel
theorem dX9_listed_1 : decode cX9_listed 1 = .ok (.ifCond .lt 21, 3) := by decide +kernel
theorem dX9_listed_4 : decode cX9_listed 4 = .ok (.iload_n 1, 1) := by decide +kernel
theorem dX9_listed_5 : decode cX9_listed 5 = .ok (.aload_n 0, 1) := by decide +kernel
theorem dX9_listed_6 : decode cX9_listed 6 = .ok (.getfield 24, 3) := by decide +kernel
theorem dX9_listed_9 : decode cX9_listed 9 = .ok (.if_icmp .ge 13, 3) := by decide +kernel
theorem dX9_listed_12 : decode cX9_listed 12 = .ok (.aload_n 0, 1) := by decide +kernel
theorem dX9_listed_13 : decode cX9_listed 13 = .ok (.getfield 9, 3) := by decide +kernel
theorem dX9_listed_16 : decode cX9_listed 16 = .ok (.iload_n 1, 1) := by decide +kernel
theorem dX9_listed_17 : decode cX9_listed 17 = .ok (.iaload, 1) := by decide +kernel
theorem dX9_listed_18 : decode cX9_listed 18 = .ok (.iconst 2, 1) := by decide +kernel
theorem dX9_listed_19 : decode cX9_listed 19 = .ok (.if_icmp .eq 5, 3) := by decide +kernel
theorem dX9_listed_22 : decode cX9_listed 22 = .ok (.iconst (-1), 1) := by decide +kernel
theorem dX9_listed_23 : decode cX9_listed 23 = .ok (.ireturn, 1) := by decide +kernel
theorem dX9_listed_24 : decode cX9_listed 24 = .ok (.iconst 0, 1) := by decide +kernel
theorem dX9_listed_25 : decode cX9_listed 25 = .ok (.istore_n 3, 1) := by decide +kernel
theorem dX9_listed_26 : decode cX9_listed 26 = .ok (.iload_n 1, 1) := by decide +kernel
theorem dX9_listed_27 : decode cX9_listed 27 = .ok (.iconst 1, 1) := by decide +kernel
theorem dX9_listed_28 : decode cX9_listed 28 = .ok (.iadd, 1) := by decide +kernel
theorem dX9_listed_29 : decode cX9_listed 29 = .ok (.istore 4, 2) := by decide +kernel
theorem dX9_listed_31 : decode cX9_listed 31 = .ok (.iload_n 2, 1) := by decide +kernel
theorem dX9_listed_32 : decode cX9_listed 32 = .ok (.ifCond .ge 55, 3) := by decide +kernel
theorem dX9_listed_35 : decode cX9_listed 35 = .ok (.iload 4, 2) := by decide +kernel
theorem dX9_listed_37 : decode cX9_listed 37 = .ok (.aload_n 0, 1) := by decide +kernel
theorem dX9_listed_38 : decode cX9_listed 38 = .ok (.getfield 24, 3) := by decide +kernel
theorem dX9_listed_41 : decode cX9_listed 41 = .ok (.if_icmp .ge 46, 3) := by decide +kernel
theorem dX9_listed_44 : decode cX9_listed 44 = .ok (.aload_n 0, 1) := by decide +kernel
theorem dX9_listed_45 : decode cX9_listed 45 = .ok (.getfield 21, 3) := by decide +kernel
theorem dX9_listed_48 : decode cX9_listed 48 = .ok (.iload 4, 2) := by decide +kernel
theorem dX9_listed_50 : decode cX9_listed 50 = .ok (.iaload, 1) := by decide +kernel
theorem dX9_listed_51 : decode cX9_listed 51 = .ok (.aload_n 0, 1) := by decide +kernel
theorem dX9_listed_52 : decode cX9_listed 52 = .ok (.getfield 21, 3) := by decide +kernel
theorem dX9_listed_55 : decode cX9_listed 55 = .ok (.iload_n 1, 1) := by decide +kernel
theorem dX9_listed_56 : decode cX9_listed 56 = .ok (.iaload, 1) := by decide +kernel
theorem dX9_listed_57 : decode cX9_listed 57 = .ok (.if_icmp .le 30, 3) := by decide +kernel
theorem dX9_listed_60 : decode cX9_listed 60 = .ok (.aload_n 0, 1) := by decide +kernel
theorem dX9_listed_61 : decode cX9_listed 61 = .ok (.getfield 21, 3) := by decide +kernel
theorem dX9_listed_64 : decode cX9_listed 64 = .ok (.iload 4, 2) := by decide +kernel
theorem dX9_listed_66 : decode cX9_listed 66 = .ok (.iaload, 1) := by decide +kernel
theorem dX9_listed_67 : decode cX9_listed 67 = .ok (.aload_n 0, 1) := by decide +kernel
theorem dX9_listed_68 : decode cX9_listed 68 = .ok (.getfield 21, 3) := by decide +kernel
theorem dX9_listed_71 : decode cX9_listed 71 = .ok (.iload_n 1, 1) := by decide +kernel
theorem dX9_listed_72 : decode cX9_listed 72 = .ok (.iaload, 1) := by decide +kernel
theorem dX9_listed_73 : decode cX9_listed 73 = .ok (.iconst 1, 1) := by decide +kernel
theorem dX9_listed_74 : decode cX9_listed 74 = .ok (.iadd, 1) := by decide +kernel
theorem dX9_listed_75 : decode cX9_listed 75 = .ok (.if_icmp .ne 6, 3) := by decide +kernel
theorem dX9_listed_78 : decode cX9_listed 78 = .ok (.iinc 3 1, 3) := by decide +kernel
theorem dX9_listed_81 : decode cX9_listed 81 = .ok (.iinc 4 1, 3) := by decide +kernel
theorem dX9_listed_84 : decode cX9_listed 84 = .ok (.goto (-53), 3) := by decide +kernel
theorem dX9_listed_87 : decode cX9_listed 87 = .ok (.iconst 0, 1) := by decide +kernel
theorem dX9_listed_88 : decode cX9_listed 88 = .ok (.istore 4, 2) := by decide +kernel
theorem dX9_listed_90 : decode cX9_listed 90 = .ok (.iload_n 1, 1) := by decide +kernel
theorem dX9_listed_91 : decode cX9_listed 91 = .ok (.iconst 1, 1) := by decide +kernel
theorem dX9_listed_92 : decode cX9_listed 92 = .ok (.iadd, 1) := by decide +kernel
theorem dX9_listed_93 : decode cX9_listed 93 = .ok (.istore 5, 2) := by decide +kernel
theorem dX9_listed_95 : decode cX9_listed 95 = .ok (.iload 5, 2) := by decide +kernel
theorem dX9_listed_97 : decode cX9_listed 97 = .ok (.aload_n 0, 1) := by decide +kernel
theorem dX9_listed_98 : decode cX9_listed 98 = .ok (.getfield 24, 3) := by decide +kernel
theorem dX9_listed_101 : decode cX9_listed 101 = .ok (.if_icmp .ge 57, 3) := by decide +kernel
theorem dX9_listed_104 : decode cX9_listed 104 = .ok (.aload_n 0, 1) := by decide +kernel
theorem dX9_listed_105 : decode cX9_listed 105 = .ok (.getfield 21, 3) := by decide +kernel
theorem dX9_listed_108 : decode cX9_listed 108 = .ok (.iload 5, 2) := by decide +kernel
theorem dX9_listed_110 : decode cX9_listed 110 = .ok (.iaload, 1) := by decide +kernel
theorem dX9_listed_111 : decode cX9_listed 111 = .ok (.aload_n 0, 1) := by decide +kernel
theorem dX9_listed_112 : decode cX9_listed 112 = .ok (.getfield 21, 3) := by decide +kernel
theorem dX9_listed_115 : decode cX9_listed 115 = .ok (.iload_n 1, 1) := by decide +kernel
theorem dX9_listed_116 : decode cX9_listed 116 = .ok (.iaload, 1) := by decide +kernel
theorem dX9_listed_117 : decode cX9_listed 117 = .ok (.if_icmp .le 41, 3) := by decide +kernel
theorem dX9_listed_120 : decode cX9_listed 120 = .ok (.aload_n 0, 1) := by decide +kernel
theorem dX9_listed_121 : decode cX9_listed 121 = .ok (.getfield 21, 3) := by decide +kernel
theorem dX9_listed_124 : decode cX9_listed 124 = .ok (.iload 5, 2) := by decide +kernel
theorem dX9_listed_126 : decode cX9_listed 126 = .ok (.iaload, 1) := by decide +kernel
theorem dX9_listed_127 : decode cX9_listed 127 = .ok (.aload_n 0, 1) := by decide +kernel
theorem dX9_listed_128 : decode cX9_listed 128 = .ok (.getfield 21, 3) := by decide +kernel
theorem dX9_listed_131 : decode cX9_listed 131 = .ok (.iload_n 1, 1) := by decide +kernel
theorem dX9_listed_132 : decode cX9_listed 132 = .ok (.iaload, 1) := by decide +kernel
theorem dX9_listed_133 : decode cX9_listed 133 = .ok (.iconst 1, 1) := by decide +kernel
theorem dX9_listed_134 : decode cX9_listed 134 = .ok (.iadd, 1) := by decide +kernel
theorem dX9_listed_135 : decode cX9_listed 135 = .ok (.if_icmp .ne 17, 3) := by decide +kernel
theorem dX9_listed_138 : decode cX9_listed 138 = .ok (.iload 4, 2) := by decide +kernel
theorem dX9_listed_140 : decode cX9_listed 140 = .ok (.iload_n 2, 1) := by decide +kernel
theorem dX9_listed_141 : decode cX9_listed 141 = .ok (.iload_n 3, 1) := by decide +kernel
theorem dX9_listed_142 : decode cX9_listed 142 = .ok (.iadd, 1) := by decide +kernel
theorem dX9_listed_143 : decode cX9_listed 143 = .ok (.if_icmp .ne 6, 3) := by decide +kernel
theorem dX9_listed_146 : decode cX9_listed 146 = .ok (.iload 5, 2) := by decide +kernel
theorem dX9_listed_148 : decode cX9_listed 148 = .ok (.ireturn, 1) := by decide +kernel
theorem dX9_listed_149 : decode cX9_listed 149 = .ok (.iinc 4 1, 3) := by decide +kernel
theorem dX9_listed_152 : decode cX9_listed 152 = .ok (.iinc 5 1, 3) := by decide +kernel
theorem dX9_listed_155 : decode cX9_listed 155 = .ok (.goto (-60), 3) := by decide +kernel
theorem dX9_listed_158 : decode cX9_listed 158 = .ok (.iconst (-1), 1) := by decide +kernel
theorem dX9_listed_159 : decode cX9_listed 159 = .ok (.ireturn, 1) := by decide +kernel
theorem dX9_countKind_0 : decode cX9_countKind 0 = .ok (.iconst 0, 1) := by decide +kernel
theorem dX9_countKind_1 : decode cX9_countKind 1 = .ok (.istore_n 2, 1) := by decide +kernel
theorem dX9_countKind_2 : decode cX9_countKind 2 = .ok (.iconst 0, 1) := by decide +kernel
theorem dX9_countKind_3 : decode cX9_countKind 3 = .ok (.istore_n 3, 1) := by decide +kernel
theorem dX9_countKind_4 : decode cX9_countKind 4 = .ok (.iload_n 3, 1) := by decide +kernel
theorem dX9_countKind_5 : decode cX9_countKind 5 = .ok (.aload_n 0, 1) := by decide +kernel
theorem dX9_countKind_6 : decode cX9_countKind 6 = .ok (.getfield 24, 3) := by decide +kernel
theorem dX9_countKind_9 : decode cX9_countKind 9 = .ok (.if_icmp .ge 22, 3) := by decide +kernel
theorem dX9_countKind_12 : decode cX9_countKind 12 = .ok (.aload_n 0, 1) := by decide +kernel
theorem dX9_countKind_13 : decode cX9_countKind 13 = .ok (.getfield 9, 3) := by decide +kernel
theorem dX9_countKind_16 : decode cX9_countKind 16 = .ok (.iload_n 3, 1) := by decide +kernel
theorem dX9_countKind_17 : decode cX9_countKind 17 = .ok (.iaload, 1) := by decide +kernel
theorem dX9_countKind_18 : decode cX9_countKind 18 = .ok (.iload_n 1, 1) := by decide +kernel
theorem dX9_countKind_19 : decode cX9_countKind 19 = .ok (.if_icmp .ne 6, 3) := by decide +kernel
theorem dX9_countKind_22 : decode cX9_countKind 22 = .ok (.iinc 2 1, 3) := by decide +kernel
theorem dX9_countKind_25 : decode cX9_countKind 25 = .ok (.iinc 3 1, 3) := by decide +kernel
theorem dX9_countKind_28 : decode cX9_countKind 28 = .ok (.goto (-24), 3) := by decide +kernel
theorem dX9_countKind_31 : decode cX9_countKind 31 = .ok (.iload_n 2, 1) := by decide +kernel
theorem dX9_countKind_32 : decode cX9_countKind 32 = .ok (.ireturn, 1) := by decide +kernel
theorem dX9_sum_0 : decode cX9_sum 0 = .ok (.iconst 0, 1) := by decide +kernel
theorem dX9_sum_1 : decode cX9_sum 1 = .ok (.istore_n 1, 1) := by decide +kernel
theorem dX9_sum_2 : decode cX9_sum 2 = .ok (.iconst 0, 1) := by decide +kernel
theorem dX9_sum_3 : decode cX9_sum 3 = .ok (.istore_n 2, 1) := by decide +kernel
theorem dX9_sum_4 : decode cX9_sum 4 = .ok (.iload_n 2, 1) := by decide +kernel
theorem dX9_sum_5 : decode cX9_sum 5 = .ok (.aload_n 0, 1) := by decide +kernel
theorem dX9_sum_6 : decode cX9_sum 6 = .ok (.getfield 24, 3) := by decide +kernel
theorem dX9_sum_9 : decode cX9_sum 9 = .ok (.if_icmp .ge 27, 3) := by decide +kernel
theorem dX9_sum_12 : decode cX9_sum 12 = .ok (.aload_n 0, 1) := by decide +kernel
theorem dX9_sum_13 : decode cX9_sum 13 = .ok (.getfield 9, 3) := by decide +kernel
theorem dX9_sum_16 : decode cX9_sum 16 = .ok (.iload_n 2, 1) := by decide +kernel
theorem dX9_sum_17 : decode cX9_sum 17 = .ok (.iaload, 1) := by decide +kernel
theorem dX9_sum_18 : decode cX9_sum 18 = .ok (.ifCond .ne 12, 3) := by decide +kernel
theorem dX9_sum_21 : decode cX9_sum 21 = .ok (.iload_n 1, 1) := by decide +kernel
theorem dX9_sum_22 : decode cX9_sum 22 = .ok (.aload_n 0, 1) := by decide +kernel
theorem dX9_sum_23 : decode cX9_sum 23 = .ok (.getfield 15, 3) := by decide +kernel
theorem dX9_sum_26 : decode cX9_sum 26 = .ok (.iload_n 2, 1) := by decide +kernel
theorem dX9_sum_27 : decode cX9_sum 27 = .ok (.iaload, 1) := by decide +kernel
theorem dX9_sum_28 : decode cX9_sum 28 = .ok (.iadd, 1) := by decide +kernel
theorem dX9_sum_29 : decode cX9_sum 29 = .ok (.istore_n 1, 1) := by decide +kernel
theorem dX9_sum_30 : decode cX9_sum 30 = .ok (.iinc 2 1, 3) := by decide +kernel
theorem dX9_sum_33 : decode cX9_sum 33 = .ok (.goto (-29), 3) := by decide +kernel
theorem dX9_sum_36 : decode cX9_sum 36 = .ok (.iload_n 1, 1) := by decide +kernel
theorem dX9_sum_37 : decode cX9_sum 37 = .ok (.ireturn, 1) := by decide +kernel
set_option maxRecDepth 20000 in
theorem ggX9_sizeOf_X9_end : GoodIn wsX9_sizeOf wsX9_end := goodIn_r _ [6, 1, 7, 8, 9, 10, 11, 12] (by decide +kernel) (by decide +kernel)
set_option maxRecDepth 20000 in
theorem gX9_sizeOf_X9_end : GoodIn wsX9_sizeOf (wsV RX9 28 RX9 yX9_end wsX9_end) := goodIn_app (goodIn_of _ (by decide +kernel)) ggX9_sizeOf_X9_end
set_option maxHeartbeats 1000000 in
set_option maxRecDepth 100000 in
theorem t_has (l : Launch) (G : va_G) (y : Nat → ClassId) (b0 : Nat) (σ : th_M) (a : Nat) (t : TV) (i : Int) (hT : isT y σ a t) (ri : rng i) : Met l yX9_has wsX9_has ({ frames := 0, cells := 0, slots := 0, locals := 0 }) (th_P G y b0 σ [.ref a, .int (I i)]) (th_Qi G b0 (fun r σ1 => σ1 = σ ∧ ((r = 1 ∧ 0 ≤ i ∧ i < t.z) ∨ (r = 0 ∧ ¬ (0 ≤ i ∧ i < t.z))))) 0 0 (th_A b0) := by
  refine Met.ofW (cc := cX9_has) (maxL := 2) (ret := (some .boolean)) (by decide) rfl ?_
  intro p e s m args below meth c s₁ B hml hv
  obtain ⟨rfl, hH, hK⟩ := hv
  have hx := B.exec
  have hb := B.bytes
  have hr := B.returns
  have hts := atoms_spec (ws := wsX9_has) B.pre
  have hown : s.vm.findClass RX9 = some m.cls := findClass_of_methodNamed B.named
  have hlocks := B.notSynchronized
  have h00 : b0 ≤ s.heap.size := hH.1
  have hS : va_S (th_A b0) s.heap s.heap [] := va_S.rf
  have hTq := hT; obtain ⟨cT, cK, cV, cY, cD, z0, zn, nn⟩ := hTq
  have inX9 : ∀ w ∈ wsX90, w ∈ wsX9_has := by decide +kernel
  have fl0 := hts (.fieldLink RX9 24 "NestQuery$Tree" "size" "I") (by decide +kernel)
  have fl1 := hts (.fieldLink RX9 9 "NestQuery$Tree" "kinds" "[I") (by decide +kernel)
  have hl := lv_entry ([.ref a, .int (I i)]) (n := 2) (Nat.le_of_ble_eq_true rfl)
  rw [lg_entry_eq]
  generalize (lg_sl ([.ref a, .int (I i)]) ++ List.replicate (2 - (lg_sl ([.ref a, .int (I i)])).length) Slot.unset).toArray = ls at hl ⊢
  have hl : lv_has ls 2 [(0, .ref a), (1, .int (I i))] := hl
  refine lv_iload_n hx hb dX9_has_0 rfl (lv_at hl 1 rfl) ?_
  refine lv_if_lt (tgt := 25) hx hb dX9_has_1 (by decide) (fun c_1 => ?_) (fun c_1 => ?_)
  · replace c_1 := (I_lt (a := i) (b := 0) ri (show rng 0 from ⟨by decide, by decide⟩)).mp c_1
    refine lv_iconst (v := I 0) hx hb dX9_has_25 (by decide) ?_
    exact th_zret hx hb hr hlocks hH hS (z := 0) (by omega) (by exact ⟨rfl, by omega⟩) dX9_has_26
  · replace c_1 := mt (I_lt (a := i) (b := 0) ri (show rng 0 from ⟨by decide, by decide⟩)).mpr c_1
    refine lv_iload_n hx hb dX9_has_4 rfl (lv_at hl 1 rfl) ?_
    refine lv_aload_n hx hb dX9_has_5 rfl (lv_at hl 0 rfl) ?_
    refine th_get (ci := 9) (C := RX9) (T := TX9) (N := 5) (v := .int (I t.z)) hx hb hts inX9 hown hK hH cT rfl 4 (by decide) fl0 rfl dX9_has_6 ?_
    refine lv_icmp_ge (tgt := 25) hx hb dX9_has_9 (by decide) (fun c_2 => ?_) (fun c_2 => ?_)
    · replace c_2 := (I_le (a := t.z) (b := i) ⟨by omega, by omega⟩ ri).mp c_2
      refine lv_iconst (v := I 0) hx hb dX9_has_25 (by decide) ?_
      exact th_zret hx hb hr hlocks hH hS (z := 0) (by omega) (by exact ⟨rfl, by omega⟩) dX9_has_26
    · replace c_2 := mt (I_le (a := t.z) (b := i) ⟨by omega, by omega⟩ ri).mpr c_2
      refine lv_iload_n hx hb dX9_has_12 rfl (lv_at hl 1 rfl) ?_
      refine lv_aload_n hx hb dX9_has_13 rfl (lv_at hl 0 rfl) ?_
      refine th_get (ci := 9) (C := RX9) (T := TX9) (N := 5) (v := .ref t.k) hx hb hts inX9 hown hK hH cT rfl 0 (by decide) fl1 rfl dX9_has_14 ?_
      refine th_alen hx hb hK hH cK (t0 := 0) rfl dX9_has_17 ?_
      refine lv_icmp_ge (tgt := 25) hx hb dX9_has_18 (by decide) (fun c_3 => ?_) (fun c_3 => ?_)
      · replace c_3 := (I_le (a := (t.n : Int)) (b := i) ⟨by omega, by omega⟩ ri).mp c_3
        refine lv_iconst (v := I 0) hx hb dX9_has_25 (by decide) ?_
        exact th_zret hx hb hr hlocks hH hS (z := 0) (by omega) (by exact ⟨rfl, by omega⟩) dX9_has_26
      · replace c_3 := mt (I_le (a := (t.n : Int)) (b := i) ⟨by omega, by omega⟩ ri).mpr c_3
        refine lv_iconst (v := I 1) hx hb dX9_has_21 (by decide) ?_
        refine lv_goto (tgt := 26) hx hb dX9_has_22 (by decide) ?_
        exact th_zret hx hb hr hlocks hH hS (z := 1) (by omega) (by exact ⟨rfl, by omega⟩) dX9_has_26

set_option maxHeartbeats 1000000 in
set_option maxRecDepth 100000 in
theorem t_kindAt (l : Launch) (G : va_G) (y : Nat → ClassId) (b0 : Nat) (σ : th_M) (a : Nat) (t : TV) (i : Int) (hT : isT y σ a t) (ri : rng i) : Met l yX9_kindAt wsX9_kindAt ({ frames := 0, cells := 0, slots := 0, locals := 0 }) (th_P G y b0 σ [.ref a, .int (I i)]) (th_Qi G b0 (fun r σ1 => σ1 = σ ∧ ((0 ≤ i ∧ i < t.z) ∨ r = -1))) 0 0 (th_A b0) := by
  refine Met.ofW (cc := cX9_kindAt) (maxL := 2) (ret := (some .int)) (by decide) rfl ?_
  intro p e s m args below meth c s₁ B hml hv
  obtain ⟨rfl, hH, hK⟩ := hv
  have hx := B.exec
  have hb := B.bytes
  have hr := B.returns
  have hts := atoms_spec (ws := wsX9_kindAt) B.pre
  have hown : s.vm.findClass RX9 = some m.cls := findClass_of_methodNamed B.named
  have hlocks := B.notSynchronized
  have h00 : b0 ≤ s.heap.size := hH.1
  have hS : va_S (th_A b0) s.heap s.heap [] := va_S.rf
  have hTq := hT; obtain ⟨cT, cK, cV, cY, cD, z0, zn, nn⟩ := hTq
  have inX9 : ∀ w ∈ wsX90, w ∈ wsX9_kindAt := by decide +kernel
  have fl0 := hts (.fieldLink RX9 24 "NestQuery$Tree" "size" "I") (by decide +kernel)
  have fl1 := hts (.fieldLink RX9 9 "NestQuery$Tree" "kinds" "[I") (by decide +kernel)
  have hl := lv_entry ([.ref a, .int (I i)]) (n := 2) (Nat.le_of_ble_eq_true rfl)
  rw [lg_entry_eq]
  generalize (lg_sl ([.ref a, .int (I i)]) ++ List.replicate (2 - (lg_sl ([.ref a, .int (I i)])).length) Slot.unset).toArray = ls at hl ⊢
  have hl : lv_has ls 2 [(0, .ref a), (1, .int (I i))] := hl
  refine lv_iload_n hx hb dX9_kindAt_0 rfl (lv_at hl 1 rfl) ?_
  refine lv_if_lt (tgt := 12) hx hb dX9_kindAt_1 (by decide) (fun c_1 => ?_) (fun c_1 => ?_)
  · replace c_1 := (I_lt (a := i) (b := 0) ri (show rng 0 from ⟨by decide, by decide⟩)).mp c_1
    refine lv_iconst (v := I (-1)) hx hb dX9_kindAt_12 (by decide) ?_
    refine lv_goto (tgt := 22) hx hb dX9_kindAt_13 (by decide) ?_
    exact th_iret hx hb hr hlocks hH hS (z := (-1)) (show rng (-1) from ⟨by decide, by decide⟩) (by exact ⟨rfl, by omega⟩) dX9_kindAt_22
  · replace c_1 := mt (I_lt (a := i) (b := 0) ri (show rng 0 from ⟨by decide, by decide⟩)).mpr c_1
    refine lv_iload_n hx hb dX9_kindAt_4 rfl (lv_at hl 1 rfl) ?_
    refine lv_aload_n hx hb dX9_kindAt_5 rfl (lv_at hl 0 rfl) ?_
    refine th_get (ci := 9) (C := RX9) (T := TX9) (N := 5) (v := .int (I t.z)) hx hb hts inX9 hown hK hH cT rfl 4 (by decide) fl0 rfl dX9_kindAt_6 ?_
    refine lv_icmp_lt (tgt := 16) hx hb dX9_kindAt_9 (by decide) (fun c_2 => ?_) (fun c_2 => ?_)
    · replace c_2 := (I_lt (a := i) (b := t.z) ri ⟨by omega, by omega⟩).mp c_2
      refine lv_aload_n hx hb dX9_kindAt_16 rfl (lv_at hl 0 rfl) ?_
      refine th_get (ci := 9) (C := RX9) (T := TX9) (N := 5) (v := .ref t.k) hx hb hts inX9 hown hK hH cT rfl 0 (by decide) fl1 rfl dX9_kindAt_17 ?_
      refine lv_iload_n hx hb dX9_kindAt_20 rfl (lv_at hl 1 rfl) ?_
      refine th_iald hx hb hK hH cK ri (by omega) (by omega) dX9_kindAt_21 ?_
      have rz_3 := rng_toInt (t.fk i.toNat)
      generalize ez_3 : (t.fk i.toNat).toInt = z_3 at rz_3 ⊢
      exact th_iret hx hb hr hlocks hH hS (z := z_3) rz_3 (by exact ⟨rfl, by omega⟩) dX9_kindAt_22
    · replace c_2 := mt (I_lt (a := i) (b := t.z) ri ⟨by omega, by omega⟩).mpr c_2
      refine lv_iconst (v := I (-1)) hx hb dX9_kindAt_12 (by decide) ?_
      refine lv_goto (tgt := 22) hx hb dX9_kindAt_13 (by decide) ?_
      exact th_iret hx hb hr hlocks hH hS (z := (-1)) (show rng (-1) from ⟨by decide, by decide⟩) (by exact ⟨rfl, by omega⟩) dX9_kindAt_22

set_option maxHeartbeats 1000000 in
set_option maxRecDepth 100000 in
theorem t_valueAt (l : Launch) (G : va_G) (y : Nat → ClassId) (b0 : Nat) (σ : th_M) (a : Nat) (t : TV) (i : Int) (hT : isT y σ a t) (ri : rng i) : Met l yX9_valueAt wsX9_valueAt ({ frames := 0, cells := 0, slots := 0, locals := 0 }) (th_P G y b0 σ [.ref a, .int (I i)]) (th_Qi G b0 (fun r σ1 => σ1 = σ ∧ (True))) 0 0 (th_A b0) := by
  refine Met.ofW (cc := cX9_valueAt) (maxL := 2) (ret := (some .int)) (by decide) rfl ?_
  intro p e s m args below meth c s₁ B hml hv
  obtain ⟨rfl, hH, hK⟩ := hv
  have hx := B.exec
  have hb := B.bytes
  have hr := B.returns
  have hts := atoms_spec (ws := wsX9_valueAt) B.pre
  have hown : s.vm.findClass RX9 = some m.cls := findClass_of_methodNamed B.named
  have hlocks := B.notSynchronized
  have h00 : b0 ≤ s.heap.size := hH.1
  have hS : va_S (th_A b0) s.heap s.heap [] := va_S.rf
  have hTq := hT; obtain ⟨cT, cK, cV, cY, cD, z0, zn, nn⟩ := hTq
  have inX9 : ∀ w ∈ wsX90, w ∈ wsX9_valueAt := by decide +kernel
  have fl0 := hts (.fieldLink RX9 24 "NestQuery$Tree" "size" "I") (by decide +kernel)
  have fl1 := hts (.fieldLink RX9 15 "NestQuery$Tree" "values" "[I") (by decide +kernel)
  have hl := lv_entry ([.ref a, .int (I i)]) (n := 2) (Nat.le_of_ble_eq_true rfl)
  rw [lg_entry_eq]
  generalize (lg_sl ([.ref a, .int (I i)]) ++ List.replicate (2 - (lg_sl ([.ref a, .int (I i)])).length) Slot.unset).toArray = ls at hl ⊢
  have hl : lv_has ls 2 [(0, .ref a), (1, .int (I i))] := hl
  refine lv_iload_n hx hb dX9_valueAt_0 rfl (lv_at hl 1 rfl) ?_
  refine lv_if_lt (tgt := 12) hx hb dX9_valueAt_1 (by decide) (fun c_1 => ?_) (fun c_1 => ?_)
  · replace c_1 := (I_lt (a := i) (b := 0) ri (show rng 0 from ⟨by decide, by decide⟩)).mp c_1
    refine lv_iconst (v := I 0) hx hb dX9_valueAt_12 (by decide) ?_
    refine lv_goto (tgt := 22) hx hb dX9_valueAt_13 (by decide) ?_
    exact th_iret hx hb hr hlocks hH hS (z := 0) (show rng 0 from ⟨by decide, by decide⟩) (by exact ⟨rfl, trivial⟩) dX9_valueAt_22
  · replace c_1 := mt (I_lt (a := i) (b := 0) ri (show rng 0 from ⟨by decide, by decide⟩)).mpr c_1
    refine lv_iload_n hx hb dX9_valueAt_4 rfl (lv_at hl 1 rfl) ?_
    refine lv_aload_n hx hb dX9_valueAt_5 rfl (lv_at hl 0 rfl) ?_
    refine th_get (ci := 9) (C := RX9) (T := TX9) (N := 5) (v := .int (I t.z)) hx hb hts inX9 hown hK hH cT rfl 4 (by decide) fl0 rfl dX9_valueAt_6 ?_
    refine lv_icmp_lt (tgt := 16) hx hb dX9_valueAt_9 (by decide) (fun c_2 => ?_) (fun c_2 => ?_)
    · replace c_2 := (I_lt (a := i) (b := t.z) ri ⟨by omega, by omega⟩).mp c_2
      refine lv_aload_n hx hb dX9_valueAt_16 rfl (lv_at hl 0 rfl) ?_
      refine th_get (ci := 9) (C := RX9) (T := TX9) (N := 5) (v := .ref t.v) hx hb hts inX9 hown hK hH cT rfl 1 (by decide) fl1 rfl dX9_valueAt_17 ?_
      refine lv_iload_n hx hb dX9_valueAt_20 rfl (lv_at hl 1 rfl) ?_
      refine th_iald hx hb hK hH cV ri (by omega) (by omega) dX9_valueAt_21 ?_
      have rz_3 := rng_toInt (t.fv i.toNat)
      generalize ez_3 : (t.fv i.toNat).toInt = z_3 at rz_3 ⊢
      exact th_iret hx hb hr hlocks hH hS (z := z_3) rz_3 (by exact ⟨rfl, trivial⟩) dX9_valueAt_22
    · replace c_2 := mt (I_lt (a := i) (b := t.z) ri ⟨by omega, by omega⟩).mpr c_2
      refine lv_iconst (v := I 0) hx hb dX9_valueAt_12 (by decide) ?_
      refine lv_goto (tgt := 22) hx hb dX9_valueAt_13 (by decide) ?_
      exact th_iret hx hb hr hlocks hH hS (z := 0) (show rng 0 from ⟨by decide, by decide⟩) (by exact ⟨rfl, trivial⟩) dX9_valueAt_22

set_option maxHeartbeats 1000000 in
set_option maxRecDepth 100000 in
theorem t_keyAt (l : Launch) (G : va_G) (y : Nat → ClassId) (b0 : Nat) (σ : th_M) (a : Nat) (t : TV) (i : Int) (hT : isT y σ a t) (ri : rng i) : Met l yX9_keyAt wsX9_keyAt ({ frames := 0, cells := 0, slots := 0, locals := 0 }) (th_P G y b0 σ [.ref a, .int (I i)]) (th_Qi G b0 (fun r σ1 => σ1 = σ ∧ (True))) 0 0 (th_A b0) := by
  refine Met.ofW (cc := cX9_keyAt) (maxL := 2) (ret := (some .int)) (by decide) rfl ?_
  intro p e s m args below meth c s₁ B hml hv
  obtain ⟨rfl, hH, hK⟩ := hv
  have hx := B.exec
  have hb := B.bytes
  have hr := B.returns
  have hts := atoms_spec (ws := wsX9_keyAt) B.pre
  have hown : s.vm.findClass RX9 = some m.cls := findClass_of_methodNamed B.named
  have hlocks := B.notSynchronized
  have h00 : b0 ≤ s.heap.size := hH.1
  have hS : va_S (th_A b0) s.heap s.heap [] := va_S.rf
  have hTq := hT; obtain ⟨cT, cK, cV, cY, cD, z0, zn, nn⟩ := hTq
  have inX9 : ∀ w ∈ wsX90, w ∈ wsX9_keyAt := by decide +kernel
  have fl0 := hts (.fieldLink RX9 24 "NestQuery$Tree" "size" "I") (by decide +kernel)
  have fl1 := hts (.fieldLink RX9 18 "NestQuery$Tree" "keys" "[I") (by decide +kernel)
  have hl := lv_entry ([.ref a, .int (I i)]) (n := 2) (Nat.le_of_ble_eq_true rfl)
  rw [lg_entry_eq]
  generalize (lg_sl ([.ref a, .int (I i)]) ++ List.replicate (2 - (lg_sl ([.ref a, .int (I i)])).length) Slot.unset).toArray = ls at hl ⊢
  have hl : lv_has ls 2 [(0, .ref a), (1, .int (I i))] := hl
  refine lv_iload_n hx hb dX9_keyAt_0 rfl (lv_at hl 1 rfl) ?_
  refine lv_if_lt (tgt := 12) hx hb dX9_keyAt_1 (by decide) (fun c_1 => ?_) (fun c_1 => ?_)
  · replace c_1 := (I_lt (a := i) (b := 0) ri (show rng 0 from ⟨by decide, by decide⟩)).mp c_1
    refine lv_iconst (v := I 0) hx hb dX9_keyAt_12 (by decide) ?_
    refine lv_goto (tgt := 22) hx hb dX9_keyAt_13 (by decide) ?_
    exact th_iret hx hb hr hlocks hH hS (z := 0) (show rng 0 from ⟨by decide, by decide⟩) (by exact ⟨rfl, trivial⟩) dX9_keyAt_22
  · replace c_1 := mt (I_lt (a := i) (b := 0) ri (show rng 0 from ⟨by decide, by decide⟩)).mpr c_1
    refine lv_iload_n hx hb dX9_keyAt_4 rfl (lv_at hl 1 rfl) ?_
    refine lv_aload_n hx hb dX9_keyAt_5 rfl (lv_at hl 0 rfl) ?_
    refine th_get (ci := 9) (C := RX9) (T := TX9) (N := 5) (v := .int (I t.z)) hx hb hts inX9 hown hK hH cT rfl 4 (by decide) fl0 rfl dX9_keyAt_6 ?_
    refine lv_icmp_lt (tgt := 16) hx hb dX9_keyAt_9 (by decide) (fun c_2 => ?_) (fun c_2 => ?_)
    · replace c_2 := (I_lt (a := i) (b := t.z) ri ⟨by omega, by omega⟩).mp c_2
      refine lv_aload_n hx hb dX9_keyAt_16 rfl (lv_at hl 0 rfl) ?_
      refine th_get (ci := 9) (C := RX9) (T := TX9) (N := 5) (v := .ref t.y) hx hb hts inX9 hown hK hH cT rfl 2 (by decide) fl1 rfl dX9_keyAt_17 ?_
      refine lv_iload_n hx hb dX9_keyAt_20 rfl (lv_at hl 1 rfl) ?_
      refine th_iald hx hb hK hH cY ri (by omega) (by omega) dX9_keyAt_21 ?_
      have rz_3 := rng_toInt (t.fy i.toNat)
      generalize ez_3 : (t.fy i.toNat).toInt = z_3 at rz_3 ⊢
      exact th_iret hx hb hr hlocks hH hS (z := z_3) rz_3 (by exact ⟨rfl, trivial⟩) dX9_keyAt_22
    · replace c_2 := mt (I_lt (a := i) (b := t.z) ri ⟨by omega, by omega⟩).mpr c_2
      refine lv_iconst (v := I 0) hx hb dX9_keyAt_12 (by decide) ?_
      refine lv_goto (tgt := 22) hx hb dX9_keyAt_13 (by decide) ?_
      exact th_iret hx hb hr hlocks hH hS (z := 0) (show rng 0 from ⟨by decide, by decide⟩) (by exact ⟨rfl, trivial⟩) dX9_keyAt_22

set_option maxHeartbeats 1000000 in
set_option maxRecDepth 100000 in
theorem t_depthAt (l : Launch) (G : va_G) (y : Nat → ClassId) (b0 : Nat) (σ : th_M) (a : Nat) (t : TV) (i : Int) (hT : isT y σ a t) (ri : rng i) : Met l yX9_depthAt wsX9_depthAt ({ frames := 0, cells := 0, slots := 0, locals := 0 }) (th_P G y b0 σ [.ref a, .int (I i)]) (th_Qi G b0 (fun r σ1 => σ1 = σ ∧ (((0 ≤ i ∧ i < t.z) ∧ r = (t.fd i.toNat).toInt) ∨ (r = -1 ∧ ¬ (0 ≤ i ∧ i < t.z))))) 0 0 (th_A b0) := by
  refine Met.ofW (cc := cX9_depthAt) (maxL := 2) (ret := (some .int)) (by decide) rfl ?_
  intro p e s m args below meth c s₁ B hml hv
  obtain ⟨rfl, hH, hK⟩ := hv
  have hx := B.exec
  have hb := B.bytes
  have hr := B.returns
  have hts := atoms_spec (ws := wsX9_depthAt) B.pre
  have hown : s.vm.findClass RX9 = some m.cls := findClass_of_methodNamed B.named
  have hlocks := B.notSynchronized
  have h00 : b0 ≤ s.heap.size := hH.1
  have hS : va_S (th_A b0) s.heap s.heap [] := va_S.rf
  have hTq := hT; obtain ⟨cT, cK, cV, cY, cD, z0, zn, nn⟩ := hTq
  have inX9 : ∀ w ∈ wsX90, w ∈ wsX9_depthAt := by decide +kernel
  have fl0 := hts (.fieldLink RX9 24 "NestQuery$Tree" "size" "I") (by decide +kernel)
  have fl1 := hts (.fieldLink RX9 21 "NestQuery$Tree" "depths" "[I") (by decide +kernel)
  have hl := lv_entry ([.ref a, .int (I i)]) (n := 2) (Nat.le_of_ble_eq_true rfl)
  rw [lg_entry_eq]
  generalize (lg_sl ([.ref a, .int (I i)]) ++ List.replicate (2 - (lg_sl ([.ref a, .int (I i)])).length) Slot.unset).toArray = ls at hl ⊢
  have hl : lv_has ls 2 [(0, .ref a), (1, .int (I i))] := hl
  refine lv_iload_n hx hb dX9_depthAt_0 rfl (lv_at hl 1 rfl) ?_
  refine lv_if_lt (tgt := 12) hx hb dX9_depthAt_1 (by decide) (fun c_1 => ?_) (fun c_1 => ?_)
  · replace c_1 := (I_lt (a := i) (b := 0) ri (show rng 0 from ⟨by decide, by decide⟩)).mp c_1
    refine lv_iconst (v := I (-1)) hx hb dX9_depthAt_12 (by decide) ?_
    refine lv_goto (tgt := 22) hx hb dX9_depthAt_13 (by decide) ?_
    exact th_iret hx hb hr hlocks hH hS (z := (-1)) (show rng (-1) from ⟨by decide, by decide⟩) (by exact ⟨rfl, by omega⟩) dX9_depthAt_22
  · replace c_1 := mt (I_lt (a := i) (b := 0) ri (show rng 0 from ⟨by decide, by decide⟩)).mpr c_1
    refine lv_iload_n hx hb dX9_depthAt_4 rfl (lv_at hl 1 rfl) ?_
    refine lv_aload_n hx hb dX9_depthAt_5 rfl (lv_at hl 0 rfl) ?_
    refine th_get (ci := 9) (C := RX9) (T := TX9) (N := 5) (v := .int (I t.z)) hx hb hts inX9 hown hK hH cT rfl 4 (by decide) fl0 rfl dX9_depthAt_6 ?_
    refine lv_icmp_lt (tgt := 16) hx hb dX9_depthAt_9 (by decide) (fun c_2 => ?_) (fun c_2 => ?_)
    · replace c_2 := (I_lt (a := i) (b := t.z) ri ⟨by omega, by omega⟩).mp c_2
      refine lv_aload_n hx hb dX9_depthAt_16 rfl (lv_at hl 0 rfl) ?_
      refine th_get (ci := 9) (C := RX9) (T := TX9) (N := 5) (v := .ref t.d) hx hb hts inX9 hown hK hH cT rfl 3 (by decide) fl1 rfl dX9_depthAt_17 ?_
      refine lv_iload_n hx hb dX9_depthAt_20 rfl (lv_at hl 1 rfl) ?_
      refine th_iald hx hb hK hH cD ri (by omega) (by omega) dX9_depthAt_21 ?_
      have rz_3 := rng_toInt (t.fd i.toNat)
      generalize ez_3 : (t.fd i.toNat).toInt = z_3 at rz_3 ⊢
      exact th_iret hx hb hr hlocks hH hS (z := z_3) rz_3 (by exact ⟨rfl, by omega⟩) dX9_depthAt_22
    · replace c_2 := mt (I_lt (a := i) (b := t.z) ri ⟨by omega, by omega⟩).mpr c_2
      refine lv_iconst (v := I (-1)) hx hb dX9_depthAt_12 (by decide) ?_
      refine lv_goto (tgt := 22) hx hb dX9_depthAt_13 (by decide) ?_
      exact th_iret hx hb hr hlocks hH hS (z := (-1)) (show rng (-1) from ⟨by decide, by decide⟩) (by exact ⟨rfl, by omega⟩) dX9_depthAt_22

set_option maxHeartbeats 1000000 in
set_option maxRecDepth 100000 in
theorem t_end (l : Launch) (G : va_G) (y : Nat → ClassId) (b0 : Nat) (σ : th_M) (a : Nat) (t : TV) (i : Int) (hT : isT y σ a t) (ri : rng i) : Met l yX9_end wsX9_end ({ frames := 0, cells := 0, slots := 0, locals := 0 }) (th_P G y b0 σ [.ref a, .int (I i)]) (th_Qi G b0 (fun r σ1 => σ1 = σ ∧ (((0 ≤ i ∧ i < t.z) ∧ i ≤ r ∧ r < t.z) ∨ (r = -1 ∧ ¬ (0 ≤ i ∧ i < t.z))))) 0 0 (th_A b0) := by
  refine Met.ofW (cc := cX9_end) (maxL := 4) (ret := (some .int)) (by decide) rfl ?_
  intro p e s m args below meth c s₁ B hml hv
  obtain ⟨rfl, hH, hK⟩ := hv
  have hx := B.exec
  have hb := B.bytes
  have hr := B.returns
  have hts := atoms_spec (ws := wsX9_end) B.pre
  have hown : s.vm.findClass RX9 = some m.cls := findClass_of_methodNamed B.named
  have hlocks := B.notSynchronized
  have h00 : b0 ≤ s.heap.size := hH.1
  have hS : va_S (th_A b0) s.heap s.heap [] := va_S.rf
  have hTq := hT; obtain ⟨cT, cK, cV, cY, cD, z0, zn, nn⟩ := hTq
  have inX9 : ∀ w ∈ wsX90, w ∈ wsX9_end := by decide +kernel
  have fl0 := hts (.fieldLink RX9 24 "NestQuery$Tree" "size" "I") (by decide +kernel)
  have fl1 := hts (.fieldLink RX9 21 "NestQuery$Tree" "depths" "[I") (by decide +kernel)
  have hl := lv_entry ([.ref a, .int (I i)]) (n := 4) (Nat.le_of_ble_eq_true rfl)
  rw [lg_entry_eq]
  generalize (lg_sl ([.ref a, .int (I i)]) ++ List.replicate (4 - (lg_sl ([.ref a, .int (I i)])).length) Slot.unset).toArray = ls at hl ⊢
  have hl : lv_has ls 4 [(0, .ref a), (1, .int (I i))] := hl
  refine lv_iload_n hx hb dX9_end_0 rfl (lv_at hl 1 rfl) ?_
  refine lv_if_lt (tgt := 12) hx hb dX9_end_1 (by decide) (fun c_1 => ?_) (fun c_1 => ?_)
  · replace c_1 := (I_lt (a := i) (b := 0) ri (show rng 0 from ⟨by decide, by decide⟩)).mp c_1
    refine lv_iconst (v := I (-1)) hx hb dX9_end_12 (by decide) ?_
    exact th_iret hx hb hr hlocks hH hS (z := (-1)) (show rng (-1) from ⟨by decide, by decide⟩) (by exact ⟨rfl, by omega⟩) dX9_end_13
  · replace c_1 := mt (I_lt (a := i) (b := 0) ri (show rng 0 from ⟨by decide, by decide⟩)).mpr c_1
    refine lv_iload_n hx hb dX9_end_4 rfl (lv_at hl 1 rfl) ?_
    refine lv_aload_n hx hb dX9_end_5 rfl (lv_at hl 0 rfl) ?_
    refine th_get (ci := 9) (C := RX9) (T := TX9) (N := 5) (v := .int (I t.z)) hx hb hts inX9 hown hK hH cT rfl 4 (by decide) fl0 rfl dX9_end_6 ?_
    refine lv_icmp_lt (tgt := 14) hx hb dX9_end_9 (by decide) (fun c_2 => ?_) (fun c_2 => ?_)
    · replace c_2 := (I_lt (a := i) (b := t.z) ri ⟨by omega, by omega⟩).mp c_2
      refine lv_iload_n hx hb dX9_end_14 rfl (lv_at hl 1 rfl) ?_
      refine lv_istore_n (lv' := [(2, .int (I i)), (0, .ref a), (1, .int (I i))]) hx hb dX9_end_15 rfl hl (by decide) rfl (fun ls hl => ?_)
      refine lv_iload_n hx hb dX9_end_16 rfl (lv_at hl 2 rfl) ?_
      refine lv_iconst (v := I 1) hx hb dX9_end_17 (by decide) ?_
      refine lv_iadd hx hb dX9_end_18 ?_
      refine nq_top (I_add _ _) ?_
      refine lv_istore_n (lv' := [(3, .int (I (i + 1))), (2, .int (I i)), (0, .ref a), (1, .int (I i))]) hx hb dX9_end_19 rfl hl (by decide) rfl (fun ls hl => ?_)
      refine th_loop (α := Int × Int) (pc := 20) (fun x9 => (t.z - x9.2).toNat) (fun x9 σ9 H9 l9 ls9 => σ = σ9 ∧ th_H G b0 σ9 H9 ∧ va_S (th_A b0) s.heap H9 l9 ∧ lv_has ls9 4 [(0, .ref a), (1, .int (I i)), (2, .int (I x9.1)), (3, .int (I x9.2))] ∧ rng x9.1 ∧ rng x9.2 ∧ (i + 1 ≤ x9.2) ∧ (x9.2 ≤ t.z) ∧ (i ≤ x9.1) ∧ (x9.1 < x9.2) ∧ (0 ≤ i)) ?_ (i, i + 1) σ _ _ _ ⟨rfl, hH, hS, lv_sub hl [2, 3, 1, 0] rfl, ri, ⟨by omega, by omega⟩, by omega, by omega, by omega, by omega, by omega⟩
      intro x9 σ9 H locs ls hI9 ihJ_3
      obtain ⟨la, k⟩ := x9
      obtain ⟨eJ_3, hH, hS, hl, rla, rk, J_3_0, J_3_1, J_3_2, J_3_3, J_3_4⟩ := hI9
      subst eJ_3
      have hl : lv_has ls 4 [(0, .ref a), (1, .int (I i)), (2, .int (I la)), (3, .int (I k))] := hl
      have rla : rng la := rla
      have rk : rng k := rk
      have J_3_0 : i + 1 ≤ k := J_3_0
      have J_3_1 : k ≤ t.z := J_3_1
      have J_3_2 : i ≤ la := J_3_2
      have J_3_3 : la < k := J_3_3
      have J_3_4 : 0 ≤ i := J_3_4
      refine lv_iload_n hx hb dX9_end_20 rfl (lv_at hl 3 rfl) ?_
      refine lv_aload_n hx hb dX9_end_21 rfl (lv_at hl 0 rfl) ?_
      refine th_get (ci := 9) (C := RX9) (T := TX9) (N := 5) (v := .int (I t.z)) hx hb hts inX9 hown hK hH cT rfl 4 (by decide) fl0 rfl dX9_end_22 ?_
      refine lv_icmp_ge (tgt := 51) hx hb dX9_end_25 (by decide) (fun c_4 => ?_) (fun c_4 => ?_)
      · replace c_4 := (I_le (a := t.z) (b := k) ⟨by omega, by omega⟩ rk).mp c_4
        refine lv_iload_n hx hb dX9_end_51 rfl (lv_at hl 2 rfl) ?_
        exact th_iret hx hb hr hlocks hH hS (z := la) rla (by exact ⟨rfl, by omega⟩) dX9_end_52
      · replace c_4 := mt (I_le (a := t.z) (b := k) ⟨by omega, by omega⟩ rk).mpr c_4
        refine lv_aload_n hx hb dX9_end_28 rfl (lv_at hl 0 rfl) ?_
        refine th_get (ci := 9) (C := RX9) (T := TX9) (N := 5) (v := .ref t.d) hx hb hts inX9 hown hK hH cT rfl 3 (by decide) fl1 rfl dX9_end_29 ?_
        refine lv_iload_n hx hb dX9_end_32 rfl (lv_at hl 3 rfl) ?_
        refine th_iald hx hb hK hH cD rk (by omega) (by omega) dX9_end_33 ?_
        have rz_5 := rng_toInt (t.fd k.toNat)
        generalize ez_5 : (t.fd k.toNat).toInt = z_5 at rz_5 ⊢
        refine lv_aload_n hx hb dX9_end_34 rfl (lv_at hl 0 rfl) ?_
        refine th_get (ci := 9) (C := RX9) (T := TX9) (N := 5) (v := .ref t.d) hx hb hts inX9 hown hK hH cT rfl 3 (by decide) fl1 rfl dX9_end_35 ?_
        refine lv_iload_n hx hb dX9_end_38 rfl (lv_at hl 1 rfl) ?_
        refine th_iald hx hb hK hH cD ri (by omega) (by omega) dX9_end_39 ?_
        have rz_6 := rng_toInt (t.fd i.toNat)
        generalize ez_6 : (t.fd i.toNat).toInt = z_6 at rz_6 ⊢
        refine lv_icmp_le (tgt := 51) hx hb dX9_end_40 (by decide) (fun c_7 => ?_) (fun c_7 => ?_)
        · replace c_7 := (I_le (a := z_5) (b := z_6) rz_5 rz_6).mp c_7
          refine lv_iload_n hx hb dX9_end_51 rfl (lv_at hl 2 rfl) ?_
          exact th_iret hx hb hr hlocks hH hS (z := la) rla (by exact ⟨rfl, by omega⟩) dX9_end_52
        · replace c_7 := mt (I_le (a := z_5) (b := z_6) rz_5 rz_6).mpr c_7
          refine lv_iload_n hx hb dX9_end_43 rfl (lv_at hl 3 rfl) ?_
          refine lv_istore_n (lv' := [(2, .int (I k)), (0, .ref a), (1, .int (I i)), (3, .int (I k))]) hx hb dX9_end_44 rfl hl (by decide) rfl (fun ls hl => ?_)
          refine lv_iinc (v := I (k + 1)) (lv' := [(3, .int (I (k + 1))), (2, .int (I k)), (0, .ref a), (1, .int (I i))]) hx hb dX9_end_45 hl (k := 3) rfl (I_add _ _) (by decide) rfl (fun ls hl => ?_)
          refine lv_goto (tgt := 20) hx hb dX9_end_48 (by decide) ?_
          exact ihJ_3 (k, k + 1) _ _ _ _ (by omega) ⟨rfl, hH, hS, lv_sub hl [2, 3, 1, 0] rfl, rk, ⟨by omega, by omega⟩, by omega, by omega, by omega, by omega, by omega⟩
    · replace c_2 := mt (I_lt (a := i) (b := t.z) ri ⟨by omega, by omega⟩).mpr c_2
      refine lv_iconst (v := I (-1)) hx hb dX9_end_12 (by decide) ?_
      exact th_iret hx hb hr hlocks hH hS (z := (-1)) (show rng (-1) from ⟨by decide, by decide⟩) (by exact ⟨rfl, by omega⟩) dX9_end_13

set_option maxHeartbeats 1000000 in
set_option maxRecDepth 100000 in
theorem t_sizeOf (l : Launch) (G : va_G) (y : Nat → ClassId) (b0 : Nat) (σ : th_M) (a : Nat) (t : TV) (i : Int) (hT : isT y σ a t) (ri : rng i) : Met l yX9_sizeOf wsX9_sizeOf ({ frames := 1, cells := 0, slots := 0, locals := 23 }) (th_P G y b0 σ [.ref a, .int (I i)]) (th_Qi G b0 (fun r σ1 => σ1 = σ ∧ (((0 ≤ i ∧ i < t.z) ∧ 1 ≤ r ∧ i + r ≤ t.z) ∨ (r = 0 ∧ ¬ (0 ≤ i ∧ i < t.z))))) 0 0 (th_A b0) := by
  refine Met.ofW (cc := cX9_sizeOf) (maxL := 2) (ret := (some .int)) (by decide) rfl ?_
  intro p e s m args below meth c s₁ B hml hv
  obtain ⟨rfl, hH, hK⟩ := hv
  have hx := B.exec
  have hb := B.bytes
  have hr := B.returns
  have hts := atoms_spec (ws := wsX9_sizeOf) B.pre
  have hown : s.vm.findClass RX9 = some m.cls := findClass_of_methodNamed B.named
  have hlocks := B.notSynchronized
  have h00 : b0 ≤ s.heap.size := hH.1
  have hS : va_S (th_A b0) s.heap s.heap [] := va_S.rf
  have hTq := hT; obtain ⟨cT, cK, cV, cY, cD, z0, zn, nn⟩ := hTq
  have inX9 : ∀ w ∈ wsX90, w ∈ wsX9_sizeOf := by decide +kernel
  have fl0 := hts (.fieldLink RX9 24 "NestQuery$Tree" "size" "I") (by decide +kernel)
  have fl1 := hts (.initialized RX9) (by decide +kernel)
  have hl := lv_entry ([.ref a, .int (I i)]) (n := 2) (Nat.le_of_ble_eq_true rfl)
  rw [lg_entry_eq]
  generalize (lg_sl ([.ref a, .int (I i)]) ++ List.replicate (2 - (lg_sl ([.ref a, .int (I i)])).length) Slot.unset).toArray = ls at hl ⊢
  have hl : lv_has ls 2 [(0, .ref a), (1, .int (I i))] := hl
  refine lv_iload_n hx hb dX9_sizeOf_0 rfl (lv_at hl 1 rfl) ?_
  refine lv_if_lt (tgt := 12) hx hb dX9_sizeOf_1 (by decide) (fun c_1 => ?_) (fun c_1 => ?_)
  · replace c_1 := (I_lt (a := i) (b := 0) ri (show rng 0 from ⟨by decide, by decide⟩)).mp c_1
    refine lv_iconst (v := I 0) hx hb dX9_sizeOf_12 (by decide) ?_
    refine lv_goto (tgt := 25) hx hb dX9_sizeOf_13 (by decide) ?_
    exact th_iret hx hb hr hlocks hH hS (z := 0) (show rng 0 from ⟨by decide, by decide⟩) (by exact ⟨rfl, by omega⟩) dX9_sizeOf_25
  · replace c_1 := mt (I_lt (a := i) (b := 0) ri (show rng 0 from ⟨by decide, by decide⟩)).mpr c_1
    refine lv_iload_n hx hb dX9_sizeOf_4 rfl (lv_at hl 1 rfl) ?_
    refine lv_aload_n hx hb dX9_sizeOf_5 rfl (lv_at hl 0 rfl) ?_
    refine th_get (ci := 9) (C := RX9) (T := TX9) (N := 5) (v := .int (I t.z)) hx hb hts inX9 hown hK hH cT rfl 4 (by decide) fl0 rfl dX9_sizeOf_6 ?_
    refine lv_icmp_lt (tgt := 16) hx hb dX9_sizeOf_9 (by decide) (fun c_2 => ?_) (fun c_2 => ?_)
    · replace c_2 := (I_lt (a := i) (b := t.z) ri ⟨by omega, by omega⟩).mp c_2
      refine lv_aload_n hx hb dX9_sizeOf_16 rfl (lv_at hl 0 rfl) ?_
      refine lv_iload_n hx hb dX9_sizeOf_17 rfl (lv_at hl 1 rfl) ?_
      refine th_calli (va_runV (As := [.int (I i)]) (rest := []) ⟨hx, hb, hml, hown, hts⟩ (t_end l G y b0 σ a t i hT (show rng i from ri)) (cwV 1 hts gX9_sizeOf_X9_end rfl rfl rfl (by decide +kernel) ⟨Nat.le_of_ble_eq_true rfl, Nat.le_of_ble_eq_true rfl⟩) (th_PV hK hH rfl cT) rfl rfl hl.1 rfl (lv_room (Nat.le_of_ble_eq_true rfl)) dX9_sizeOf_18 ⟨Nat.le_of_ble_eq_true rfl, Nat.le_of_ble_eq_true rfl⟩) hS (fun z_4 σ9 H locs rz_4 hw_3 hH hS => ?_)
      obtain ⟨e9, hw_3⟩ := hw_3
      have e9 := e9.symm
      subst e9
      have hw_3 : ((0 ≤ i ∧ i < t.z) ∧ i ≤ z_4 ∧ z_4 < t.z) ∨ (z_4 = -1 ∧ ¬ (0 ≤ i ∧ i < t.z)) := hw_3
      refine lv_iload_n hx hb dX9_sizeOf_21 rfl (lv_at hl 1 rfl) ?_
      refine lv_isub hx hb dX9_sizeOf_22 ?_
      refine nq_top (I_sub _ _) ?_
      refine lv_iconst (v := I 1) hx hb dX9_sizeOf_23 (by decide) ?_
      refine lv_iadd hx hb dX9_sizeOf_24 ?_
      refine nq_top (I_add _ _) ?_
      exact th_iret hx hb hr hlocks hH hS (z := (z_4 - i + 1)) ⟨by omega, by omega⟩ (by exact ⟨rfl, by omega⟩) dX9_sizeOf_25
    · replace c_2 := mt (I_lt (a := i) (b := t.z) ri ⟨by omega, by omega⟩).mpr c_2
      refine lv_iconst (v := I 0) hx hb dX9_sizeOf_12 (by decide) ?_
      refine lv_goto (tgt := 25) hx hb dX9_sizeOf_13 (by decide) ?_
      exact th_iret hx hb hr hlocks hH hS (z := 0) (show rng 0 from ⟨by decide, by decide⟩) (by exact ⟨rfl, by omega⟩) dX9_sizeOf_25

set_option maxHeartbeats 1000000 in
set_option maxRecDepth 100000 in
theorem t_ancestorAt (l : Launch) (G : va_G) (y : Nat → ClassId) (b0 : Nat) (σ : th_M) (a : Nat) (t : TV) (i : Int) (j : Int) (hT : isT y σ a t) (ri : rng i) (rj : rng j) : Met l yX9_ancestorAt wsX9_ancestorAt ({ frames := 0, cells := 0, slots := 0, locals := 0 }) (th_P G y b0 σ [.ref a, .int (I i), .int (I j)]) (th_Qi G b0 (fun r σ1 => σ1 = σ ∧ (r = -1 ∨ (0 ≤ r ∧ r ≤ i ∧ i < t.z)))) 0 0 (th_A b0) := by
  refine Met.ofW (cc := cX9_ancestorAt) (maxL := 4) (ret := (some .int)) (by decide) rfl ?_
  intro p e s m args below meth c s₁ B hml hv
  obtain ⟨rfl, hH, hK⟩ := hv
  have hx := B.exec
  have hb := B.bytes
  have hr := B.returns
  have hts := atoms_spec (ws := wsX9_ancestorAt) B.pre
  have hown : s.vm.findClass RX9 = some m.cls := findClass_of_methodNamed B.named
  have hlocks := B.notSynchronized
  have h00 : b0 ≤ s.heap.size := hH.1
  have hS : va_S (th_A b0) s.heap s.heap [] := va_S.rf
  have hTq := hT; obtain ⟨cT, cK, cV, cY, cD, z0, zn, nn⟩ := hTq
  have inX9 : ∀ w ∈ wsX90, w ∈ wsX9_ancestorAt := by decide +kernel
  have fl0 := hts (.fieldLink RX9 24 "NestQuery$Tree" "size" "I") (by decide +kernel)
  have fl1 := hts (.fieldLink RX9 21 "NestQuery$Tree" "depths" "[I") (by decide +kernel)
  have hl := lv_entry ([.ref a, .int (I i), .int (I j)]) (n := 4) (Nat.le_of_ble_eq_true rfl)
  rw [lg_entry_eq]
  generalize (lg_sl ([.ref a, .int (I i), .int (I j)]) ++ List.replicate (4 - (lg_sl ([.ref a, .int (I i), .int (I j)])).length) Slot.unset).toArray = ls at hl ⊢
  have hl : lv_has ls 4 [(0, .ref a), (1, .int (I i)), (2, .int (I j))] := hl
  refine lv_iload_n hx hb dX9_ancestorAt_0 rfl (lv_at hl 1 rfl) ?_
  refine lv_if_lt (tgt := 12) hx hb dX9_ancestorAt_1 (by decide) (fun c_1 => ?_) (fun c_1 => ?_)
  · replace c_1 := (I_lt (a := i) (b := 0) ri (show rng 0 from ⟨by decide, by decide⟩)).mp c_1
    refine lv_iconst (v := I (-1)) hx hb dX9_ancestorAt_12 (by decide) ?_
    exact th_iret hx hb hr hlocks hH hS (z := (-1)) (show rng (-1) from ⟨by decide, by decide⟩) (by exact ⟨rfl, by omega⟩) dX9_ancestorAt_13
  · replace c_1 := mt (I_lt (a := i) (b := 0) ri (show rng 0 from ⟨by decide, by decide⟩)).mpr c_1
    refine lv_iload_n hx hb dX9_ancestorAt_4 rfl (lv_at hl 1 rfl) ?_
    refine lv_aload_n hx hb dX9_ancestorAt_5 rfl (lv_at hl 0 rfl) ?_
    refine th_get (ci := 9) (C := RX9) (T := TX9) (N := 5) (v := .int (I t.z)) hx hb hts inX9 hown hK hH cT rfl 4 (by decide) fl0 rfl dX9_ancestorAt_6 ?_
    refine lv_icmp_lt (tgt := 14) hx hb dX9_ancestorAt_9 (by decide) (fun c_2 => ?_) (fun c_2 => ?_)
    · replace c_2 := (I_lt (a := i) (b := t.z) ri ⟨by omega, by omega⟩).mp c_2
      refine lv_iload_n hx hb dX9_ancestorAt_14 rfl (lv_at hl 1 rfl) ?_
      refine lv_istore_n (lv' := [(3, .int (I i)), (0, .ref a), (1, .int (I i)), (2, .int (I j))]) hx hb dX9_ancestorAt_15 rfl hl (by decide) rfl (fun ls hl => ?_)
      refine th_loop (α := Int) (pc := 16) (fun x9 => (x9 + 1).toNat) (fun x9 σ9 H9 l9 ls9 => σ = σ9 ∧ th_H G b0 σ9 H9 ∧ va_S (th_A b0) s.heap H9 l9 ∧ lv_has ls9 4 [(0, .ref a), (1, .int (I i)), (2, .int (I j)), (3, .int (I x9))] ∧ rng x9 ∧ (-1 ≤ x9) ∧ (x9 ≤ i) ∧ (0 ≤ i) ∧ (i < t.z)) ?_ (i) σ _ _ _ ⟨rfl, hH, hS, lv_sub hl [1, 2, 3, 0] rfl, ri, by omega, by omega, by omega, by omega⟩
      intro x9 σ9 H locs ls hI9 ihJ_3
      obtain ⟨k, ex9⟩ : ∃ z, z = x9 := ⟨_, rfl⟩
      subst ex9
      obtain ⟨eJ_3, hH, hS, hl, rk, J_3_0, J_3_1, J_3_2, J_3_3⟩ := hI9
      subst eJ_3
      have hl : lv_has ls 4 [(0, .ref a), (1, .int (I i)), (2, .int (I j)), (3, .int (I k))] := hl
      have rk : rng k := rk
      have J_3_0 : -1 ≤ k := J_3_0
      have J_3_1 : k ≤ i := J_3_1
      have J_3_2 : 0 ≤ i := J_3_2
      have J_3_3 : i < t.z := J_3_3
      refine lv_iload_n hx hb dX9_ancestorAt_16 rfl (lv_at hl 3 rfl) ?_
      refine lv_if_lt (tgt := 38) hx hb dX9_ancestorAt_17 (by decide) (fun c_4 => ?_) (fun c_4 => ?_)
      · replace c_4 := (I_lt (a := k) (b := 0) rk (show rng 0 from ⟨by decide, by decide⟩)).mp c_4
        refine lv_iconst (v := I (-1)) hx hb dX9_ancestorAt_38 (by decide) ?_
        exact th_iret hx hb hr hlocks hH hS (z := (-1)) (show rng (-1) from ⟨by decide, by decide⟩) (by exact ⟨rfl, by omega⟩) dX9_ancestorAt_39
      · replace c_4 := mt (I_lt (a := k) (b := 0) rk (show rng 0 from ⟨by decide, by decide⟩)).mpr c_4
        refine lv_aload_n hx hb dX9_ancestorAt_20 rfl (lv_at hl 0 rfl) ?_
        refine th_get (ci := 9) (C := RX9) (T := TX9) (N := 5) (v := .ref t.d) hx hb hts inX9 hown hK hH cT rfl 3 (by decide) fl1 rfl dX9_ancestorAt_21 ?_
        refine lv_iload_n hx hb dX9_ancestorAt_24 rfl (lv_at hl 3 rfl) ?_
        refine th_iald hx hb hK hH cD rk (by omega) (by omega) dX9_ancestorAt_25 ?_
        have rz_5 := rng_toInt (t.fd k.toNat)
        generalize ez_5 : (t.fd k.toNat).toInt = z_5 at rz_5 ⊢
        refine lv_iload_n hx hb dX9_ancestorAt_26 rfl (lv_at hl 2 rfl) ?_
        refine lv_icmp_gt (tgt := 32) hx hb dX9_ancestorAt_27 (by decide) (fun c_6 => ?_) (fun c_6 => ?_)
        · replace c_6 := (I_lt (a := j) (b := z_5) rj rz_5).mp c_6
          refine lv_iinc (v := I (k + (-1))) (lv' := [(3, .int (I (k + (-1)))), (0, .ref a), (1, .int (I i)), (2, .int (I j))]) hx hb dX9_ancestorAt_32 hl (k := 3) rfl (I_add _ _) (by decide) rfl (fun ls hl => ?_)
          refine lv_goto (tgt := 16) hx hb dX9_ancestorAt_35 (by decide) ?_
          exact ihJ_3 (k + (-1)) _ _ _ _ (by omega) ⟨rfl, hH, hS, lv_sub hl [1, 2, 3, 0] rfl, ⟨by omega, by omega⟩, by omega, by omega, by omega, by omega⟩
        · replace c_6 := mt (I_lt (a := j) (b := z_5) rj rz_5).mpr c_6
          refine lv_iload_n hx hb dX9_ancestorAt_30 rfl (lv_at hl 3 rfl) ?_
          exact th_iret hx hb hr hlocks hH hS (z := k) rk (by exact ⟨rfl, by omega⟩) dX9_ancestorAt_31
    · replace c_2 := mt (I_lt (a := i) (b := t.z) ri ⟨by omega, by omega⟩).mpr c_2
      refine lv_iconst (v := I (-1)) hx hb dX9_ancestorAt_12 (by decide) ?_
      exact th_iret hx hb hr hlocks hH hS (z := (-1)) (show rng (-1) from ⟨by decide, by decide⟩) (by exact ⟨rfl, by omega⟩) dX9_ancestorAt_13

set_option maxHeartbeats 1000000 in
set_option maxRecDepth 100000 in
theorem t_parentOf (l : Launch) (G : va_G) (y : Nat → ClassId) (b0 : Nat) (σ : th_M) (a : Nat) (t : TV) (i : Int) (hT : isT y σ a t) (ri : rng i) : Met l yX9_parentOf wsX9_parentOf ({ frames := 0, cells := 0, slots := 0, locals := 0 }) (th_P G y b0 σ [.ref a, .int (I i)]) (th_Qi G b0 (fun r σ1 => σ1 = σ ∧ (r = -1 ∨ (0 ≤ r ∧ r < i ∧ i < t.z)))) 0 0 (th_A b0) := by
  refine Met.ofW (cc := cX9_parentOf) (maxL := 3) (ret := (some .int)) (by decide) rfl ?_
  intro p e s m args below meth c s₁ B hml hv
  obtain ⟨rfl, hH, hK⟩ := hv
  have hx := B.exec
  have hb := B.bytes
  have hr := B.returns
  have hts := atoms_spec (ws := wsX9_parentOf) B.pre
  have hown : s.vm.findClass RX9 = some m.cls := findClass_of_methodNamed B.named
  have hlocks := B.notSynchronized
  have h00 : b0 ≤ s.heap.size := hH.1
  have hS : va_S (th_A b0) s.heap s.heap [] := va_S.rf
  have hTq := hT; obtain ⟨cT, cK, cV, cY, cD, z0, zn, nn⟩ := hTq
  have inX9 : ∀ w ∈ wsX90, w ∈ wsX9_parentOf := by decide +kernel
  have fl0 := hts (.fieldLink RX9 24 "NestQuery$Tree" "size" "I") (by decide +kernel)
  have fl1 := hts (.fieldLink RX9 21 "NestQuery$Tree" "depths" "[I") (by decide +kernel)
  have hl := lv_entry ([.ref a, .int (I i)]) (n := 3) (Nat.le_of_ble_eq_true rfl)
  rw [lg_entry_eq]
  generalize (lg_sl ([.ref a, .int (I i)]) ++ List.replicate (3 - (lg_sl ([.ref a, .int (I i)])).length) Slot.unset).toArray = ls at hl ⊢
  have hl : lv_has ls 3 [(0, .ref a), (1, .int (I i))] := hl
  refine lv_iload_n hx hb dX9_parentOf_0 rfl (lv_at hl 1 rfl) ?_
  refine lv_if_lt (tgt := 12) hx hb dX9_parentOf_1 (by decide) (fun c_1 => ?_) (fun c_1 => ?_)
  · replace c_1 := (I_lt (a := i) (b := 0) ri (show rng 0 from ⟨by decide, by decide⟩)).mp c_1
    refine lv_iconst (v := I (-1)) hx hb dX9_parentOf_12 (by decide) ?_
    exact th_iret hx hb hr hlocks hH hS (z := (-1)) (show rng (-1) from ⟨by decide, by decide⟩) (by exact ⟨rfl, by omega⟩) dX9_parentOf_13
  · replace c_1 := mt (I_lt (a := i) (b := 0) ri (show rng 0 from ⟨by decide, by decide⟩)).mpr c_1
    refine lv_iload_n hx hb dX9_parentOf_4 rfl (lv_at hl 1 rfl) ?_
    refine lv_aload_n hx hb dX9_parentOf_5 rfl (lv_at hl 0 rfl) ?_
    refine th_get (ci := 9) (C := RX9) (T := TX9) (N := 5) (v := .int (I t.z)) hx hb hts inX9 hown hK hH cT rfl 4 (by decide) fl0 rfl dX9_parentOf_6 ?_
    refine lv_icmp_lt (tgt := 14) hx hb dX9_parentOf_9 (by decide) (fun c_2 => ?_) (fun c_2 => ?_)
    · replace c_2 := (I_lt (a := i) (b := t.z) ri ⟨by omega, by omega⟩).mp c_2
      refine lv_iload_n hx hb dX9_parentOf_14 rfl (lv_at hl 1 rfl) ?_
      refine lv_iconst (v := I 1) hx hb dX9_parentOf_15 (by decide) ?_
      refine lv_isub hx hb dX9_parentOf_16 ?_
      refine nq_top (I_sub _ _) ?_
      refine lv_istore_n (lv' := [(2, .int (I (i - 1))), (0, .ref a), (1, .int (I i))]) hx hb dX9_parentOf_17 rfl hl (by decide) rfl (fun ls hl => ?_)
      refine th_loop (α := Int) (pc := 18) (fun x9 => (x9 + 1).toNat) (fun x9 σ9 H9 l9 ls9 => σ = σ9 ∧ th_H G b0 σ9 H9 ∧ va_S (th_A b0) s.heap H9 l9 ∧ lv_has ls9 3 [(0, .ref a), (1, .int (I i)), (2, .int (I x9))] ∧ rng x9 ∧ (-1 ≤ x9) ∧ (x9 < i) ∧ (0 ≤ i) ∧ (i < t.z)) ?_ (i - 1) σ _ _ _ ⟨rfl, hH, hS, lv_sub hl [1, 2, 0] rfl, ⟨by omega, by omega⟩, by omega, by omega, by omega, by omega⟩
      intro x9 σ9 H locs ls hI9 ihJ_3
      obtain ⟨k, ex9⟩ : ∃ z, z = x9 := ⟨_, rfl⟩
      subst ex9
      obtain ⟨eJ_3, hH, hS, hl, rk, J_3_0, J_3_1, J_3_2, J_3_3⟩ := hI9
      subst eJ_3
      have hl : lv_has ls 3 [(0, .ref a), (1, .int (I i)), (2, .int (I k))] := hl
      have rk : rng k := rk
      have J_3_0 : -1 ≤ k := J_3_0
      have J_3_1 : k < i := J_3_1
      have J_3_2 : 0 ≤ i := J_3_2
      have J_3_3 : i < t.z := J_3_3
      refine lv_iload_n hx hb dX9_parentOf_18 rfl (lv_at hl 2 rfl) ?_
      refine lv_if_lt (tgt := 45) hx hb dX9_parentOf_19 (by decide) (fun c_4 => ?_) (fun c_4 => ?_)
      · replace c_4 := (I_lt (a := k) (b := 0) rk (show rng 0 from ⟨by decide, by decide⟩)).mp c_4
        refine lv_iconst (v := I (-1)) hx hb dX9_parentOf_45 (by decide) ?_
        exact th_iret hx hb hr hlocks hH hS (z := (-1)) (show rng (-1) from ⟨by decide, by decide⟩) (by exact ⟨rfl, by omega⟩) dX9_parentOf_46
      · replace c_4 := mt (I_lt (a := k) (b := 0) rk (show rng 0 from ⟨by decide, by decide⟩)).mpr c_4
        refine lv_aload_n hx hb dX9_parentOf_22 rfl (lv_at hl 0 rfl) ?_
        refine th_get (ci := 9) (C := RX9) (T := TX9) (N := 5) (v := .ref t.d) hx hb hts inX9 hown hK hH cT rfl 3 (by decide) fl1 rfl dX9_parentOf_23 ?_
        refine lv_iload_n hx hb dX9_parentOf_26 rfl (lv_at hl 2 rfl) ?_
        refine th_iald hx hb hK hH cD rk (by omega) (by omega) dX9_parentOf_27 ?_
        have rz_5 := rng_toInt (t.fd k.toNat)
        generalize ez_5 : (t.fd k.toNat).toInt = z_5 at rz_5 ⊢
        refine lv_aload_n hx hb dX9_parentOf_28 rfl (lv_at hl 0 rfl) ?_
        refine th_get (ci := 9) (C := RX9) (T := TX9) (N := 5) (v := .ref t.d) hx hb hts inX9 hown hK hH cT rfl 3 (by decide) fl1 rfl dX9_parentOf_29 ?_
        refine lv_iload_n hx hb dX9_parentOf_32 rfl (lv_at hl 1 rfl) ?_
        refine th_iald hx hb hK hH cD ri (by omega) (by omega) dX9_parentOf_33 ?_
        have rz_6 := rng_toInt (t.fd i.toNat)
        generalize ez_6 : (t.fd i.toNat).toInt = z_6 at rz_6 ⊢
        refine lv_icmp_ge (tgt := 39) hx hb dX9_parentOf_34 (by decide) (fun c_7 => ?_) (fun c_7 => ?_)
        · replace c_7 := (I_le (a := z_6) (b := z_5) rz_6 rz_5).mp c_7
          refine lv_iinc (v := I (k + (-1))) (lv' := [(2, .int (I (k + (-1)))), (0, .ref a), (1, .int (I i))]) hx hb dX9_parentOf_39 hl (k := 2) rfl (I_add _ _) (by decide) rfl (fun ls hl => ?_)
          refine lv_goto (tgt := 18) hx hb dX9_parentOf_42 (by decide) ?_
          exact ihJ_3 (k + (-1)) _ _ _ _ (by omega) ⟨rfl, hH, hS, lv_sub hl [1, 2, 0] rfl, ⟨by omega, by omega⟩, by omega, by omega, by omega, by omega⟩
        · replace c_7 := mt (I_le (a := z_6) (b := z_5) rz_6 rz_5).mpr c_7
          refine lv_iload_n hx hb dX9_parentOf_37 rfl (lv_at hl 2 rfl) ?_
          exact th_iret hx hb hr hlocks hH hS (z := k) rk (by exact ⟨rfl, by omega⟩) dX9_parentOf_38
    · replace c_2 := mt (I_lt (a := i) (b := t.z) ri ⟨by omega, by omega⟩).mpr c_2
      refine lv_iconst (v := I (-1)) hx hb dX9_parentOf_12 (by decide) ?_
      exact th_iret hx hb hr hlocks hH hS (z := (-1)) (show rng (-1) from ⟨by decide, by decide⟩) (by exact ⟨rfl, by omega⟩) dX9_parentOf_13

set_option maxHeartbeats 1000000 in
set_option maxRecDepth 100000 in
theorem t_placeOf (l : Launch) (G : va_G) (y : Nat → ClassId) (b0 : Nat) (σ : th_M) (a : Nat) (t : TV) (i : Int) (hT : isT y σ a t) (ri : rng i) : Met l yX9_placeOf wsX9_placeOf ({ frames := 0, cells := 0, slots := 0, locals := 0 }) (th_P G y b0 σ [.ref a, .int (I i)]) (th_Qi G b0 (fun r σ1 => σ1 = σ ∧ (-1 ≤ r ∧ r ≤ 128))) 0 0 (th_A b0) := by
  refine Met.ofW (cc := cX9_placeOf) (maxL := 4) (ret := (some .int)) (by decide) rfl ?_
  intro p e s m args below meth c s₁ B hml hv
  obtain ⟨rfl, hH, hK⟩ := hv
  have hx := B.exec
  have hb := B.bytes
  have hr := B.returns
  have hts := atoms_spec (ws := wsX9_placeOf) B.pre
  have hown : s.vm.findClass RX9 = some m.cls := findClass_of_methodNamed B.named
  have hlocks := B.notSynchronized
  have h00 : b0 ≤ s.heap.size := hH.1
  have hS : va_S (th_A b0) s.heap s.heap [] := va_S.rf
  have hTq := hT; obtain ⟨cT, cK, cV, cY, cD, z0, zn, nn⟩ := hTq
  have inX9 : ∀ w ∈ wsX90, w ∈ wsX9_placeOf := by decide +kernel
  have fl0 := hts (.fieldLink RX9 24 "NestQuery$Tree" "size" "I") (by decide +kernel)
  have fl1 := hts (.fieldLink RX9 21 "NestQuery$Tree" "depths" "[I") (by decide +kernel)
  have hl := lv_entry ([.ref a, .int (I i)]) (n := 4) (Nat.le_of_ble_eq_true rfl)
  rw [lg_entry_eq]
  generalize (lg_sl ([.ref a, .int (I i)]) ++ List.replicate (4 - (lg_sl ([.ref a, .int (I i)])).length) Slot.unset).toArray = ls at hl ⊢
  have hl : lv_has ls 4 [(0, .ref a), (1, .int (I i))] := hl
  refine lv_iload_n hx hb dX9_placeOf_0 rfl (lv_at hl 1 rfl) ?_
  refine lv_iconst (v := I 1) hx hb dX9_placeOf_1 (by decide) ?_
  refine lv_icmp_lt (tgt := 13) hx hb dX9_placeOf_2 (by decide) (fun c_1 => ?_) (fun c_1 => ?_)
  · replace c_1 := (I_lt (a := i) (b := 1) ri (show rng 1 from ⟨by decide, by decide⟩)).mp c_1
    refine lv_iconst (v := I (-1)) hx hb dX9_placeOf_13 (by decide) ?_
    exact th_iret hx hb hr hlocks hH hS (z := (-1)) (show rng (-1) from ⟨by decide, by decide⟩) (by exact ⟨rfl, by omega⟩) dX9_placeOf_14
  · replace c_1 := mt (I_lt (a := i) (b := 1) ri (show rng 1 from ⟨by decide, by decide⟩)).mpr c_1
    refine lv_iload_n hx hb dX9_placeOf_5 rfl (lv_at hl 1 rfl) ?_
    refine lv_aload_n hx hb dX9_placeOf_6 rfl (lv_at hl 0 rfl) ?_
    refine th_get (ci := 9) (C := RX9) (T := TX9) (N := 5) (v := .int (I t.z)) hx hb hts inX9 hown hK hH cT rfl 4 (by decide) fl0 rfl dX9_placeOf_7 ?_
    refine lv_icmp_lt (tgt := 15) hx hb dX9_placeOf_10 (by decide) (fun c_2 => ?_) (fun c_2 => ?_)
    · replace c_2 := (I_lt (a := i) (b := t.z) ri ⟨by omega, by omega⟩).mp c_2
      refine lv_iconst (v := I 0) hx hb dX9_placeOf_15 (by decide) ?_
      refine lv_istore_n (lv' := [(2, .int (I 0)), (0, .ref a), (1, .int (I i))]) hx hb dX9_placeOf_16 rfl hl (by decide) rfl (fun ls hl => ?_)
      refine lv_iload_n hx hb dX9_placeOf_17 rfl (lv_at hl 2 rfl) ?_
      refine lv_iconst (v := I 1) hx hb dX9_placeOf_18 (by decide) ?_
      refine lv_isub hx hb dX9_placeOf_19 ?_
      refine nq_top (I_sub _ _) ?_
      refine lv_istore_n (lv' := [(3, .int (I (i - 1))), (2, .int (I 0)), (0, .ref a), (1, .int (I i))]) hx hb dX9_placeOf_20 rfl hl (by decide) rfl (fun ls hl => ?_)
      refine th_loop (α := Int × Int) (pc := 21) (fun x9 => (x9.2 + 1).toNat) (fun x9 σ9 H9 l9 ls9 => σ = σ9 ∧ th_H G b0 σ9 H9 ∧ va_S (th_A b0) s.heap H9 l9 ∧ lv_has ls9 4 [(0, .ref a), (1, .int (I i)), (2, .int (I x9.1)), (3, .int (I x9.2))] ∧ rng x9.1 ∧ rng x9.2 ∧ (-1 ≤ x9.2) ∧ (x9.2 < i) ∧ (0 ≤ x9.1) ∧ (x9.1 + x9.2 < i) ∧ (1 ≤ i) ∧ (i < t.z)) ?_ (0, i - 1) σ _ _ _ ⟨rfl, hH, hS, lv_sub hl [2, 3, 1, 0] rfl, (show rng 0 from ⟨by decide, by decide⟩), ⟨by omega, by omega⟩, by omega, by omega, by omega, by omega, by omega, by omega⟩
      intro x9 σ9 H locs ls hI9 ihJ_3
      obtain ⟨pl, k⟩ := x9
      obtain ⟨eJ_3, hH, hS, hl, rpl, rk, J_3_0, J_3_1, J_3_2, J_3_3, J_3_4, J_3_5⟩ := hI9
      subst eJ_3
      have hl : lv_has ls 4 [(0, .ref a), (1, .int (I i)), (2, .int (I pl)), (3, .int (I k))] := hl
      have rpl : rng pl := rpl
      have rk : rng k := rk
      have J_3_0 : -1 ≤ k := J_3_0
      have J_3_1 : k < i := J_3_1
      have J_3_2 : 0 ≤ pl := J_3_2
      have J_3_3 : pl + k < i := J_3_3
      have J_3_4 : 1 ≤ i := J_3_4
      have J_3_5 : i < t.z := J_3_5
      refine lv_iload_n hx hb dX9_placeOf_21 rfl (lv_at hl 3 rfl) ?_
      refine lv_if_lt (tgt := 64) hx hb dX9_placeOf_22 (by decide) (fun c_4 => ?_) (fun c_4 => ?_)
      · replace c_4 := (I_lt (a := k) (b := 0) rk (show rng 0 from ⟨by decide, by decide⟩)).mp c_4
        refine lv_iload_n hx hb dX9_placeOf_64 rfl (lv_at hl 2 rfl) ?_
        exact th_iret hx hb hr hlocks hH hS (z := pl) rpl (by exact ⟨rfl, by omega⟩) dX9_placeOf_65
      · replace c_4 := mt (I_lt (a := k) (b := 0) rk (show rng 0 from ⟨by decide, by decide⟩)).mpr c_4
        refine lv_aload_n hx hb dX9_placeOf_25 rfl (lv_at hl 0 rfl) ?_
        refine th_get (ci := 9) (C := RX9) (T := TX9) (N := 5) (v := .ref t.d) hx hb hts inX9 hown hK hH cT rfl 3 (by decide) fl1 rfl dX9_placeOf_26 ?_
        refine lv_iload_n hx hb dX9_placeOf_29 rfl (lv_at hl 3 rfl) ?_
        refine th_iald hx hb hK hH cD rk (by omega) (by omega) dX9_placeOf_30 ?_
        have rz_5 := rng_toInt (t.fd k.toNat)
        generalize ez_5 : (t.fd k.toNat).toInt = z_5 at rz_5 ⊢
        refine lv_aload_n hx hb dX9_placeOf_31 rfl (lv_at hl 0 rfl) ?_
        refine th_get (ci := 9) (C := RX9) (T := TX9) (N := 5) (v := .ref t.d) hx hb hts inX9 hown hK hH cT rfl 3 (by decide) fl1 rfl dX9_placeOf_32 ?_
        refine lv_iload_n hx hb dX9_placeOf_35 rfl (lv_at hl 1 rfl) ?_
        refine th_iald hx hb hK hH cD ri (by omega) (by omega) dX9_placeOf_36 ?_
        have rz_6 := rng_toInt (t.fd i.toNat)
        generalize ez_6 : (t.fd i.toNat).toInt = z_6 at rz_6 ⊢
        refine lv_icmp_lt (tgt := 64) hx hb dX9_placeOf_37 (by decide) (fun c_7 => ?_) (fun c_7 => ?_)
        · replace c_7 := (I_lt (a := z_5) (b := z_6) rz_5 rz_6).mp c_7
          refine lv_iload_n hx hb dX9_placeOf_64 rfl (lv_at hl 2 rfl) ?_
          exact th_iret hx hb hr hlocks hH hS (z := pl) rpl (by exact ⟨rfl, by omega⟩) dX9_placeOf_65
        · replace c_7 := mt (I_lt (a := z_5) (b := z_6) rz_5 rz_6).mpr c_7
          refine lv_aload_n hx hb dX9_placeOf_40 rfl (lv_at hl 0 rfl) ?_
          refine th_get (ci := 9) (C := RX9) (T := TX9) (N := 5) (v := .ref t.d) hx hb hts inX9 hown hK hH cT rfl 3 (by decide) fl1 rfl dX9_placeOf_41 ?_
          refine lv_iload_n hx hb dX9_placeOf_44 rfl (lv_at hl 3 rfl) ?_
          refine th_iald hx hb hK hH cD rk (by omega) (by omega) dX9_placeOf_45 ?_
          have rz_8 := rng_toInt (t.fd k.toNat)
          generalize ez_8 : (t.fd k.toNat).toInt = z_8 at rz_8 ⊢
          refine lv_aload_n hx hb dX9_placeOf_46 rfl (lv_at hl 0 rfl) ?_
          refine th_get (ci := 9) (C := RX9) (T := TX9) (N := 5) (v := .ref t.d) hx hb hts inX9 hown hK hH cT rfl 3 (by decide) fl1 rfl dX9_placeOf_47 ?_
          refine lv_iload_n hx hb dX9_placeOf_50 rfl (lv_at hl 1 rfl) ?_
          refine th_iald hx hb hK hH cD ri (by omega) (by omega) dX9_placeOf_51 ?_
          have rz_9 := rng_toInt (t.fd i.toNat)
          generalize ez_9 : (t.fd i.toNat).toInt = z_9 at rz_9 ⊢
          refine lv_icmp_ne (tgt := 58) hx hb dX9_placeOf_52 (by decide) (fun c_10 => ?_) (fun c_10 => ?_)
          · replace c_10 := mt (I_eq (a := z_8) (b := z_9) rz_8 rz_9).mpr c_10
            refine lv_iinc (v := I (k + (-1))) (lv' := [(3, .int (I (k + (-1)))), (0, .ref a), (1, .int (I i)), (2, .int (I pl))]) hx hb dX9_placeOf_58 hl (k := 3) rfl (I_add _ _) (by decide) rfl (fun ls hl => ?_)
            refine lv_goto (tgt := 21) hx hb dX9_placeOf_61 (by decide) ?_
            exact ihJ_3 (pl, k + (-1)) _ _ _ _ (by omega) ⟨rfl, hH, hS, lv_sub hl [1, 2, 3, 0] rfl, rpl, ⟨by omega, by omega⟩, by omega, by omega, by omega, by omega, by omega, by omega⟩
          · replace c_10 := (I_eq (a := z_8) (b := z_9) rz_8 rz_9).mp c_10
            refine lv_iinc (v := I (pl + 1)) (lv' := [(2, .int (I (pl + 1))), (0, .ref a), (1, .int (I i)), (3, .int (I k))]) hx hb dX9_placeOf_55 hl (k := 2) rfl (I_add _ _) (by decide) rfl (fun ls hl => ?_)
            refine lv_iinc (v := I (k + (-1))) (lv' := [(3, .int (I (k + (-1)))), (2, .int (I (pl + 1))), (0, .ref a), (1, .int (I i))]) hx hb dX9_placeOf_58 hl (k := 3) rfl (I_add _ _) (by decide) rfl (fun ls hl => ?_)
            refine lv_goto (tgt := 21) hx hb dX9_placeOf_61 (by decide) ?_
            exact ihJ_3 (pl + 1, k + (-1)) _ _ _ _ (by omega) ⟨rfl, hH, hS, lv_sub hl [2, 3, 1, 0] rfl, ⟨by omega, by omega⟩, ⟨by omega, by omega⟩, by omega, by omega, by omega, by omega, by omega, by omega⟩
    · replace c_2 := mt (I_lt (a := i) (b := t.z) ri ⟨by omega, by omega⟩).mpr c_2
      refine lv_iconst (v := I (-1)) hx hb dX9_placeOf_13 (by decide) ?_
      exact th_iret hx hb hr hlocks hH hS (z := (-1)) (show rng (-1) from ⟨by decide, by decide⟩) (by exact ⟨rfl, by omega⟩) dX9_placeOf_14

set_option maxHeartbeats 1000000 in
set_option maxRecDepth 100000 in
theorem t_childCount (l : Launch) (G : va_G) (y : Nat → ClassId) (b0 : Nat) (σ : th_M) (a : Nat) (t : TV) (i : Int) (hT : isT y σ a t) (ri : rng i) : Met l yX9_childCount wsX9_childCount ({ frames := 0, cells := 0, slots := 0, locals := 0 }) (th_P G y b0 σ [.ref a, .int (I i)]) (th_Qi G b0 (fun r σ1 => σ1 = σ ∧ (0 ≤ r ∧ r ≤ t.z))) 0 0 (th_A b0) := by
  refine Met.ofW (cc := cX9_childCount) (maxL := 4) (ret := (some .int)) (by decide) rfl ?_
  intro p e s m args below meth c s₁ B hml hv
  obtain ⟨rfl, hH, hK⟩ := hv
  have hx := B.exec
  have hb := B.bytes
  have hr := B.returns
  have hts := atoms_spec (ws := wsX9_childCount) B.pre
  have hown : s.vm.findClass RX9 = some m.cls := findClass_of_methodNamed B.named
  have hlocks := B.notSynchronized
  have h00 : b0 ≤ s.heap.size := hH.1
  have hS : va_S (th_A b0) s.heap s.heap [] := va_S.rf
  have hTq := hT; obtain ⟨cT, cK, cV, cY, cD, z0, zn, nn⟩ := hTq
  have inX9 : ∀ w ∈ wsX90, w ∈ wsX9_childCount := by decide +kernel
  have fl0 := hts (.fieldLink RX9 24 "NestQuery$Tree" "size" "I") (by decide +kernel)
  have fl1 := hts (.fieldLink RX9 21 "NestQuery$Tree" "depths" "[I") (by decide +kernel)
  have hl := lv_entry ([.ref a, .int (I i)]) (n := 4) (Nat.le_of_ble_eq_true rfl)
  rw [lg_entry_eq]
  generalize (lg_sl ([.ref a, .int (I i)]) ++ List.replicate (4 - (lg_sl ([.ref a, .int (I i)])).length) Slot.unset).toArray = ls at hl ⊢
  have hl : lv_has ls 4 [(0, .ref a), (1, .int (I i))] := hl
  refine lv_iload_n hx hb dX9_childCount_0 rfl (lv_at hl 1 rfl) ?_
  refine lv_if_lt (tgt := 12) hx hb dX9_childCount_1 (by decide) (fun c_1 => ?_) (fun c_1 => ?_)
  · replace c_1 := (I_lt (a := i) (b := 0) ri (show rng 0 from ⟨by decide, by decide⟩)).mp c_1
    refine lv_iconst (v := I 0) hx hb dX9_childCount_12 (by decide) ?_
    exact th_iret hx hb hr hlocks hH hS (z := 0) (show rng 0 from ⟨by decide, by decide⟩) (by exact ⟨rfl, by omega⟩) dX9_childCount_13
  · replace c_1 := mt (I_lt (a := i) (b := 0) ri (show rng 0 from ⟨by decide, by decide⟩)).mpr c_1
    refine lv_iload_n hx hb dX9_childCount_4 rfl (lv_at hl 1 rfl) ?_
    refine lv_aload_n hx hb dX9_childCount_5 rfl (lv_at hl 0 rfl) ?_
    refine th_get (ci := 9) (C := RX9) (T := TX9) (N := 5) (v := .int (I t.z)) hx hb hts inX9 hown hK hH cT rfl 4 (by decide) fl0 rfl dX9_childCount_6 ?_
    refine lv_icmp_lt (tgt := 14) hx hb dX9_childCount_9 (by decide) (fun c_2 => ?_) (fun c_2 => ?_)
    · replace c_2 := (I_lt (a := i) (b := t.z) ri ⟨by omega, by omega⟩).mp c_2
      refine lv_iconst (v := I 0) hx hb dX9_childCount_14 (by decide) ?_
      refine lv_istore_n (lv' := [(2, .int (I 0)), (0, .ref a), (1, .int (I i))]) hx hb dX9_childCount_15 rfl hl (by decide) rfl (fun ls hl => ?_)
      refine lv_iload_n hx hb dX9_childCount_16 rfl (lv_at hl 2 rfl) ?_
      refine lv_iconst (v := I 1) hx hb dX9_childCount_17 (by decide) ?_
      refine lv_iadd hx hb dX9_childCount_18 ?_
      refine nq_top (I_add _ _) ?_
      refine lv_istore_n (lv' := [(3, .int (I (i + 1))), (2, .int (I 0)), (0, .ref a), (1, .int (I i))]) hx hb dX9_childCount_19 rfl hl (by decide) rfl (fun ls hl => ?_)
      refine th_loop (α := Int × Int) (pc := 20) (fun x9 => (t.z - x9.2).toNat) (fun x9 σ9 H9 l9 ls9 => σ = σ9 ∧ th_H G b0 σ9 H9 ∧ va_S (th_A b0) s.heap H9 l9 ∧ lv_has ls9 4 [(0, .ref a), (1, .int (I i)), (2, .int (I x9.1)), (3, .int (I x9.2))] ∧ rng x9.1 ∧ rng x9.2 ∧ (i + 1 ≤ x9.2) ∧ (x9.2 ≤ t.z) ∧ (0 ≤ i) ∧ (0 ≤ x9.1) ∧ (x9.1 < x9.2)) ?_ (0, i + 1) σ _ _ _ ⟨rfl, hH, hS, lv_sub hl [2, 3, 1, 0] rfl, (show rng 0 from ⟨by decide, by decide⟩), ⟨by omega, by omega⟩, by omega, by omega, by omega, by omega, by omega⟩
      intro x9 σ9 H locs ls hI9 ihJ_3
      obtain ⟨ch, k⟩ := x9
      obtain ⟨eJ_3, hH, hS, hl, rch, rk, J_3_0, J_3_1, J_3_2, J_3_3, J_3_4⟩ := hI9
      subst eJ_3
      have hl : lv_has ls 4 [(0, .ref a), (1, .int (I i)), (2, .int (I ch)), (3, .int (I k))] := hl
      have rch : rng ch := rch
      have rk : rng k := rk
      have J_3_0 : i + 1 ≤ k := J_3_0
      have J_3_1 : k ≤ t.z := J_3_1
      have J_3_2 : 0 ≤ i := J_3_2
      have J_3_3 : 0 ≤ ch := J_3_3
      have J_3_4 : ch < k := J_3_4
      refine lv_iload_n hx hb dX9_childCount_20 rfl (lv_at hl 3 rfl) ?_
      refine lv_aload_n hx hb dX9_childCount_21 rfl (lv_at hl 0 rfl) ?_
      refine th_get (ci := 9) (C := RX9) (T := TX9) (N := 5) (v := .int (I t.z)) hx hb hts inX9 hown hK hH cT rfl 4 (by decide) fl0 rfl dX9_childCount_22 ?_
      refine lv_icmp_ge (tgt := 69) hx hb dX9_childCount_25 (by decide) (fun c_4 => ?_) (fun c_4 => ?_)
      · replace c_4 := (I_le (a := t.z) (b := k) ⟨by omega, by omega⟩ rk).mp c_4
        refine lv_iload_n hx hb dX9_childCount_69 rfl (lv_at hl 2 rfl) ?_
        exact th_iret hx hb hr hlocks hH hS (z := ch) rch (by exact ⟨rfl, by omega⟩) dX9_childCount_70
      · replace c_4 := mt (I_le (a := t.z) (b := k) ⟨by omega, by omega⟩ rk).mpr c_4
        refine lv_aload_n hx hb dX9_childCount_28 rfl (lv_at hl 0 rfl) ?_
        refine th_get (ci := 9) (C := RX9) (T := TX9) (N := 5) (v := .ref t.d) hx hb hts inX9 hown hK hH cT rfl 3 (by decide) fl1 rfl dX9_childCount_29 ?_
        refine lv_iload_n hx hb dX9_childCount_32 rfl (lv_at hl 3 rfl) ?_
        refine th_iald hx hb hK hH cD rk (by omega) (by omega) dX9_childCount_33 ?_
        have rz_5 := rng_toInt (t.fd k.toNat)
        generalize ez_5 : (t.fd k.toNat).toInt = z_5 at rz_5 ⊢
        refine lv_aload_n hx hb dX9_childCount_34 rfl (lv_at hl 0 rfl) ?_
        refine th_get (ci := 9) (C := RX9) (T := TX9) (N := 5) (v := .ref t.d) hx hb hts inX9 hown hK hH cT rfl 3 (by decide) fl1 rfl dX9_childCount_35 ?_
        refine lv_iload_n hx hb dX9_childCount_38 rfl (lv_at hl 1 rfl) ?_
        refine th_iald hx hb hK hH cD ri (by omega) (by omega) dX9_childCount_39 ?_
        have rz_6 := rng_toInt (t.fd i.toNat)
        generalize ez_6 : (t.fd i.toNat).toInt = z_6 at rz_6 ⊢
        refine lv_icmp_le (tgt := 69) hx hb dX9_childCount_40 (by decide) (fun c_7 => ?_) (fun c_7 => ?_)
        · replace c_7 := (I_le (a := z_5) (b := z_6) rz_5 rz_6).mp c_7
          refine lv_iload_n hx hb dX9_childCount_69 rfl (lv_at hl 2 rfl) ?_
          exact th_iret hx hb hr hlocks hH hS (z := ch) rch (by exact ⟨rfl, by omega⟩) dX9_childCount_70
        · replace c_7 := mt (I_le (a := z_5) (b := z_6) rz_5 rz_6).mpr c_7
          refine lv_aload_n hx hb dX9_childCount_43 rfl (lv_at hl 0 rfl) ?_
          refine th_get (ci := 9) (C := RX9) (T := TX9) (N := 5) (v := .ref t.d) hx hb hts inX9 hown hK hH cT rfl 3 (by decide) fl1 rfl dX9_childCount_44 ?_
          refine lv_iload_n hx hb dX9_childCount_47 rfl (lv_at hl 3 rfl) ?_
          refine th_iald hx hb hK hH cD rk (by omega) (by omega) dX9_childCount_48 ?_
          have rz_8 := rng_toInt (t.fd k.toNat)
          generalize ez_8 : (t.fd k.toNat).toInt = z_8 at rz_8 ⊢
          refine lv_aload_n hx hb dX9_childCount_49 rfl (lv_at hl 0 rfl) ?_
          refine th_get (ci := 9) (C := RX9) (T := TX9) (N := 5) (v := .ref t.d) hx hb hts inX9 hown hK hH cT rfl 3 (by decide) fl1 rfl dX9_childCount_50 ?_
          refine lv_iload_n hx hb dX9_childCount_53 rfl (lv_at hl 1 rfl) ?_
          refine th_iald hx hb hK hH cD ri (by omega) (by omega) dX9_childCount_54 ?_
          have rz_9 := rng_toInt (t.fd i.toNat)
          generalize ez_9 : (t.fd i.toNat).toInt = z_9 at rz_9 ⊢
          refine lv_iconst (v := I 1) hx hb dX9_childCount_55 (by decide) ?_
          refine lv_iadd hx hb dX9_childCount_56 ?_
          refine nq_top (I_add _ _) ?_
          refine lv_icmp_ne (tgt := 63) hx hb dX9_childCount_57 (by decide) (fun c_10 => ?_) (fun c_10 => ?_)
          · replace c_10 := mt (I_eq (a := z_8) (b := z_9 + 1) rz_8 ⟨by omega, by omega⟩).mpr c_10
            refine lv_iinc (v := I (k + 1)) (lv' := [(3, .int (I (k + 1))), (0, .ref a), (1, .int (I i)), (2, .int (I ch))]) hx hb dX9_childCount_63 hl (k := 3) rfl (I_add _ _) (by decide) rfl (fun ls hl => ?_)
            refine lv_goto (tgt := 20) hx hb dX9_childCount_66 (by decide) ?_
            exact ihJ_3 (ch, k + 1) _ _ _ _ (by omega) ⟨rfl, hH, hS, lv_sub hl [1, 2, 3, 0] rfl, rch, ⟨by omega, by omega⟩, by omega, by omega, by omega, by omega, by omega⟩
          · replace c_10 := (I_eq (a := z_8) (b := z_9 + 1) rz_8 ⟨by omega, by omega⟩).mp c_10
            refine lv_iinc (v := I (ch + 1)) (lv' := [(2, .int (I (ch + 1))), (0, .ref a), (1, .int (I i)), (3, .int (I k))]) hx hb dX9_childCount_60 hl (k := 2) rfl (I_add _ _) (by decide) rfl (fun ls hl => ?_)
            refine lv_iinc (v := I (k + 1)) (lv' := [(3, .int (I (k + 1))), (2, .int (I (ch + 1))), (0, .ref a), (1, .int (I i))]) hx hb dX9_childCount_63 hl (k := 3) rfl (I_add _ _) (by decide) rfl (fun ls hl => ?_)
            refine lv_goto (tgt := 20) hx hb dX9_childCount_66 (by decide) ?_
            exact ihJ_3 (ch + 1, k + 1) _ _ _ _ (by omega) ⟨rfl, hH, hS, lv_sub hl [2, 3, 1, 0] rfl, ⟨by omega, by omega⟩, ⟨by omega, by omega⟩, by omega, by omega, by omega, by omega, by omega⟩
    · replace c_2 := mt (I_lt (a := i) (b := t.z) ri ⟨by omega, by omega⟩).mpr c_2
      refine lv_iconst (v := I 0) hx hb dX9_childCount_12 (by decide) ?_
      exact th_iret hx hb hr hlocks hH hS (z := 0) (show rng 0 from ⟨by decide, by decide⟩) (by exact ⟨rfl, by omega⟩) dX9_childCount_13

set_option maxHeartbeats 1000000 in
set_option maxRecDepth 100000 in
theorem t_childAt (l : Launch) (G : va_G) (y : Nat → ClassId) (b0 : Nat) (σ : th_M) (a : Nat) (t : TV) (i : Int) (j : Int) (hT : isT y σ a t) (ri : rng i) (rj : rng j) : Met l yX9_childAt wsX9_childAt ({ frames := 0, cells := 0, slots := 0, locals := 0 }) (th_P G y b0 σ [.ref a, .int (I i), .int (I j)]) (th_Qi G b0 (fun r σ1 => σ1 = σ ∧ (r = -1 ∨ (0 ≤ i ∧ i < r ∧ r < t.z)))) 0 0 (th_A b0) := by
  refine Met.ofW (cc := cX9_childAt) (maxL := 5) (ret := (some .int)) (by decide) rfl ?_
  intro p e s m args below meth c s₁ B hml hv
  obtain ⟨rfl, hH, hK⟩ := hv
  have hx := B.exec
  have hb := B.bytes
  have hr := B.returns
  have hts := atoms_spec (ws := wsX9_childAt) B.pre
  have hown : s.vm.findClass RX9 = some m.cls := findClass_of_methodNamed B.named
  have hlocks := B.notSynchronized
  have h00 : b0 ≤ s.heap.size := hH.1
  have hS : va_S (th_A b0) s.heap s.heap [] := va_S.rf
  have hTq := hT; obtain ⟨cT, cK, cV, cY, cD, z0, zn, nn⟩ := hTq
  have inX9 : ∀ w ∈ wsX90, w ∈ wsX9_childAt := by decide +kernel
  have fl0 := hts (.fieldLink RX9 24 "NestQuery$Tree" "size" "I") (by decide +kernel)
  have fl1 := hts (.fieldLink RX9 21 "NestQuery$Tree" "depths" "[I") (by decide +kernel)
  have hl := lv_entry ([.ref a, .int (I i), .int (I j)]) (n := 5) (Nat.le_of_ble_eq_true rfl)
  rw [lg_entry_eq]
  generalize (lg_sl ([.ref a, .int (I i), .int (I j)]) ++ List.replicate (5 - (lg_sl ([.ref a, .int (I i), .int (I j)])).length) Slot.unset).toArray = ls at hl ⊢
  have hl : lv_has ls 5 [(0, .ref a), (1, .int (I i)), (2, .int (I j))] := hl
  refine lv_iload_n hx hb dX9_childAt_0 rfl (lv_at hl 1 rfl) ?_
  refine lv_if_lt (tgt := 12) hx hb dX9_childAt_1 (by decide) (fun c_1 => ?_) (fun c_1 => ?_)
  · replace c_1 := (I_lt (a := i) (b := 0) ri (show rng 0 from ⟨by decide, by decide⟩)).mp c_1
    refine lv_iconst (v := I (-1)) hx hb dX9_childAt_12 (by decide) ?_
    exact th_iret hx hb hr hlocks hH hS (z := (-1)) (show rng (-1) from ⟨by decide, by decide⟩) (by exact ⟨rfl, by omega⟩) dX9_childAt_13
  · replace c_1 := mt (I_lt (a := i) (b := 0) ri (show rng 0 from ⟨by decide, by decide⟩)).mpr c_1
    refine lv_iload_n hx hb dX9_childAt_4 rfl (lv_at hl 1 rfl) ?_
    refine lv_aload_n hx hb dX9_childAt_5 rfl (lv_at hl 0 rfl) ?_
    refine th_get (ci := 9) (C := RX9) (T := TX9) (N := 5) (v := .int (I t.z)) hx hb hts inX9 hown hK hH cT rfl 4 (by decide) fl0 rfl dX9_childAt_6 ?_
    refine lv_icmp_lt (tgt := 14) hx hb dX9_childAt_9 (by decide) (fun c_2 => ?_) (fun c_2 => ?_)
    · replace c_2 := (I_lt (a := i) (b := t.z) ri ⟨by omega, by omega⟩).mp c_2
      refine lv_iconst (v := I 0) hx hb dX9_childAt_14 (by decide) ?_
      refine lv_istore_n (lv' := [(3, .int (I 0)), (0, .ref a), (1, .int (I i)), (2, .int (I j))]) hx hb dX9_childAt_15 rfl hl (by decide) rfl (fun ls hl => ?_)
      refine lv_iload_n hx hb dX9_childAt_16 rfl (lv_at hl 2 rfl) ?_
      refine lv_iconst (v := I 1) hx hb dX9_childAt_17 (by decide) ?_
      refine lv_iadd hx hb dX9_childAt_18 ?_
      refine nq_top (I_add _ _) ?_
      refine lv_istore (lv' := [(4, .int (I (i + 1))), (3, .int (I 0)), (0, .ref a), (1, .int (I i)), (2, .int (I j))]) hx hb dX9_childAt_19 hl (by decide) rfl (fun ls hl => ?_)
      refine th_loop (α := Int × Int) (pc := 21) (fun x9 => (t.z - x9.2).toNat) (fun x9 σ9 H9 l9 ls9 => σ = σ9 ∧ th_H G b0 σ9 H9 ∧ va_S (th_A b0) s.heap H9 l9 ∧ lv_has ls9 5 [(0, .ref a), (1, .int (I i)), (2, .int (I j)), (3, .int (I x9.1)), (4, .int (I x9.2))] ∧ rng x9.1 ∧ rng x9.2 ∧ (i + 1 ≤ x9.2) ∧ (x9.2 ≤ t.z) ∧ (0 ≤ i) ∧ (0 ≤ x9.1) ∧ (x9.1 < x9.2)) ?_ (0, i + 1) σ _ _ _ ⟨rfl, hH, hS, lv_sub hl [2, 3, 4, 1, 0] rfl, (show rng 0 from ⟨by decide, by decide⟩), ⟨by omega, by omega⟩, by omega, by omega, by omega, by omega, by omega⟩
      intro x9 σ9 H locs ls hI9 ihJ_3
      obtain ⟨se, k⟩ := x9
      obtain ⟨eJ_3, hH, hS, hl, rse, rk, J_3_0, J_3_1, J_3_2, J_3_3, J_3_4⟩ := hI9
      subst eJ_3
      have hl : lv_has ls 5 [(0, .ref a), (1, .int (I i)), (2, .int (I j)), (3, .int (I se)), (4, .int (I k))] := hl
      have rse : rng se := rse
      have rk : rng k := rk
      have J_3_0 : i + 1 ≤ k := J_3_0
      have J_3_1 : k ≤ t.z := J_3_1
      have J_3_2 : 0 ≤ i := J_3_2
      have J_3_3 : 0 ≤ se := J_3_3
      have J_3_4 : se < k := J_3_4
      refine lv_iload hx hb dX9_childAt_21 (lv_at hl 4 rfl) ?_
      refine lv_aload_n hx hb dX9_childAt_23 rfl (lv_at hl 0 rfl) ?_
      refine th_get (ci := 9) (C := RX9) (T := TX9) (N := 5) (v := .int (I t.z)) hx hb hts inX9 hown hK hH cT rfl 4 (by decide) fl0 rfl dX9_childAt_24 ?_
      refine lv_icmp_ge (tgt := 81) hx hb dX9_childAt_27 (by decide) (fun c_4 => ?_) (fun c_4 => ?_)
      · replace c_4 := (I_le (a := t.z) (b := k) ⟨by omega, by omega⟩ rk).mp c_4
        refine lv_iconst (v := I (-1)) hx hb dX9_childAt_81 (by decide) ?_
        exact th_iret hx hb hr hlocks hH hS (z := (-1)) (show rng (-1) from ⟨by decide, by decide⟩) (by exact ⟨rfl, by omega⟩) dX9_childAt_82
      · replace c_4 := mt (I_le (a := t.z) (b := k) ⟨by omega, by omega⟩ rk).mpr c_4
        refine lv_aload_n hx hb dX9_childAt_30 rfl (lv_at hl 0 rfl) ?_
        refine th_get (ci := 9) (C := RX9) (T := TX9) (N := 5) (v := .ref t.d) hx hb hts inX9 hown hK hH cT rfl 3 (by decide) fl1 rfl dX9_childAt_31 ?_
        refine lv_iload hx hb dX9_childAt_34 (lv_at hl 4 rfl) ?_
        refine th_iald hx hb hK hH cD rk (by omega) (by omega) dX9_childAt_36 ?_
        have rz_5 := rng_toInt (t.fd k.toNat)
        generalize ez_5 : (t.fd k.toNat).toInt = z_5 at rz_5 ⊢
        refine lv_aload_n hx hb dX9_childAt_37 rfl (lv_at hl 0 rfl) ?_
        refine th_get (ci := 9) (C := RX9) (T := TX9) (N := 5) (v := .ref t.d) hx hb hts inX9 hown hK hH cT rfl 3 (by decide) fl1 rfl dX9_childAt_38 ?_
        refine lv_iload_n hx hb dX9_childAt_41 rfl (lv_at hl 1 rfl) ?_
        refine th_iald hx hb hK hH cD ri (by omega) (by omega) dX9_childAt_42 ?_
        have rz_6 := rng_toInt (t.fd i.toNat)
        generalize ez_6 : (t.fd i.toNat).toInt = z_6 at rz_6 ⊢
        refine lv_icmp_le (tgt := 81) hx hb dX9_childAt_43 (by decide) (fun c_7 => ?_) (fun c_7 => ?_)
        · replace c_7 := (I_le (a := z_5) (b := z_6) rz_5 rz_6).mp c_7
          refine lv_iconst (v := I (-1)) hx hb dX9_childAt_81 (by decide) ?_
          exact th_iret hx hb hr hlocks hH hS (z := (-1)) (show rng (-1) from ⟨by decide, by decide⟩) (by exact ⟨rfl, by omega⟩) dX9_childAt_82
        · replace c_7 := mt (I_le (a := z_5) (b := z_6) rz_5 rz_6).mpr c_7
          refine lv_aload_n hx hb dX9_childAt_46 rfl (lv_at hl 0 rfl) ?_
          refine th_get (ci := 9) (C := RX9) (T := TX9) (N := 5) (v := .ref t.d) hx hb hts inX9 hown hK hH cT rfl 3 (by decide) fl1 rfl dX9_childAt_47 ?_
          refine lv_iload hx hb dX9_childAt_50 (lv_at hl 4 rfl) ?_
          refine th_iald hx hb hK hH cD rk (by omega) (by omega) dX9_childAt_52 ?_
          have rz_8 := rng_toInt (t.fd k.toNat)
          generalize ez_8 : (t.fd k.toNat).toInt = z_8 at rz_8 ⊢
          refine lv_aload_n hx hb dX9_childAt_53 rfl (lv_at hl 0 rfl) ?_
          refine th_get (ci := 9) (C := RX9) (T := TX9) (N := 5) (v := .ref t.d) hx hb hts inX9 hown hK hH cT rfl 3 (by decide) fl1 rfl dX9_childAt_54 ?_
          refine lv_iload_n hx hb dX9_childAt_57 rfl (lv_at hl 1 rfl) ?_
          refine th_iald hx hb hK hH cD ri (by omega) (by omega) dX9_childAt_58 ?_
          have rz_9 := rng_toInt (t.fd i.toNat)
          generalize ez_9 : (t.fd i.toNat).toInt = z_9 at rz_9 ⊢
          refine lv_iconst (v := I 1) hx hb dX9_childAt_59 (by decide) ?_
          refine lv_iadd hx hb dX9_childAt_60 ?_
          refine nq_top (I_add _ _) ?_
          refine lv_icmp_ne (tgt := 75) hx hb dX9_childAt_61 (by decide) (fun c_10 => ?_) (fun c_10 => ?_)
          · replace c_10 := mt (I_eq (a := z_8) (b := z_9 + 1) rz_8 ⟨by omega, by omega⟩).mpr c_10
            refine lv_iinc (v := I (k + 1)) (lv' := [(4, .int (I (k + 1))), (0, .ref a), (1, .int (I i)), (2, .int (I j)), (3, .int (I se))]) hx hb dX9_childAt_75 hl (k := 4) rfl (I_add _ _) (by decide) rfl (fun ls hl => ?_)
            refine lv_goto (tgt := 21) hx hb dX9_childAt_78 (by decide) ?_
            exact ihJ_3 (se, k + 1) _ _ _ _ (by omega) ⟨rfl, hH, hS, lv_sub hl [1, 2, 3, 4, 0] rfl, rse, ⟨by omega, by omega⟩, by omega, by omega, by omega, by omega, by omega⟩
          · replace c_10 := (I_eq (a := z_8) (b := z_9 + 1) rz_8 ⟨by omega, by omega⟩).mp c_10
            refine lv_iload_n hx hb dX9_childAt_64 rfl (lv_at hl 3 rfl) ?_
            refine lv_iload_n hx hb dX9_childAt_65 rfl (lv_at hl 2 rfl) ?_
            refine lv_icmp_ne (tgt := 72) hx hb dX9_childAt_66 (by decide) (fun c_11 => ?_) (fun c_11 => ?_)
            · replace c_11 := mt (I_eq (a := se) (b := j) rse rj).mpr c_11
              refine lv_iinc (v := I (se + 1)) (lv' := [(3, .int (I (se + 1))), (0, .ref a), (1, .int (I i)), (2, .int (I j)), (4, .int (I k))]) hx hb dX9_childAt_72 hl (k := 3) rfl (I_add _ _) (by decide) rfl (fun ls hl => ?_)
              refine lv_iinc (v := I (k + 1)) (lv' := [(4, .int (I (k + 1))), (3, .int (I (se + 1))), (0, .ref a), (1, .int (I i)), (2, .int (I j))]) hx hb dX9_childAt_75 hl (k := 4) rfl (I_add _ _) (by decide) rfl (fun ls hl => ?_)
              refine lv_goto (tgt := 21) hx hb dX9_childAt_78 (by decide) ?_
              exact ihJ_3 (se + 1, k + 1) _ _ _ _ (by omega) ⟨rfl, hH, hS, lv_sub hl [2, 3, 4, 1, 0] rfl, ⟨by omega, by omega⟩, ⟨by omega, by omega⟩, by omega, by omega, by omega, by omega, by omega⟩
            · replace c_11 := (I_eq (a := se) (b := j) rse rj).mp c_11
              refine lv_iload hx hb dX9_childAt_69 (lv_at hl 4 rfl) ?_
              exact th_iret hx hb hr hlocks hH hS (z := k) rk (by exact ⟨rfl, by omega⟩) dX9_childAt_71
    · replace c_2 := mt (I_lt (a := i) (b := t.z) ri ⟨by omega, by omega⟩).mpr c_2
      refine lv_iconst (v := I (-1)) hx hb dX9_childAt_12 (by decide) ?_
      exact th_iret hx hb hr hlocks hH hS (z := (-1)) (show rng (-1) from ⟨by decide, by decide⟩) (by exact ⟨rfl, by omega⟩) dX9_childAt_13

set_option maxHeartbeats 1000000 in
set_option maxRecDepth 100000 in
theorem t_childBy (l : Launch) (G : va_G) (y : Nat → ClassId) (b0 : Nat) (σ : th_M) (a : Nat) (t : TV) (i : Int) (j : Int) (hT : isT y σ a t) (ri : rng i) (rj : rng j) : Met l yX9_childBy wsX9_childBy ({ frames := 0, cells := 0, slots := 0, locals := 0 }) (th_P G y b0 σ [.ref a, .int (I i), .int (I j)]) (th_Qi G b0 (fun r σ1 => σ1 = σ ∧ (r = -1 ∨ (0 ≤ i ∧ i < r ∧ r < t.z)))) 0 0 (th_A b0) := by
  refine Met.ofW (cc := cX9_childBy) (maxL := 4) (ret := (some .int)) (by decide) rfl ?_
  intro p e s m args below meth c s₁ B hml hv
  obtain ⟨rfl, hH, hK⟩ := hv
  have hx := B.exec
  have hb := B.bytes
  have hr := B.returns
  have hts := atoms_spec (ws := wsX9_childBy) B.pre
  have hown : s.vm.findClass RX9 = some m.cls := findClass_of_methodNamed B.named
  have hlocks := B.notSynchronized
  have h00 : b0 ≤ s.heap.size := hH.1
  have hS : va_S (th_A b0) s.heap s.heap [] := va_S.rf
  have hTq := hT; obtain ⟨cT, cK, cV, cY, cD, z0, zn, nn⟩ := hTq
  have inX9 : ∀ w ∈ wsX90, w ∈ wsX9_childBy := by decide +kernel
  have fl0 := hts (.fieldLink RX9 24 "NestQuery$Tree" "size" "I") (by decide +kernel)
  have fl1 := hts (.fieldLink RX9 9 "NestQuery$Tree" "kinds" "[I") (by decide +kernel)
  have fl2 := hts (.fieldLink RX9 21 "NestQuery$Tree" "depths" "[I") (by decide +kernel)
  have fl3 := hts (.fieldLink RX9 18 "NestQuery$Tree" "keys" "[I") (by decide +kernel)
  have hl := lv_entry ([.ref a, .int (I i), .int (I j)]) (n := 4) (Nat.le_of_ble_eq_true rfl)
  rw [lg_entry_eq]
  generalize (lg_sl ([.ref a, .int (I i), .int (I j)]) ++ List.replicate (4 - (lg_sl ([.ref a, .int (I i), .int (I j)])).length) Slot.unset).toArray = ls at hl ⊢
  have hl : lv_has ls 4 [(0, .ref a), (1, .int (I i)), (2, .int (I j))] := hl
  refine lv_iload_n hx hb dX9_childBy_0 rfl (lv_at hl 1 rfl) ?_
  refine lv_if_lt (tgt := 22) hx hb dX9_childBy_1 (by decide) (fun c_1 => ?_) (fun c_1 => ?_)
  · replace c_1 := (I_lt (a := i) (b := 0) ri (show rng 0 from ⟨by decide, by decide⟩)).mp c_1
    refine lv_iconst (v := I (-1)) hx hb dX9_childBy_22 (by decide) ?_
    exact th_iret hx hb hr hlocks hH hS (z := (-1)) (show rng (-1) from ⟨by decide, by decide⟩) (by exact ⟨rfl, by omega⟩) dX9_childBy_23
  · replace c_1 := mt (I_lt (a := i) (b := 0) ri (show rng 0 from ⟨by decide, by decide⟩)).mpr c_1
    refine lv_iload_n hx hb dX9_childBy_4 rfl (lv_at hl 1 rfl) ?_
    refine lv_aload_n hx hb dX9_childBy_5 rfl (lv_at hl 0 rfl) ?_
    refine th_get (ci := 9) (C := RX9) (T := TX9) (N := 5) (v := .int (I t.z)) hx hb hts inX9 hown hK hH cT rfl 4 (by decide) fl0 rfl dX9_childBy_6 ?_
    refine lv_icmp_ge (tgt := 22) hx hb dX9_childBy_9 (by decide) (fun c_2 => ?_) (fun c_2 => ?_)
    · replace c_2 := (I_le (a := t.z) (b := i) ⟨by omega, by omega⟩ ri).mp c_2
      refine lv_iconst (v := I (-1)) hx hb dX9_childBy_22 (by decide) ?_
      exact th_iret hx hb hr hlocks hH hS (z := (-1)) (show rng (-1) from ⟨by decide, by decide⟩) (by exact ⟨rfl, by omega⟩) dX9_childBy_23
    · replace c_2 := mt (I_le (a := t.z) (b := i) ⟨by omega, by omega⟩ ri).mpr c_2
      refine lv_aload_n hx hb dX9_childBy_12 rfl (lv_at hl 0 rfl) ?_
      refine th_get (ci := 9) (C := RX9) (T := TX9) (N := 5) (v := .ref t.k) hx hb hts inX9 hown hK hH cT rfl 0 (by decide) fl1 rfl dX9_childBy_13 ?_
      refine lv_iload_n hx hb dX9_childBy_16 rfl (lv_at hl 1 rfl) ?_
      refine th_iald hx hb hK hH cK ri (by omega) (by omega) dX9_childBy_17 ?_
      have rz_3 := rng_toInt (t.fk i.toNat)
      generalize ez_3 : (t.fk i.toNat).toInt = z_3 at rz_3 ⊢
      refine lv_iconst (v := I 3) hx hb dX9_childBy_18 (by decide) ?_
      refine lv_icmp_eq (tgt := 24) hx hb dX9_childBy_19 (by decide) (fun c_4 => ?_) (fun c_4 => ?_)
      · replace c_4 := (I_eq (a := z_3) (b := 3) rz_3 (show rng 3 from ⟨by decide, by decide⟩)).mp c_4
        refine lv_iload_n hx hb dX9_childBy_24 rfl (lv_at hl 1 rfl) ?_
        refine lv_iconst (v := I 1) hx hb dX9_childBy_25 (by decide) ?_
        refine lv_iadd hx hb dX9_childBy_26 ?_
        refine nq_top (I_add _ _) ?_
        refine lv_istore_n (lv' := [(3, .int (I (i + 1))), (0, .ref a), (1, .int (I i)), (2, .int (I j))]) hx hb dX9_childBy_27 rfl hl (by decide) rfl (fun ls hl => ?_)
        refine th_loop (α := Int) (pc := 28) (fun x9 => (t.z - x9).toNat) (fun x9 σ9 H9 l9 ls9 => σ = σ9 ∧ th_H G b0 σ9 H9 ∧ va_S (th_A b0) s.heap H9 l9 ∧ lv_has ls9 4 [(0, .ref a), (1, .int (I i)), (2, .int (I j)), (3, .int (I x9))] ∧ rng x9 ∧ (i + 1 ≤ x9) ∧ (x9 ≤ t.z) ∧ (0 ≤ i)) ?_ (i + 1) σ _ _ _ ⟨rfl, hH, hS, lv_sub hl [1, 2, 3, 0] rfl, ⟨by omega, by omega⟩, by omega, by omega, by omega⟩
        intro x9 σ9 H locs ls hI9 ihJ_5
        obtain ⟨k, ex9⟩ : ∃ z, z = x9 := ⟨_, rfl⟩
        subst ex9
        obtain ⟨eJ_5, hH, hS, hl, rk, J_5_0, J_5_1, J_5_2⟩ := hI9
        subst eJ_5
        have hl : lv_has ls 4 [(0, .ref a), (1, .int (I i)), (2, .int (I j)), (3, .int (I k))] := hl
        have rk : rng k := rk
        have J_5_0 : i + 1 ≤ k := J_5_0
        have J_5_1 : k ≤ t.z := J_5_1
        have J_5_2 : 0 ≤ i := J_5_2
        refine lv_iload_n hx hb dX9_childBy_28 rfl (lv_at hl 3 rfl) ?_
        refine lv_aload_n hx hb dX9_childBy_29 rfl (lv_at hl 0 rfl) ?_
        refine th_get (ci := 9) (C := RX9) (T := TX9) (N := 5) (v := .int (I t.z)) hx hb hts inX9 hown hK hH cT rfl 4 (by decide) fl0 rfl dX9_childBy_30 ?_
        refine lv_icmp_ge (tgt := 86) hx hb dX9_childBy_33 (by decide) (fun c_6 => ?_) (fun c_6 => ?_)
        · replace c_6 := (I_le (a := t.z) (b := k) ⟨by omega, by omega⟩ rk).mp c_6
          refine lv_iconst (v := I (-1)) hx hb dX9_childBy_86 (by decide) ?_
          exact th_iret hx hb hr hlocks hH hS (z := (-1)) (show rng (-1) from ⟨by decide, by decide⟩) (by exact ⟨rfl, by omega⟩) dX9_childBy_87
        · replace c_6 := mt (I_le (a := t.z) (b := k) ⟨by omega, by omega⟩ rk).mpr c_6
          refine lv_aload_n hx hb dX9_childBy_36 rfl (lv_at hl 0 rfl) ?_
          refine th_get (ci := 9) (C := RX9) (T := TX9) (N := 5) (v := .ref t.d) hx hb hts inX9 hown hK hH cT rfl 3 (by decide) fl2 rfl dX9_childBy_37 ?_
          refine lv_iload_n hx hb dX9_childBy_40 rfl (lv_at hl 3 rfl) ?_
          refine th_iald hx hb hK hH cD rk (by omega) (by omega) dX9_childBy_41 ?_
          have rz_7 := rng_toInt (t.fd k.toNat)
          generalize ez_7 : (t.fd k.toNat).toInt = z_7 at rz_7 ⊢
          refine lv_aload_n hx hb dX9_childBy_42 rfl (lv_at hl 0 rfl) ?_
          refine th_get (ci := 9) (C := RX9) (T := TX9) (N := 5) (v := .ref t.d) hx hb hts inX9 hown hK hH cT rfl 3 (by decide) fl2 rfl dX9_childBy_43 ?_
          refine lv_iload_n hx hb dX9_childBy_46 rfl (lv_at hl 1 rfl) ?_
          refine th_iald hx hb hK hH cD ri (by omega) (by omega) dX9_childBy_47 ?_
          have rz_8 := rng_toInt (t.fd i.toNat)
          generalize ez_8 : (t.fd i.toNat).toInt = z_8 at rz_8 ⊢
          refine lv_icmp_le (tgt := 86) hx hb dX9_childBy_48 (by decide) (fun c_9 => ?_) (fun c_9 => ?_)
          · replace c_9 := (I_le (a := z_7) (b := z_8) rz_7 rz_8).mp c_9
            refine lv_iconst (v := I (-1)) hx hb dX9_childBy_86 (by decide) ?_
            exact th_iret hx hb hr hlocks hH hS (z := (-1)) (show rng (-1) from ⟨by decide, by decide⟩) (by exact ⟨rfl, by omega⟩) dX9_childBy_87
          · replace c_9 := mt (I_le (a := z_7) (b := z_8) rz_7 rz_8).mpr c_9
            refine lv_aload_n hx hb dX9_childBy_51 rfl (lv_at hl 0 rfl) ?_
            refine th_get (ci := 9) (C := RX9) (T := TX9) (N := 5) (v := .ref t.d) hx hb hts inX9 hown hK hH cT rfl 3 (by decide) fl2 rfl dX9_childBy_52 ?_
            refine lv_iload_n hx hb dX9_childBy_55 rfl (lv_at hl 3 rfl) ?_
            refine th_iald hx hb hK hH cD rk (by omega) (by omega) dX9_childBy_56 ?_
            have rz_10 := rng_toInt (t.fd k.toNat)
            generalize ez_10 : (t.fd k.toNat).toInt = z_10 at rz_10 ⊢
            refine lv_aload_n hx hb dX9_childBy_57 rfl (lv_at hl 0 rfl) ?_
            refine th_get (ci := 9) (C := RX9) (T := TX9) (N := 5) (v := .ref t.d) hx hb hts inX9 hown hK hH cT rfl 3 (by decide) fl2 rfl dX9_childBy_58 ?_
            refine lv_iload_n hx hb dX9_childBy_61 rfl (lv_at hl 1 rfl) ?_
            refine th_iald hx hb hK hH cD ri (by omega) (by omega) dX9_childBy_62 ?_
            have rz_11 := rng_toInt (t.fd i.toNat)
            generalize ez_11 : (t.fd i.toNat).toInt = z_11 at rz_11 ⊢
            refine lv_iconst (v := I 1) hx hb dX9_childBy_63 (by decide) ?_
            refine lv_iadd hx hb dX9_childBy_64 ?_
            refine nq_top (I_add _ _) ?_
            refine lv_icmp_ne (tgt := 80) hx hb dX9_childBy_65 (by decide) (fun c_12 => ?_) (fun c_12 => ?_)
            · replace c_12 := mt (I_eq (a := z_10) (b := z_11 + 1) rz_10 ⟨by omega, by omega⟩).mpr c_12
              refine lv_iinc (v := I (k + 1)) (lv' := [(3, .int (I (k + 1))), (0, .ref a), (1, .int (I i)), (2, .int (I j))]) hx hb dX9_childBy_80 hl (k := 3) rfl (I_add _ _) (by decide) rfl (fun ls hl => ?_)
              refine lv_goto (tgt := 28) hx hb dX9_childBy_83 (by decide) ?_
              exact ihJ_5 (k + 1) _ _ _ _ (by omega) ⟨rfl, hH, hS, lv_sub hl [1, 2, 3, 0] rfl, ⟨by omega, by omega⟩, by omega, by omega, by omega⟩
            · replace c_12 := (I_eq (a := z_10) (b := z_11 + 1) rz_10 ⟨by omega, by omega⟩).mp c_12
              refine lv_aload_n hx hb dX9_childBy_68 rfl (lv_at hl 0 rfl) ?_
              refine th_get (ci := 9) (C := RX9) (T := TX9) (N := 5) (v := .ref t.y) hx hb hts inX9 hown hK hH cT rfl 2 (by decide) fl3 rfl dX9_childBy_69 ?_
              refine lv_iload_n hx hb dX9_childBy_72 rfl (lv_at hl 3 rfl) ?_
              refine th_iald hx hb hK hH cY rk (by omega) (by omega) dX9_childBy_73 ?_
              have rz_13 := rng_toInt (t.fy k.toNat)
              generalize ez_13 : (t.fy k.toNat).toInt = z_13 at rz_13 ⊢
              refine lv_iload_n hx hb dX9_childBy_74 rfl (lv_at hl 2 rfl) ?_
              refine lv_icmp_ne (tgt := 80) hx hb dX9_childBy_75 (by decide) (fun c_14 => ?_) (fun c_14 => ?_)
              · replace c_14 := mt (I_eq (a := z_13) (b := j) rz_13 rj).mpr c_14
                refine lv_iinc (v := I (k + 1)) (lv' := [(3, .int (I (k + 1))), (0, .ref a), (1, .int (I i)), (2, .int (I j))]) hx hb dX9_childBy_80 hl (k := 3) rfl (I_add _ _) (by decide) rfl (fun ls hl => ?_)
                refine lv_goto (tgt := 28) hx hb dX9_childBy_83 (by decide) ?_
                exact ihJ_5 (k + 1) _ _ _ _ (by omega) ⟨rfl, hH, hS, lv_sub hl [1, 2, 3, 0] rfl, ⟨by omega, by omega⟩, by omega, by omega, by omega⟩
              · replace c_14 := (I_eq (a := z_13) (b := j) rz_13 rj).mp c_14
                refine lv_iload_n hx hb dX9_childBy_78 rfl (lv_at hl 3 rfl) ?_
                exact th_iret hx hb hr hlocks hH hS (z := k) rk (by exact ⟨rfl, by omega⟩) dX9_childBy_79
      · replace c_4 := mt (I_eq (a := z_3) (b := 3) rz_3 (show rng 3 from ⟨by decide, by decide⟩)).mpr c_4
        refine lv_iconst (v := I (-1)) hx hb dX9_childBy_22 (by decide) ?_
        exact th_iret hx hb hr hlocks hH hS (z := (-1)) (show rng (-1) from ⟨by decide, by decide⟩) (by exact ⟨rfl, by omega⟩) dX9_childBy_23

set_option maxHeartbeats 1000000 in
set_option maxRecDepth 100000 in
theorem t_listed (l : Launch) (G : va_G) (y : Nat → ClassId) (b0 : Nat) (σ : th_M) (a : Nat) (t : TV) (i : Int) (j : Int) (hT : isT y σ a t) (ri : rng i) (rj : rng j) : Met l yX9_listed wsX9_listed ({ frames := 0, cells := 0, slots := 0, locals := 0 }) (th_P G y b0 σ [.ref a, .int (I i), .int (I j)]) (th_Qi G b0 (fun r σ1 => σ1 = σ ∧ (r = -1 ∨ (0 ≤ i ∧ i < r ∧ r < t.z)))) 0 0 (th_A b0) := by
  refine Met.ofW (cc := cX9_listed) (maxL := 6) (ret := (some .int)) (by decide) rfl ?_
  intro p e s m args below meth c s₁ B hml hv
  obtain ⟨rfl, hH, hK⟩ := hv
  have hx := B.exec
  have hb := B.bytes
  have hr := B.returns
  have hts := atoms_spec (ws := wsX9_listed) B.pre
  have hown : s.vm.findClass RX9 = some m.cls := findClass_of_methodNamed B.named
  have hlocks := B.notSynchronized
  have h00 : b0 ≤ s.heap.size := hH.1
  have hS : va_S (th_A b0) s.heap s.heap [] := va_S.rf
  have hTq := hT; obtain ⟨cT, cK, cV, cY, cD, z0, zn, nn⟩ := hTq
  have inX9 : ∀ w ∈ wsX90, w ∈ wsX9_listed := by decide +kernel
  have fl0 := hts (.fieldLink RX9 24 "NestQuery$Tree" "size" "I") (by decide +kernel)
  have fl1 := hts (.fieldLink RX9 9 "NestQuery$Tree" "kinds" "[I") (by decide +kernel)
  have fl2 := hts (.fieldLink RX9 21 "NestQuery$Tree" "depths" "[I") (by decide +kernel)
  have hl := lv_entry ([.ref a, .int (I i), .int (I j)]) (n := 6) (Nat.le_of_ble_eq_true rfl)
  rw [lg_entry_eq]
  generalize (lg_sl ([.ref a, .int (I i), .int (I j)]) ++ List.replicate (6 - (lg_sl ([.ref a, .int (I i), .int (I j)])).length) Slot.unset).toArray = ls at hl ⊢
  have hl : lv_has ls 6 [(0, .ref a), (1, .int (I i)), (2, .int (I j))] := hl
  refine lv_iload_n hx hb dX9_listed_0 rfl (lv_at hl 1 rfl) ?_
  refine lv_if_lt (tgt := 22) hx hb dX9_listed_1 (by decide) (fun c_1 => ?_) (fun c_1 => ?_)
  · replace c_1 := (I_lt (a := i) (b := 0) ri (show rng 0 from ⟨by decide, by decide⟩)).mp c_1
    refine lv_iconst (v := I (-1)) hx hb dX9_listed_22 (by decide) ?_
    exact th_iret hx hb hr hlocks hH hS (z := (-1)) (show rng (-1) from ⟨by decide, by decide⟩) (by exact ⟨rfl, by omega⟩) dX9_listed_23
  · replace c_1 := mt (I_lt (a := i) (b := 0) ri (show rng 0 from ⟨by decide, by decide⟩)).mpr c_1
    refine lv_iload_n hx hb dX9_listed_4 rfl (lv_at hl 1 rfl) ?_
    refine lv_aload_n hx hb dX9_listed_5 rfl (lv_at hl 0 rfl) ?_
    refine th_get (ci := 9) (C := RX9) (T := TX9) (N := 5) (v := .int (I t.z)) hx hb hts inX9 hown hK hH cT rfl 4 (by decide) fl0 rfl dX9_listed_6 ?_
    refine lv_icmp_ge (tgt := 22) hx hb dX9_listed_9 (by decide) (fun c_2 => ?_) (fun c_2 => ?_)
    · replace c_2 := (I_le (a := t.z) (b := i) ⟨by omega, by omega⟩ ri).mp c_2
      refine lv_iconst (v := I (-1)) hx hb dX9_listed_22 (by decide) ?_
      exact th_iret hx hb hr hlocks hH hS (z := (-1)) (show rng (-1) from ⟨by decide, by decide⟩) (by exact ⟨rfl, by omega⟩) dX9_listed_23
    · replace c_2 := mt (I_le (a := t.z) (b := i) ⟨by omega, by omega⟩ ri).mpr c_2
      refine lv_aload_n hx hb dX9_listed_12 rfl (lv_at hl 0 rfl) ?_
      refine th_get (ci := 9) (C := RX9) (T := TX9) (N := 5) (v := .ref t.k) hx hb hts inX9 hown hK hH cT rfl 0 (by decide) fl1 rfl dX9_listed_13 ?_
      refine lv_iload_n hx hb dX9_listed_16 rfl (lv_at hl 1 rfl) ?_
      refine th_iald hx hb hK hH cK ri (by omega) (by omega) dX9_listed_17 ?_
      have rz_3 := rng_toInt (t.fk i.toNat)
      generalize ez_3 : (t.fk i.toNat).toInt = z_3 at rz_3 ⊢
      refine lv_iconst (v := I 2) hx hb dX9_listed_18 (by decide) ?_
      refine lv_icmp_eq (tgt := 24) hx hb dX9_listed_19 (by decide) (fun c_4 => ?_) (fun c_4 => ?_)
      · replace c_4 := (I_eq (a := z_3) (b := 2) rz_3 (show rng 2 from ⟨by decide, by decide⟩)).mp c_4
        refine lv_iconst (v := I 0) hx hb dX9_listed_24 (by decide) ?_
        refine lv_istore_n (lv' := [(3, .int (I 0)), (0, .ref a), (1, .int (I i)), (2, .int (I j))]) hx hb dX9_listed_25 rfl hl (by decide) rfl (fun ls hl => ?_)
        refine lv_iload_n hx hb dX9_listed_26 rfl (lv_at hl 2 rfl) ?_
        refine lv_iconst (v := I 1) hx hb dX9_listed_27 (by decide) ?_
        refine lv_iadd hx hb dX9_listed_28 ?_
        refine nq_top (I_add _ _) ?_
        refine lv_istore (lv' := [(4, .int (I (i + 1))), (3, .int (I 0)), (0, .ref a), (1, .int (I i)), (2, .int (I j))]) hx hb dX9_listed_29 hl (by decide) rfl (fun ls hl => ?_)
        refine th_loop (α := Int × Int) (pc := 31) (fun x9 => (t.z - x9.2).toNat) (fun x9 σ9 H9 l9 ls9 => σ = σ9 ∧ th_H G b0 σ9 H9 ∧ va_S (th_A b0) s.heap H9 l9 ∧ lv_has ls9 6 [(0, .ref a), (1, .int (I i)), (2, .int (I j)), (3, .int (I x9.1)), (4, .int (I x9.2))] ∧ rng x9.1 ∧ rng x9.2 ∧ (i + 1 ≤ x9.2) ∧ (x9.2 ≤ t.z) ∧ (0 ≤ i) ∧ (0 ≤ x9.1) ∧ (x9.1 < x9.2) ∧ (j < 0 ∨ x9.1 = 0)) ?_ (0, i + 1) σ _ _ _ ⟨rfl, hH, hS, lv_sub hl [2, 3, 4, 1, 0] rfl, (show rng 0 from ⟨by decide, by decide⟩), ⟨by omega, by omega⟩, by omega, by omega, by omega, by omega, by omega, by omega⟩
        intro x9 σ9 H locs ls hI9 ihJ_5
        obtain ⟨ln, k⟩ := x9
        obtain ⟨eJ_5, hH, hS, hl, rln, rk, J_5_0, J_5_1, J_5_2, J_5_3, J_5_4, J_5_5⟩ := hI9
        subst eJ_5
        have hl : lv_has ls 6 [(0, .ref a), (1, .int (I i)), (2, .int (I j)), (3, .int (I ln)), (4, .int (I k))] := hl
        have rln : rng ln := rln
        have rk : rng k := rk
        have J_5_0 : i + 1 ≤ k := J_5_0
        have J_5_1 : k ≤ t.z := J_5_1
        have J_5_2 : 0 ≤ i := J_5_2
        have J_5_3 : 0 ≤ ln := J_5_3
        have J_5_4 : ln < k := J_5_4
        have J_5_5 : j < 0 ∨ ln = 0 := J_5_5
        refine lv_iload_n hx hb dX9_listed_31 rfl (lv_at hl 2 rfl) ?_
        refine lv_if_ge (tgt := 87) hx hb dX9_listed_32 (by decide) (fun c_6 => ?_) (fun c_6 => ?_)
        · replace c_6 := (I_le (a := 0) (b := j) (show rng 0 from ⟨by decide, by decide⟩) rj).mp c_6
          refine lv_iconst (v := I 0) hx hb dX9_listed_87 (by decide) ?_
          refine lv_istore (lv' := [(4, .int (I 0)), (0, .ref a), (1, .int (I i)), (2, .int (I j)), (3, .int (I ln))]) hx hb dX9_listed_88 hl (by decide) rfl (fun ls hl => ?_)
          refine lv_iload_n hx hb dX9_listed_90 rfl (lv_at hl 2 rfl) ?_
          refine lv_iconst (v := I 1) hx hb dX9_listed_91 (by decide) ?_
          refine lv_iadd hx hb dX9_listed_92 ?_
          refine nq_top (I_add _ _) ?_
          refine lv_istore (lv' := [(5, .int (I (i + 1))), (4, .int (I 0)), (0, .ref a), (1, .int (I i)), (2, .int (I j)), (3, .int (I ln))]) hx hb dX9_listed_93 hl (by decide) rfl (fun ls hl => ?_)
          refine th_loop (α := Int × Int) (pc := 95) (fun x9 => (t.z - x9.2).toNat) (fun x9 σ9 H9 l9 ls9 => σ = σ9 ∧ th_H G b0 σ9 H9 ∧ va_S (th_A b0) s.heap H9 l9 ∧ lv_has ls9 6 [(0, .ref a), (1, .int (I i)), (2, .int (I j)), (3, .int (I ln)), (4, .int (I x9.1)), (5, .int (I x9.2))] ∧ rng x9.1 ∧ rng x9.2 ∧ (i + 1 ≤ x9.2) ∧ (x9.2 ≤ t.z) ∧ (0 ≤ x9.1) ∧ (x9.1 < x9.2)) ?_ (0, i + 1) σ _ _ _ ⟨rfl, hH, hS, lv_sub hl [2, 3, 4, 5, 1, 0] rfl, (show rng 0 from ⟨by decide, by decide⟩), ⟨by omega, by omega⟩, by omega, by omega, by omega, by omega⟩
          intro x9 σ9 H locs ls hI9 ihJ_7
          obtain ⟨se, k2⟩ := x9
          obtain ⟨eJ_7, hH, hS, hl, rse, rk2, J_7_0, J_7_1, J_7_2, J_7_3⟩ := hI9
          subst eJ_7
          have hl : lv_has ls 6 [(0, .ref a), (1, .int (I i)), (2, .int (I j)), (3, .int (I ln)), (4, .int (I se)), (5, .int (I k2))] := hl
          have rse : rng se := rse
          have rk2 : rng k2 := rk2
          have J_7_0 : i + 1 ≤ k2 := J_7_0
          have J_7_1 : k2 ≤ t.z := J_7_1
          have J_7_2 : 0 ≤ se := J_7_2
          have J_7_3 : se < k2 := J_7_3
          refine lv_iload hx hb dX9_listed_95 (lv_at hl 5 rfl) ?_
          refine lv_aload_n hx hb dX9_listed_97 rfl (lv_at hl 0 rfl) ?_
          refine th_get (ci := 9) (C := RX9) (T := TX9) (N := 5) (v := .int (I t.z)) hx hb hts inX9 hown hK hH cT rfl 4 (by decide) fl0 rfl dX9_listed_98 ?_
          refine lv_icmp_ge (tgt := 158) hx hb dX9_listed_101 (by decide) (fun c_8 => ?_) (fun c_8 => ?_)
          · replace c_8 := (I_le (a := t.z) (b := k2) ⟨by omega, by omega⟩ rk2).mp c_8
            refine lv_iconst (v := I (-1)) hx hb dX9_listed_158 (by decide) ?_
            exact th_iret hx hb hr hlocks hH hS (z := (-1)) (show rng (-1) from ⟨by decide, by decide⟩) (by exact ⟨rfl, by omega⟩) dX9_listed_159
          · replace c_8 := mt (I_le (a := t.z) (b := k2) ⟨by omega, by omega⟩ rk2).mpr c_8
            refine lv_aload_n hx hb dX9_listed_104 rfl (lv_at hl 0 rfl) ?_
            refine th_get (ci := 9) (C := RX9) (T := TX9) (N := 5) (v := .ref t.d) hx hb hts inX9 hown hK hH cT rfl 3 (by decide) fl2 rfl dX9_listed_105 ?_
            refine lv_iload hx hb dX9_listed_108 (lv_at hl 5 rfl) ?_
            refine th_iald hx hb hK hH cD rk2 (by omega) (by omega) dX9_listed_110 ?_
            have rz_9 := rng_toInt (t.fd k2.toNat)
            generalize ez_9 : (t.fd k2.toNat).toInt = z_9 at rz_9 ⊢
            refine lv_aload_n hx hb dX9_listed_111 rfl (lv_at hl 0 rfl) ?_
            refine th_get (ci := 9) (C := RX9) (T := TX9) (N := 5) (v := .ref t.d) hx hb hts inX9 hown hK hH cT rfl 3 (by decide) fl2 rfl dX9_listed_112 ?_
            refine lv_iload_n hx hb dX9_listed_115 rfl (lv_at hl 1 rfl) ?_
            refine th_iald hx hb hK hH cD ri (by omega) (by omega) dX9_listed_116 ?_
            have rz_10 := rng_toInt (t.fd i.toNat)
            generalize ez_10 : (t.fd i.toNat).toInt = z_10 at rz_10 ⊢
            refine lv_icmp_le (tgt := 158) hx hb dX9_listed_117 (by decide) (fun c_11 => ?_) (fun c_11 => ?_)
            · replace c_11 := (I_le (a := z_9) (b := z_10) rz_9 rz_10).mp c_11
              refine lv_iconst (v := I (-1)) hx hb dX9_listed_158 (by decide) ?_
              exact th_iret hx hb hr hlocks hH hS (z := (-1)) (show rng (-1) from ⟨by decide, by decide⟩) (by exact ⟨rfl, by omega⟩) dX9_listed_159
            · replace c_11 := mt (I_le (a := z_9) (b := z_10) rz_9 rz_10).mpr c_11
              refine lv_aload_n hx hb dX9_listed_120 rfl (lv_at hl 0 rfl) ?_
              refine th_get (ci := 9) (C := RX9) (T := TX9) (N := 5) (v := .ref t.d) hx hb hts inX9 hown hK hH cT rfl 3 (by decide) fl2 rfl dX9_listed_121 ?_
              refine lv_iload hx hb dX9_listed_124 (lv_at hl 5 rfl) ?_
              refine th_iald hx hb hK hH cD rk2 (by omega) (by omega) dX9_listed_126 ?_
              have rz_12 := rng_toInt (t.fd k2.toNat)
              generalize ez_12 : (t.fd k2.toNat).toInt = z_12 at rz_12 ⊢
              refine lv_aload_n hx hb dX9_listed_127 rfl (lv_at hl 0 rfl) ?_
              refine th_get (ci := 9) (C := RX9) (T := TX9) (N := 5) (v := .ref t.d) hx hb hts inX9 hown hK hH cT rfl 3 (by decide) fl2 rfl dX9_listed_128 ?_
              refine lv_iload_n hx hb dX9_listed_131 rfl (lv_at hl 1 rfl) ?_
              refine th_iald hx hb hK hH cD ri (by omega) (by omega) dX9_listed_132 ?_
              have rz_13 := rng_toInt (t.fd i.toNat)
              generalize ez_13 : (t.fd i.toNat).toInt = z_13 at rz_13 ⊢
              refine lv_iconst (v := I 1) hx hb dX9_listed_133 (by decide) ?_
              refine lv_iadd hx hb dX9_listed_134 ?_
              refine nq_top (I_add _ _) ?_
              refine lv_icmp_ne (tgt := 152) hx hb dX9_listed_135 (by decide) (fun c_14 => ?_) (fun c_14 => ?_)
              · replace c_14 := mt (I_eq (a := z_12) (b := z_13 + 1) rz_12 ⟨by omega, by omega⟩).mpr c_14
                refine lv_iinc (v := I (k2 + 1)) (lv' := [(5, .int (I (k2 + 1))), (0, .ref a), (1, .int (I i)), (2, .int (I j)), (3, .int (I ln)), (4, .int (I se))]) hx hb dX9_listed_152 hl (k := 5) rfl (I_add _ _) (by decide) rfl (fun ls hl => ?_)
                refine lv_goto (tgt := 95) hx hb dX9_listed_155 (by decide) ?_
                exact ihJ_7 (se, k2 + 1) _ _ _ _ (by omega) ⟨rfl, hH, hS, lv_sub hl [1, 2, 3, 4, 5, 0] rfl, rse, ⟨by omega, by omega⟩, by omega, by omega, by omega, by omega⟩
              · replace c_14 := (I_eq (a := z_12) (b := z_13 + 1) rz_12 ⟨by omega, by omega⟩).mp c_14
                refine lv_iload hx hb dX9_listed_138 (lv_at hl 4 rfl) ?_
                refine lv_iload_n hx hb dX9_listed_140 rfl (lv_at hl 2 rfl) ?_
                refine lv_iload_n hx hb dX9_listed_141 rfl (lv_at hl 3 rfl) ?_
                refine lv_iadd hx hb dX9_listed_142 ?_
                refine nq_top (I_add _ _) ?_
                refine lv_icmp_ne (tgt := 149) hx hb dX9_listed_143 (by decide) (fun c_15 => ?_) (fun c_15 => ?_)
                · replace c_15 := mt (I_eq (a := se) (b := j + ln) rse ⟨by omega, by omega⟩).mpr c_15
                  refine lv_iinc (v := I (se + 1)) (lv' := [(4, .int (I (se + 1))), (0, .ref a), (1, .int (I i)), (2, .int (I j)), (3, .int (I ln)), (5, .int (I k2))]) hx hb dX9_listed_149 hl (k := 4) rfl (I_add _ _) (by decide) rfl (fun ls hl => ?_)
                  refine lv_iinc (v := I (k2 + 1)) (lv' := [(5, .int (I (k2 + 1))), (4, .int (I (se + 1))), (0, .ref a), (1, .int (I i)), (2, .int (I j)), (3, .int (I ln))]) hx hb dX9_listed_152 hl (k := 5) rfl (I_add _ _) (by decide) rfl (fun ls hl => ?_)
                  refine lv_goto (tgt := 95) hx hb dX9_listed_155 (by decide) ?_
                  exact ihJ_7 (se + 1, k2 + 1) _ _ _ _ (by omega) ⟨rfl, hH, hS, lv_sub hl [2, 3, 4, 5, 1, 0] rfl, ⟨by omega, by omega⟩, ⟨by omega, by omega⟩, by omega, by omega, by omega, by omega⟩
                · replace c_15 := (I_eq (a := se) (b := j + ln) rse ⟨by omega, by omega⟩).mp c_15
                  refine lv_iload hx hb dX9_listed_146 (lv_at hl 5 rfl) ?_
                  exact th_iret hx hb hr hlocks hH hS (z := k2) rk2 (by exact ⟨rfl, by omega⟩) dX9_listed_148
        · replace c_6 := mt (I_le (a := 0) (b := j) (show rng 0 from ⟨by decide, by decide⟩) rj).mpr c_6
          refine lv_iload hx hb dX9_listed_35 (lv_at hl 4 rfl) ?_
          refine lv_aload_n hx hb dX9_listed_37 rfl (lv_at hl 0 rfl) ?_
          refine th_get (ci := 9) (C := RX9) (T := TX9) (N := 5) (v := .int (I t.z)) hx hb hts inX9 hown hK hH cT rfl 4 (by decide) fl0 rfl dX9_listed_38 ?_
          refine lv_icmp_ge (tgt := 87) hx hb dX9_listed_41 (by decide) (fun c_16 => ?_) (fun c_16 => ?_)
          · replace c_16 := (I_le (a := t.z) (b := k) ⟨by omega, by omega⟩ rk).mp c_16
            refine lv_iconst (v := I 0) hx hb dX9_listed_87 (by decide) ?_
            refine lv_istore (lv' := [(4, .int (I 0)), (0, .ref a), (1, .int (I i)), (2, .int (I j)), (3, .int (I ln))]) hx hb dX9_listed_88 hl (by decide) rfl (fun ls hl => ?_)
            refine lv_iload_n hx hb dX9_listed_90 rfl (lv_at hl 2 rfl) ?_
            refine lv_iconst (v := I 1) hx hb dX9_listed_91 (by decide) ?_
            refine lv_iadd hx hb dX9_listed_92 ?_
            refine nq_top (I_add _ _) ?_
            refine lv_istore (lv' := [(5, .int (I (i + 1))), (4, .int (I 0)), (0, .ref a), (1, .int (I i)), (2, .int (I j)), (3, .int (I ln))]) hx hb dX9_listed_93 hl (by decide) rfl (fun ls hl => ?_)
            refine th_loop (α := Int × Int) (pc := 95) (fun x9 => (t.z - x9.2).toNat) (fun x9 σ9 H9 l9 ls9 => σ = σ9 ∧ th_H G b0 σ9 H9 ∧ va_S (th_A b0) s.heap H9 l9 ∧ lv_has ls9 6 [(0, .ref a), (1, .int (I i)), (2, .int (I j)), (3, .int (I ln)), (4, .int (I x9.1)), (5, .int (I x9.2))] ∧ rng x9.1 ∧ rng x9.2 ∧ (i + 1 ≤ x9.2) ∧ (x9.2 ≤ t.z) ∧ (0 ≤ x9.1) ∧ (x9.1 < x9.2)) ?_ (0, i + 1) σ _ _ _ ⟨rfl, hH, hS, lv_sub hl [2, 3, 4, 5, 1, 0] rfl, (show rng 0 from ⟨by decide, by decide⟩), ⟨by omega, by omega⟩, by omega, by omega, by omega, by omega⟩
            intro x9 σ9 H locs ls hI9 ihJ_17
            obtain ⟨se, k2⟩ := x9
            obtain ⟨eJ_17, hH, hS, hl, rse, rk2, J_17_0, J_17_1, J_17_2, J_17_3⟩ := hI9
            subst eJ_17
            have hl : lv_has ls 6 [(0, .ref a), (1, .int (I i)), (2, .int (I j)), (3, .int (I ln)), (4, .int (I se)), (5, .int (I k2))] := hl
            have rse : rng se := rse
            have rk2 : rng k2 := rk2
            have J_17_0 : i + 1 ≤ k2 := J_17_0
            have J_17_1 : k2 ≤ t.z := J_17_1
            have J_17_2 : 0 ≤ se := J_17_2
            have J_17_3 : se < k2 := J_17_3
            refine lv_iload hx hb dX9_listed_95 (lv_at hl 5 rfl) ?_
            refine lv_aload_n hx hb dX9_listed_97 rfl (lv_at hl 0 rfl) ?_
            refine th_get (ci := 9) (C := RX9) (T := TX9) (N := 5) (v := .int (I t.z)) hx hb hts inX9 hown hK hH cT rfl 4 (by decide) fl0 rfl dX9_listed_98 ?_
            refine lv_icmp_ge (tgt := 158) hx hb dX9_listed_101 (by decide) (fun c_18 => ?_) (fun c_18 => ?_)
            · replace c_18 := (I_le (a := t.z) (b := k2) ⟨by omega, by omega⟩ rk2).mp c_18
              refine lv_iconst (v := I (-1)) hx hb dX9_listed_158 (by decide) ?_
              exact th_iret hx hb hr hlocks hH hS (z := (-1)) (show rng (-1) from ⟨by decide, by decide⟩) (by exact ⟨rfl, by omega⟩) dX9_listed_159
            · replace c_18 := mt (I_le (a := t.z) (b := k2) ⟨by omega, by omega⟩ rk2).mpr c_18
              refine lv_aload_n hx hb dX9_listed_104 rfl (lv_at hl 0 rfl) ?_
              refine th_get (ci := 9) (C := RX9) (T := TX9) (N := 5) (v := .ref t.d) hx hb hts inX9 hown hK hH cT rfl 3 (by decide) fl2 rfl dX9_listed_105 ?_
              refine lv_iload hx hb dX9_listed_108 (lv_at hl 5 rfl) ?_
              refine th_iald hx hb hK hH cD rk2 (by omega) (by omega) dX9_listed_110 ?_
              have rz_19 := rng_toInt (t.fd k2.toNat)
              generalize ez_19 : (t.fd k2.toNat).toInt = z_19 at rz_19 ⊢
              refine lv_aload_n hx hb dX9_listed_111 rfl (lv_at hl 0 rfl) ?_
              refine th_get (ci := 9) (C := RX9) (T := TX9) (N := 5) (v := .ref t.d) hx hb hts inX9 hown hK hH cT rfl 3 (by decide) fl2 rfl dX9_listed_112 ?_
              refine lv_iload_n hx hb dX9_listed_115 rfl (lv_at hl 1 rfl) ?_
              refine th_iald hx hb hK hH cD ri (by omega) (by omega) dX9_listed_116 ?_
              have rz_20 := rng_toInt (t.fd i.toNat)
              generalize ez_20 : (t.fd i.toNat).toInt = z_20 at rz_20 ⊢
              refine lv_icmp_le (tgt := 158) hx hb dX9_listed_117 (by decide) (fun c_21 => ?_) (fun c_21 => ?_)
              · replace c_21 := (I_le (a := z_19) (b := z_20) rz_19 rz_20).mp c_21
                refine lv_iconst (v := I (-1)) hx hb dX9_listed_158 (by decide) ?_
                exact th_iret hx hb hr hlocks hH hS (z := (-1)) (show rng (-1) from ⟨by decide, by decide⟩) (by exact ⟨rfl, by omega⟩) dX9_listed_159
              · replace c_21 := mt (I_le (a := z_19) (b := z_20) rz_19 rz_20).mpr c_21
                refine lv_aload_n hx hb dX9_listed_120 rfl (lv_at hl 0 rfl) ?_
                refine th_get (ci := 9) (C := RX9) (T := TX9) (N := 5) (v := .ref t.d) hx hb hts inX9 hown hK hH cT rfl 3 (by decide) fl2 rfl dX9_listed_121 ?_
                refine lv_iload hx hb dX9_listed_124 (lv_at hl 5 rfl) ?_
                refine th_iald hx hb hK hH cD rk2 (by omega) (by omega) dX9_listed_126 ?_
                have rz_22 := rng_toInt (t.fd k2.toNat)
                generalize ez_22 : (t.fd k2.toNat).toInt = z_22 at rz_22 ⊢
                refine lv_aload_n hx hb dX9_listed_127 rfl (lv_at hl 0 rfl) ?_
                refine th_get (ci := 9) (C := RX9) (T := TX9) (N := 5) (v := .ref t.d) hx hb hts inX9 hown hK hH cT rfl 3 (by decide) fl2 rfl dX9_listed_128 ?_
                refine lv_iload_n hx hb dX9_listed_131 rfl (lv_at hl 1 rfl) ?_
                refine th_iald hx hb hK hH cD ri (by omega) (by omega) dX9_listed_132 ?_
                have rz_23 := rng_toInt (t.fd i.toNat)
                generalize ez_23 : (t.fd i.toNat).toInt = z_23 at rz_23 ⊢
                refine lv_iconst (v := I 1) hx hb dX9_listed_133 (by decide) ?_
                refine lv_iadd hx hb dX9_listed_134 ?_
                refine nq_top (I_add _ _) ?_
                refine lv_icmp_ne (tgt := 152) hx hb dX9_listed_135 (by decide) (fun c_24 => ?_) (fun c_24 => ?_)
                · replace c_24 := mt (I_eq (a := z_22) (b := z_23 + 1) rz_22 ⟨by omega, by omega⟩).mpr c_24
                  refine lv_iinc (v := I (k2 + 1)) (lv' := [(5, .int (I (k2 + 1))), (0, .ref a), (1, .int (I i)), (2, .int (I j)), (3, .int (I ln)), (4, .int (I se))]) hx hb dX9_listed_152 hl (k := 5) rfl (I_add _ _) (by decide) rfl (fun ls hl => ?_)
                  refine lv_goto (tgt := 95) hx hb dX9_listed_155 (by decide) ?_
                  exact ihJ_17 (se, k2 + 1) _ _ _ _ (by omega) ⟨rfl, hH, hS, lv_sub hl [1, 2, 3, 4, 5, 0] rfl, rse, ⟨by omega, by omega⟩, by omega, by omega, by omega, by omega⟩
                · replace c_24 := (I_eq (a := z_22) (b := z_23 + 1) rz_22 ⟨by omega, by omega⟩).mp c_24
                  refine lv_iload hx hb dX9_listed_138 (lv_at hl 4 rfl) ?_
                  refine lv_iload_n hx hb dX9_listed_140 rfl (lv_at hl 2 rfl) ?_
                  refine lv_iload_n hx hb dX9_listed_141 rfl (lv_at hl 3 rfl) ?_
                  refine lv_iadd hx hb dX9_listed_142 ?_
                  refine nq_top (I_add _ _) ?_
                  refine lv_icmp_ne (tgt := 149) hx hb dX9_listed_143 (by decide) (fun c_25 => ?_) (fun c_25 => ?_)
                  · replace c_25 := mt (I_eq (a := se) (b := j + ln) rse ⟨by omega, by omega⟩).mpr c_25
                    refine lv_iinc (v := I (se + 1)) (lv' := [(4, .int (I (se + 1))), (0, .ref a), (1, .int (I i)), (2, .int (I j)), (3, .int (I ln)), (5, .int (I k2))]) hx hb dX9_listed_149 hl (k := 4) rfl (I_add _ _) (by decide) rfl (fun ls hl => ?_)
                    refine lv_iinc (v := I (k2 + 1)) (lv' := [(5, .int (I (k2 + 1))), (4, .int (I (se + 1))), (0, .ref a), (1, .int (I i)), (2, .int (I j)), (3, .int (I ln))]) hx hb dX9_listed_152 hl (k := 5) rfl (I_add _ _) (by decide) rfl (fun ls hl => ?_)
                    refine lv_goto (tgt := 95) hx hb dX9_listed_155 (by decide) ?_
                    exact ihJ_17 (se + 1, k2 + 1) _ _ _ _ (by omega) ⟨rfl, hH, hS, lv_sub hl [2, 3, 4, 5, 1, 0] rfl, ⟨by omega, by omega⟩, ⟨by omega, by omega⟩, by omega, by omega, by omega, by omega⟩
                  · replace c_25 := (I_eq (a := se) (b := j + ln) rse ⟨by omega, by omega⟩).mp c_25
                    refine lv_iload hx hb dX9_listed_146 (lv_at hl 5 rfl) ?_
                    exact th_iret hx hb hr hlocks hH hS (z := k2) rk2 (by exact ⟨rfl, by omega⟩) dX9_listed_148
          · replace c_16 := mt (I_le (a := t.z) (b := k) ⟨by omega, by omega⟩ rk).mpr c_16
            refine lv_aload_n hx hb dX9_listed_44 rfl (lv_at hl 0 rfl) ?_
            refine th_get (ci := 9) (C := RX9) (T := TX9) (N := 5) (v := .ref t.d) hx hb hts inX9 hown hK hH cT rfl 3 (by decide) fl2 rfl dX9_listed_45 ?_
            refine lv_iload hx hb dX9_listed_48 (lv_at hl 4 rfl) ?_
            refine th_iald hx hb hK hH cD rk (by omega) (by omega) dX9_listed_50 ?_
            have rz_26 := rng_toInt (t.fd k.toNat)
            generalize ez_26 : (t.fd k.toNat).toInt = z_26 at rz_26 ⊢
            refine lv_aload_n hx hb dX9_listed_51 rfl (lv_at hl 0 rfl) ?_
            refine th_get (ci := 9) (C := RX9) (T := TX9) (N := 5) (v := .ref t.d) hx hb hts inX9 hown hK hH cT rfl 3 (by decide) fl2 rfl dX9_listed_52 ?_
            refine lv_iload_n hx hb dX9_listed_55 rfl (lv_at hl 1 rfl) ?_
            refine th_iald hx hb hK hH cD ri (by omega) (by omega) dX9_listed_56 ?_
            have rz_27 := rng_toInt (t.fd i.toNat)
            generalize ez_27 : (t.fd i.toNat).toInt = z_27 at rz_27 ⊢
            refine lv_icmp_le (tgt := 87) hx hb dX9_listed_57 (by decide) (fun c_28 => ?_) (fun c_28 => ?_)
            · replace c_28 := (I_le (a := z_26) (b := z_27) rz_26 rz_27).mp c_28
              refine lv_iconst (v := I 0) hx hb dX9_listed_87 (by decide) ?_
              refine lv_istore (lv' := [(4, .int (I 0)), (0, .ref a), (1, .int (I i)), (2, .int (I j)), (3, .int (I ln))]) hx hb dX9_listed_88 hl (by decide) rfl (fun ls hl => ?_)
              refine lv_iload_n hx hb dX9_listed_90 rfl (lv_at hl 2 rfl) ?_
              refine lv_iconst (v := I 1) hx hb dX9_listed_91 (by decide) ?_
              refine lv_iadd hx hb dX9_listed_92 ?_
              refine nq_top (I_add _ _) ?_
              refine lv_istore (lv' := [(5, .int (I (i + 1))), (4, .int (I 0)), (0, .ref a), (1, .int (I i)), (2, .int (I j)), (3, .int (I ln))]) hx hb dX9_listed_93 hl (by decide) rfl (fun ls hl => ?_)
              refine th_loop (α := Int × Int) (pc := 95) (fun x9 => (t.z - x9.2).toNat) (fun x9 σ9 H9 l9 ls9 => σ = σ9 ∧ th_H G b0 σ9 H9 ∧ va_S (th_A b0) s.heap H9 l9 ∧ lv_has ls9 6 [(0, .ref a), (1, .int (I i)), (2, .int (I j)), (3, .int (I ln)), (4, .int (I x9.1)), (5, .int (I x9.2))] ∧ rng x9.1 ∧ rng x9.2 ∧ (i + 1 ≤ x9.2) ∧ (x9.2 ≤ t.z) ∧ (0 ≤ x9.1) ∧ (x9.1 < x9.2)) ?_ (0, i + 1) σ _ _ _ ⟨rfl, hH, hS, lv_sub hl [2, 3, 4, 5, 1, 0] rfl, (show rng 0 from ⟨by decide, by decide⟩), ⟨by omega, by omega⟩, by omega, by omega, by omega, by omega⟩
              intro x9 σ9 H locs ls hI9 ihJ_29
              obtain ⟨se, k2⟩ := x9
              obtain ⟨eJ_29, hH, hS, hl, rse, rk2, J_29_0, J_29_1, J_29_2, J_29_3⟩ := hI9
              subst eJ_29
              have hl : lv_has ls 6 [(0, .ref a), (1, .int (I i)), (2, .int (I j)), (3, .int (I ln)), (4, .int (I se)), (5, .int (I k2))] := hl
              have rse : rng se := rse
              have rk2 : rng k2 := rk2
              have J_29_0 : i + 1 ≤ k2 := J_29_0
              have J_29_1 : k2 ≤ t.z := J_29_1
              have J_29_2 : 0 ≤ se := J_29_2
              have J_29_3 : se < k2 := J_29_3
              refine lv_iload hx hb dX9_listed_95 (lv_at hl 5 rfl) ?_
              refine lv_aload_n hx hb dX9_listed_97 rfl (lv_at hl 0 rfl) ?_
              refine th_get (ci := 9) (C := RX9) (T := TX9) (N := 5) (v := .int (I t.z)) hx hb hts inX9 hown hK hH cT rfl 4 (by decide) fl0 rfl dX9_listed_98 ?_
              refine lv_icmp_ge (tgt := 158) hx hb dX9_listed_101 (by decide) (fun c_30 => ?_) (fun c_30 => ?_)
              · replace c_30 := (I_le (a := t.z) (b := k2) ⟨by omega, by omega⟩ rk2).mp c_30
                refine lv_iconst (v := I (-1)) hx hb dX9_listed_158 (by decide) ?_
                exact th_iret hx hb hr hlocks hH hS (z := (-1)) (show rng (-1) from ⟨by decide, by decide⟩) (by exact ⟨rfl, by omega⟩) dX9_listed_159
              · replace c_30 := mt (I_le (a := t.z) (b := k2) ⟨by omega, by omega⟩ rk2).mpr c_30
                refine lv_aload_n hx hb dX9_listed_104 rfl (lv_at hl 0 rfl) ?_
                refine th_get (ci := 9) (C := RX9) (T := TX9) (N := 5) (v := .ref t.d) hx hb hts inX9 hown hK hH cT rfl 3 (by decide) fl2 rfl dX9_listed_105 ?_
                refine lv_iload hx hb dX9_listed_108 (lv_at hl 5 rfl) ?_
                refine th_iald hx hb hK hH cD rk2 (by omega) (by omega) dX9_listed_110 ?_
                have rz_31 := rng_toInt (t.fd k2.toNat)
                generalize ez_31 : (t.fd k2.toNat).toInt = z_31 at rz_31 ⊢
                refine lv_aload_n hx hb dX9_listed_111 rfl (lv_at hl 0 rfl) ?_
                refine th_get (ci := 9) (C := RX9) (T := TX9) (N := 5) (v := .ref t.d) hx hb hts inX9 hown hK hH cT rfl 3 (by decide) fl2 rfl dX9_listed_112 ?_
                refine lv_iload_n hx hb dX9_listed_115 rfl (lv_at hl 1 rfl) ?_
                refine th_iald hx hb hK hH cD ri (by omega) (by omega) dX9_listed_116 ?_
                have rz_32 := rng_toInt (t.fd i.toNat)
                generalize ez_32 : (t.fd i.toNat).toInt = z_32 at rz_32 ⊢
                refine lv_icmp_le (tgt := 158) hx hb dX9_listed_117 (by decide) (fun c_33 => ?_) (fun c_33 => ?_)
                · replace c_33 := (I_le (a := z_31) (b := z_32) rz_31 rz_32).mp c_33
                  refine lv_iconst (v := I (-1)) hx hb dX9_listed_158 (by decide) ?_
                  exact th_iret hx hb hr hlocks hH hS (z := (-1)) (show rng (-1) from ⟨by decide, by decide⟩) (by exact ⟨rfl, by omega⟩) dX9_listed_159
                · replace c_33 := mt (I_le (a := z_31) (b := z_32) rz_31 rz_32).mpr c_33
                  refine lv_aload_n hx hb dX9_listed_120 rfl (lv_at hl 0 rfl) ?_
                  refine th_get (ci := 9) (C := RX9) (T := TX9) (N := 5) (v := .ref t.d) hx hb hts inX9 hown hK hH cT rfl 3 (by decide) fl2 rfl dX9_listed_121 ?_
                  refine lv_iload hx hb dX9_listed_124 (lv_at hl 5 rfl) ?_
                  refine th_iald hx hb hK hH cD rk2 (by omega) (by omega) dX9_listed_126 ?_
                  have rz_34 := rng_toInt (t.fd k2.toNat)
                  generalize ez_34 : (t.fd k2.toNat).toInt = z_34 at rz_34 ⊢
                  refine lv_aload_n hx hb dX9_listed_127 rfl (lv_at hl 0 rfl) ?_
                  refine th_get (ci := 9) (C := RX9) (T := TX9) (N := 5) (v := .ref t.d) hx hb hts inX9 hown hK hH cT rfl 3 (by decide) fl2 rfl dX9_listed_128 ?_
                  refine lv_iload_n hx hb dX9_listed_131 rfl (lv_at hl 1 rfl) ?_
                  refine th_iald hx hb hK hH cD ri (by omega) (by omega) dX9_listed_132 ?_
                  have rz_35 := rng_toInt (t.fd i.toNat)
                  generalize ez_35 : (t.fd i.toNat).toInt = z_35 at rz_35 ⊢
                  refine lv_iconst (v := I 1) hx hb dX9_listed_133 (by decide) ?_
                  refine lv_iadd hx hb dX9_listed_134 ?_
                  refine nq_top (I_add _ _) ?_
                  refine lv_icmp_ne (tgt := 152) hx hb dX9_listed_135 (by decide) (fun c_36 => ?_) (fun c_36 => ?_)
                  · replace c_36 := mt (I_eq (a := z_34) (b := z_35 + 1) rz_34 ⟨by omega, by omega⟩).mpr c_36
                    refine lv_iinc (v := I (k2 + 1)) (lv' := [(5, .int (I (k2 + 1))), (0, .ref a), (1, .int (I i)), (2, .int (I j)), (3, .int (I ln)), (4, .int (I se))]) hx hb dX9_listed_152 hl (k := 5) rfl (I_add _ _) (by decide) rfl (fun ls hl => ?_)
                    refine lv_goto (tgt := 95) hx hb dX9_listed_155 (by decide) ?_
                    exact ihJ_29 (se, k2 + 1) _ _ _ _ (by omega) ⟨rfl, hH, hS, lv_sub hl [1, 2, 3, 4, 5, 0] rfl, rse, ⟨by omega, by omega⟩, by omega, by omega, by omega, by omega⟩
                  · replace c_36 := (I_eq (a := z_34) (b := z_35 + 1) rz_34 ⟨by omega, by omega⟩).mp c_36
                    refine lv_iload hx hb dX9_listed_138 (lv_at hl 4 rfl) ?_
                    refine lv_iload_n hx hb dX9_listed_140 rfl (lv_at hl 2 rfl) ?_
                    refine lv_iload_n hx hb dX9_listed_141 rfl (lv_at hl 3 rfl) ?_
                    refine lv_iadd hx hb dX9_listed_142 ?_
                    refine nq_top (I_add _ _) ?_
                    refine lv_icmp_ne (tgt := 149) hx hb dX9_listed_143 (by decide) (fun c_37 => ?_) (fun c_37 => ?_)
                    · replace c_37 := mt (I_eq (a := se) (b := j + ln) rse ⟨by omega, by omega⟩).mpr c_37
                      refine lv_iinc (v := I (se + 1)) (lv' := [(4, .int (I (se + 1))), (0, .ref a), (1, .int (I i)), (2, .int (I j)), (3, .int (I ln)), (5, .int (I k2))]) hx hb dX9_listed_149 hl (k := 4) rfl (I_add _ _) (by decide) rfl (fun ls hl => ?_)
                      refine lv_iinc (v := I (k2 + 1)) (lv' := [(5, .int (I (k2 + 1))), (4, .int (I (se + 1))), (0, .ref a), (1, .int (I i)), (2, .int (I j)), (3, .int (I ln))]) hx hb dX9_listed_152 hl (k := 5) rfl (I_add _ _) (by decide) rfl (fun ls hl => ?_)
                      refine lv_goto (tgt := 95) hx hb dX9_listed_155 (by decide) ?_
                      exact ihJ_29 (se + 1, k2 + 1) _ _ _ _ (by omega) ⟨rfl, hH, hS, lv_sub hl [2, 3, 4, 5, 1, 0] rfl, ⟨by omega, by omega⟩, ⟨by omega, by omega⟩, by omega, by omega, by omega, by omega⟩
                    · replace c_37 := (I_eq (a := se) (b := j + ln) rse ⟨by omega, by omega⟩).mp c_37
                      refine lv_iload hx hb dX9_listed_146 (lv_at hl 5 rfl) ?_
                      exact th_iret hx hb hr hlocks hH hS (z := k2) rk2 (by exact ⟨rfl, by omega⟩) dX9_listed_148
            · replace c_28 := mt (I_le (a := z_26) (b := z_27) rz_26 rz_27).mpr c_28
              refine lv_aload_n hx hb dX9_listed_60 rfl (lv_at hl 0 rfl) ?_
              refine th_get (ci := 9) (C := RX9) (T := TX9) (N := 5) (v := .ref t.d) hx hb hts inX9 hown hK hH cT rfl 3 (by decide) fl2 rfl dX9_listed_61 ?_
              refine lv_iload hx hb dX9_listed_64 (lv_at hl 4 rfl) ?_
              refine th_iald hx hb hK hH cD rk (by omega) (by omega) dX9_listed_66 ?_
              have rz_38 := rng_toInt (t.fd k.toNat)
              generalize ez_38 : (t.fd k.toNat).toInt = z_38 at rz_38 ⊢
              refine lv_aload_n hx hb dX9_listed_67 rfl (lv_at hl 0 rfl) ?_
              refine th_get (ci := 9) (C := RX9) (T := TX9) (N := 5) (v := .ref t.d) hx hb hts inX9 hown hK hH cT rfl 3 (by decide) fl2 rfl dX9_listed_68 ?_
              refine lv_iload_n hx hb dX9_listed_71 rfl (lv_at hl 1 rfl) ?_
              refine th_iald hx hb hK hH cD ri (by omega) (by omega) dX9_listed_72 ?_
              have rz_39 := rng_toInt (t.fd i.toNat)
              generalize ez_39 : (t.fd i.toNat).toInt = z_39 at rz_39 ⊢
              refine lv_iconst (v := I 1) hx hb dX9_listed_73 (by decide) ?_
              refine lv_iadd hx hb dX9_listed_74 ?_
              refine nq_top (I_add _ _) ?_
              refine lv_icmp_ne (tgt := 81) hx hb dX9_listed_75 (by decide) (fun c_40 => ?_) (fun c_40 => ?_)
              · replace c_40 := mt (I_eq (a := z_38) (b := z_39 + 1) rz_38 ⟨by omega, by omega⟩).mpr c_40
                refine lv_iinc (v := I (k + 1)) (lv' := [(4, .int (I (k + 1))), (0, .ref a), (1, .int (I i)), (2, .int (I j)), (3, .int (I ln))]) hx hb dX9_listed_81 hl (k := 4) rfl (I_add _ _) (by decide) rfl (fun ls hl => ?_)
                refine lv_goto (tgt := 31) hx hb dX9_listed_84 (by decide) ?_
                exact ihJ_5 (ln, k + 1) _ _ _ _ (by omega) ⟨rfl, hH, hS, lv_sub hl [1, 2, 3, 4, 0] rfl, rln, ⟨by omega, by omega⟩, by omega, by omega, by omega, by omega, by omega, by omega⟩
              · replace c_40 := (I_eq (a := z_38) (b := z_39 + 1) rz_38 ⟨by omega, by omega⟩).mp c_40
                refine lv_iinc (v := I (ln + 1)) (lv' := [(3, .int (I (ln + 1))), (0, .ref a), (1, .int (I i)), (2, .int (I j)), (4, .int (I k))]) hx hb dX9_listed_78 hl (k := 3) rfl (I_add _ _) (by decide) rfl (fun ls hl => ?_)
                refine lv_iinc (v := I (k + 1)) (lv' := [(4, .int (I (k + 1))), (3, .int (I (ln + 1))), (0, .ref a), (1, .int (I i)), (2, .int (I j))]) hx hb dX9_listed_81 hl (k := 4) rfl (I_add _ _) (by decide) rfl (fun ls hl => ?_)
                refine lv_goto (tgt := 31) hx hb dX9_listed_84 (by decide) ?_
                exact ihJ_5 (ln + 1, k + 1) _ _ _ _ (by omega) ⟨rfl, hH, hS, lv_sub hl [2, 3, 4, 1, 0] rfl, ⟨by omega, by omega⟩, ⟨by omega, by omega⟩, by omega, by omega, by omega, by omega, by omega, by omega⟩
      · replace c_4 := mt (I_eq (a := z_3) (b := 2) rz_3 (show rng 2 from ⟨by decide, by decide⟩)).mpr c_4
        refine lv_iconst (v := I (-1)) hx hb dX9_listed_22 (by decide) ?_
        exact th_iret hx hb hr hlocks hH hS (z := (-1)) (show rng (-1) from ⟨by decide, by decide⟩) (by exact ⟨rfl, by omega⟩) dX9_listed_23

set_option maxHeartbeats 1000000 in
set_option maxRecDepth 100000 in
theorem t_countKind (l : Launch) (G : va_G) (y : Nat → ClassId) (b0 : Nat) (σ : th_M) (a : Nat) (t : TV) (i : Int) (hT : isT y σ a t) (ri : rng i) : Met l yX9_countKind wsX9_countKind ({ frames := 0, cells := 0, slots := 0, locals := 0 }) (th_P G y b0 σ [.ref a, .int (I i)]) (th_Qi G b0 (fun r σ1 => σ1 = σ ∧ (0 ≤ r ∧ r ≤ t.z))) 0 0 (th_A b0) := by
  refine Met.ofW (cc := cX9_countKind) (maxL := 4) (ret := (some .int)) (by decide) rfl ?_
  intro p e s m args below meth c s₁ B hml hv
  obtain ⟨rfl, hH, hK⟩ := hv
  have hx := B.exec
  have hb := B.bytes
  have hr := B.returns
  have hts := atoms_spec (ws := wsX9_countKind) B.pre
  have hown : s.vm.findClass RX9 = some m.cls := findClass_of_methodNamed B.named
  have hlocks := B.notSynchronized
  have h00 : b0 ≤ s.heap.size := hH.1
  have hS : va_S (th_A b0) s.heap s.heap [] := va_S.rf
  have hTq := hT; obtain ⟨cT, cK, cV, cY, cD, z0, zn, nn⟩ := hTq
  have inX9 : ∀ w ∈ wsX90, w ∈ wsX9_countKind := by decide +kernel
  have fl0 := hts (.fieldLink RX9 24 "NestQuery$Tree" "size" "I") (by decide +kernel)
  have fl1 := hts (.fieldLink RX9 9 "NestQuery$Tree" "kinds" "[I") (by decide +kernel)
  have hl := lv_entry ([.ref a, .int (I i)]) (n := 4) (Nat.le_of_ble_eq_true rfl)
  rw [lg_entry_eq]
  generalize (lg_sl ([.ref a, .int (I i)]) ++ List.replicate (4 - (lg_sl ([.ref a, .int (I i)])).length) Slot.unset).toArray = ls at hl ⊢
  have hl : lv_has ls 4 [(0, .ref a), (1, .int (I i))] := hl
  refine lv_iconst (v := I 0) hx hb dX9_countKind_0 (by decide) ?_
  refine lv_istore_n (lv' := [(2, .int (I 0)), (0, .ref a), (1, .int (I i))]) hx hb dX9_countKind_1 rfl hl (by decide) rfl (fun ls hl => ?_)
  refine lv_iconst (v := I 0) hx hb dX9_countKind_2 (by decide) ?_
  refine lv_istore_n (lv' := [(3, .int (I 0)), (2, .int (I 0)), (0, .ref a), (1, .int (I i))]) hx hb dX9_countKind_3 rfl hl (by decide) rfl (fun ls hl => ?_)
  refine th_loop (α := Int × Int) (pc := 4) (fun x9 => (t.z - x9.2).toNat) (fun x9 σ9 H9 l9 ls9 => σ = σ9 ∧ th_H G b0 σ9 H9 ∧ va_S (th_A b0) s.heap H9 l9 ∧ lv_has ls9 4 [(0, .ref a), (1, .int (I i)), (2, .int (I x9.1)), (3, .int (I x9.2))] ∧ rng x9.1 ∧ rng x9.2 ∧ (0 ≤ x9.2) ∧ (x9.2 ≤ t.z) ∧ (0 ≤ x9.1) ∧ (x9.1 ≤ x9.2)) ?_ (0, 0) σ _ _ _ ⟨rfl, hH, hS, lv_sub hl [2, 3, 1, 0] rfl, (show rng 0 from ⟨by decide, by decide⟩), (show rng 0 from ⟨by decide, by decide⟩), by omega, by omega, by omega, by omega⟩
  intro x9 σ9 H locs ls hI9 ihJ_1
  obtain ⟨fo, k⟩ := x9
  obtain ⟨eJ_1, hH, hS, hl, rfo, rk, J_1_0, J_1_1, J_1_2, J_1_3⟩ := hI9
  subst eJ_1
  have hl : lv_has ls 4 [(0, .ref a), (1, .int (I i)), (2, .int (I fo)), (3, .int (I k))] := hl
  have rfo : rng fo := rfo
  have rk : rng k := rk
  have J_1_0 : 0 ≤ k := J_1_0
  have J_1_1 : k ≤ t.z := J_1_1
  have J_1_2 : 0 ≤ fo := J_1_2
  have J_1_3 : fo ≤ k := J_1_3
  refine lv_iload_n hx hb dX9_countKind_4 rfl (lv_at hl 3 rfl) ?_
  refine lv_aload_n hx hb dX9_countKind_5 rfl (lv_at hl 0 rfl) ?_
  refine th_get (ci := 9) (C := RX9) (T := TX9) (N := 5) (v := .int (I t.z)) hx hb hts inX9 hown hK hH cT rfl 4 (by decide) fl0 rfl dX9_countKind_6 ?_
  refine lv_icmp_ge (tgt := 31) hx hb dX9_countKind_9 (by decide) (fun c_2 => ?_) (fun c_2 => ?_)
  · replace c_2 := (I_le (a := t.z) (b := k) ⟨by omega, by omega⟩ rk).mp c_2
    refine lv_iload_n hx hb dX9_countKind_31 rfl (lv_at hl 2 rfl) ?_
    exact th_iret hx hb hr hlocks hH hS (z := fo) rfo (by exact ⟨rfl, by omega⟩) dX9_countKind_32
  · replace c_2 := mt (I_le (a := t.z) (b := k) ⟨by omega, by omega⟩ rk).mpr c_2
    refine lv_aload_n hx hb dX9_countKind_12 rfl (lv_at hl 0 rfl) ?_
    refine th_get (ci := 9) (C := RX9) (T := TX9) (N := 5) (v := .ref t.k) hx hb hts inX9 hown hK hH cT rfl 0 (by decide) fl1 rfl dX9_countKind_13 ?_
    refine lv_iload_n hx hb dX9_countKind_16 rfl (lv_at hl 3 rfl) ?_
    refine th_iald hx hb hK hH cK rk (by omega) (by omega) dX9_countKind_17 ?_
    have rz_3 := rng_toInt (t.fk k.toNat)
    generalize ez_3 : (t.fk k.toNat).toInt = z_3 at rz_3 ⊢
    refine lv_iload_n hx hb dX9_countKind_18 rfl (lv_at hl 1 rfl) ?_
    refine lv_icmp_ne (tgt := 25) hx hb dX9_countKind_19 (by decide) (fun c_4 => ?_) (fun c_4 => ?_)
    · replace c_4 := mt (I_eq (a := z_3) (b := i) rz_3 ri).mpr c_4
      refine lv_iinc (v := I (k + 1)) (lv' := [(3, .int (I (k + 1))), (0, .ref a), (1, .int (I i)), (2, .int (I fo))]) hx hb dX9_countKind_25 hl (k := 3) rfl (I_add _ _) (by decide) rfl (fun ls hl => ?_)
      refine lv_goto (tgt := 4) hx hb dX9_countKind_28 (by decide) ?_
      exact ihJ_1 (fo, k + 1) _ _ _ _ (by omega) ⟨rfl, hH, hS, lv_sub hl [1, 2, 3, 0] rfl, rfo, ⟨by omega, by omega⟩, by omega, by omega, by omega, by omega⟩
    · replace c_4 := (I_eq (a := z_3) (b := i) rz_3 ri).mp c_4
      refine lv_iinc (v := I (fo + 1)) (lv' := [(2, .int (I (fo + 1))), (0, .ref a), (1, .int (I i)), (3, .int (I k))]) hx hb dX9_countKind_22 hl (k := 2) rfl (I_add _ _) (by decide) rfl (fun ls hl => ?_)
      refine lv_iinc (v := I (k + 1)) (lv' := [(3, .int (I (k + 1))), (2, .int (I (fo + 1))), (0, .ref a), (1, .int (I i))]) hx hb dX9_countKind_25 hl (k := 3) rfl (I_add _ _) (by decide) rfl (fun ls hl => ?_)
      refine lv_goto (tgt := 4) hx hb dX9_countKind_28 (by decide) ?_
      exact ihJ_1 (fo + 1, k + 1) _ _ _ _ (by omega) ⟨rfl, hH, hS, lv_sub hl [2, 3, 1, 0] rfl, ⟨by omega, by omega⟩, ⟨by omega, by omega⟩, by omega, by omega, by omega, by omega⟩

set_option maxHeartbeats 1000000 in
set_option maxRecDepth 100000 in
theorem t_sum (l : Launch) (G : va_G) (y : Nat → ClassId) (b0 : Nat) (σ : th_M) (a : Nat) (t : TV)  (hT : isT y σ a t)  : Met l yX9_sum wsX9_sum ({ frames := 0, cells := 0, slots := 0, locals := 0 }) (th_P G y b0 σ [.ref a]) (th_Qi G b0 (fun r σ1 => σ1 = σ ∧ (True))) 0 0 (th_A b0) := by
  refine Met.ofW (cc := cX9_sum) (maxL := 3) (ret := (some .int)) (by decide) rfl ?_
  intro p e s m args below meth c s₁ B hml hv
  obtain ⟨rfl, hH, hK⟩ := hv
  have hx := B.exec
  have hb := B.bytes
  have hr := B.returns
  have hts := atoms_spec (ws := wsX9_sum) B.pre
  have hown : s.vm.findClass RX9 = some m.cls := findClass_of_methodNamed B.named
  have hlocks := B.notSynchronized
  have h00 : b0 ≤ s.heap.size := hH.1
  have hS : va_S (th_A b0) s.heap s.heap [] := va_S.rf
  have hTq := hT; obtain ⟨cT, cK, cV, cY, cD, z0, zn, nn⟩ := hTq
  have inX9 : ∀ w ∈ wsX90, w ∈ wsX9_sum := by decide +kernel
  have fl0 := hts (.fieldLink RX9 24 "NestQuery$Tree" "size" "I") (by decide +kernel)
  have fl1 := hts (.fieldLink RX9 9 "NestQuery$Tree" "kinds" "[I") (by decide +kernel)
  have fl2 := hts (.fieldLink RX9 15 "NestQuery$Tree" "values" "[I") (by decide +kernel)
  have hl := lv_entry ([.ref a]) (n := 3) (Nat.le_of_ble_eq_true rfl)
  rw [lg_entry_eq]
  generalize (lg_sl ([.ref a]) ++ List.replicate (3 - (lg_sl ([.ref a])).length) Slot.unset).toArray = ls at hl ⊢
  have hl : lv_has ls 3 [(0, .ref a)] := hl
  refine lv_iconst (v := I 0) hx hb dX9_sum_0 (by decide) ?_
  refine lv_istore_n (lv' := [(1, .int (I 0)), (0, .ref a)]) hx hb dX9_sum_1 rfl hl (by decide) rfl (fun ls hl => ?_)
  refine lv_iconst (v := I 0) hx hb dX9_sum_2 (by decide) ?_
  refine lv_istore_n (lv' := [(2, .int (I 0)), (1, .int (I 0)), (0, .ref a)]) hx hb dX9_sum_3 rfl hl (by decide) rfl (fun ls hl => ?_)
  refine th_loop (α := Int × Int) (pc := 4) (fun x9 => (t.z - x9.2).toNat) (fun x9 σ9 H9 l9 ls9 => σ = σ9 ∧ th_H G b0 σ9 H9 ∧ va_S (th_A b0) s.heap H9 l9 ∧ lv_has ls9 3 [(0, .ref a), (1, .int (I x9.1)), (2, .int (I x9.2))] ∧ rng x9.1 ∧ rng x9.2 ∧ (0 ≤ x9.2) ∧ (x9.2 ≤ t.z)) ?_ (0, 0) σ _ _ _ ⟨rfl, hH, hS, lv_sub hl [2, 1, 0] rfl, (show rng 0 from ⟨by decide, by decide⟩), (show rng 0 from ⟨by decide, by decide⟩), by omega, by omega⟩
  intro x9 σ9 H locs ls hI9 ihJ_1
  obtain ⟨su, k⟩ := x9
  obtain ⟨eJ_1, hH, hS, hl, rsu, rk, J_1_0, J_1_1⟩ := hI9
  subst eJ_1
  have hl : lv_has ls 3 [(0, .ref a), (1, .int (I su)), (2, .int (I k))] := hl
  have rsu : rng su := rsu
  have rk : rng k := rk
  have J_1_0 : 0 ≤ k := J_1_0
  have J_1_1 : k ≤ t.z := J_1_1
  refine lv_iload_n hx hb dX9_sum_4 rfl (lv_at hl 2 rfl) ?_
  refine lv_aload_n hx hb dX9_sum_5 rfl (lv_at hl 0 rfl) ?_
  refine th_get (ci := 9) (C := RX9) (T := TX9) (N := 5) (v := .int (I t.z)) hx hb hts inX9 hown hK hH cT rfl 4 (by decide) fl0 rfl dX9_sum_6 ?_
  refine lv_icmp_ge (tgt := 36) hx hb dX9_sum_9 (by decide) (fun c_2 => ?_) (fun c_2 => ?_)
  · replace c_2 := (I_le (a := t.z) (b := k) ⟨by omega, by omega⟩ rk).mp c_2
    refine lv_iload_n hx hb dX9_sum_36 rfl (lv_at hl 1 rfl) ?_
    exact th_iret hx hb hr hlocks hH hS (z := su) rsu (by exact ⟨rfl, trivial⟩) dX9_sum_37
  · replace c_2 := mt (I_le (a := t.z) (b := k) ⟨by omega, by omega⟩ rk).mpr c_2
    refine lv_aload_n hx hb dX9_sum_12 rfl (lv_at hl 0 rfl) ?_
    refine th_get (ci := 9) (C := RX9) (T := TX9) (N := 5) (v := .ref t.k) hx hb hts inX9 hown hK hH cT rfl 0 (by decide) fl1 rfl dX9_sum_13 ?_
    refine lv_iload_n hx hb dX9_sum_16 rfl (lv_at hl 2 rfl) ?_
    refine th_iald hx hb hK hH cK rk (by omega) (by omega) dX9_sum_17 ?_
    have rz_3 := rng_toInt (t.fk k.toNat)
    generalize ez_3 : (t.fk k.toNat).toInt = z_3 at rz_3 ⊢
    refine lv_if_ne (tgt := 30) hx hb dX9_sum_18 (by decide) (fun c_4 => ?_) (fun c_4 => ?_)
    · replace c_4 := mt (I_eq (a := z_3) (b := 0) rz_3 (show rng 0 from ⟨by decide, by decide⟩)).mpr c_4
      refine lv_iinc (v := I (k + 1)) (lv' := [(2, .int (I (k + 1))), (0, .ref a), (1, .int (I su))]) hx hb dX9_sum_30 hl (k := 2) rfl (I_add _ _) (by decide) rfl (fun ls hl => ?_)
      refine lv_goto (tgt := 4) hx hb dX9_sum_33 (by decide) ?_
      exact ihJ_1 (su, k + 1) _ _ _ _ (by omega) ⟨rfl, hH, hS, lv_sub hl [1, 2, 0] rfl, rsu, ⟨by omega, by omega⟩, by omega, by omega⟩
    · replace c_4 := (I_eq (a := z_3) (b := 0) rz_3 (show rng 0 from ⟨by decide, by decide⟩)).mp c_4
      refine lv_iload_n hx hb dX9_sum_21 rfl (lv_at hl 1 rfl) ?_
      refine lv_aload_n hx hb dX9_sum_22 rfl (lv_at hl 0 rfl) ?_
      refine th_get (ci := 9) (C := RX9) (T := TX9) (N := 5) (v := .ref t.v) hx hb hts inX9 hown hK hH cT rfl 1 (by decide) fl2 rfl dX9_sum_23 ?_
      refine lv_iload_n hx hb dX9_sum_26 rfl (lv_at hl 2 rfl) ?_
      refine th_iald hx hb hK hH cV rk (by omega) (by omega) dX9_sum_27 ?_
      have rz_5 := rng_toInt (t.fv k.toNat)
      generalize ez_5 : (t.fv k.toNat).toInt = z_5 at rz_5 ⊢
      refine lv_iadd hx hb dX9_sum_28 ?_
      refine th_topi (fun z_6 rz_6 => ?_)
      refine lv_istore_n (lv' := [(1, .int (I z_6)), (0, .ref a), (2, .int (I k))]) hx hb dX9_sum_29 rfl hl (by decide) rfl (fun ls hl => ?_)
      refine lv_iinc (v := I (k + 1)) (lv' := [(2, .int (I (k + 1))), (1, .int (I z_6)), (0, .ref a)]) hx hb dX9_sum_30 hl (k := 2) rfl (I_add _ _) (by decide) rfl (fun ls hl => ?_)
      refine lv_goto (tgt := 4) hx hb dX9_sum_33 (by decide) ?_
      exact ihJ_1 (z_6, k + 1) _ _ _ _ (by omega) ⟨rfl, hH, hS, lv_sub hl [2, 1, 0] rfl, rz_6, ⟨by omega, by omega⟩, by omega, by omega⟩
