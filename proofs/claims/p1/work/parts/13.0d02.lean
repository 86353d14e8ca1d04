set_option maxRecDepth 20000 in
theorem gX10_oneYear_X0_moveThing : GoodIn wsX10_oneYear (wsV RX10 330 RX0 yX0_moveThing wsX0_moveThing) := goodIn_app (goodIn_of _ (by decide +kernel)) ggX10_oneYear_X0_moveThing
theorem dX10_oneYear_0 : decode cX10_oneYear 0 = .ok (.aload_n 0, 1) := by decide +kernel
theorem dX10_oneYear_1 : decode cX10_oneYear 1 = .ok (.getfield 103, 3) := by decide +kernel
theorem dX10_oneYear_4 : decode cX10_oneYear 4 = .ok (.iconst 5, 1) := by decide +kernel
theorem dX10_oneYear_5 : decode cX10_oneYear 5 = .ok (.invokevirtual 390, 3) := by decide +kernel
theorem dX10_oneYear_8 : decode cX10_oneYear 8 = .ok (.istore_n 1, 1) := by decide +kernel
theorem dX10_oneYear_9 : decode cX10_oneYear 9 = .ok (.iload_n 1, 1) := by decide +kernel
theorem dX10_oneYear_10 : decode cX10_oneYear 10 = .ok (.ifCond .ne 30, 3) := by decide +kernel
theorem dX10_oneYear_13 : decode cX10_oneYear 13 = .ok (.aload_n 0, 1) := by decide +kernel
theorem dX10_oneYear_14 : decode cX10_oneYear 14 = .ok (.getfield 103, 3) := by decide +kernel
theorem dX10_oneYear_17 : decode cX10_oneYear 17 = .ok (.iconst 4, 1) := by decide +kernel
theorem dX10_oneYear_18 : decode cX10_oneYear 18 = .ok (.invokevirtual 390, 3) := by decide +kernel
theorem dX10_oneYear_21 : decode cX10_oneYear 21 = .ok (.istore_n 2, 1) := by decide +kernel
theorem dX10_oneYear_22 : decode cX10_oneYear 22 = .ok (.aload_n 0, 1) := by decide +kernel
theorem dX10_oneYear_23 : decode cX10_oneYear 23 = .ok (.iload_n 2, 1) := by decide +kernel
theorem dX10_oneYear_24 : decode cX10_oneYear 24 = .ok (.aload_n 0, 1) := by decide +kernel
theorem dX10_oneYear_25 : decode cX10_oneYear 25 = .ok (.getfield 103, 3) := by decide +kernel
theorem dX10_oneYear_28 : decode cX10_oneYear 28 = .ok (.bipush 21, 2) := by decide +kernel
theorem dX10_oneYear_30 : decode cX10_oneYear 30 = .ok (.invokevirtual 390, 3) := by decide +kernel
theorem dX10_oneYear_33 : decode cX10_oneYear 33 = .ok (.bipush 10, 2) := by decide +kernel
theorem dX10_oneYear_35 : decode cX10_oneYear 35 = .ok (.isub, 1) := by decide +kernel
theorem dX10_oneYear_36 : decode cX10_oneYear 36 = .ok (.invokevirtual 324, 3) := by decide +kernel
theorem dX10_oneYear_39 : decode cX10_oneYear 39 = .ok (.ireturn, 1) := by decide +kernel
theorem dX10_oneYear_40 : decode cX10_oneYear 40 = .ok (.iload_n 1, 1) := by decide +kernel
theorem dX10_oneYear_41 : decode cX10_oneYear 41 = .ok (.iconst 4, 1) := by decide +kernel
theorem dX10_oneYear_42 : decode cX10_oneYear 42 = .ok (.if_icmp .ge 19, 3) := by decide +kernel
theorem dX10_oneYear_45 : decode cX10_oneYear 45 = .ok (.aload_n 0, 1) := by decide +kernel
theorem dX10_oneYear_46 : decode cX10_oneYear 46 = .ok (.aload_n 0, 1) := by decide +kernel
theorem dX10_oneYear_47 : decode cX10_oneYear 47 = .ok (.getfield 103, 3) := by decide +kernel
theorem dX10_oneYear_50 : decode cX10_oneYear 50 = .ok (.iconst 4, 1) := by decide +kernel
theorem dX10_oneYear_51 : decode cX10_oneYear 51 = .ok (.invokevirtual 390, 3) := by decide +kernel
theorem dX10_oneYear_54 : decode cX10_oneYear 54 = .ok (.iload_n 1, 1) := by decide +kernel
theorem dX10_oneYear_55 : decode cX10_oneYear 55 = .ok (.iconst 1, 1) := by decide +kernel
theorem dX10_oneYear_56 : decode cX10_oneYear 56 = .ok (.isub, 1) := by decide +kernel
theorem dX10_oneYear_57 : decode cX10_oneYear 57 = .ok (.invokevirtual 327, 3) := by decide +kernel
theorem dX10_oneYear_60 : decode cX10_oneYear 60 = .ok (.ireturn, 1) := by decide +kernel
theorem dX10_oneYear_61 : decode cX10_oneYear 61 = .ok (.aload_n 0, 1) := by decide +kernel
theorem dX10_oneYear_62 : decode cX10_oneYear 62 = .ok (.getfield 103, 3) := by decide +kernel
theorem dX10_oneYear_65 : decode cX10_oneYear 65 = .ok (.aload_n 0, 1) := by decide +kernel
theorem dX10_oneYear_66 : decode cX10_oneYear 66 = .ok (.getfield 63, 3) := by decide +kernel
theorem dX10_oneYear_69 : decode cX10_oneYear 69 = .ok (.getfield 107, 3) := by decide +kernel
theorem dX10_oneYear_72 : decode cX10_oneYear 72 = .ok (.getfield 161, 3) := by decide +kernel
theorem dX10_oneYear_75 : decode cX10_oneYear 75 = .ok (.invokevirtual 390, 3) := by decide +kernel
theorem dX10_oneYear_78 : decode cX10_oneYear 78 = .ok (.istore_n 2, 1) := by decide +kernel
theorem dX10_oneYear_79 : decode cX10_oneYear 79 = .ok (.aload_n 0, 1) := by decide +kernel
theorem dX10_oneYear_80 : decode cX10_oneYear 80 = .ok (.getfield 75, 3) := by decide +kernel
theorem dX10_oneYear_83 : decode cX10_oneYear 83 = .ok (.iload_n 2, 1) := by decide +kernel
theorem dX10_oneYear_84 : decode cX10_oneYear 84 = .ok (.aload_n 0, 1) := by decide +kernel
theorem dX10_oneYear_85 : decode cX10_oneYear 85 = .ok (.getfield 103, 3) := by decide +kernel
theorem dX10_oneYear_88 : decode cX10_oneYear 88 = .ok (.aload_n 0, 1) := by decide +kernel
theorem dX10_oneYear_89 : decode cX10_oneYear 89 = .ok (.getfield 63, 3) := by decide +kernel
theorem dX10_oneYear_92 : decode cX10_oneYear 92 = .ok (.getfield 107, 3) := by decide +kernel
theorem dX10_oneYear_95 : decode cX10_oneYear 95 = .ok (.getfield 161, 3) := by decide +kernel
theorem dX10_oneYear_98 : decode cX10_oneYear 98 = .ok (.invokevirtual 390, 3) := by decide +kernel
theorem dX10_oneYear_101 : decode cX10_oneYear 101 = .ok (.iconst 0, 1) := by decide +kernel
theorem dX10_oneYear_102 : decode cX10_oneYear 102 = .ok (.invokevirtual 330, 3) := by decide +kernel
theorem dX10_oneYear_105 : decode cX10_oneYear 105 = .ok (.ireturn, 1) := by decide +kernel
theorem dJ6_bitCount_0f7a4_0 : decode cJ6_bitCount_0f7a4 0 = .ok (.iload_n 0, 1) := by decide +kernel
theorem dJ6_bitCount_0f7a4_1 : decode cJ6_bitCount_0f7a4 1 = .ok (.iload_n 0, 1) := by decide +kernel
theorem dJ6_bitCount_0f7a4_2 : decode cJ6_bitCount_0f7a4 2 = .ok (.iconst 1, 1) := by decide +kernel
theorem dJ6_bitCount_0f7a4_3 : decode cJ6_bitCount_0f7a4 3 = .ok (.iushr, 1) := by decide +kernel
theorem dJ6_bitCount_0f7a4_4 : decode cJ6_bitCount_0f7a4 4 = .ok (.ldc_w 265, 3) := by decide +kernel
theorem dJ6_bitCount_0f7a4_7 : decode cJ6_bitCount_0f7a4 7 = .ok (.iand, 1) := by decide +kernel
theorem dJ6_bitCount_0f7a4_8 : decode cJ6_bitCount_0f7a4 8 = .ok (.isub, 1) := by decide +kernel
theorem dJ6_bitCount_0f7a4_9 : decode cJ6_bitCount_0f7a4 9 = .ok (.istore_n 0, 1) := by decide +kernel
theorem dJ6_bitCount_0f7a4_10 : decode cJ6_bitCount_0f7a4 10 = .ok (.iload_n 0, 1) := by decide +kernel
theorem dJ6_bitCount_0f7a4_11 : decode cJ6_bitCount_0f7a4 11 = .ok (.ldc_w 266, 3) := by decide +kernel
theorem dJ6_bitCount_0f7a4_14 : decode cJ6_bitCount_0f7a4 14 = .ok (.iand, 1) := by decide +kernel
theorem dJ6_bitCount_0f7a4_15 : decode cJ6_bitCount_0f7a4 15 = .ok (.iload_n 0, 1) := by decide +kernel
theorem dJ6_bitCount_0f7a4_16 : decode cJ6_bitCount_0f7a4 16 = .ok (.iconst 2, 1) := by decide +kernel
theorem dJ6_bitCount_0f7a4_17 : decode cJ6_bitCount_0f7a4 17 = .ok (.iushr, 1) := by decide +kernel
theorem dJ6_bitCount_0f7a4_18 : decode cJ6_bitCount_0f7a4 18 = .ok (.ldc_w 266, 3) := by decide +kernel
theorem dJ6_bitCount_0f7a4_21 : decode cJ6_bitCount_0f7a4 21 = .ok (.iand, 1) := by decide +kernel
theorem dJ6_bitCount_0f7a4_22 : decode cJ6_bitCount_0f7a4 22 = .ok (.iadd, 1) := by decide +kernel
theorem dJ6_bitCount_0f7a4_23 : decode cJ6_bitCount_0f7a4 23 = .ok (.istore_n 0, 1) := by decide +kernel
theorem dJ6_bitCount_0f7a4_24 : decode cJ6_bitCount_0f7a4 24 = .ok (.iload_n 0, 1) := by decide +kernel
theorem dJ6_bitCount_0f7a4_25 : decode cJ6_bitCount_0f7a4 25 = .ok (.iload_n 0, 1) := by decide +kernel
theorem dJ6_bitCount_0f7a4_26 : decode cJ6_bitCount_0f7a4 26 = .ok (.iconst 4, 1) := by decide +kernel
theorem dJ6_bitCount_0f7a4_27 : decode cJ6_bitCount_0f7a4 27 = .ok (.iushr, 1) := by decide +kernel
theorem dJ6_bitCount_0f7a4_28 : decode cJ6_bitCount_0f7a4 28 = .ok (.iadd, 1) := by decide +kernel
theorem dJ6_bitCount_0f7a4_29 : decode cJ6_bitCount_0f7a4 29 = .ok (.ldc_w 267, 3) := by decide +kernel
theorem dJ6_bitCount_0f7a4_32 : decode cJ6_bitCount_0f7a4 32 = .ok (.iand, 1) := by decide +kernel
theorem dJ6_bitCount_0f7a4_33 : decode cJ6_bitCount_0f7a4 33 = .ok (.istore_n 0, 1) := by decide +kernel
theorem dJ6_bitCount_0f7a4_34 : decode cJ6_bitCount_0f7a4 34 = .ok (.iload_n 0, 1) := by decide +kernel
theorem dJ6_bitCount_0f7a4_35 : decode cJ6_bitCount_0f7a4 35 = .ok (.iload_n 0, 1) := by decide +kernel
theorem dJ6_bitCount_0f7a4_36 : decode cJ6_bitCount_0f7a4 36 = .ok (.bipush 8, 2) := by decide +kernel
theorem dJ6_bitCount_0f7a4_38 : decode cJ6_bitCount_0f7a4 38 = .ok (.iushr, 1) := by decide +kernel
theorem dJ6_bitCount_0f7a4_39 : decode cJ6_bitCount_0f7a4 39 = .ok (.iadd, 1) := by decide +kernel
theorem dJ6_bitCount_0f7a4_40 : decode cJ6_bitCount_0f7a4 40 = .ok (.istore_n 0, 1) := by decide +kernel
theorem dJ6_bitCount_0f7a4_41 : decode cJ6_bitCount_0f7a4 41 = .ok (.iload_n 0, 1) := by decide +kernel
theorem dJ6_bitCount_0f7a4_42 : decode cJ6_bitCount_0f7a4 42 = .ok (.iload_n 0, 1) := by decide +kernel
theorem dJ6_bitCount_0f7a4_43 : decode cJ6_bitCount_0f7a4 43 = .ok (.bipush 16, 2) := by decide +kernel
theorem dJ6_bitCount_0f7a4_45 : decode cJ6_bitCount_0f7a4 45 = .ok (.iushr, 1) := by decide +kernel
theorem dJ6_bitCount_0f7a4_46 : decode cJ6_bitCount_0f7a4 46 = .ok (.iadd, 1) := by decide +kernel
theorem dJ6_bitCount_0f7a4_47 : decode cJ6_bitCount_0f7a4 47 = .ok (.istore_n 0, 1) := by decide +kernel
theorem dJ6_bitCount_0f7a4_48 : decode cJ6_bitCount_0f7a4 48 = .ok (.iload_n 0, 1) := by decide +kernel
theorem dJ6_bitCount_0f7a4_49 : decode cJ6_bitCount_0f7a4 49 = .ok (.bipush 63, 2) := by decide +kernel
theorem dJ6_bitCount_0f7a4_51 : decode cJ6_bitCount_0f7a4 51 = .ok (.iand, 1) := by decide +kernel
theorem dJ6_bitCount_0f7a4_52 : decode cJ6_bitCount_0f7a4 52 = .ok (.ireturn, 1) := by decide +kernel
