theorem dX2_begin_0 : decode cX2_begin 0 = .ok (.aload_n 0, 1) := by decide +kernel
theorem dX2_begin_1 : decode cX2_begin 1 = .ok (.iload_n 1, 1) := by decide +kernel
theorem dX2_begin_2 : decode cX2_begin 2 = .ok (.putfield 7, 3) := by decide +kernel
theorem dX2_begin_5 : decode cX2_begin 5 = .ok (.return_, 1) := by decide +kernel
theorem dX2_next_0 : decode cX2_next 0 = .ok (.aload_n 0, 1) := by decide +kernel
theorem dX2_next_1 : decode cX2_next 1 = .ok (.aload_n 0, 1) := by decide +kernel
theorem dX2_next_2 : decode cX2_next 2 = .ok (.getfield 7, 3) := by decide +kernel
theorem dX2_next_5 : decode cX2_next 5 = .ok (.ldc 13, 2) := by decide +kernel
theorem dX2_next_7 : decode cX2_next 7 = .ok (.imul, 1) := by decide +kernel
theorem dX2_next_8 : decode cX2_next 8 = .ok (.sipush 12345, 3) := by decide +kernel
theorem dX2_next_11 : decode cX2_next 11 = .ok (.iadd, 1) := by decide +kernel
theorem dX2_next_12 : decode cX2_next 12 = .ok (.putfield 7, 3) := by decide +kernel
theorem dX2_next_15 : decode cX2_next 15 = .ok (.iload_n 1, 1) := by decide +kernel
theorem dX2_next_16 : decode cX2_next 16 = .ok (.iconst 1, 1) := by decide +kernel
theorem dX2_next_17 : decode cX2_next 17 = .ok (.if_icmp .ge 7, 3) := by decide +kernel
theorem dX2_next_24 : decode cX2_next 24 = .ok (.aload_n 0, 1) := by decide +kernel
theorem dX2_next_25 : decode cX2_next 25 = .ok (.getfield 7, 3) := by decide +kernel
theorem dX2_next_28 : decode cX2_next 28 = .ok (.bipush 16, 2) := by decide +kernel
theorem dX2_next_30 : decode cX2_next 30 = .ok (.iushr, 1) := by decide +kernel
theorem dX2_next_31 : decode cX2_next 31 = .ok (.sipush 32767, 3) := by decide +kernel
theorem dX2_next_34 : decode cX2_next 34 = .ok (.iand, 1) := by decide +kernel
theorem dX2_next_35 : decode cX2_next 35 = .ok (.iload_n 1, 1) := by decide +kernel
theorem dX2_next_36 : decode cX2_next 36 = .ok (.irem, 1) := by decide +kernel
theorem dX2_next_37 : decode cX2_next 37 = .ok (.ireturn, 1) := by decide +kernel
set_option maxRecDepth 20000 in
theorem ggX6_takeAll_X9_become : GoodIn wsX6_takeAll wsX9_become := goodIn_r _ [12, 13, 14, 15, 16, 17, 18, 19, 20, 21, 43, 44, 45, 46, 47] (by decide +kernel) (by decide +kernel)
set_option maxRecDepth 20000 in
theorem gX6_takeAll_X9_become : GoodIn wsX6_takeAll (wsV RX6 42 RX9 yX9_become wsX9_become) := goodIn_app (goodIn_of _ (by decide +kernel)) ggX6_takeAll_X9_become
theorem dX6_takeAll_0 : decode cX6_takeAll 0 = .ok (.aload_n 0, 1) := by decide +kernel
theorem dX6_takeAll_1 : decode cX6_takeAll 1 = .ok (.getfield 14, 3) := by decide +kernel
theorem dX6_takeAll_4 : decode cX6_takeAll 4 = .ok (.aload_n 1, 1) := by decide +kernel
theorem dX6_takeAll_5 : decode cX6_takeAll 5 = .ok (.getfield 14, 3) := by decide +kernel
theorem dX6_takeAll_8 : decode cX6_takeAll 8 = .ok (.invokevirtual 42, 3) := by decide +kernel
theorem dX6_takeAll_11 : decode cX6_takeAll 11 = .ok (.aload_n 0, 1) := by decide +kernel
theorem dX6_takeAll_12 : decode cX6_takeAll 12 = .ok (.aload_n 1, 1) := by decide +kernel
theorem dX6_takeAll_13 : decode cX6_takeAll 13 = .ok (.getfield 35, 3) := by decide +kernel
theorem dX6_takeAll_16 : decode cX6_takeAll 16 = .ok (.putfield 35, 3) := by decide +kernel
theorem dX6_takeAll_19 : decode cX6_takeAll 19 = .ok (.iconst 0, 1) := by decide +kernel
theorem dX6_takeAll_20 : decode cX6_takeAll 20 = .ok (.istore_n 2, 1) := by decide +kernel
theorem dX6_takeAll_21 : decode cX6_takeAll 21 = .ok (.iload_n 2, 1) := by decide +kernel
theorem dX6_takeAll_22 : decode cX6_takeAll 22 = .ok (.aload_n 0, 1) := by decide +kernel
theorem dX6_takeAll_23 : decode cX6_takeAll 23 = .ok (.getfield 35, 3) := by decide +kernel
theorem dX6_takeAll_26 : decode cX6_takeAll 26 = .ok (.if_icmp .ge 26, 3) := by decide +kernel
theorem dX6_takeAll_52 : decode cX6_takeAll 52 = .ok (.aload_n 0, 1) := by decide +kernel
theorem dX6_takeAll_53 : decode cX6_takeAll 53 = .ok (.aload_n 1, 1) := by decide +kernel
theorem dX6_takeAll_54 : decode cX6_takeAll 54 = .ok (.getfield 46, 3) := by decide +kernel
theorem dX6_takeAll_57 : decode cX6_takeAll 57 = .ok (.putfield 46, 3) := by decide +kernel
theorem dX6_takeAll_60 : decode cX6_takeAll 60 = .ok (.iconst 0, 1) := by decide +kernel
theorem dX6_takeAll_61 : decode cX6_takeAll 61 = .ok (.istore_n 2, 1) := by decide +kernel
theorem dX6_takeAll_62 : decode cX6_takeAll 62 = .ok (.iload_n 2, 1) := by decide +kernel
theorem dX6_takeAll_63 : decode cX6_takeAll 63 = .ok (.bipush 8, 2) := by decide +kernel
theorem dX6_takeAll_65 : decode cX6_takeAll 65 = .ok (.if_icmp .ge 33, 3) := by decide +kernel
theorem dX6_takeAll_68 : decode cX6_takeAll 68 = .ok (.aload_n 0, 1) := by decide +kernel
theorem dX6_takeAll_69 : decode cX6_takeAll 69 = .ok (.getfield 24, 3) := by decide +kernel
theorem dX6_takeAll_72 : decode cX6_takeAll 72 = .ok (.iload_n 2, 1) := by decide +kernel
theorem dX6_takeAll_73 : decode cX6_takeAll 73 = .ok (.aload_n 1, 1) := by decide +kernel
theorem dX6_takeAll_74 : decode cX6_takeAll 74 = .ok (.getfield 24, 3) := by decide +kernel
theorem dX6_takeAll_77 : decode cX6_takeAll 77 = .ok (.iload_n 2, 1) := by decide +kernel
theorem dX6_takeAll_78 : decode cX6_takeAll 78 = .ok (.iaload, 1) := by decide +kernel
theorem dX6_takeAll_79 : decode cX6_takeAll 79 = .ok (.iastore, 1) := by decide +kernel
theorem dX6_takeAll_80 : decode cX6_takeAll 80 = .ok (.aload_n 0, 1) := by decide +kernel
theorem dX6_takeAll_81 : decode cX6_takeAll 81 = .ok (.getfield 28, 3) := by decide +kernel
theorem dX6_takeAll_84 : decode cX6_takeAll 84 = .ok (.iload_n 2, 1) := by decide +kernel
theorem dX6_takeAll_85 : decode cX6_takeAll 85 = .ok (.aload_n 1, 1) := by decide +kernel
theorem dX6_takeAll_86 : decode cX6_takeAll 86 = .ok (.getfield 28, 3) := by decide +kernel
theorem dX6_takeAll_89 : decode cX6_takeAll 89 = .ok (.iload_n 2, 1) := by decide +kernel
theorem dX6_takeAll_90 : decode cX6_takeAll 90 = .ok (.baload, 1) := by decide +kernel
theorem dX6_takeAll_91 : decode cX6_takeAll 91 = .ok (.bastore, 1) := by decide +kernel
theorem dX6_takeAll_92 : decode cX6_takeAll 92 = .ok (.iinc 2 1, 3) := by decide +kernel
theorem dX6_takeAll_95 : decode cX6_takeAll 95 = .ok (.goto (-33), 3) := by decide +kernel
theorem dX6_takeAll_98 : decode cX6_takeAll 98 = .ok (.iconst 0, 1) := by decide +kernel
theorem dX6_takeAll_99 : decode cX6_takeAll 99 = .ok (.istore_n 2, 1) := by decide +kernel
theorem dX6_takeAll_100 : decode cX6_takeAll 100 = .ok (.iload_n 2, 1) := by decide +kernel
theorem dX6_takeAll_101 : decode cX6_takeAll 101 = .ok (.aload_n 0, 1) := by decide +kernel
theorem dX6_takeAll_102 : decode cX6_takeAll 102 = .ok (.getfield 32, 3) := by decide +kernel
theorem dX6_takeAll_105 : decode cX6_takeAll 105 = .ok (.arraylength, 1) := by decide +kernel
theorem dX6_takeAll_106 : decode cX6_takeAll 106 = .ok (.if_icmp .ge 30, 3) := by decide +kernel
theorem dX6_takeAll_109 : decode cX6_takeAll 109 = .ok (.iload_n 2, 1) := by decide +kernel
theorem dX6_takeAll_110 : decode cX6_takeAll 110 = .ok (.aload_n 1, 1) := by decide +kernel
theorem dX6_takeAll_111 : decode cX6_takeAll 111 = .ok (.getfield 32, 3) := by decide +kernel
theorem dX6_takeAll_114 : decode cX6_takeAll 114 = .ok (.arraylength, 1) := by decide +kernel
theorem dX6_takeAll_115 : decode cX6_takeAll 115 = .ok (.if_icmp .ge 21, 3) := by decide +kernel
theorem dX6_takeAll_118 : decode cX6_takeAll 118 = .ok (.aload_n 0, 1) := by decide +kernel
theorem dX6_takeAll_119 : decode cX6_takeAll 119 = .ok (.getfield 32, 3) := by decide +kernel
theorem dX6_takeAll_122 : decode cX6_takeAll 122 = .ok (.iload_n 2, 1) := by decide +kernel
theorem dX6_takeAll_123 : decode cX6_takeAll 123 = .ok (.aload_n 1, 1) := by decide +kernel
theorem dX6_takeAll_124 : decode cX6_takeAll 124 = .ok (.getfield 32, 3) := by decide +kernel
theorem dX6_takeAll_127 : decode cX6_takeAll 127 = .ok (.iload_n 2, 1) := by decide +kernel
theorem dX6_takeAll_128 : decode cX6_takeAll 128 = .ok (.iaload, 1) := by decide +kernel
theorem dX6_takeAll_129 : decode cX6_takeAll 129 = .ok (.iastore, 1) := by decide +kernel
theorem dX6_takeAll_130 : decode cX6_takeAll 130 = .ok (.iinc 2 1, 3) := by decide +kernel
theorem dX6_takeAll_133 : decode cX6_takeAll 133 = .ok (.goto (-33), 3) := by decide +kernel
theorem dX6_takeAll_136 : decode cX6_takeAll 136 = .ok (.return_, 1) := by decide +kernel
theorem dX9_become_0 : decode cX9_become 0 = .ok (.aload_n 1, 1) := by decide +kernel
theorem dX9_become_1 : decode cX9_become 1 = .ok (.getfield 24, 3) := by decide +kernel
theorem dX9_become_4 : decode cX9_become 4 = .ok (.istore_n 2, 1) := by decide +kernel
theorem dX9_become_5 : decode cX9_become 5 = .ok (.iload_n 2, 1) := by decide +kernel
theorem dX9_become_6 : decode cX9_become 6 = .ok (.ifCond .lt 82, 3) := by decide +kernel
theorem dX9_become_9 : decode cX9_become 9 = .ok (.iload_n 2, 1) := by decide +kernel
theorem dX9_become_10 : decode cX9_become 10 = .ok (.aload_n 0, 1) := by decide +kernel
theorem dX9_become_11 : decode cX9_become 11 = .ok (.getfield 9, 3) := by decide +kernel
theorem dX9_become_14 : decode cX9_become 14 = .ok (.arraylength, 1) := by decide +kernel
theorem dX9_become_15 : decode cX9_become 15 = .ok (.if_icmp .gt 73, 3) := by decide +kernel
theorem dX9_become_18 : decode cX9_become 18 = .ok (.iload_n 2, 1) := by decide +kernel
theorem dX9_become_19 : decode cX9_become 19 = .ok (.aload_n 1, 1) := by decide +kernel
theorem dX9_become_20 : decode cX9_become 20 = .ok (.getfield 9, 3) := by decide +kernel
theorem dX9_become_23 : decode cX9_become 23 = .ok (.arraylength, 1) := by decide +kernel
theorem dX9_become_24 : decode cX9_become 24 = .ok (.if_icmp .gt 64, 3) := by decide +kernel
theorem dX9_become_27 : decode cX9_become 27 = .ok (.aload_n 1, 1) := by decide +kernel
theorem dX9_become_28 : decode cX9_become 28 = .ok (.getfield 9, 3) := by decide +kernel
theorem dX9_become_31 : decode cX9_become 31 = .ok (.iconst 0, 1) := by decide +kernel
theorem dX9_become_32 : decode cX9_become 32 = .ok (.aload_n 0, 1) := by decide +kernel
theorem dX9_become_33 : decode cX9_become 33 = .ok (.getfield 9, 3) := by decide +kernel
theorem dX9_become_36 : decode cX9_become 36 = .ok (.iconst 0, 1) := by decide +kernel
theorem dX9_become_37 : decode cX9_become 37 = .ok (.iload_n 2, 1) := by decide +kernel
theorem dX9_become_38 : decode cX9_become 38 = .ok (.invokestatic 60, 3) := by decide +kernel
theorem dX9_become_41 : decode cX9_become 41 = .ok (.aload_n 1, 1) := by decide +kernel
theorem dX9_become_42 : decode cX9_become 42 = .ok (.getfield 15, 3) := by decide +kernel
theorem dX9_become_45 : decode cX9_become 45 = .ok (.iconst 0, 1) := by decide +kernel
theorem dX9_become_46 : decode cX9_become 46 = .ok (.aload_n 0, 1) := by decide +kernel
theorem dX9_become_47 : decode cX9_become 47 = .ok (.getfield 15, 3) := by decide +kernel
theorem dX9_become_50 : decode cX9_become 50 = .ok (.iconst 0, 1) := by decide +kernel
theorem dX9_become_51 : decode cX9_become 51 = .ok (.iload_n 2, 1) := by decide +kernel
theorem dX9_become_52 : decode cX9_become 52 = .ok (.invokestatic 60, 3) := by decide +kernel
theorem dX9_become_55 : decode cX9_become 55 = .ok (.aload_n 1, 1) := by decide +kernel
theorem dX9_become_56 : decode cX9_become 56 = .ok (.getfield 18, 3) := by decide +kernel
theorem dX9_become_59 : decode cX9_become 59 = .ok (.iconst 0, 1) := by decide +kernel
theorem dX9_become_60 : decode cX9_become 60 = .ok (.aload_n 0, 1) := by decide +kernel
theorem dX9_become_61 : decode cX9_become 61 = .ok (.getfield 18, 3) := by decide +kernel
theorem dX9_become_64 : decode cX9_become 64 = .ok (.iconst 0, 1) := by decide +kernel
theorem dX9_become_65 : decode cX9_become 65 = .ok (.iload_n 2, 1) := by decide +kernel
theorem dX9_become_66 : decode cX9_become 66 = .ok (.invokestatic 60, 3) := by decide +kernel
theorem dX9_become_69 : decode cX9_become 69 = .ok (.aload_n 1, 1) := by decide +kernel
theorem dX9_become_70 : decode cX9_become 70 = .ok (.getfield 21, 3) := by decide +kernel
theorem dX9_become_73 : decode cX9_become 73 = .ok (.iconst 0, 1) := by decide +kernel
theorem dX9_become_74 : decode cX9_become 74 = .ok (.aload_n 0, 1) := by decide +kernel
theorem dX9_become_75 : decode cX9_become 75 = .ok (.getfield 21, 3) := by decide +kernel
theorem dX9_become_78 : decode cX9_become 78 = .ok (.iconst 0, 1) := by decide +kernel
theorem dX9_become_79 : decode cX9_become 79 = .ok (.iload_n 2, 1) := by decide +kernel
theorem dX9_become_80 : decode cX9_become 80 = .ok (.invokestatic 60, 3) := by decide +kernel
theorem dX9_become_83 : decode cX9_become 83 = .ok (.aload_n 0, 1) := by decide +kernel
theorem dX9_become_84 : decode cX9_become 84 = .ok (.iload_n 2, 1) := by decide +kernel
theorem dX9_become_85 : decode cX9_become 85 = .ok (.putfield 24, 3) := by decide +kernel
theorem dX9_become_88 : decode cX9_become 88 = .ok (.return_, 1) := by decide +kernel
set_option maxRecDepth 20000 in
theorem ggX10_look_X10_pathsThatFit : GoodIn wsX10_look wsX10_pathsThatFit := goodIn_r _ [10, 11, 1, 12, 13, 14, 15, 9, 16, 17, 18, 19, 20, 21, 22, 23, 24, 25, 26, 27, 28, 29, 30, 31, 32, 33, 34, 35, 36, 37, 38, 39, 40, 41, 42, 43, 44, 45, 46, 47, 48, 49, 50, 51, 52, 53, 54, 55, 56, 57, 58, 59, 60, 61, 62, 63, 64, 65, 66, 67, 68, 69, 70, 71, 72, 73, 74, 75, 76, 4, 77, 78, 79, 80, 81, 82, 83, 84, 85, 86, 87, 88, 89, 90, 91, 92, 93, 94, 95, 96, 97, 98, 99, 100, 101, 102, 103, 104, 105, 106, 119, 120, 121, 122, 123, 124, 125, 126, 127, 128, 129, 130, 131, 132, 133, 134, 135, 136, 137, 138, 139, 140, 141, 142, 143, 149, 150, 151, 152, 153, 154, 155, 156, 157, 158, 159, 160, 161, 162, 144, 145, 146, 147, 148] (by decide +kernel) (by decide +kernel)
set_option maxRecDepth 20000 in
theorem gX10_look_X10_pathsThatFit : GoodIn wsX10_look (wsV RX10 190 RX10 yX10_pathsThatFit wsX10_pathsThatFit) := goodIn_app (goodIn_of _ (by decide +kernel)) ggX10_look_X10_pathsThatFit
set_option maxRecDepth 20000 in
theorem ggX10_look_J6_bitCount_0f7a4 : GoodIn wsX10_look wsJ6_bitCount_0f7a4 := goodIn_r _ [110, 111, 112, 113] (by decide +kernel) (by decide +kernel)
set_option maxRecDepth 20000 in
theorem gX10_look_J6_bitCount_0f7a4 : GoodIn wsX10_look (va_wsS RX10 351 yJ6_bitCount_0f7a4 wsJ6_bitCount_0f7a4) := goodIn_app (goodIn_of _ (by decide +kernel)) ggX10_look_J6_bitCount_0f7a4
set_option maxRecDepth 20000 in
theorem ggX10_look_X10_foundAmong : GoodIn wsX10_look wsX10_foundAmong := goodIn_r _ [117, 12, 118, 104, 9, 105, 106, 38, 39, 119, 120, 121, 122, 123, 124, 125, 126, 127, 128, 129, 130, 131, 132, 133, 134, 135, 136] (by decide +kernel) (by decide +kernel)
set_option maxRecDepth 20000 in
theorem gX10_look_X10_foundAmong : GoodIn wsX10_look (wsV RX10 355 RX10 yX10_foundAmong wsX10_foundAmong) := goodIn_app (goodIn_of _ (by decide +kernel)) ggX10_look_X10_foundAmong
theorem dX10_look_0 : decode cX10_look 0 = .ok (.aload_n 0, 1) := by decide +kernel
theorem dX10_look_1 : decode cX10_look 1 = .ok (.invokevirtual 190, 3) := by decide +kernel
theorem dX10_look_4 : decode cX10_look 4 = .ok (.istore_n 1, 1) := by decide +kernel
theorem dX10_look_5 : decode cX10_look 5 = .ok (.iload_n 1, 1) := by decide +kernel
theorem dX10_look_6 : decode cX10_look 6 = .ok (.invokestatic 351, 3) := by decide +kernel
theorem dX10_look_9 : decode cX10_look 9 = .ok (.istore_n 2, 1) := by decide +kernel
theorem dX10_look_10 : decode cX10_look 10 = .ok (.iconst (-1), 1) := by decide +kernel
theorem dX10_look_11 : decode cX10_look 11 = .ok (.istore_n 3, 1) := by decide +kernel
theorem dX10_look_12 : decode cX10_look 12 = .ok (.iconst 0, 1) := by decide +kernel
theorem dX10_look_13 : decode cX10_look 13 = .ok (.istore 4, 2) := by decide +kernel
theorem dX10_look_15 : decode cX10_look 15 = .ok (.iconst 0, 1) := by decide +kernel
theorem dX10_look_16 : decode cX10_look 16 = .ok (.istore 5, 2) := by decide +kernel
theorem dX10_look_18 : decode cX10_look 18 = .ok (.iload 5, 2) := by decide +kernel
theorem dX10_look_20 : decode cX10_look 20 = .ok (.aload_n 0, 1) := by decide +kernel
theorem dX10_look_21 : decode cX10_look 21 = .ok (.getfield 63, 3) := by decide +kernel
theorem dX10_look_24 : decode cX10_look 24 = .ok (.getfield 107, 3) := by decide +kernel
theorem dX10_look_27 : decode cX10_look 27 = .ok (.getfield 161, 3) := by decide +kernel
theorem dX10_look_30 : decode cX10_look 30 = .ok (.if_icmp .ge 43, 3) := by decide +kernel
theorem dX10_look_33 : decode cX10_look 33 = .ok (.aload_n 0, 1) := by decide +kernel
theorem dX10_look_34 : decode cX10_look 34 = .ok (.iload 5, 2) := by decide +kernel
theorem dX10_look_36 : decode cX10_look 36 = .ok (.iload_n 1, 1) := by decide +kernel
theorem dX10_look_37 : decode cX10_look 37 = .ok (.invokevirtual 355, 3) := by decide +kernel
theorem dX10_look_40 : decode cX10_look 40 = .ok (.istore 6, 2) := by decide +kernel
theorem dX10_look_42 : decode cX10_look 42 = .ok (.iload 6, 2) := by decide +kernel
theorem dX10_look_44 : decode cX10_look 44 = .ok (.iload_n 2, 1) := by decide +kernel
theorem dX10_look_45 : decode cX10_look 45 = .ok (.iload 6, 2) := by decide +kernel
theorem dX10_look_47 : decode cX10_look 47 = .ok (.isub, 1) := by decide +kernel
theorem dX10_look_48 : decode cX10_look 48 = .ok (.invokestatic 358, 3) := by decide +kernel
theorem dX10_look_51 : decode cX10_look 51 = .ok (.istore 7, 2) := by decide +kernel
theorem dX10_look_53 : decode cX10_look 53 = .ok (.iload 7, 2) := by decide +kernel
theorem dX10_look_55 : decode cX10_look 55 = .ok (.iload 4, 2) := by decide +kernel
theorem dX10_look_57 : decode cX10_look 57 = .ok (.if_icmp .le 10, 3) := by decide +kernel
theorem dX10_look_67 : decode cX10_look 67 = .ok (.iinc 5 1, 3) := by decide +kernel
theorem dX10_look_70 : decode cX10_look 70 = .ok (.goto (-52), 3) := by decide +kernel
theorem dX10_look_73 : decode cX10_look 73 = .ok (.iload_n 3, 1) := by decide +kernel
theorem dX10_look_74 : decode cX10_look 74 = .ok (.ireturn, 1) := by decide +kernel
set_option maxRecDepth 20000 in
theorem ggX10_years_X2_begin : GoodIn wsX10_years wsX2_begin := goodIn_r _ [11, 12, 299] (by decide +kernel) (by decide +kernel)
set_option maxRecDepth 20000 in
theorem gX10_years_X2_begin : GoodIn wsX10_years (wsV RX10 367 RX2 yX2_begin wsX2_begin) := goodIn_app (goodIn_of _ (by decide +kernel)) ggX10_years_X2_begin
set_option maxRecDepth 20000 in
theorem ggX10_years_X10_oneYear : GoodIn wsX10_years wsX10_oneYear := goodIn_r _ [17, 5, 6, 18, 19, 20, 21, 10, 22, 12, 23, 24, 25, 26, 16, 27, 28, 29, 30, 31, 32, 33, 34, 35, 36, 37, 38, 39, 40, 41, 42, 43, 44, 45, 46, 47, 48, 49, 50, 51, 52, 53, 54, 55, 56, 57, 58, 59, 60, 61, 62, 63, 64, 65, 66, 67, 68, 69, 70, 71, 72, 73, 74, 75, 76, 77, 78, 79, 80, 81, 82, 83, 84, 85, 86, 87, 88, 89, 90, 91, 92, 93, 94, 95, 96, 97, 98, 99, 100, 101, 102, 103, 104, 105, 106, 107, 108, 109, 110, 111, 112, 113, 114, 115, 116, 117, 118, 119, 120, 121, 122, 123, 124, 125, 126, 127, 128, 129, 130, 131, 132, 133, 134, 135, 136, 137, 138, 139, 140, 141, 142, 143, 144, 145, 146, 147, 148, 149, 150, 151, 152, 153, 154, 155, 156, 157, 158, 159, 160, 161, 162, 163, 164, 165, 166, 167, 168, 169, 170, 171, 172, 173, 174, 175, 176, 177, 178, 179, 180, 181, 182, 183, 184, 185, 186, 187, 188, 189, 190, 191, 192, 193, 194, 195, 196, 197, 198, 199, 200, 201, 202, 203, 204, 205, 206, 207, 208, 209, 210, 211, 212, 213, 214, 215, 216, 217, 218, 219, 220, 221, 222, 223, 224, 225, 226, 227, 228, 229, 230, 231, 232, 233, 234, 235, 236, 237, 238, 239, 240, 241, 242, 243, 244, 245, 246, 247, 248, 249, 250, 251, 252, 253, 254, 255, 256, 257, 258, 259, 260, 261, 262, 263, 264, 269, 270, 271, 272, 273, 274, 275, 276, 277, 278, 279, 280, 281, 282, 283, 284, 285, 286, 287, 288, 289, 290, 291, 292, 293, 294, 295, 296, 297, 298, 299, 300, 301, 302, 303, 304, 305, 306, 307, 308, 309, 310, 311, 312, 313, 314, 315, 316, 317] (by decide +kernel) (by decide +kernel)
