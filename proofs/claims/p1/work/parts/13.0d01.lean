set_option maxRecDepth 20000 in
theorem gX10_years_X10_oneYear : GoodIn wsX10_years (wsV RX10 370 RX10 yX10_oneYear wsX10_oneYear) := goodIn_app (goodIn_of _ (by decide +kernel)) ggX10_years_X10_oneYear
set_option maxRecDepth 20000 in
theorem ggX10_years_X9_sum : GoodIn wsX10_years wsX9_sum := goodIn_r _ [268, 50, 51, 112, 294, 295, 296, 297, 298] (by decide +kernel) (by decide +kernel)
set_option maxRecDepth 20000 in
theorem gX10_years_X9_sum : GoodIn wsX10_years (wsV RX10 187 RX9 yX9_sum wsX9_sum) := goodIn_app (goodIn_of _ (by decide +kernel)) ggX10_years_X9_sum
theorem dX10_years_0 : decode cX10_years 0 = .ok (.iload_n 3, 1) := by decide +kernel
theorem dX10_years_1 : decode cX10_years 1 = .ok (.ifCond .lt 8, 3) := by decide +kernel
theorem dX10_years_4 : decode cX10_years 4 = .ok (.iload_n 3, 1) := by decide +kernel
theorem dX10_years_5 : decode cX10_years 5 = .ok (.iconst 2, 1) := by decide +kernel
theorem dX10_years_6 : decode cX10_years 6 = .ok (.if_icmp .le 14, 3) := by decide +kernel
theorem dX10_years_9 : decode cX10_years 9 = .ok (.new 149, 3) := by decide +kernel
theorem dX10_years_12 : decode cX10_years 12 = .ok (.dup, 1) := by decide +kernel
theorem dX10_years_13 : decode cX10_years 13 = .ok (.ldc_w 363, 3) := by decide +kernel
theorem dX10_years_16 : decode cX10_years 16 = .ok (.invokespecial 153, 3) := by decide +kernel
theorem dX10_years_19 : decode cX10_years 19 = .ok (.athrow, 1) := by decide +kernel
theorem dX10_years_20 : decode cX10_years 20 = .ok (.iload_n 2, 1) := by decide +kernel
theorem dX10_years_21 : decode cX10_years 21 = .ok (.ifCond .lt 9, 3) := by decide +kernel
theorem dX10_years_24 : decode cX10_years 24 = .ok (.iload_n 2, 1) := by decide +kernel
theorem dX10_years_25 : decode cX10_years 25 = .ok (.bipush 20, 2) := by decide +kernel
theorem dX10_years_27 : decode cX10_years 27 = .ok (.if_icmp .le 14, 3) := by decide +kernel
theorem dX10_years_30 : decode cX10_years 30 = .ok (.new 124, 3) := by decide +kernel
theorem dX10_years_33 : decode cX10_years 33 = .ok (.dup, 1) := by decide +kernel
theorem dX10_years_34 : decode cX10_years 34 = .ok (.ldc_w 365, 3) := by decide +kernel
theorem dX10_years_37 : decode cX10_years 37 = .ok (.invokespecial 128, 3) := by decide +kernel
theorem dX10_years_40 : decode cX10_years 40 = .ok (.athrow, 1) := by decide +kernel
theorem dX10_years_41 : decode cX10_years 41 = .ok (.aload_n 0, 1) := by decide +kernel
theorem dX10_years_42 : decode cX10_years 42 = .ok (.getfield 103, 3) := by decide +kernel
theorem dX10_years_45 : decode cX10_years 45 = .ok (.iload_n 1, 1) := by decide +kernel
theorem dX10_years_46 : decode cX10_years 46 = .ok (.invokevirtual 367, 3) := by decide +kernel
theorem dX10_years_49 : decode cX10_years 49 = .ok (.iconst 0, 1) := by decide +kernel
theorem dX10_years_50 : decode cX10_years 50 = .ok (.istore 4, 2) := by decide +kernel
theorem dX10_years_52 : decode cX10_years 52 = .ok (.iconst 0, 1) := by decide +kernel
theorem dX10_years_53 : decode cX10_years 53 = .ok (.istore 5, 2) := by decide +kernel
theorem dX10_years_55 : decode cX10_years 55 = .ok (.iload 5, 2) := by decide +kernel
theorem dX10_years_57 : decode cX10_years 57 = .ok (.iload_n 2, 1) := by decide +kernel
theorem dX10_years_58 : decode cX10_years 58 = .ok (.if_icmp .ge 20, 3) := by decide +kernel
theorem dX10_years_61 : decode cX10_years 61 = .ok (.aload_n 0, 1) := by decide +kernel
theorem dX10_years_62 : decode cX10_years 62 = .ok (.invokevirtual 370, 3) := by decide +kernel
theorem dX10_years_65 : decode cX10_years 65 = .ok (.iconst (-1), 1) := by decide +kernel
theorem dX10_years_66 : decode cX10_years 66 = .ok (.if_icmp .eq 6, 3) := by decide +kernel
theorem dX10_years_72 : decode cX10_years 72 = .ok (.iinc 5 1, 3) := by decide +kernel
theorem dX10_years_75 : decode cX10_years 75 = .ok (.goto (-20), 3) := by decide +kernel
theorem dX10_years_78 : decode cX10_years 78 = .ok (.iload_n 3, 1) := by decide +kernel
theorem dX10_years_79 : decode cX10_years 79 = .ok (.iconst 2, 1) := by decide +kernel
theorem dX10_years_80 : decode cX10_years 80 = .ok (.if_icmp .ne 6, 3) := by decide +kernel
theorem dX10_years_83 : decode cX10_years 83 = .ok (.iload 4, 2) := by decide +kernel
theorem dX10_years_85 : decode cX10_years 85 = .ok (.ireturn, 1) := by decide +kernel
theorem dX10_years_86 : decode cX10_years 86 = .ok (.iload_n 3, 1) := by decide +kernel
theorem dX10_years_87 : decode cX10_years 87 = .ok (.ifCond .ne 16, 3) := by decide +kernel
theorem dX10_years_90 : decode cX10_years 90 = .ok (.aload_n 0, 1) := by decide +kernel
theorem dX10_years_91 : decode cX10_years 91 = .ok (.getfield 63, 3) := by decide +kernel
theorem dX10_years_94 : decode cX10_years 94 = .ok (.getfield 107, 3) := by decide +kernel
theorem dX10_years_97 : decode cX10_years 97 = .ok (.getfield 161, 3) := by decide +kernel
theorem dX10_years_100 : decode cX10_years 100 = .ok (.goto 13, 3) := by decide +kernel
theorem dX10_years_103 : decode cX10_years 103 = .ok (.aload_n 0, 1) := by decide +kernel
theorem dX10_years_104 : decode cX10_years 104 = .ok (.getfield 63, 3) := by decide +kernel
theorem dX10_years_107 : decode cX10_years 107 = .ok (.getfield 107, 3) := by decide +kernel
theorem dX10_years_110 : decode cX10_years 110 = .ok (.invokevirtual 187, 3) := by decide +kernel
theorem dX10_years_113 : decode cX10_years 113 = .ok (.ireturn, 1) := by decide +kernel
set_option maxRecDepth 20000 in
theorem ggX10_image_X6_takeAll : GoodIn wsX10_image wsX6_takeAll := goodIn_r _ [8, 9, 10, 11, 12, 13, 14, 15, 16, 17, 18, 19, 20, 21, 22, 23, 24, 25, 26, 27, 28, 29, 30, 31, 32, 7, 33, 34, 35, 36, 37, 38, 39, 40, 41, 42, 61, 62, 63, 64, 65, 66, 67, 68, 69, 70, 71, 72] (by decide +kernel) (by decide +kernel)
set_option maxRecDepth 20000 in
theorem gX10_image_X6_takeAll : GoodIn wsX10_image (wsV RX10 373 RX6 yX6_takeAll wsX6_takeAll) := goodIn_app (goodIn_of _ (by decide +kernel)) ggX10_image_X6_takeAll
theorem dX10_image_0 : decode cX10_image 0 = .ok (.aload_n 0, 1) := by decide +kernel
theorem dX10_image_1 : decode cX10_image 1 = .ok (.getfield 67, 3) := by decide +kernel
theorem dX10_image_4 : decode cX10_image 4 = .ok (.aload_n 0, 1) := by decide +kernel
theorem dX10_image_5 : decode cX10_image 5 = .ok (.getfield 63, 3) := by decide +kernel
theorem dX10_image_8 : decode cX10_image 8 = .ok (.invokevirtual 373, 3) := by decide +kernel
theorem dX10_image_11 : decode cX10_image 11 = .ok (.aload_n 0, 1) := by decide +kernel
theorem dX10_image_12 : decode cX10_image 12 = .ok (.iconst 1, 1) := by decide +kernel
theorem dX10_image_13 : decode cX10_image 13 = .ok (.putfield 145, 3) := by decide +kernel
theorem dX10_image_16 : decode cX10_image 16 = .ok (.return_, 1) := by decide +kernel
set_option maxRecDepth 20000 in
theorem ggX10_oneYear_X2_next : GoodIn wsX10_oneYear wsX2_next := goodIn_r _ [8, 9, 10, 283] (by decide +kernel) (by decide +kernel)
set_option maxRecDepth 20000 in
theorem gX10_oneYear_X2_next : GoodIn wsX10_oneYear (wsV RX10 390 RX2 yX2_next wsX2_next) := goodIn_app (goodIn_of _ (by decide +kernel)) ggX10_oneYear_X2_next
set_option maxRecDepth 20000 in
theorem ggX10_oneYear_X10_adding : GoodIn wsX10_oneYear wsX10_adding := goodIn_r _ [15, 3, 2, 16, 17, 18, 14, 19, 20, 21, 22, 23, 24, 25, 26, 27, 28, 29, 30, 31, 32, 33, 34, 35, 36, 37, 38, 39, 40, 41, 42, 43, 44, 45, 46, 47, 48, 49, 50, 51, 52, 53, 54, 55, 56, 57, 58, 59, 60, 61, 62, 63, 64, 65, 66, 67, 68, 69, 70, 71, 72, 73, 74, 75, 76, 77, 78, 79, 80, 81, 82, 83, 84, 85, 86, 87, 88, 89, 90, 91, 92, 93, 94, 95, 96, 97, 98, 99, 100, 101, 102, 103, 104, 105, 106, 107, 108, 109, 110, 111, 112, 113, 114, 115, 116, 117, 118, 119, 120, 121, 122, 123, 124, 125, 126, 127, 128, 129, 130, 131, 132, 133, 134, 135, 136, 137, 138, 139, 140, 141, 142, 143, 144, 145, 146, 147, 148, 149, 150, 151, 152, 153, 154, 155, 156, 157, 158, 159, 160, 161, 162, 163, 164, 165, 166, 167, 168, 169, 170, 253, 254, 255, 256, 257, 258, 259, 260, 261, 262, 263, 264, 265, 266, 267, 268, 269, 270, 271, 272, 273, 274, 275, 276, 277, 284, 285, 286, 287, 288, 289, 290, 291, 292, 293, 294, 295, 296, 297, 278, 279, 280, 281, 282, 298, 299, 300, 301] (by decide +kernel) (by decide +kernel)
set_option maxRecDepth 20000 in
theorem gX10_oneYear_X10_adding : GoodIn wsX10_oneYear (wsV RX10 324 RX10 yX10_adding wsX10_adding) := goodIn_app (goodIn_of _ (by decide +kernel)) ggX10_oneYear_X10_adding
set_option maxRecDepth 20000 in
theorem ggX10_oneYear_X10_changing : GoodIn wsX10_oneYear wsX10_changing := goodIn_r _ [174, 2, 3, 16, 17, 18, 14, 19, 20, 21, 22, 23, 24, 25, 26, 27, 28, 29, 30, 31, 32, 33, 34, 35, 36, 37, 38, 39, 40, 41, 42, 43, 44, 45, 46, 47, 48, 49, 50, 51, 52, 53, 54, 55, 56, 57, 58, 59, 60, 61, 62, 63, 64, 65, 66, 67, 68, 69, 70, 71, 72, 73, 74, 75, 76, 77, 78, 79, 80, 81, 82, 83, 84, 85, 86, 87, 88, 89, 90, 91, 92, 93, 94, 95, 96, 97, 98, 99, 100, 175, 176, 177, 104, 178, 106, 107, 116, 117, 118, 120, 121, 122, 123, 124, 125, 126, 127, 179, 180, 181, 182, 183, 184, 185, 186, 187, 188, 189, 190, 191, 133, 134, 135, 136, 137, 138, 139, 140, 141, 142, 143, 144, 145, 146, 147, 148, 149, 150, 151, 152, 153, 154, 155, 156, 157, 158, 159, 160, 161, 162, 163, 164, 165, 166, 167, 168, 169, 170, 192, 193, 194, 195, 112, 113, 114, 115, 119, 196, 197, 198, 199, 200, 201, 202, 203, 204, 205, 108, 109, 110, 206, 207, 208, 209, 210, 128, 211, 212, 213, 214, 215, 216, 217, 218, 219, 220, 221, 222, 223, 224, 225, 226, 227, 228, 229, 230, 231, 232, 233, 253, 254, 255, 256, 257, 258, 259, 260, 261, 262, 263, 264, 265, 266, 267, 268, 269, 270, 271, 272, 273, 274, 275, 276, 277, 284, 285, 286, 287, 288, 289, 290, 291, 292, 293, 294, 295, 296, 297, 278, 279, 280, 281, 282, 298, 299, 300, 301] (by decide +kernel) (by decide +kernel)
set_option maxRecDepth 20000 in
theorem gX10_oneYear_X10_changing : GoodIn wsX10_oneYear (wsV RX10 327 RX10 yX10_changing wsX10_changing) := goodIn_app (goodIn_of _ (by decide +kernel)) ggX10_oneYear_X10_changing
set_option maxRecDepth 20000 in
theorem ggX10_oneYear_X0_moveThing : GoodIn wsX10_oneYear wsX0_moveThing := goodIn_r _ [237, 107, 106, 238, 226, 227, 36, 228, 38, 39, 211, 52, 53, 54, 40, 239, 240, 241, 104, 242, 119, 68, 69, 70, 243, 14, 244, 245, 246, 34, 35, 37, 41, 120, 121, 122, 123, 124, 125, 126, 127, 100, 179, 180, 181, 182, 183, 184, 185, 186, 187, 188, 189, 190, 191, 247, 248, 249, 250, 251, 225, 229, 48, 49, 50, 252, 222, 223, 224, 133, 134, 135, 136, 137, 138, 139, 140, 141, 80, 81, 82, 142, 143, 144, 145, 146, 147, 148, 149, 150, 151, 152, 153, 154, 155, 156, 157, 158, 159, 160, 161, 162, 163, 298, 299, 300, 301, 271, 272, 273, 274, 275, 276, 277, 278, 279, 280, 281, 282] (by decide +kernel) (by decide +kernel)
