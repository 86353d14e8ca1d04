set_option maxRecDepth 20000 in
theorem gX11_happens_X11_isPath : GoodIn wsX11_happens (wsV RX11 344 RX11 yX11_isPath wsX11_isPath) := goodIn_app (goodIn_of _ (by decide +kernel)) ggX11_happens_X11_isPath
theorem dX11_happens_0 : decode cX11_happens 0 = .ok (.aload_n 0, 1) := by decide +kernel
theorem dX11_happens_1 : decode cX11_happens 1 = .ok (.iconst 5, 1) := by decide +kernel
theorem dX11_happens_2 : decode cX11_happens 2 = .ok (.invokevirtual 529, 3) := by decide +kernel
theorem dX11_happens_5 : decode cX11_happens 5 = .ok (.istore_n 1, 1) := by decide +kernel
theorem dX11_happens_6 : decode cX11_happens 6 = .ok (.iload_n 1, 1) := by decide +kernel
theorem dX11_happens_7 : decode cX11_happens 7 = .ok (.iconst 4, 1) := by decide +kernel
theorem dX11_happens_8 : decode cX11_happens 8 = .ok (.if_icmp .ne 36, 3) := by decide +kernel
theorem dX11_happens_11 : decode cX11_happens 11 = .ok (.aload_n 0, 1) := by decide +kernel
theorem dX11_happens_12 : decode cX11_happens 12 = .ok (.aload_n 0, 1) := by decide +kernel
theorem dX11_happens_13 : decode cX11_happens 13 = .ok (.invokevirtual 267, 3) := by decide +kernel
theorem dX11_happens_16 : decode cX11_happens 16 = .ok (.invokevirtual 529, 3) := by decide +kernel
theorem dX11_happens_19 : decode cX11_happens 19 = .ok (.istore_n 2, 1) := by decide +kernel
theorem dX11_happens_20 : decode cX11_happens 20 = .ok (.aload_n 0, 1) := by decide +kernel
theorem dX11_happens_21 : decode cX11_happens 21 = .ok (.iload_n 2, 1) := by decide +kernel
theorem dX11_happens_22 : decode cX11_happens 22 = .ok (.aload_n 0, 1) := by decide +kernel
theorem dX11_happens_23 : decode cX11_happens 23 = .ok (.aload_n 0, 1) := by decide +kernel
theorem dX11_happens_24 : decode cX11_happens 24 = .ok (.invokevirtual 267, 3) := by decide +kernel
theorem dX11_happens_27 : decode cX11_happens 27 = .ok (.invokevirtual 529, 3) := by decide +kernel
theorem dX11_happens_30 : decode cX11_happens 30 = .ok (.iconst 0, 1) := by decide +kernel
theorem dX11_happens_31 : decode cX11_happens 31 = .ok (.invokevirtual 435, 3) := by decide +kernel
theorem dX11_happens_34 : decode cX11_happens 34 = .ok (.iconst (-1), 1) := by decide +kernel
theorem dX11_happens_35 : decode cX11_happens 35 = .ok (.if_icmp .eq 7, 3) := by decide +kernel
theorem dX11_happens_42 : decode cX11_happens 42 = .ok (.iconst 0, 1) := by decide +kernel
theorem dX11_happens_43 : decode cX11_happens 43 = .ok (.ireturn, 1) := by decide +kernel
theorem dX11_happens_44 : decode cX11_happens 44 = .ok (.aload_n 0, 1) := by decide +kernel
theorem dX11_happens_45 : decode cX11_happens 45 = .ok (.iconst 4, 1) := by decide +kernel
theorem dX11_happens_46 : decode cX11_happens 46 = .ok (.invokevirtual 529, 3) := by decide +kernel
theorem dX11_happens_49 : decode cX11_happens 49 = .ok (.istore_n 2, 1) := by decide +kernel
theorem dX11_happens_50 : decode cX11_happens 50 = .ok (.iload_n 1, 1) := by decide +kernel
theorem dX11_happens_51 : decode cX11_happens 51 = .ok (.ifCond .ne 15, 3) := by decide +kernel
theorem dX11_happens_54 : decode cX11_happens 54 = .ok (.aload_n 0, 1) := by decide +kernel
theorem dX11_happens_55 : decode cX11_happens 55 = .ok (.bipush 21, 2) := by decide +kernel
theorem dX11_happens_57 : decode cX11_happens 57 = .ok (.invokevirtual 529, 3) := by decide +kernel
theorem dX11_happens_60 : decode cX11_happens 60 = .ok (.bipush 10, 2) := by decide +kernel
theorem dX11_happens_62 : decode cX11_happens 62 = .ok (.isub, 1) := by decide +kernel
theorem dX11_happens_63 : decode cX11_happens 63 = .ok (.goto 4, 3) := by decide +kernel
theorem dX11_happens_66 : decode cX11_happens 66 = .ok (.iconst 0, 1) := by decide +kernel
theorem dX11_happens_67 : decode cX11_happens 67 = .ok (.istore_n 3, 1) := by decide +kernel
theorem dX11_happens_68 : decode cX11_happens 68 = .ok (.aload_n 0, 1) := by decide +kernel
theorem dX11_happens_69 : decode cX11_happens 69 = .ok (.iload_n 2, 1) := by decide +kernel
theorem dX11_happens_70 : decode cX11_happens 70 = .ok (.invokevirtual 344, 3) := by decide +kernel
theorem dX11_happens_73 : decode cX11_happens 73 = .ok (.ifCond .eq 30, 3) := by decide +kernel
theorem dX11_happens_103 : decode cX11_happens 103 = .ok (.iconst 0, 1) := by decide +kernel
theorem dX11_happens_104 : decode cX11_happens 104 = .ok (.ireturn, 1) := by decide +kernel
set_option maxRecDepth 20000 in
theorem ggX11_years_X11_isIn : GoodIn wsX11_years wsX11_isIn := goodIn_r _ [9] (by decide +kernel) (by decide +kernel)
set_option maxRecDepth 20000 in
theorem gX11_years_X11_isIn : GoodIn wsX11_years (va_wsS RX11 219 yX11_isIn wsX11_isIn) := goodIn_app (goodIn_of _ (by decide +kernel)) ggX11_years_X11_isIn
set_option maxRecDepth 20000 in
theorem ggX11_years_X11_fail : GoodIn wsX11_years wsX11_fail := goodIn_r _ [13, 1, 285, 286, 287, 288, 289, 290, 291, 292, 293, 294, 295, 296, 297, 298, 299, 300, 301, 302, 303, 304, 305, 306, 307, 308, 309, 310, 311, 312, 313, 314, 315, 316, 317, 318, 319, 320, 321, 322, 323, 324, 325, 326, 327, 328, 329, 330, 331, 332, 333, 334, 335, 336, 337, 338, 339, 340, 341, 342, 343, 344, 345, 346, 347, 348, 349, 350] (by decide +kernel) (by decide +kernel)
set_option maxRecDepth 20000 in
theorem gX11_years_X11_fail : GoodIn wsX11_years (wsV RX11 226 RX11 yX11_fail wsX11_fail) := goodIn_app (goodIn_of _ (by decide +kernel)) ggX11_years_X11_fail
set_option maxRecDepth 20000 in
theorem ggX11_years_X11_copyTo : GoodIn wsX11_years wsX11_copyTo := goodIn_r _ [16] (by decide +kernel) (by decide +kernel)
set_option maxRecDepth 20000 in
theorem gX11_years_X11_copyTo : GoodIn wsX11_years (va_wsS RX11 532 yX11_copyTo wsX11_copyTo) := goodIn_app (goodIn_of _ (by decide +kernel)) ggX11_years_X11_copyTo
set_option maxRecDepth 20000 in
theorem ggX11_years_X11_happens : GoodIn wsX11_years wsX11_happens := goodIn_r _ [20, 21, 22, 23, 8, 24, 5, 25, 26, 27, 28, 29, 3, 30, 31, 32, 33, 34, 35, 36, 37, 38, 6, 7, 9, 39, 40, 41, 42, 43, 44, 45, 46, 47, 48, 49, 50, 51, 52, 53, 54, 55, 56, 57, 58, 59, 60, 61, 62, 63, 64, 65, 66, 67, 68, 69, 70, 71, 72, 73, 74, 75, 76, 77, 78, 79, 80, 81, 82, 83, 84, 85, 86, 87, 88, 89, 90, 91, 92, 93, 4, 94, 95, 96, 97, 98, 99, 100, 101, 102, 103, 104, 105, 106, 107, 108, 109, 110, 111, 112, 113, 114, 115, 116, 117, 118, 119, 120, 121, 122, 123, 124, 125, 126, 127, 128, 129, 130, 131, 132, 133, 134, 135, 136, 137, 138, 139, 140, 141, 142, 143, 144, 145, 146, 147, 148, 149, 150, 151, 152, 153, 154, 155, 156, 157, 158, 159, 160, 161, 162, 163, 164, 165, 166, 167, 168, 169, 170, 171, 172, 173, 174, 175, 176, 177, 178, 179, 180, 181, 182, 183, 184, 185, 186, 187, 188, 189, 190, 191, 192, 193, 194, 195, 196, 197, 198, 199, 200, 201, 202, 203, 204, 205, 206, 207, 208, 209, 210, 211, 212, 213, 214, 215, 216, 217, 218, 219, 220, 221, 222, 223, 224, 225, 226, 227, 228, 229, 230, 231, 232, 233, 234, 235, 236, 237, 238, 239, 240, 241, 242, 243, 244, 245, 246, 247, 248, 249, 250, 251, 252, 253, 254, 255, 256, 257, 258, 259, 260, 261, 262, 263, 264, 265, 266, 267, 268, 269, 270, 271, 272, 273, 274, 275, 276, 277, 278, 279, 280, 285, 286, 287, 288, 289, 290, 291, 292, 293, 294, 295, 296, 297, 298, 299, 300, 301, 302, 303, 304, 305, 306, 307, 308, 309, 310, 311, 312, 313, 314, 315, 316, 317, 318, 319, 320, 321, 322, 323, 324, 325, 326, 327, 328, 329, 330, 331, 332, 333, 334, 335, 336, 337, 338, 339, 340, 341, 342, 343, 344, 345, 346, 347, 348, 349, 350] (by decide +kernel) (by decide +kernel)
set_option maxRecDepth 20000 in
theorem gX11_years_X11_happens : GoodIn wsX11_years (wsV RX11 536 RX11 yX11_happens wsX11_happens) := goodIn_app (goodIn_of _ (by decide +kernel)) ggX11_years_X11_happens
set_option maxRecDepth 20000 in
theorem ggX11_years_X11_things : GoodIn wsX11_years wsX11_things := goodIn_r _ [29, 3, 285, 286, 287, 288, 289, 290, 291, 292, 293, 294, 295, 296, 297, 298, 299, 300, 301, 302, 303, 304, 305, 306, 307, 308, 309, 310, 311, 312, 313, 314, 315, 316, 317, 318, 319, 320, 321, 322, 323, 324, 325, 326, 327, 328, 329, 330, 331, 332, 333, 334, 335, 336, 337, 338, 339, 340, 341, 342, 343, 344, 345, 346, 347, 348, 349, 350] (by decide +kernel) (by decide +kernel)
set_option maxRecDepth 20000 in
theorem gX11_years_X11_things : GoodIn wsX11_years (wsV RX11 267 RX11 yX11_things wsX11_things) := goodIn_app (goodIn_of _ (by decide +kernel)) ggX11_years_X11_things
set_option maxRecDepth 20000 in
theorem ggX11_years_X11_sum : GoodIn wsX11_years wsX11_sum := goodIn_r _ [284, 3, 26, 27, 28, 8, 29, 45, 46, 47, 285, 286, 287, 288, 289, 290, 291, 292, 293, 294, 295, 296, 297, 298, 299, 300, 301, 302, 303, 304, 305, 306, 307, 308, 309, 310, 311, 312, 313, 314, 315, 316, 317, 318, 319, 320, 321, 322, 323, 324, 325, 326, 327, 328, 329, 330, 331, 332, 333, 334, 335, 336, 337, 338, 339, 340, 341, 342, 343, 344, 345, 346, 347, 348, 349, 350] (by decide +kernel) (by decide +kernel)
