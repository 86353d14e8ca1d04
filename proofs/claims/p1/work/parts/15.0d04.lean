set_option maxRecDepth 20000 in
theorem ggX11_happens_X11_isPath : GoodIn wsX11_happens wsX11_isPath := goodIn_r _ [86, 87, 22, 23, 4, 24, 268, 269, 270, 271, 272, 273, 274, 275, 276, 277, 278, 279, 280, 281, 282, 283, 284, 285, 286, 287, 288, 289, 290, 291, 292, 293, 294, 295, 296, 297, 298, 299, 300, 301, 302, 303, 304, 305, 306, 307, 308, 309, 310, 311, 312, 313, 314, 315, 316, 317, 318, 319, 320, 321, 322, 323, 324, 325, 326, 327, 328, 329, 330, 331, 332, 333] (by decide +kernel) (by decide +kernel)
set_option maxRecDepth 20000 in
theorem gX11_happens_X11_isPath : GoodIn wsX11_happens (wsV RX11 344 RX11 yX11_isPath wsX11_isPath) := goodIn_app (goodIn_of _ (by decide +kernel)) ggX11_happens_X11_isPath
theorem dX11_happens_0 : decode cX11_happens 0 = .ok (.aload_n 0, 1) := by decide +kernel
theorem dX11_happens_1 : decode cX11_happens 1 = .ok (.iconst 5, 1) := by decide +kernel
theorem dX11_happens_2 : decode cX11_happens 2 = .ok (.invokevirtual 529, 3) := by decide +kernel
theorem dX11_happens_5 : decode cX11_happens 5 = .ok (.istore_n 1, 1) := by decide +kernel
theorem dX11_happens_6 : decode cX11_happens 6 = .ok (.iload_n 1, 1) := by decide +kernel
theorem dX11_happens_7 : decode cX11_happens 7 = .ok (.iconst 4, 1) := by decide +kernel
theorem dX11_happens_8 : decode cX11_happens 8 = .ok (.if_icmp .ne 36, 3) := by decide +kernel
theorem dX11_happens_11 : decode cX11_happens 11 = .ok (.aload_n 0, 1) := by decide +kernel
theorem dX11_happens_12 : decode cX11_happens 12 = .ok (.aload_n 0, 1) := by decide +kernel
theorem dX11_happens_13 : decode cX11_happens 13 = .ok (.invokevirtual 267, 3) := by decide +kernel
theorem dX11_happens_16 : decode cX11_happens 16 = .ok (.invokevirtual 529, 3) := by decide +kernel
theorem dX11_happens_19 : decode cX11_happens 19 = .ok (.istore_n 2, 1) := by decide +kernel
theorem dX11_happens_20 : decode cX11_happens 20 = .ok (.aload_n 0, 1) := by decide +kernel
theorem dX11_happens_21 : decode cX11_happens 21 = .ok (.iload_n 2, 1) := by decide +kernel
theorem dX11_happens_22 : decode cX11_happens 22 = .ok (.aload_n 0, 1) := by decide +kernel
theorem dX11_happens_23 : decode cX11_happens 23 = .ok (.aload_n 0, 1) := by decide +kernel
theorem dX11_happens_24 : decode cX11_happens 24 = .ok (.invokevirtual 267, 3) := by decide +kernel
theorem dX11_happens_27 : decode cX11_happens 27 = .ok (.invokevirtual 529, 3) := by decide +kernel
theorem dX11_happens_30 : decode cX11_happens 30 = .ok (.iconst 0, 1) := by decide +kernel
theorem dX11_happens_31 : decode cX11_happens 31 = .ok (.invokevirtual 435, 3) := by decide +kernel
theorem dX11_happens_34 : decode cX11_happens 34 = .ok (.iconst (-1), 1) := by decide +kernel
theorem dX11_happens_35 : decode cX11_happens 35 = .ok (.if_icmp .eq 7, 3) := by decide +kernel
theorem dX11_happens_42 : decode cX11_happens 42 = .ok (.iconst 0, 1) := by decide +kernel
theorem dX11_happens_43 : decode cX11_happens 43 = .ok (.ireturn, 1) := by decide +kernel
theorem dX11_happens_44 : decode cX11_happens 44 = .ok (.aload_n 0, 1) := by decide +kernel
theorem dX11_happens_45 : decode cX11_happens 45 = .ok (.iconst 4, 1) := by decide +kernel
theorem dX11_happens_46 : decode cX11_happens 46 = .ok (.invokevirtual 529, 3) := by decide +kernel
theorem dX11_happens_49 : decode cX11_happens 49 = .ok (.istore_n 2, 1) := by decide +kernel
theorem dX11_happens_50 : decode cX11_happens 50 = .ok (.iload_n 1, 1) := by decide +kernel
theorem dX11_happens_51 : decode cX11_happens 51 = .ok (.ifCond .ne 15, 3) := by decide +kernel
theorem dX11_happens_54 : decode cX11_happens 54 = .ok (.aload_n 0, 1) := by decide +kernel
theorem dX11_happens_55 : decode cX11_happens 55 = .ok (.bipush 21, 2) := by decide +kernel
theorem dX11_happens_57 : decode cX11_happens 57 = .ok (.invokevirtual 529, 3) := by decide +kernel
theorem dX11_happens_60 : decode cX11_happens 60 = .ok (.bipush 10, 2) := by decide +kernel
theorem dX11_happens_62 : decode cX11_happens 62 = .ok (.isub, 1) := by decide +kernel
theorem dX11_happens_63 : decode cX11_happens 63 = .ok (.goto 4, 3) := by decide +kernel
theorem dX11_happens_66 : decode cX11_happens 66 = .ok (.iconst 0, 1) := by decide +kernel
theorem dX11_happens_67 : decode cX11_happens 67 = .ok (.istore_n 3, 1) := by decide +kernel
theorem dX11_happens_68 : decode cX11_happens 68 = .ok (.aload_n 0, 1) := by decide +kernel
theorem dX11_happens_69 : decode cX11_happens 69 = .ok (.iload_n 2, 1) := by decide +kernel
theorem dX11_happens_70 : decode cX11_happens 70 = .ok (.invokevirtual 344, 3) := by decide +kernel
theorem dX11_happens_73 : decode cX11_happens 73 = .ok (.ifCond .eq 30, 3) := by decide +kernel
theorem dX11_happens_103 : decode cX11_happens 103 = .ok (.iconst 0, 1) := by decide +kernel
theorem dX11_happens_104 : decode cX11_happens 104 = .ok (.ireturn, 1) := by decide +kernel
set_option maxRecDepth 20000 in
theorem ggX11_years_X11_isIn : GoodIn wsX11_years wsX11_isIn := goodIn_r _ [9] (by decide +kernel) (by decide +kernel)
set_option maxRecDepth 20000 in
theorem gX11_years_X11_isIn : GoodIn wsX11_years (va_wsS RX11 219 yX11_isIn wsX11_isIn) := goodIn_app (goodIn_of _ (by decide +kernel)) ggX11_years_X11_isIn
set_option maxRecDepth 20000 in
theorem ggX11_years_X11_fail : GoodIn wsX11_years wsX11_fail := goodIn_r _ [13, 1, 285, 286, 287, 288, 289, 290, 291, 292, 293, 294, 295, 296, 297, 298, 299, 300, 301, 302, 303, 304, 305, 306, 307, 308, 309, 310, 311, 312, 313, 314, 315, 316, 317, 318, 319, 320, 321, 322, 323, 324, 325, 326, 327, 328, 329, 330, 331, 332, 333, 334, 335, 336, 337, 338, 339, 340, 341, 342, 343, 344, 345, 346, 347, 348, 349, 350] (by decide +kernel) (by decide +kernel)
set_option maxRecDepth 20000 in
theorem gX11_years_X11_fail : GoodIn wsX11_years (wsV RX11 226 RX11 yX11_fail wsX11_fail) := goodIn_app (goodIn_of _ (by decide +kernel)) ggX11_years_X11_fail
set_option maxRecDepth 20000 in
theorem ggX11_years_X11_copyTo : GoodIn wsX11_years wsX11_copyTo := goodIn_r _ [16] (by decide +kernel) (by decide +kernel)
set_option maxRecDepth 20000 in
theorem gX11_years_X11_copyTo : GoodIn wsX11_years (va_wsS RX11 532 yX11_copyTo wsX11_copyTo) := goodIn_app (goodIn_of _ (by decide +kernel)) ggX11_years_X11_copyTo
