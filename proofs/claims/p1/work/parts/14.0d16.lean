set_option maxRecDepth 20000 in
theorem ggX11_rowText_X11_fail : GoodIn wsX11_rowText wsX11_fail := goodIn_r _ [20, 1, 58, 59, 60, 61, 62, 63, 64, 65, 66, 67, 68, 69, 70, 71, 72, 73, 74, 75, 76, 77, 78, 79, 80, 81, 82, 83, 84, 85, 86, 87, 88, 89, 90, 91, 92, 93, 94, 95, 96, 97, 98, 99, 100, 101, 102, 103, 104, 105, 106, 107, 108, 109, 110, 111, 112, 113, 114, 115, 116, 117, 118, 119, 120, 121, 122, 123] (by decide +kernel) (by decide +kernel)
set_option maxRecDepth 20000 in
theorem gX11_rowText_X11_fail : GoodIn wsX11_rowText (wsV RX11 226 RX11 yX11_fail wsX11_fail) := goodIn_app (goodIn_of _ (by decide +kernel)) ggX11_rowText_X11_fail
theorem dX11_rowText_0 : decode cX11_rowText 0 = .ok (.aload_n 0, 1) := by decide +kernel
theorem dX11_rowText_1 : decode cX11_rowText 1 = .ok (.iconst 0, 1) := by decide +kernel
theorem dX11_rowText_2 : decode cX11_rowText 2 = .ok (.putfield 111, 3) := by decide +kernel
theorem dX11_rowText_5 : decode cX11_rowText 5 = .ok (.aload_n 0, 1) := by decide +kernel
theorem dX11_rowText_6 : decode cX11_rowText 6 = .ok (.iload_n 1, 1) := by decide +kernel
theorem dX11_rowText_7 : decode cX11_rowText 7 = .ok (.invokevirtual 461, 3) := by decide +kernel
theorem dX11_rowText_10 : decode cX11_rowText 10 = .ok (.ifCond .ne 9, 3) := by decide +kernel
theorem dX11_rowText_13 : decode cX11_rowText 13 = .ok (.aload_n 0, 1) := by decide +kernel
theorem dX11_rowText_14 : decode cX11_rowText 14 = .ok (.iconst 1, 1) := by decide +kernel
theorem dX11_rowText_15 : decode cX11_rowText 15 = .ok (.invokevirtual 226, 3) := by decide +kernel
theorem dX11_rowText_18 : decode cX11_rowText 18 = .ok (.ireturn, 1) := by decide +kernel
set_option maxRecDepth 20000 in
theorem ggX11_count_X11_things : GoodIn wsX11_count wsX11_things := goodIn_r _ [12, 13, 255, 256, 257, 258, 259, 260, 261, 262, 263, 264, 265, 266, 267, 268, 269, 270, 271, 272, 273, 274, 275, 276, 277, 278, 279, 280, 281, 282, 283, 284, 285, 286, 287, 288, 289, 290, 291, 292, 293, 294, 295, 296, 297, 298, 299, 300, 301, 302, 303, 304, 305, 306, 307, 308, 309, 310, 311, 312, 313, 314, 315, 316, 317, 318, 319, 320] (by decide +kernel) (by decide +kernel)
set_option maxRecDepth 20000 in
theorem gX11_count_X11_things : GoodIn wsX11_count (wsV RX11 267 RX11 yX11_things wsX11_things) := goodIn_app (goodIn_of _ (by decide +kernel)) ggX11_count_X11_things
