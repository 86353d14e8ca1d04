set_option maxRecDepth 20000 in
theorem ggX11_withText_X11_refuse : GoodIn wsX11_withText wsX11_refuse := goodIn_r _ [30, 31, 275, 276, 277, 278, 279, 280, 281, 282, 283, 284, 285, 286, 287, 288, 289, 290, 291, 292, 293, 294, 295, 296, 297, 298, 299, 300, 301, 302, 303, 304, 305, 306, 307, 308, 309, 310, 311, 312, 313, 314, 315, 316, 317, 318, 319, 320, 321, 322, 323, 324, 325, 326, 327, 328, 329, 330, 331, 332, 333, 334, 335, 336, 337, 338, 339, 340] (by decide +kernel) (by decide +kernel)
set_option maxRecDepth 20000 in
theorem gX11_withText_X11_refuse : GoodIn wsX11_withText (wsV RX11 409 RX11 yX11_refuse wsX11_refuse) := goodIn_app (goodIn_of _ (by decide +kernel)) ggX11_withText_X11_refuse
theorem dX11_withText_0 : decode cX11_withText 0 = .ok (.aload_n 0, 1) := by decide +kernel
theorem dX11_withText_1 : decode cX11_withText 1 = .ok (.iconst 0, 1) := by decide +kernel
theorem dX11_withText_2 : decode cX11_withText 2 = .ok (.putfield 111, 3) := by decide +kernel
theorem dX11_withText_5 : decode cX11_withText 5 = .ok (.aload_n 0, 1) := by decide +kernel
theorem dX11_withText_6 : decode cX11_withText 6 = .ok (.iload 4, 2) := by decide +kernel
theorem dX11_withText_8 : decode cX11_withText 8 = .ok (.invokevirtual 223, 3) := by decide +kernel
theorem dX11_withText_11 : decode cX11_withText 11 = .ok (.ifCond .ne 9, 3) := by decide +kernel
theorem dX11_withText_14 : decode cX11_withText 14 = .ok (.aload_n 0, 1) := by decide +kernel
theorem dX11_withText_15 : decode cX11_withText 15 = .ok (.iconst 1, 1) := by decide +kernel
theorem dX11_withText_16 : decode cX11_withText 16 = .ok (.invokevirtual 226, 3) := by decide +kernel
theorem dX11_withText_19 : decode cX11_withText 19 = .ok (.ireturn, 1) := by decide +kernel
theorem dX11_withText_20 : decode cX11_withText 20 = .ok (.aload_n 0, 1) := by decide +kernel
theorem dX11_withText_21 : decode cX11_withText 21 = .ok (.iconst 0, 1) := by decide +kernel
theorem dX11_withText_22 : decode cX11_withText 22 = .ok (.putfield 114, 3) := by decide +kernel
theorem dX11_withText_25 : decode cX11_withText 25 = .ok (.aload_n 0, 1) := by decide +kernel
theorem dX11_withText_26 : decode cX11_withText 26 = .ok (.iload_n 1, 1) := by decide +kernel
theorem dX11_withText_27 : decode cX11_withText 27 = .ok (.invokevirtual 344, 3) := by decide +kernel
theorem dX11_withText_30 : decode cX11_withText 30 = .ok (.ifCond .eq 15, 3) := by decide +kernel
theorem dX11_withText_45 : decode cX11_withText 45 = .ok (.aload_n 0, 1) := by decide +kernel
theorem dX11_withText_46 : decode cX11_withText 46 = .ok (.iconst 1, 1) := by decide +kernel
theorem dX11_withText_47 : decode cX11_withText 47 = .ok (.invokevirtual 409, 3) := by decide +kernel
theorem dX11_withText_50 : decode cX11_withText 50 = .ok (.ireturn, 1) := by decide +kernel
