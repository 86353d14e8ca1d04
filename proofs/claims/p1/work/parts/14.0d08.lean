set_option maxRecDepth 20000 in
theorem ggX11_steps_X11_fail : GoodIn wsX11_steps wsX11_fail := goodIn_r _ [15, 1, 182, 183, 184, 185, 186, 187, 188, 189, 190, 191, 192, 193, 194, 195, 196, 197, 198, 199, 200, 201, 202, 203, 204, 205, 206, 207, 208, 209, 210, 211, 212, 213, 214, 215, 216, 217, 218, 219, 220, 221, 222, 223, 224, 225, 226, 227, 228, 229, 230, 231, 232, 233, 234, 235, 236, 237, 238, 239, 240, 241, 242, 243, 244, 245, 246, 247] (by decide +kernel) (by decide +kernel)
set_option maxRecDepth 20000 in
theorem gX11_steps_X11_fail : GoodIn wsX11_steps (wsV RX11 226 RX11 yX11_fail wsX11_fail) := goodIn_app (goodIn_of _ (by decide +kernel)) ggX11_steps_X11_fail
theorem dX11_steps_0 : decode cX11_steps 0 = .ok (.aload_n 0, 1) := by decide +kernel
theorem dX11_steps_1 : decode cX11_steps 1 = .ok (.iconst 0, 1) := by decide +kernel
theorem dX11_steps_2 : decode cX11_steps 2 = .ok (.putfield 111, 3) := by decide +kernel
theorem dX11_steps_5 : decode cX11_steps 5 = .ok (.aload_n 0, 1) := by decide +kernel
theorem dX11_steps_6 : decode cX11_steps 6 = .ok (.iload_n 1, 1) := by decide +kernel
theorem dX11_steps_7 : decode cX11_steps 7 = .ok (.invokevirtual 344, 3) := by decide +kernel
theorem dX11_steps_10 : decode cX11_steps 10 = .ok (.ifCond .ne 9, 3) := by decide +kernel
theorem dX11_steps_13 : decode cX11_steps 13 = .ok (.aload_n 0, 1) := by decide +kernel
theorem dX11_steps_14 : decode cX11_steps 14 = .ok (.iconst 1, 1) := by decide +kernel
theorem dX11_steps_15 : decode cX11_steps 15 = .ok (.invokevirtual 226, 3) := by decide +kernel
theorem dX11_steps_18 : decode cX11_steps 18 = .ok (.ireturn, 1) := by decide +kernel
set_option maxRecDepth 20000 in
theorem ggX11_withText_X11_isTape : GoodIn wsX11_withText wsX11_isTape := goodIn_r _ [8, 2, 9, 10, 7, 11, 275, 276, 277, 278, 279, 280, 281, 282, 283, 284, 285, 286, 287, 288, 289, 290, 291, 292, 293, 294, 295, 296, 297, 298, 299, 300, 301, 302, 303, 304, 305, 306, 307, 308, 309, 310, 311, 312, 313, 314, 315, 316, 317, 318, 319, 320, 321, 322, 323, 324, 325, 326, 327, 328, 329, 330, 331, 332, 333, 334, 335, 336, 337, 338, 339, 340] (by decide +kernel) (by decide +kernel)
set_option maxRecDepth 20000 in
theorem gX11_withText_X11_isTape : GoodIn wsX11_withText (wsV RX11 223 RX11 yX11_isTape wsX11_isTape) := goodIn_app (goodIn_of _ (by decide +kernel)) ggX11_withText_X11_isTape
