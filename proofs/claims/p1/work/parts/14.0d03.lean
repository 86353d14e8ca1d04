set_option maxRecDepth 20000 in
theorem ggX11_tree_X11_readsData : GoodIn wsX11_tree wsX11_readsData := goodIn_r _ [25, 4, 26, 3, 27, 28, 29, 30, 13, 31, 32, 33, 34, 35, 36, 37, 38, 39, 40, 41, 42, 43, 44, 45, 46, 47, 48, 49, 50, 51, 52, 53, 54, 55, 56, 57, 58, 59, 60, 61, 62, 6, 63, 64, 65, 66, 67, 68, 69, 70, 71, 72, 73, 74, 75, 76, 77, 78, 79, 80, 81, 82, 83, 84, 85, 86, 87, 88, 89, 90, 91, 92, 93, 94, 95, 96, 97, 98, 99, 100, 101, 102, 103, 104, 105, 106, 107, 108, 109, 110, 111, 112, 113, 114, 115, 116, 117, 118, 119, 120, 121, 122, 123, 124, 125, 126, 127, 128, 129, 130, 131, 132, 133, 134, 135, 136, 137, 138, 139, 140, 141, 142, 143, 144, 145, 146, 147, 148, 149, 150, 151, 152, 153, 154, 155, 156, 157, 158, 159, 160, 161, 162, 163, 164, 165, 166, 167, 168, 169, 170, 171, 172, 173, 174, 175] (by decide +kernel) (by decide +kernel)
set_option maxRecDepth 20000 in
theorem gX11_tree_X11_readsData : GoodIn wsX11_tree (wsV RX11 229 RX11 yX11_readsData wsX11_readsData) := goodIn_app (goodIn_of _ (by decide +kernel)) ggX11_tree_X11_readsData
theorem dX11_tree_0 : decode cX11_tree 0 = .ok (.aload_n 0, 1) := by decide +kernel
theorem dX11_tree_1 : decode cX11_tree 1 = .ok (.iconst 0, 1) := by decide +kernel
theorem dX11_tree_2 : decode cX11_tree 2 = .ok (.putfield 111, 3) := by decide +kernel
theorem dX11_tree_5 : decode cX11_tree 5 = .ok (.aload_n 0, 1) := by decide +kernel
theorem dX11_tree_6 : decode cX11_tree 6 = .ok (.iload_n 1, 1) := by decide +kernel
theorem dX11_tree_7 : decode cX11_tree 7 = .ok (.invokevirtual 223, 3) := by decide +kernel
theorem dX11_tree_10 : decode cX11_tree 10 = .ok (.ifCond .ne 9, 3) := by decide +kernel
theorem dX11_tree_13 : decode cX11_tree 13 = .ok (.aload_n 0, 1) := by decide +kernel
theorem dX11_tree_14 : decode cX11_tree 14 = .ok (.iconst 1, 1) := by decide +kernel
theorem dX11_tree_15 : decode cX11_tree 15 = .ok (.invokevirtual 226, 3) := by decide +kernel
theorem dX11_tree_18 : decode cX11_tree 18 = .ok (.ireturn, 1) := by decide +kernel
theorem dX11_tree_19 : decode cX11_tree 19 = .ok (.aload_n 0, 1) := by decide +kernel
theorem dX11_tree_20 : decode cX11_tree 20 = .ok (.iconst 0, 1) := by decide +kernel
theorem dX11_tree_21 : decode cX11_tree 21 = .ok (.putfield 114, 3) := by decide +kernel
theorem dX11_tree_24 : decode cX11_tree 24 = .ok (.aload_n 0, 1) := by decide +kernel
theorem dX11_tree_25 : decode cX11_tree 25 = .ok (.iload_n 1, 1) := by decide +kernel
theorem dX11_tree_26 : decode cX11_tree 26 = .ok (.invokevirtual 229, 3) := by decide +kernel
theorem dX11_tree_29 : decode cX11_tree 29 = .ok (.ifCond .ne 8, 3) := by decide +kernel
theorem dX11_tree_32 : decode cX11_tree 32 = .ok (.aload_n 0, 1) := by decide +kernel
theorem dX11_tree_33 : decode cX11_tree 33 = .ok (.getfield 162, 3) := by decide +kernel
theorem dX11_tree_36 : decode cX11_tree 36 = .ok (.ireturn, 1) := by decide +kernel
theorem dX11_readPath_0 : decode cX11_readPath 0 = .ok (.aload_n 0, 1) := by decide +kernel
theorem dX11_readPath_1 : decode cX11_readPath 1 = .ok (.iconst 0, 1) := by decide +kernel
theorem dX11_readPath_2 : decode cX11_readPath 2 = .ok (.putfield 273, 3) := by decide +kernel
theorem dX11_readPath_5 : decode cX11_readPath 5 = .ok (.aload_n 0, 1) := by decide +kernel
theorem dX11_readPath_6 : decode cX11_readPath 6 = .ok (.iconst 0, 1) := by decide +kernel
theorem dX11_readPath_7 : decode cX11_readPath 7 = .ok (.putfield 276, 3) := by decide +kernel
theorem dX11_readPath_10 : decode cX11_readPath 10 = .ok (.aload_n 0, 1) := by decide +kernel
theorem dX11_readPath_11 : decode cX11_readPath 11 = .ok (.iconst 0, 1) := by decide +kernel
theorem dX11_readPath_12 : decode cX11_readPath 12 = .ok (.putfield 279, 3) := by decide +kernel
theorem dX11_readPath_15 : decode cX11_readPath 15 = .ok (.aload_n 0, 1) := by decide +kernel
theorem dX11_readPath_16 : decode cX11_readPath 16 = .ok (.iload_n 1, 1) := by decide +kernel
theorem dX11_readPath_17 : decode cX11_readPath 17 = .ok (.putfield 282, 3) := by decide +kernel
theorem dX11_readPath_20 : decode cX11_readPath 20 = .ok (.aload_n 0, 1) := by decide +kernel
theorem dX11_readPath_21 : decode cX11_readPath 21 = .ok (.getfield 162, 3) := by decide +kernel
theorem dX11_readPath_24 : decode cX11_readPath 24 = .ok (.ifCond .ne 28, 3) := by decide +kernel
theorem dX11_readPath_27 : decode cX11_readPath 27 = .ok (.aload_n 0, 1) := by decide +kernel
theorem dX11_readPath_28 : decode cX11_readPath 28 = .ok (.getfield 136, 3) := by decide +kernel
theorem dX11_readPath_31 : decode cX11_readPath 31 = .ok (.ifCond .eq 21, 3) := by decide +kernel
theorem dX11_readPath_52 : decode cX11_readPath 52 = .ok (.return_, 1) := by decide +kernel
set_option maxRecDepth 20000 in
theorem ggX11_path_X11_isIn : GoodIn wsX11_path wsX11_isIn := goodIn_r _ [11] (by decide +kernel) (by decide +kernel)
set_option maxRecDepth 20000 in
theorem gX11_path_X11_isIn : GoodIn wsX11_path (va_wsS RX11 219 yX11_isIn wsX11_isIn) := goodIn_app (goodIn_of _ (by decide +kernel)) ggX11_path_X11_isIn
set_option maxRecDepth 20000 in
theorem ggX11_path_X11_fail : GoodIn wsX11_path wsX11_fail := goodIn_r _ [15, 1, 182, 183, 184, 185, 186, 187, 188, 189, 190, 191, 192, 193, 194, 195, 196, 197, 198, 199, 200, 201, 202, 203, 204, 205, 206, 207, 208, 209, 210, 211, 212, 213, 214, 215, 216, 217, 218, 219, 220, 221, 222, 223, 224, 225, 226, 227, 228, 229, 230, 231, 232, 233, 234, 235, 236, 237, 238, 239, 240, 241, 242, 243, 244, 245, 246, 247] (by decide +kernel) (by decide +kernel)
set_option maxRecDepth 20000 in
theorem gX11_path_X11_fail : GoodIn wsX11_path (wsV RX11 226 RX11 yX11_fail wsX11_fail) := goodIn_app (goodIn_of _ (by decide +kernel)) ggX11_path_X11_fail
