set_option maxRecDepth 20000 in
theorem gX11_path_X11_readPath : GoodIn wsX11_path (wsV RX11 341 RX11 yX11_readPath wsX11_readPath) := goodIn_app (goodIn_of _ (by decide +kernel)) ggX11_path_X11_readPath
set_option maxRecDepth 20000 in
theorem ggX11_path_X11_isRead : GoodIn wsX11_path wsX11_isRead := goodIn_r _ [179, 5, 74, 180, 181, 182, 183, 184, 185, 186, 187, 188, 189, 190, 191, 192, 193, 194, 195, 196, 197, 198, 199, 200, 201, 202, 203, 204, 205, 206, 207, 208, 209, 210, 211, 212, 213, 214, 215, 216, 217, 218, 219, 220, 221, 222, 223, 224, 225, 226, 227, 228, 229, 230, 231, 232, 233, 234, 235, 236, 237, 238, 239, 240, 241, 242, 243, 244, 245, 246, 247] (by decide +kernel) (by decide +kernel)
set_option maxRecDepth 20000 in
theorem gX11_path_X11_isRead : GoodIn wsX11_path (wsV RX11 215 RX11 yX11_isRead wsX11_isRead) := goodIn_app (goodIn_of _ (by decide +kernel)) ggX11_path_X11_isRead
theorem dX11_path_0 : decode cX11_path 0 = .ok (.aload_n 0, 1) := by decide +kernel
theorem dX11_path_1 : decode cX11_path 1 = .ok (.iconst 0, 1) := by decide +kernel
theorem dX11_path_2 : decode cX11_path 2 = .ok (.putfield 111, 3) := by decide +kernel
theorem dX11_path_5 : decode cX11_path 5 = .ok (.iload_n 1, 1) := by decide +kernel
theorem dX11_path_6 : decode cX11_path 6 = .ok (.iconst 0, 1) := by decide +kernel
theorem dX11_path_7 : decode cX11_path 7 = .ok (.iconst 3, 1) := by decide +kernel
theorem dX11_path_8 : decode cX11_path 8 = .ok (.invokestatic 219, 3) := by decide +kernel
theorem dX11_path_11 : decode cX11_path 11 = .ok (.ifCond .ne 9, 3) := by decide +kernel
theorem dX11_path_14 : decode cX11_path 14 = .ok (.aload_n 0, 1) := by decide +kernel
theorem dX11_path_15 : decode cX11_path 15 = .ok (.iconst 1, 1) := by decide +kernel
theorem dX11_path_16 : decode cX11_path 16 = .ok (.invokevirtual 226, 3) := by decide +kernel
theorem dX11_path_19 : decode cX11_path 19 = .ok (.ireturn, 1) := by decide +kernel
theorem dX11_path_20 : decode cX11_path 20 = .ok (.aload_n 0, 1) := by decide +kernel
theorem dX11_path_21 : decode cX11_path 21 = .ok (.iload_n 2, 1) := by decide +kernel
theorem dX11_path_22 : decode cX11_path 22 = .ok (.invokevirtual 223, 3) := by decide +kernel
theorem dX11_path_25 : decode cX11_path 25 = .ok (.ifCond .ne 9, 3) := by decide +kernel
theorem dX11_path_28 : decode cX11_path 28 = .ok (.aload_n 0, 1) := by decide +kernel
theorem dX11_path_29 : decode cX11_path 29 = .ok (.iconst 2, 1) := by decide +kernel
theorem dX11_path_30 : decode cX11_path 30 = .ok (.invokevirtual 226, 3) := by decide +kernel
theorem dX11_path_33 : decode cX11_path 33 = .ok (.ireturn, 1) := by decide +kernel
theorem dX11_path_34 : decode cX11_path 34 = .ok (.aload_n 0, 1) := by decide +kernel
theorem dX11_path_35 : decode cX11_path 35 = .ok (.iconst 0, 1) := by decide +kernel
theorem dX11_path_36 : decode cX11_path 36 = .ok (.putfield 114, 3) := by decide +kernel
theorem dX11_path_39 : decode cX11_path 39 = .ok (.aload_n 0, 1) := by decide +kernel
theorem dX11_path_40 : decode cX11_path 40 = .ok (.iconst 0, 1) := by decide +kernel
theorem dX11_path_41 : decode cX11_path 41 = .ok (.putfield 300, 3) := by decide +kernel
theorem dX11_path_44 : decode cX11_path 44 = .ok (.aload_n 0, 1) := by decide +kernel
theorem dX11_path_45 : decode cX11_path 45 = .ok (.aload_n 0, 1) := by decide +kernel
theorem dX11_path_46 : decode cX11_path 46 = .ok (.getfield 22, 3) := by decide +kernel
theorem dX11_path_49 : decode cX11_path 49 = .ok (.iconst 0, 1) := by decide +kernel
theorem dX11_path_50 : decode cX11_path 50 = .ok (.iload_n 2, 1) := by decide +kernel
theorem dX11_path_51 : decode cX11_path 51 = .ok (.invokevirtual 211, 3) := by decide +kernel
theorem dX11_path_54 : decode cX11_path 54 = .ok (.aload_n 0, 1) := by decide +kernel
theorem dX11_path_55 : decode cX11_path 55 = .ok (.iconst (-1), 1) := by decide +kernel
theorem dX11_path_56 : decode cX11_path 56 = .ok (.invokevirtual 341, 3) := by decide +kernel
theorem dX11_path_59 : decode cX11_path 59 = .ok (.aload_n 0, 1) := by decide +kernel
theorem dX11_path_60 : decode cX11_path 60 = .ok (.invokevirtual 215, 3) := by decide +kernel
theorem dX11_path_63 : decode cX11_path 63 = .ok (.ifCond .ne 8, 3) := by decide +kernel
theorem dX11_path_71 : decode cX11_path 71 = .ok (.iconst 0, 1) := by decide +kernel
theorem dX11_path_72 : decode cX11_path 72 = .ok (.istore_n 3, 1) := by decide +kernel
theorem dX11_path_73 : decode cX11_path 73 = .ok (.iload_n 3, 1) := by decide +kernel
theorem dX11_path_74 : decode cX11_path 74 = .ok (.iload_n 2, 1) := by decide +kernel
theorem dX11_path_75 : decode cX11_path 75 = .ok (.if_icmp .ge 27, 3) := by decide +kernel
theorem dX11_path_102 : decode cX11_path 102 = .ok (.aload_n 0, 1) := by decide +kernel
theorem dX11_path_103 : decode cX11_path 103 = .ok (.getfield 28, 3) := by decide +kernel
theorem dX11_path_106 : decode cX11_path 106 = .ok (.iload_n 1, 1) := by decide +kernel
theorem dX11_path_107 : decode cX11_path 107 = .ok (.iload_n 2, 1) := by decide +kernel
theorem dX11_path_108 : decode cX11_path 108 = .ok (.iconst 1, 1) := by decide +kernel
theorem dX11_path_109 : decode cX11_path 109 = .ok (.iadd, 1) := by decide +kernel
theorem dX11_path_110 : decode cX11_path 110 = .ok (.iastore, 1) := by decide +kernel
theorem dX11_path_111 : decode cX11_path 111 = .ok (.iconst 0, 1) := by decide +kernel
theorem dX11_path_112 : decode cX11_path 112 = .ok (.ireturn, 1) := by decide +kernel
set_option maxRecDepth 20000 in
theorem ggX11_answer_X11_isPath : GoodIn wsX11_answer wsX11_isPath := goodIn_r _ [7, 8, 9, 10, 6, 11, 182, 183, 184, 185, 186, 187, 188, 189, 190, 191, 192, 193, 194, 195, 196, 197, 198, 199, 200, 201, 202, 203, 204, 205, 206, 207, 208, 209, 210, 211, 212, 213, 214, 215, 216, 217, 218, 219, 220, 221, 222, 223, 224, 225, 226, 227, 228, 229, 230, 231, 232, 233, 234, 235, 236, 237, 238, 239, 240, 241, 242, 243, 244, 245, 246, 247] (by decide +kernel) (by decide +kernel)
set_option maxRecDepth 20000 in
theorem gX11_answer_X11_isPath : GoodIn wsX11_answer (wsV RX11 344 RX11 yX11_isPath wsX11_isPath) := goodIn_app (goodIn_of _ (by decide +kernel)) ggX11_answer_X11_isPath
