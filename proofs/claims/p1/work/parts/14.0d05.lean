set_option maxRecDepth 20000 in
theorem gX11_tellThing_X11_holds : GoodIn wsX11_tellThing (va_wsS RX11 256 yX11_holds wsX11_holds) := goodIn_app (goodIn_of _ (by decide +kernel)) ggX11_tellThing_X11_holds
set_option maxRecDepth 20000 in
theorem ggX11_tellThing_X11_kind : GoodIn wsX11_tellThing wsX11_kind := goodIn_r _ [7] (by decide +kernel) (by decide +kernel)
set_option maxRecDepth 20000 in
theorem gX11_tellThing_X11_kind : GoodIn wsX11_tellThing (va_wsS RX11 253 yX11_kind wsX11_kind) := goodIn_app (goodIn_of _ (by decide +kernel)) ggX11_tellThing_X11_kind
set_option maxRecDepth 20000 in
theorem ggX11_tellThing_X11_tell : GoodIn wsX11_tellThing wsX11_tell := goodIn_r _ [15, 16, 17, 31, 32, 33, 34, 35, 36, 37, 38, 39, 40, 41, 42, 43, 44, 45, 46, 47, 48, 49, 50, 51, 52, 53, 54, 55, 56, 57, 58, 59, 60, 61, 62, 63, 64, 65, 66, 67, 68, 69, 70, 71, 72, 73, 74, 75, 76, 77, 78, 79, 80, 81, 82, 83, 84, 85, 86, 87, 88, 89, 90, 91, 92, 93, 94, 95, 96] (by decide +kernel) (by decide +kernel)
set_option maxRecDepth 20000 in
theorem gX11_tellThing_X11_tell : GoodIn wsX11_tellThing (wsV RX11 474 RX11 yX11_tell wsX11_tell) := goodIn_app (goodIn_of _ (by decide +kernel)) ggX11_tellThing_X11_tell
set_option maxRecDepth 20000 in
theorem ggX11_tellThing_X11_size : GoodIn wsX11_tellThing wsX11_size := goodIn_r _ [27] (by decide +kernel) (by decide +kernel)
set_option maxRecDepth 20000 in
theorem gX11_tellThing_X11_size : GoodIn wsX11_tellThing (va_wsS RX11 242 yX11_size wsX11_size) := goodIn_app (goodIn_of _ (by decide +kernel)) ggX11_tellThing_X11_size
theorem dX11_tellThing_0 : decode cX11_tellThing 0 = .ok (.aload_n 1, 1) := by decide +kernel
theorem dX11_tellThing_1 : decode cX11_tellThing 1 = .ok (.iload_n 2, 1) := by decide +kernel
theorem dX11_tellThing_2 : decode cX11_tellThing 2 = .ok (.invokestatic 256, 3) := by decide +kernel
theorem dX11_tellThing_5 : decode cX11_tellThing 5 = .ok (.ifCond .ne 37, 3) := by decide +kernel
theorem dX11_tellThing_42 : decode cX11_tellThing 42 = .ok (.aload_n 1, 1) := by decide +kernel
theorem dX11_tellThing_43 : decode cX11_tellThing 43 = .ok (.iload_n 2, 1) := by decide +kernel
theorem dX11_tellThing_44 : decode cX11_tellThing 44 = .ok (.invokestatic 253, 3) := by decide +kernel
theorem dX11_tellThing_47 : decode cX11_tellThing 47 = .ok (.iconst 3, 1) := by decide +kernel
theorem dX11_tellThing_48 : decode cX11_tellThing 48 = .ok (.if_icmp .ne 7, 3) := by decide +kernel
theorem dX11_tellThing_51 : decode cX11_tellThing 51 = .ok (.iconst 1, 1) := by decide +kernel
theorem dX11_tellThing_52 : decode cX11_tellThing 52 = .ok (.goto 4, 3) := by decide +kernel
theorem dX11_tellThing_56 : decode cX11_tellThing 56 = .ok (.istore_n 3, 1) := by decide +kernel
theorem dX11_tellThing_57 : decode cX11_tellThing 57 = .ok (.aload_n 0, 1) := by decide +kernel
theorem dX11_tellThing_58 : decode cX11_tellThing 58 = .ok (.iload_n 3, 1) := by decide +kernel
theorem dX11_tellThing_59 : decode cX11_tellThing 59 = .ok (.ifCond .eq 8, 3) := by decide +kernel
theorem dX11_tellThing_62 : decode cX11_tellThing 62 = .ok (.bipush 123, 2) := by decide +kernel
theorem dX11_tellThing_64 : decode cX11_tellThing 64 = .ok (.goto 5, 3) := by decide +kernel
theorem dX11_tellThing_69 : decode cX11_tellThing 69 = .ok (.invokevirtual 474, 3) := by decide +kernel
theorem dX11_tellThing_72 : decode cX11_tellThing 72 = .ok (.iload_n 2, 1) := by decide +kernel
theorem dX11_tellThing_73 : decode cX11_tellThing 73 = .ok (.iconst 1, 1) := by decide +kernel
theorem dX11_tellThing_74 : decode cX11_tellThing 74 = .ok (.iadd, 1) := by decide +kernel
theorem dX11_tellThing_75 : decode cX11_tellThing 75 = .ok (.istore 4, 2) := by decide +kernel
theorem dX11_tellThing_77 : decode cX11_tellThing 77 = .ok (.iload 4, 2) := by decide +kernel
theorem dX11_tellThing_79 : decode cX11_tellThing 79 = .ok (.iload_n 2, 1) := by decide +kernel
theorem dX11_tellThing_80 : decode cX11_tellThing 80 = .ok (.aload_n 1, 1) := by decide +kernel
theorem dX11_tellThing_81 : decode cX11_tellThing 81 = .ok (.iload_n 2, 1) := by decide +kernel
theorem dX11_tellThing_82 : decode cX11_tellThing 82 = .ok (.invokestatic 242, 3) := by decide +kernel
theorem dX11_tellThing_85 : decode cX11_tellThing 85 = .ok (.iadd, 1) := by decide +kernel
theorem dX11_tellThing_86 : decode cX11_tellThing 86 = .ok (.if_icmp .ge 60, 3) := by decide +kernel
theorem dX11_tellThing_146 : decode cX11_tellThing 146 = .ok (.aload_n 0, 1) := by decide +kernel
theorem dX11_tellThing_147 : decode cX11_tellThing 147 = .ok (.iload_n 3, 1) := by decide +kernel
theorem dX11_tellThing_148 : decode cX11_tellThing 148 = .ok (.ifCond .eq 8, 3) := by decide +kernel
theorem dX11_tellThing_151 : decode cX11_tellThing 151 = .ok (.bipush 125, 2) := by decide +kernel
theorem dX11_tellThing_153 : decode cX11_tellThing 153 = .ok (.goto 5, 3) := by decide +kernel
theorem dX11_tellThing_158 : decode cX11_tellThing 158 = .ok (.invokevirtual 474, 3) := by decide +kernel
theorem dX11_tellThing_161 : decode cX11_tellThing 161 = .ok (.return_, 1) := by decide +kernel
set_option maxRecDepth 20000 in
theorem ggX11_tellWay_X11_parentOf : GoodIn wsX11_tellWay wsX11_parentOf := goodIn_r _ [5, 6, 7, 4, 8] (by decide +kernel) (by decide +kernel)
set_option maxRecDepth 20000 in
theorem gX11_tellWay_X11_parentOf : GoodIn wsX11_tellWay (va_wsS RX11 270 yX11_parentOf wsX11_parentOf) := goodIn_app (goodIn_of _ (by decide +kernel)) ggX11_tellWay_X11_parentOf
theorem dX11_tellWay_0 : decode cX11_tellWay 0 = .ok (.aload_n 0, 1) := by decide +kernel
theorem dX11_tellWay_1 : decode cX11_tellWay 1 = .ok (.getfield 9, 3) := by decide +kernel
theorem dX11_tellWay_4 : decode cX11_tellWay 4 = .ok (.iload_n 1, 1) := by decide +kernel
theorem dX11_tellWay_5 : decode cX11_tellWay 5 = .ok (.invokestatic 270, 3) := by decide +kernel
theorem dX11_tellWay_8 : decode cX11_tellWay 8 = .ok (.istore_n 2, 1) := by decide +kernel
theorem dX11_tellWay_9 : decode cX11_tellWay 9 = .ok (.iload_n 2, 1) := by decide +kernel
theorem dX11_tellWay_10 : decode cX11_tellWay 10 = .ok (.iconst (-1), 1) := by decide +kernel
theorem dX11_tellWay_11 : decode cX11_tellWay 11 = .ok (.if_icmp .ne 4, 3) := by decide +kernel
theorem dX11_tellWay_14 : decode cX11_tellWay 14 = .ok (.return_, 1) := by decide +kernel
set_option maxRecDepth 20000 in
theorem ggX11_outAt_X11_isIn : GoodIn wsX11_outAt wsX11_isIn := goodIn_r _ [6] (by decide +kernel) (by decide +kernel)
set_option maxRecDepth 20000 in
theorem gX11_outAt_X11_isIn : GoodIn wsX11_outAt (va_wsS RX11 219 yX11_isIn wsX11_isIn) := goodIn_app (goodIn_of _ (by decide +kernel)) ggX11_outAt_X11_isIn
set_option maxRecDepth 20000 in
theorem ggX11_outAt_X11_fail : GoodIn wsX11_outAt wsX11_fail := goodIn_r _ [10, 11, 12, 13, 14, 15, 16, 17, 18, 19, 20, 21, 22, 23, 24, 25, 26, 27, 28, 29, 30, 31, 32, 33, 34, 35, 36, 37, 38, 39, 40, 41, 42, 43, 44, 45, 46, 47, 48, 49, 50, 51, 52, 53, 54, 55, 56, 57, 58, 59, 60, 61, 62, 63, 64, 65, 66, 67, 68, 69, 70, 71, 72, 73, 74, 75, 76, 77] (by decide +kernel) (by decide +kernel)
