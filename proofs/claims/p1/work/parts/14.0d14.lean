set_option maxRecDepth 20000 in
theorem gX11_key_X11_withText : GoodIn wsX11_key (wsV RX11 416 RX11 yX11_withText wsX11_withText) := goodIn_app (goodIn_of _ (by decide +kernel)) ggX11_key_X11_withText
theorem dX11_key_0 : decode cX11_key 0 = .ok (.aload_n 0, 1) := by decide +kernel
theorem dX11_key_1 : decode cX11_key 1 = .ok (.iload_n 1, 1) := by decide +kernel
theorem dX11_key_2 : decode cX11_key 2 = .ok (.iconst 2, 1) := by decide +kernel
theorem dX11_key_3 : decode cX11_key 3 = .ok (.iload_n 2, 1) := by decide +kernel
theorem dX11_key_4 : decode cX11_key 4 = .ok (.iload_n 3, 1) := by decide +kernel
theorem dX11_key_5 : decode cX11_key 5 = .ok (.invokevirtual 416, 3) := by decide +kernel
theorem dX11_key_8 : decode cX11_key 8 = .ok (.ireturn, 1) := by decide +kernel
set_option maxRecDepth 20000 in
theorem ggX11_row_X11_isRow : GoodIn wsX11_row wsX11_isRow := goodIn_r _ [11, 12, 13, 14, 10, 15, 23, 24, 25, 26, 27, 28, 29, 30, 31, 32, 33, 34, 35, 36, 37, 38, 39, 40, 41, 42, 43, 44, 45, 46, 47, 48, 49, 50, 51, 52, 53, 54, 55, 56, 57, 58, 59, 60, 61, 62, 63, 64, 65, 66, 67, 68, 69, 70, 71, 72, 73, 74, 75, 76, 77, 78, 79, 80, 81, 82, 83, 84, 85, 86, 87, 88] (by decide +kernel) (by decide +kernel)
set_option maxRecDepth 20000 in
theorem gX11_row_X11_isRow : GoodIn wsX11_row (wsV RX11 461 RX11 yX11_isRow wsX11_isRow) := goodIn_app (goodIn_of _ (by decide +kernel)) ggX11_row_X11_isRow
set_option maxRecDepth 20000 in
theorem ggX11_row_X11_fail : GoodIn wsX11_row wsX11_fail := goodIn_r _ [19, 1, 23, 24, 25, 26, 27, 28, 29, 30, 31, 32, 33, 34, 35, 36, 37, 38, 39, 40, 41, 42, 43, 44, 45, 46, 47, 48, 49, 50, 51, 52, 53, 54, 55, 56, 57, 58, 59, 60, 61, 62, 63, 64, 65, 66, 67, 68, 69, 70, 71, 72, 73, 74, 75, 76, 77, 78, 79, 80, 81, 82, 83, 84, 85, 86, 87, 88] (by decide +kernel) (by decide +kernel)
set_option maxRecDepth 20000 in
theorem gX11_row_X11_fail : GoodIn wsX11_row (wsV RX11 226 RX11 yX11_fail wsX11_fail) := goodIn_app (goodIn_of _ (by decide +kernel)) ggX11_row_X11_fail
theorem dX11_row_0 : decode cX11_row 0 = .ok (.aload_n 0, 1) := by decide +kernel
theorem dX11_row_1 : decode cX11_row 1 = .ok (.iconst 0, 1) := by decide +kernel
theorem dX11_row_2 : decode cX11_row 2 = .ok (.putfield 111, 3) := by decide +kernel
theorem dX11_row_5 : decode cX11_row 5 = .ok (.aload_n 0, 1) := by decide +kernel
theorem dX11_row_6 : decode cX11_row 6 = .ok (.iload_n 1, 1) := by decide +kernel
theorem dX11_row_7 : decode cX11_row 7 = .ok (.invokevirtual 461, 3) := by decide +kernel
theorem dX11_row_10 : decode cX11_row 10 = .ok (.ifCond .eq 12, 3) := by decide +kernel
theorem dX11_row_22 : decode cX11_row 22 = .ok (.aload_n 0, 1) := by decide +kernel
theorem dX11_row_23 : decode cX11_row 23 = .ok (.iconst 1, 1) := by decide +kernel
theorem dX11_row_24 : decode cX11_row 24 = .ok (.invokevirtual 226, 3) := by decide +kernel
theorem dX11_row_27 : decode cX11_row 27 = .ok (.ireturn, 1) := by decide +kernel
theorem dX11_tell_0 : decode cX11_tell 0 = .ok (.aload_n 0, 1) := by decide +kernel
theorem dX11_tell_1 : decode cX11_tell 1 = .ok (.getfield 78, 3) := by decide +kernel
theorem dX11_tell_4 : decode cX11_tell 4 = .ok (.aload_n 0, 1) := by decide +kernel
theorem dX11_tell_5 : decode cX11_tell 5 = .ok (.getfield 471, 3) := by decide +kernel
theorem dX11_tell_8 : decode cX11_tell 8 = .ok (.iload_n 1, 1) := by decide +kernel
theorem dX11_tell_9 : decode cX11_tell 9 = .ok (.iastore, 1) := by decide +kernel
theorem dX11_tell_10 : decode cX11_tell 10 = .ok (.aload_n 0, 1) := by decide +kernel
theorem dX11_tell_11 : decode cX11_tell 11 = .ok (.dup, 1) := by decide +kernel
theorem dX11_tell_12 : decode cX11_tell 12 = .ok (.getfield 471, 3) := by decide +kernel
theorem dX11_tell_15 : decode cX11_tell 15 = .ok (.iconst 1, 1) := by decide +kernel
theorem dX11_tell_16 : decode cX11_tell 16 = .ok (.iadd, 1) := by decide +kernel
theorem dX11_tell_17 : decode cX11_tell 17 = .ok (.putfield 471, 3) := by decide +kernel
theorem dX11_tell_20 : decode cX11_tell 20 = .ok (.return_, 1) := by decide +kernel
set_option maxRecDepth 20000 in
theorem ggX11_tellThing_X11_holds : GoodIn wsX11_tellThing wsX11_holds := goodIn_r _ [4] (by decide +kernel) (by decide +kernel)
set_option maxRecDepth 20000 in
theorem gX11_tellThing_X11_holds : GoodIn wsX11_tellThing (va_wsS RX11 256 yX11_holds wsX11_holds) := goodIn_app (goodIn_of _ (by decide +kernel)) ggX11_tellThing_X11_holds
set_option maxRecDepth 20000 in
theorem ggX11_tellThing_X11_kind : GoodIn wsX11_tellThing wsX11_kind := goodIn_r _ [7] (by decide +kernel) (by decide +kernel)
set_option maxRecDepth 20000 in
theorem gX11_tellThing_X11_kind : GoodIn wsX11_tellThing (va_wsS RX11 253 yX11_kind wsX11_kind) := goodIn_app (goodIn_of _ (by decide +kernel)) ggX11_tellThing_X11_kind
set_option maxRecDepth 20000 in
theorem ggX11_tellThing_X11_tell : GoodIn wsX11_tellThing wsX11_tell := goodIn_r _ [15, 16, 17, 31, 32, 33, 34, 35, 36, 37, 38, 39, 40, 41, 42, 43, 44, 45, 46, 47, 48, 49, 50, 51, 52, 53, 54, 55, 56, 57, 58, 59, 60, 61, 62, 63, 64, 65, 66, 67, 68, 69, 70, 71, 72, 73, 74, 75, 76, 77, 78, 79, 80, 81, 82, 83, 84, 85, 86, 87, 88, 89, 90, 91, 92, 93, 94, 95, 96] (by decide +kernel) (by decide +kernel)
set_option maxRecDepth 20000 in
theorem gX11_tellThing_X11_tell : GoodIn wsX11_tellThing (wsV RX11 474 RX11 yX11_tell wsX11_tell) := goodIn_app (goodIn_of _ (by decide +kernel)) ggX11_tellThing_X11_tell
set_option maxRecDepth 20000 in
theorem ggX11_tellThing_X11_size : GoodIn wsX11_tellThing wsX11_size := goodIn_r _ [27] (by decide +kernel) (by decide +kernel)
set_option maxRecDepth 20000 in
theorem gX11_tellThing_X11_size : GoodIn wsX11_tellThing (va_wsS RX11 242 yX11_size wsX11_size) := goodIn_app (goodIn_of _ (by decide +kernel)) ggX11_tellThing_X11_size
theorem dX11_tellThing_0 : decode cX11_tellThing 0 = .ok (.aload_n 1, 1) := by decide +kernel
theorem dX11_tellThing_1 : decode cX11_tellThing 1 = .ok (.iload_n 2, 1) := by decide +kernel
theorem dX11_tellThing_2 : decode cX11_tellThing 2 = .ok (.invokestatic 256, 3) := by decide +kernel
theorem dX11_tellThing_5 : decode cX11_tellThing 5 = .ok (.ifCond .ne 37, 3) := by decide +kernel
theorem dX11_tellThing_42 : decode cX11_tellThing 42 = .ok (.aload_n 1, 1) := by decide +kernel
theorem dX11_tellThing_43 : decode cX11_tellThing 43 = .ok (.iload_n 2, 1) := by decide +kernel
theorem dX11_tellThing_44 : decode cX11_tellThing 44 = .ok (.invokestatic 253, 3) := by decide +kernel
theorem dX11_tellThing_47 : decode cX11_tellThing 47 = .ok (.iconst 3, 1) := by decide +kernel
theorem dX11_tellThing_48 : decode cX11_tellThing 48 = .ok (.if_icmp .ne 7, 3) := by decide +kernel
theorem dX11_tellThing_51 : decode cX11_tellThing 51 = .ok (.iconst 1, 1) := by decide +kernel
theorem dX11_tellThing_52 : decode cX11_tellThing 52 = .ok (.goto 4, 3) := by decide +kernel
theorem dX11_tellThing_56 : decode cX11_tellThing 56 = .ok (.istore_n 3, 1) := by decide +kernel
theorem dX11_tellThing_57 : decode cX11_tellThing 57 = .ok (.aload_n 0, 1) := by decide +kernel
theorem dX11_tellThing_58 : decode cX11_tellThing 58 = .ok (.iload_n 3, 1) := by decide +kernel
theorem dX11_tellThing_59 : decode cX11_tellThing 59 = .ok (.ifCond .eq 8, 3) := by decide +kernel
theorem dX11_tellThing_62 : decode cX11_tellThing 62 = .ok (.bipush 123, 2) := by decide +kernel
theorem dX11_tellThing_64 : decode cX11_tellThing 64 = .ok (.goto 5, 3) := by decide +kernel
theorem dX11_tellThing_69 : decode cX11_tellThing 69 = .ok (.invokevirtual 474, 3) := by decide +kernel
theorem dX11_tellThing_72 : decode cX11_tellThing 72 = .ok (.iload_n 2, 1) := by decide +kernel
theorem dX11_tellThing_73 : decode cX11_tellThing 73 = .ok (.iconst 1, 1) := by decide +kernel
theorem dX11_tellThing_74 : decode cX11_tellThing 74 = .ok (.iadd, 1) := by decide +kernel
theorem dX11_tellThing_75 : decode cX11_tellThing 75 = .ok (.istore 4, 2) := by decide +kernel
theorem dX11_tellThing_77 : decode cX11_tellThing 77 = .ok (.iload 4, 2) := by decide +kernel
theorem dX11_tellThing_79 : decode cX11_tellThing 79 = .ok (.iload_n 2, 1) := by decide +kernel
theorem dX11_tellThing_80 : decode cX11_tellThing 80 = .ok (.aload_n 1, 1) := by decide +kernel
theorem dX11_tellThing_81 : decode cX11_tellThing 81 = .ok (.iload_n 2, 1) := by decide +kernel
theorem dX11_tellThing_82 : decode cX11_tellThing 82 = .ok (.invokestatic 242, 3) := by decide +kernel
theorem dX11_tellThing_85 : decode cX11_tellThing 85 = .ok (.iadd, 1) := by decide +kernel
theorem dX11_tellThing_86 : decode cX11_tellThing 86 = .ok (.if_icmp .ge 60, 3) := by decide +kernel
theorem dX11_tellThing_146 : decode cX11_tellThing 146 = .ok (.aload_n 0, 1) := by decide +kernel
theorem dX11_tellThing_147 : decode cX11_tellThing 147 = .ok (.iload_n 3, 1) := by decide +kernel
theorem dX11_tellThing_148 : decode cX11_tellThing 148 = .ok (.ifCond .eq 8, 3) := by decide +kernel
theorem dX11_tellThing_151 : decode cX11_tellThing 151 = .ok (.bipush 125, 2) := by decide +kernel
theorem dX11_tellThing_153 : decode cX11_tellThing 153 = .ok (.goto 5, 3) := by decide +kernel
theorem dX11_tellThing_158 : decode cX11_tellThing 158 = .ok (.invokevirtual 474, 3) := by decide +kernel
theorem dX11_tellThing_161 : decode cX11_tellThing 161 = .ok (.return_, 1) := by decide +kernel
set_option maxRecDepth 20000 in
theorem ggX11_tellWay_X11_parentOf : GoodIn wsX11_tellWay wsX11_parentOf := goodIn_r _ [5, 6, 7, 4, 8] (by decide +kernel) (by decide +kernel)
set_option maxRecDepth 20000 in
theorem gX11_tellWay_X11_parentOf : GoodIn wsX11_tellWay (va_wsS RX11 270 yX11_parentOf wsX11_parentOf) := goodIn_app (goodIn_of _ (by decide +kernel)) ggX11_tellWay_X11_parentOf
theorem dX11_tellWay_0 : decode cX11_tellWay 0 = .ok (.aload_n 0, 1) := by decide +kernel
theorem dX11_tellWay_1 : decode cX11_tellWay 1 = .ok (.getfield 9, 3) := by decide +kernel
theorem dX11_tellWay_4 : decode cX11_tellWay 4 = .ok (.iload_n 1, 1) := by decide +kernel
theorem dX11_tellWay_5 : decode cX11_tellWay 5 = .ok (.invokestatic 270, 3) := by decide +kernel
theorem dX11_tellWay_8 : decode cX11_tellWay 8 = .ok (.istore_n 2, 1) := by decide +kernel
theorem dX11_tellWay_9 : decode cX11_tellWay 9 = .ok (.iload_n 2, 1) := by decide +kernel
theorem dX11_tellWay_10 : decode cX11_tellWay 10 = .ok (.iconst (-1), 1) := by decide +kernel
theorem dX11_tellWay_11 : decode cX11_tellWay 11 = .ok (.if_icmp .ne 4, 3) := by decide +kernel
theorem dX11_tellWay_14 : decode cX11_tellWay 14 = .ok (.return_, 1) := by decide +kernel
set_option maxRecDepth 20000 in
theorem ggX11_outAt_X11_isIn : GoodIn wsX11_outAt wsX11_isIn := goodIn_r _ [6] (by decide +kernel) (by decide +kernel)
set_option maxRecDepth 20000 in
theorem gX11_outAt_X11_isIn : GoodIn wsX11_outAt (va_wsS RX11 219 yX11_isIn wsX11_isIn) := goodIn_app (goodIn_of _ (by decide +kernel)) ggX11_outAt_X11_isIn
set_option maxRecDepth 20000 in
theorem ggX11_outAt_X11_fail : GoodIn wsX11_outAt wsX11_fail := goodIn_r _ [10, 11, 12, 13, 14, 15, 16, 17, 18, 19, 20, 21, 22, 23, 24, 25, 26, 27, 28, 29, 30, 31, 32, 33, 34, 35, 36, 37, 38, 39, 40, 41, 42, 43, 44, 45, 46, 47, 48, 49, 50, 51, 52, 53, 54, 55, 56, 57, 58, 59, 60, 61, 62, 63, 64, 65, 66, 67, 68, 69, 70, 71, 72, 73, 74, 75, 76, 77] (by decide +kernel) (by decide +kernel)
set_option maxRecDepth 20000 in
theorem gX11_outAt_X11_fail : GoodIn wsX11_outAt (wsV RX11 226 RX11 yX11_fail wsX11_fail) := goodIn_app (goodIn_of _ (by decide +kernel)) ggX11_outAt_X11_fail
theorem dX11_outAt_0 : decode cX11_outAt 0 = .ok (.iload_n 1, 1) := by decide +kernel
theorem dX11_outAt_1 : decode cX11_outAt 1 = .ok (.iconst (-1), 1) := by decide +kernel
theorem dX11_outAt_2 : decode cX11_outAt 2 = .ok (.if_icmp .ne 10, 3) := by decide +kernel
theorem dX11_outAt_5 : decode cX11_outAt 5 = .ok (.aload_n 0, 1) := by decide +kernel
theorem dX11_outAt_6 : decode cX11_outAt 6 = .ok (.getfield 471, 3) := by decide +kernel
theorem dX11_outAt_9 : decode cX11_outAt 9 = .ok (.goto 31, 3) := by decide +kernel
theorem dX11_outAt_12 : decode cX11_outAt 12 = .ok (.iload_n 1, 1) := by decide +kernel
theorem dX11_outAt_13 : decode cX11_outAt 13 = .ok (.iconst 0, 1) := by decide +kernel
theorem dX11_outAt_14 : decode cX11_outAt 14 = .ok (.aload_n 0, 1) := by decide +kernel
theorem dX11_outAt_15 : decode cX11_outAt 15 = .ok (.getfield 471, 3) := by decide +kernel
theorem dX11_outAt_18 : decode cX11_outAt 18 = .ok (.iconst 1, 1) := by decide +kernel
theorem dX11_outAt_19 : decode cX11_outAt 19 = .ok (.isub, 1) := by decide +kernel
theorem dX11_outAt_20 : decode cX11_outAt 20 = .ok (.invokestatic 219, 3) := by decide +kernel
theorem dX11_outAt_23 : decode cX11_outAt 23 = .ok (.ifCond .eq 12, 3) := by decide +kernel
theorem dX11_outAt_26 : decode cX11_outAt 26 = .ok (.aload_n 0, 1) := by decide +kernel
theorem dX11_outAt_27 : decode cX11_outAt 27 = .ok (.getfield 78, 3) := by decide +kernel
theorem dX11_outAt_30 : decode cX11_outAt 30 = .ok (.iload_n 1, 1) := by decide +kernel
theorem dX11_outAt_31 : decode cX11_outAt 31 = .ok (.iaload, 1) := by decide +kernel
theorem dX11_outAt_32 : decode cX11_outAt 32 = .ok (.goto 8, 3) := by decide +kernel
theorem dX11_outAt_35 : decode cX11_outAt 35 = .ok (.aload_n 0, 1) := by decide +kernel
theorem dX11_outAt_36 : decode cX11_outAt 36 = .ok (.iconst 1, 1) := by decide +kernel
theorem dX11_outAt_37 : decode cX11_outAt 37 = .ok (.invokevirtual 226, 3) := by decide +kernel
theorem dX11_outAt_40 : decode cX11_outAt 40 = .ok (.ireturn, 1) := by decide +kernel
set_option maxRecDepth 20000 in
theorem ggX11_told_X11_isThing : GoodIn wsX11_told wsX11_isThing := goodIn_r _ [8, 9, 10, 11, 7, 12, 3, 13, 14, 15, 70, 71, 72, 73, 74, 75, 76, 77, 78, 79, 80, 81, 82, 83, 84, 85, 86, 87, 88, 89, 90, 91, 92, 93, 94, 95, 96, 97, 98, 99, 100, 101, 102, 103, 104, 105, 106, 107, 108, 109, 110, 111, 112, 113, 114, 115, 116, 117, 118, 119, 120, 121, 122, 123, 124, 125, 126, 127, 128, 129, 130, 131, 132, 133, 134, 135] (by decide +kernel) (by decide +kernel)
set_option maxRecDepth 20000 in
theorem gX11_told_X11_isThing : GoodIn wsX11_told (wsV RX11 420 RX11 yX11_isThing wsX11_isThing) := goodIn_app (goodIn_of _ (by decide +kernel)) ggX11_told_X11_isThing
set_option maxRecDepth 20000 in
theorem ggX11_told_X11_fail : GoodIn wsX11_told wsX11_fail := goodIn_r _ [19, 1, 70, 71, 72, 73, 74, 75, 76, 77, 78, 79, 80, 81, 82, 83, 84, 85, 86, 87, 88, 89, 90, 91, 92, 93, 94, 95, 96, 97, 98, 99, 100, 101, 102, 103, 104, 105, 106, 107, 108, 109, 110, 111, 112, 113, 114, 115, 116, 117, 118, 119, 120, 121, 122, 123, 124, 125, 126, 127, 128, 129, 130, 131, 132, 133, 134, 135] (by decide +kernel) (by decide +kernel)
set_option maxRecDepth 20000 in
theorem gX11_told_X11_fail : GoodIn wsX11_told (wsV RX11 226 RX11 yX11_fail wsX11_fail) := goodIn_app (goodIn_of _ (by decide +kernel)) ggX11_told_X11_fail
