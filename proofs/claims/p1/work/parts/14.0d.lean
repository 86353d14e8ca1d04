theorem dX11_byteAt_0 : decode cX11_byteAt 0 = .ok (.iload_n 1, 1) := by decide +kernel
theorem dX11_byteAt_1 : decode cX11_byteAt 1 = .ok (.aload_n 0, 1) := by decide +kernel
theorem dX11_byteAt_2 : decode cX11_byteAt 2 = .ok (.getfield 117, 3) := by decide +kernel
theorem dX11_byteAt_5 : decode cX11_byteAt 5 = .ok (.if_icmp .ge 17, 3) := by decide +kernel
theorem dX11_byteAt_22 : decode cX11_byteAt 22 = .ok (.iconst (-1), 1) := by decide +kernel
theorem dX11_byteAt_23 : decode cX11_byteAt 23 = .ok (.ireturn, 1) := by decide +kernel
set_option maxRecDepth 20000 in
theorem ggX11_stepOn_X11_byteAt : GoodIn wsX11_stepOn wsX11_byteAt := goodIn_r _ [16, 17, 18, 19, 26, 27, 28, 29, 30, 31, 32, 33, 34, 35, 36, 37, 38, 39, 40, 41, 42, 43, 44, 45, 46, 47, 48, 49, 50, 51, 52, 53, 54, 55, 56, 57, 58, 59, 60, 61, 62, 63, 64, 65, 66, 67, 68, 69, 70, 71, 72, 73, 74, 75, 76, 77, 78, 79, 80, 81, 82, 83, 84, 85, 86, 87, 88, 89, 90, 91] (by decide +kernel) (by decide +kernel)
set_option maxRecDepth 20000 in
theorem gX11_stepOn_X11_byteAt : GoodIn wsX11_stepOn (wsV RX11 129 RX11 yX11_byteAt wsX11_byteAt) := goodIn_app (goodIn_of _ (by decide +kernel)) ggX11_stepOn_X11_byteAt
theorem dX11_stepOn_0 : decode cX11_stepOn 0 = .ok (.aload_n 0, 1) := by decide +kernel
theorem dX11_stepOn_1 : decode cX11_stepOn 1 = .ok (.aload_n 0, 1) := by decide +kernel
theorem dX11_stepOn_2 : decode cX11_stepOn 2 = .ok (.getfield 126, 3) := by decide +kernel
theorem dX11_stepOn_5 : decode cX11_stepOn 5 = .ok (.invokevirtual 129, 3) := by decide +kernel
theorem dX11_stepOn_8 : decode cX11_stepOn 8 = .ok (.bipush 32, 2) := by decide +kernel
theorem dX11_stepOn_10 : decode cX11_stepOn 10 = .ok (.if_icmp .eq 16, 3) := by decide +kernel
theorem dX11_stepOn_13 : decode cX11_stepOn 13 = .ok (.aload_n 0, 1) := by decide +kernel
theorem dX11_stepOn_14 : decode cX11_stepOn 14 = .ok (.aload_n 0, 1) := by decide +kernel
theorem dX11_stepOn_15 : decode cX11_stepOn 15 = .ok (.getfield 126, 3) := by decide +kernel
theorem dX11_stepOn_18 : decode cX11_stepOn 18 = .ok (.invokevirtual 129, 3) := by decide +kernel
theorem dX11_stepOn_21 : decode cX11_stepOn 21 = .ok (.bipush 10, 2) := by decide +kernel
theorem dX11_stepOn_23 : decode cX11_stepOn 23 = .ok (.if_icmp .ne 16, 3) := by decide +kernel
theorem dX11_stepOn_39 : decode cX11_stepOn 39 = .ok (.aload_n 0, 1) := by decide +kernel
theorem dX11_stepOn_40 : decode cX11_stepOn 40 = .ok (.aload_n 0, 1) := by decide +kernel
theorem dX11_stepOn_41 : decode cX11_stepOn 41 = .ok (.getfield 126, 3) := by decide +kernel
theorem dX11_stepOn_44 : decode cX11_stepOn 44 = .ok (.putfield 133, 3) := by decide +kernel
theorem dX11_stepOn_47 : decode cX11_stepOn 47 = .ok (.aload_n 0, 1) := by decide +kernel
theorem dX11_stepOn_48 : decode cX11_stepOn 48 = .ok (.aload_n 0, 1) := by decide +kernel
theorem dX11_stepOn_49 : decode cX11_stepOn 49 = .ok (.getfield 126, 3) := by decide +kernel
theorem dX11_stepOn_52 : decode cX11_stepOn 52 = .ok (.invokevirtual 129, 3) := by decide +kernel
theorem dX11_stepOn_55 : decode cX11_stepOn 55 = .ok (.istore_n 1, 1) := by decide +kernel
theorem dX11_stepOn_56 : decode cX11_stepOn 56 = .ok (.iload_n 1, 1) := by decide +kernel
theorem dX11_stepOn_57 : decode cX11_stepOn 57 = .ok (.iconst (-1), 1) := by decide +kernel
theorem dX11_stepOn_58 : decode cX11_stepOn 58 = .ok (.if_icmp .ne 11, 3) := by decide +kernel
theorem dX11_stepOn_61 : decode cX11_stepOn 61 = .ok (.aload_n 0, 1) := by decide +kernel
theorem dX11_stepOn_62 : decode cX11_stepOn 62 = .ok (.iconst 0, 1) := by decide +kernel
theorem dX11_stepOn_63 : decode cX11_stepOn 63 = .ok (.putfield 136, 3) := by decide +kernel
theorem dX11_stepOn_66 : decode cX11_stepOn 66 = .ok (.goto 229, 3) := by decide +kernel
theorem dX11_stepOn_295 : decode cX11_stepOn 295 = .ok (.aload_n 0, 1) := by decide +kernel
theorem dX11_stepOn_296 : decode cX11_stepOn 296 = .ok (.aload_n 0, 1) := by decide +kernel
theorem dX11_stepOn_297 : decode cX11_stepOn 297 = .ok (.getfield 126, 3) := by decide +kernel
theorem dX11_stepOn_300 : decode cX11_stepOn 300 = .ok (.putfield 159, 3) := by decide +kernel
theorem dX11_stepOn_303 : decode cX11_stepOn 303 = .ok (.return_, 1) := by decide +kernel
theorem dX11_wrong_0 : decode cX11_wrong 0 = .ok (.aload_n 0, 1) := by decide +kernel
theorem dX11_wrong_1 : decode cX11_wrong 1 = .ok (.getfield 162, 3) := by decide +kernel
theorem dX11_wrong_4 : decode cX11_wrong 4 = .ok (.ifCond .eq 4, 3) := by decide +kernel
theorem dX11_wrong_8 : decode cX11_wrong 8 = .ok (.aload_n 0, 1) := by decide +kernel
theorem dX11_wrong_9 : decode cX11_wrong 9 = .ok (.iload_n 1, 1) := by decide +kernel
theorem dX11_wrong_10 : decode cX11_wrong 10 = .ok (.putfield 162, 3) := by decide +kernel
theorem dX11_wrong_13 : decode cX11_wrong 13 = .ok (.aload_n 0, 1) := by decide +kernel
theorem dX11_wrong_14 : decode cX11_wrong 14 = .ok (.aload_n 0, 1) := by decide +kernel
theorem dX11_wrong_15 : decode cX11_wrong 15 = .ok (.getfield 133, 3) := by decide +kernel
theorem dX11_wrong_18 : decode cX11_wrong 18 = .ok (.putfield 165, 3) := by decide +kernel
theorem dX11_wrong_21 : decode cX11_wrong 21 = .ok (.return_, 1) := by decide +kernel
theorem dX11_isMarked_0 : decode cX11_isMarked 0 = .ok (.aload_n 0, 1) := by decide +kernel
theorem dX11_isMarked_1 : decode cX11_isMarked 1 = .ok (.getfield 162, 3) := by decide +kernel
theorem dX11_isMarked_4 : decode cX11_isMarked 4 = .ok (.ifCond .ne 27, 3) := by decide +kernel
theorem dX11_isMarked_7 : decode cX11_isMarked 7 = .ok (.aload_n 0, 1) := by decide +kernel
theorem dX11_isMarked_8 : decode cX11_isMarked 8 = .ok (.getfield 136, 3) := by decide +kernel
theorem dX11_isMarked_11 : decode cX11_isMarked 11 = .ok (.iconst 3, 1) := by decide +kernel
theorem dX11_isMarked_12 : decode cX11_isMarked 12 = .ok (.if_icmp .ne 19, 3) := by decide +kernel
theorem dX11_isMarked_31 : decode cX11_isMarked 31 = .ok (.iconst 0, 1) := by decide +kernel
theorem dX11_isMarked_32 : decode cX11_isMarked 32 = .ok (.ireturn, 1) := by decide +kernel
set_option maxRecDepth 20000 in
theorem ggX11_beginText_X11_stepOn : GoodIn wsX11_beginText wsX11_stepOn := goodIn_r _ [10, 4, 11, 12, 13, 14, 15, 16, 17, 18, 19, 20, 21, 22, 23, 9, 24, 3, 1, 2, 25, 26, 27, 28, 29, 30, 31, 32, 33, 34, 35, 36, 37, 38, 39, 40, 41, 42, 43, 44, 45, 46, 47, 48, 49, 50, 51, 52, 53, 54, 55, 56, 57, 58, 59, 60, 61, 62, 63, 64, 65, 66, 67, 68, 69, 70, 71, 72, 73, 74, 75, 76, 77, 78, 79, 80, 81, 82, 83, 84, 85, 86, 87, 88, 89, 90, 91, 92, 93, 94, 95, 96] (by decide +kernel) (by decide +kernel)
set_option maxRecDepth 20000 in
theorem gX11_beginText_X11_stepOn : GoodIn wsX11_beginText (wsV RX11 168 RX11 yX11_stepOn wsX11_stepOn) := goodIn_app (goodIn_of _ (by decide +kernel)) ggX11_beginText_X11_stepOn
theorem dX11_beginText_0 : decode cX11_beginText 0 = .ok (.aload_n 0, 1) := by decide +kernel
theorem dX11_beginText_1 : decode cX11_beginText 1 = .ok (.aload_n 1, 1) := by decide +kernel
theorem dX11_beginText_2 : decode cX11_beginText 2 = .ok (.putfield 120, 3) := by decide +kernel
theorem dX11_beginText_5 : decode cX11_beginText 5 = .ok (.aload_n 0, 1) := by decide +kernel
theorem dX11_beginText_6 : decode cX11_beginText 6 = .ok (.iload_n 2, 1) := by decide +kernel
theorem dX11_beginText_7 : decode cX11_beginText 7 = .ok (.putfield 123, 3) := by decide +kernel
theorem dX11_beginText_10 : decode cX11_beginText 10 = .ok (.aload_n 0, 1) := by decide +kernel
theorem dX11_beginText_11 : decode cX11_beginText 11 = .ok (.iload_n 3, 1) := by decide +kernel
theorem dX11_beginText_12 : decode cX11_beginText 12 = .ok (.putfield 117, 3) := by decide +kernel
theorem dX11_beginText_15 : decode cX11_beginText 15 = .ok (.aload_n 0, 1) := by decide +kernel
theorem dX11_beginText_16 : decode cX11_beginText 16 = .ok (.iconst 0, 1) := by decide +kernel
theorem dX11_beginText_17 : decode cX11_beginText 17 = .ok (.putfield 126, 3) := by decide +kernel
theorem dX11_beginText_20 : decode cX11_beginText 20 = .ok (.aload_n 0, 1) := by decide +kernel
theorem dX11_beginText_21 : decode cX11_beginText 21 = .ok (.iconst 0, 1) := by decide +kernel
theorem dX11_beginText_22 : decode cX11_beginText 22 = .ok (.putfield 162, 3) := by decide +kernel
theorem dX11_beginText_25 : decode cX11_beginText 25 = .ok (.aload_n 0, 1) := by decide +kernel
theorem dX11_beginText_26 : decode cX11_beginText 26 = .ok (.invokevirtual 168, 3) := by decide +kernel
theorem dX11_beginText_29 : decode cX11_beginText 29 = .ok (.return_, 1) := by decide +kernel
set_option maxRecDepth 20000 in
theorem ggX11_readThing_X11_isMarked : GoodIn wsX11_readThing wsX11_isMarked := goodIn_r _ [9, 2, 1, 10, 11, 12, 13, 8, 14, 15, 16, 17, 77, 78, 79, 80, 81, 82, 83, 84, 85, 86, 87, 88, 89, 90, 91, 92, 93, 94, 95, 96, 97, 98, 99, 100, 101, 102, 103, 104, 105, 106, 107, 108, 109, 110, 111, 112, 113, 114, 115, 116, 117, 118, 119, 120, 121, 122, 123, 124, 125, 126, 127, 128, 129, 130, 131, 132, 133, 134, 135, 136, 137, 138, 139, 140, 141, 142] (by decide +kernel) (by decide +kernel)
set_option maxRecDepth 20000 in
theorem gX11_readThing_X11_isMarked : GoodIn wsX11_readThing (wsV RX11 171 RX11 yX11_isMarked wsX11_isMarked) := goodIn_app (goodIn_of _ (by decide +kernel)) ggX11_readThing_X11_isMarked
set_option maxRecDepth 20000 in
theorem ggX11_readThing_X11_wrong : GoodIn wsX11_readThing wsX11_wrong := goodIn_r _ [21, 2, 10, 22, 77, 78, 79, 80, 81, 82, 83, 84, 85, 86, 87, 88, 89, 90, 91, 92, 93, 94, 95, 96, 97, 98, 99, 100, 101, 102, 103, 104, 105, 106, 107, 108, 109, 110, 111, 112, 113, 114, 115, 116, 117, 118, 119, 120, 121, 122, 123, 124, 125, 126, 127, 128, 129, 130, 131, 132, 133, 134, 135, 136, 137, 138, 139, 140, 141, 142] (by decide +kernel) (by decide +kernel)
set_option maxRecDepth 20000 in
theorem gX11_readThing_X11_wrong : GoodIn wsX11_readThing (wsV RX11 174 RX11 yX11_wrong wsX11_wrong) := goodIn_app (goodIn_of _ (by decide +kernel)) ggX11_readThing_X11_wrong
theorem dX11_readThing_0 : decode cX11_readThing 0 = .ok (.aload_n 0, 1) := by decide +kernel
theorem dX11_readThing_1 : decode cX11_readThing 1 = .ok (.getfield 136, 3) := by decide +kernel
theorem dX11_readThing_4 : decode cX11_readThing 4 = .ok (.iconst 2, 1) := by decide +kernel
theorem dX11_readThing_5 : decode cX11_readThing 5 = .ok (.if_icmp .eq 38, 3) := by decide +kernel
theorem dX11_readThing_8 : decode cX11_readThing 8 = .ok (.aload_n 0, 1) := by decide +kernel
theorem dX11_readThing_9 : decode cX11_readThing 9 = .ok (.getfield 136, 3) := by decide +kernel
theorem dX11_readThing_12 : decode cX11_readThing 12 = .ok (.iconst 1, 1) := by decide +kernel
theorem dX11_readThing_13 : decode cX11_readThing 13 = .ok (.if_icmp .eq 30, 3) := by decide +kernel
theorem dX11_readThing_16 : decode cX11_readThing 16 = .ok (.aload_n 0, 1) := by decide +kernel
theorem dX11_readThing_17 : decode cX11_readThing 17 = .ok (.bipush 45, 2) := by decide +kernel
theorem dX11_readThing_19 : decode cX11_readThing 19 = .ok (.invokevirtual 171, 3) := by decide +kernel
theorem dX11_readThing_22 : decode cX11_readThing 22 = .ok (.ifCond .ne 21, 3) := by decide +kernel
theorem dX11_readThing_25 : decode cX11_readThing 25 = .ok (.aload_n 0, 1) := by decide +kernel
theorem dX11_readThing_26 : decode cX11_readThing 26 = .ok (.bipush 91, 2) := by decide +kernel
theorem dX11_readThing_28 : decode cX11_readThing 28 = .ok (.invokevirtual 171, 3) := by decide +kernel
theorem dX11_readThing_31 : decode cX11_readThing 31 = .ok (.ifCond .ne 12, 3) := by decide +kernel
theorem dX11_readThing_34 : decode cX11_readThing 34 = .ok (.aload_n 0, 1) := by decide +kernel
theorem dX11_readThing_35 : decode cX11_readThing 35 = .ok (.bipush 123, 2) := by decide +kernel
theorem dX11_readThing_37 : decode cX11_readThing 37 = .ok (.invokevirtual 171, 3) := by decide +kernel
theorem dX11_readThing_40 : decode cX11_readThing 40 = .ok (.ifCond .eq 7, 3) := by decide +kernel
theorem dX11_readThing_47 : decode cX11_readThing 47 = .ok (.iconst 0, 1) := by decide +kernel
theorem dX11_readThing_48 : decode cX11_readThing 48 = .ok (.istore_n 3, 1) := by decide +kernel
theorem dX11_readThing_49 : decode cX11_readThing 49 = .ok (.iload_n 3, 1) := by decide +kernel
theorem dX11_readThing_50 : decode cX11_readThing 50 = .ok (.ifCond .ne 8, 3) := by decide +kernel
theorem dX11_readThing_53 : decode cX11_readThing 53 = .ok (.aload_n 0, 1) := by decide +kernel
theorem dX11_readThing_54 : decode cX11_readThing 54 = .ok (.iconst 1, 1) := by decide +kernel
theorem dX11_readThing_55 : decode cX11_readThing 55 = .ok (.invokevirtual 174, 3) := by decide +kernel
theorem dX11_readThing_58 : decode cX11_readThing 58 = .ok (.aload_n 0, 1) := by decide +kernel
theorem dX11_readThing_59 : decode cX11_readThing 59 = .ok (.getfield 162, 3) := by decide +kernel
theorem dX11_readThing_62 : decode cX11_readThing 62 = .ok (.ifCond .ne 23, 3) := by decide +kernel
theorem dX11_readThing_85 : decode cX11_readThing 85 = .ok (.aload_n 0, 1) := by decide +kernel
theorem dX11_readThing_86 : decode cX11_readThing 86 = .ok (.getfield 162, 3) := by decide +kernel
theorem dX11_readThing_89 : decode cX11_readThing 89 = .ok (.ifCond .eq 4, 3) := by decide +kernel
theorem dX11_readThing_92 : decode cX11_readThing 92 = .ok (.return_, 1) := by decide +kernel
set_option maxRecDepth 20000 in
theorem ggX11_readsData_X11_beginText : GoodIn wsX11_readsData wsX11_beginText := goodIn_r _ [9, 10, 11, 12, 13, 3, 14, 15, 16, 8, 17, 18, 4, 19, 20, 21, 22, 23, 24, 25, 26, 27, 28, 29, 30, 31, 32, 33, 34, 35, 36, 89, 90, 91, 92, 93, 94, 95, 96, 97, 98, 99, 100, 101, 102, 103, 104, 105, 106, 107, 108, 109, 110, 111, 112, 113, 114, 115, 116, 117, 118, 119, 120, 121, 122, 123, 124, 125, 126, 127, 128, 129, 130, 131, 132, 133, 134, 135, 136, 137, 138, 139, 140, 141, 142, 143, 144, 145, 146, 147, 148, 149, 150, 151, 152, 153, 154] (by decide +kernel) (by decide +kernel)
set_option maxRecDepth 20000 in
theorem gX11_readsData_X11_beginText : GoodIn wsX11_readsData (wsV RX11 211 RX11 yX11_beginText wsX11_beginText) := goodIn_app (goodIn_of _ (by decide +kernel)) ggX11_readsData_X11_beginText
set_option maxRecDepth 20000 in
theorem ggX11_readsData_X11_readThing : GoodIn wsX11_readsData wsX11_readThing := goodIn_r _ [40, 4, 3, 1, 41, 42, 43, 44, 8, 45, 18, 27, 28, 29, 30, 12, 10, 11, 46, 47, 48, 49, 50, 51, 52, 53, 54, 55, 56, 57, 58, 26, 19, 59, 60, 61, 62, 14, 15, 16, 17, 13, 20, 21, 22, 23, 24, 25, 31, 32, 33, 34, 35, 36, 63, 64, 65, 66, 67, 68, 69, 70, 71, 72, 73, 74, 75, 76, 77, 78, 79, 80, 81, 82, 37, 38, 39, 89, 90, 91, 92, 93, 94, 95, 96, 97, 98, 99, 100, 101, 102, 103, 104, 105, 106, 107, 108, 109, 110, 111, 112, 113, 114, 115, 116, 117, 118, 119, 120, 121, 122, 123, 124, 125, 126, 127, 128, 129, 130, 131, 132, 133, 134, 135, 136, 137, 138, 139, 140, 141, 142, 143, 144, 145, 146, 147, 148, 149, 150, 151, 152, 153, 154] (by decide +kernel) (by decide +kernel)
set_option maxRecDepth 20000 in
theorem gX11_readsData_X11_readThing : GoodIn wsX11_readsData (wsV RX11 204 RX11 yX11_readThing wsX11_readThing) := goodIn_app (goodIn_of _ (by decide +kernel)) ggX11_readsData_X11_readThing
set_option maxRecDepth 20000 in
theorem ggX11_readsData_X11_isRead : GoodIn wsX11_readsData wsX11_isRead := goodIn_r _ [86, 3, 50, 87, 88, 89, 90, 91, 92, 93, 94, 95, 96, 97, 98, 99, 100, 101, 102, 103, 104, 105, 106, 107, 108, 109, 110, 111, 112, 113, 114, 115, 116, 117, 118, 119, 120, 121, 122, 123, 124, 125, 126, 127, 128, 129, 130, 131, 132, 133, 134, 135, 136, 137, 138, 139, 140, 141, 142, 143, 144, 145, 146, 147, 148, 149, 150, 151, 152, 153, 154] (by decide +kernel) (by decide +kernel)
set_option maxRecDepth 20000 in
theorem gX11_readsData_X11_isRead : GoodIn wsX11_readsData (wsV RX11 215 RX11 yX11_isRead wsX11_isRead) := goodIn_app (goodIn_of _ (by decide +kernel)) ggX11_readsData_X11_isRead
theorem dX11_readsData_0 : decode cX11_readsData 0 = .ok (.aload_n 0, 1) := by decide +kernel
theorem dX11_readsData_1 : decode cX11_readsData 1 = .ok (.iconst 0, 1) := by decide +kernel
theorem dX11_readsData_2 : decode cX11_readsData 2 = .ok (.putfield 188, 3) := by decide +kernel
theorem dX11_readsData_5 : decode cX11_readsData 5 = .ok (.aload_n 0, 1) := by decide +kernel
theorem dX11_readsData_6 : decode cX11_readsData 6 = .ok (.aload_n 0, 1) := by decide +kernel
theorem dX11_readsData_7 : decode cX11_readsData 7 = .ok (.getfield 22, 3) := by decide +kernel
theorem dX11_readsData_10 : decode cX11_readsData 10 = .ok (.iconst 0, 1) := by decide +kernel
theorem dX11_readsData_11 : decode cX11_readsData 11 = .ok (.iload_n 1, 1) := by decide +kernel
theorem dX11_readsData_12 : decode cX11_readsData 12 = .ok (.invokevirtual 211, 3) := by decide +kernel
theorem dX11_readsData_15 : decode cX11_readsData 15 = .ok (.aload_n 0, 1) := by decide +kernel
theorem dX11_readsData_16 : decode cX11_readsData 16 = .ok (.iconst 0, 1) := by decide +kernel
theorem dX11_readsData_17 : decode cX11_readsData 17 = .ok (.iconst 0, 1) := by decide +kernel
theorem dX11_readsData_18 : decode cX11_readsData 18 = .ok (.invokevirtual 204, 3) := by decide +kernel
theorem dX11_readsData_21 : decode cX11_readsData 21 = .ok (.aload_n 0, 1) := by decide +kernel
theorem dX11_readsData_22 : decode cX11_readsData 22 = .ok (.getfield 162, 3) := by decide +kernel
theorem dX11_readsData_25 : decode cX11_readsData 25 = .ok (.ifCond .ne 15, 3) := by decide +kernel
theorem dX11_readsData_40 : decode cX11_readsData 40 = .ok (.aload_n 0, 1) := by decide +kernel
theorem dX11_readsData_41 : decode cX11_readsData 41 = .ok (.invokevirtual 215, 3) := by decide +kernel
theorem dX11_readsData_44 : decode cX11_readsData 44 = .ok (.ireturn, 1) := by decide +kernel
theorem dX11_isRead_0 : decode cX11_isRead 0 = .ok (.aload_n 0, 1) := by decide +kernel
theorem dX11_isRead_1 : decode cX11_isRead 1 = .ok (.aload_n 0, 1) := by decide +kernel
theorem dX11_isRead_2 : decode cX11_isRead 2 = .ok (.getfield 162, 3) := by decide +kernel
theorem dX11_isRead_5 : decode cX11_isRead 5 = .ok (.ifCond .ne 7, 3) := by decide +kernel
theorem dX11_isRead_8 : decode cX11_isRead 8 = .ok (.iconst (-1), 1) := by decide +kernel
theorem dX11_isRead_9 : decode cX11_isRead 9 = .ok (.goto 7, 3) := by decide +kernel
theorem dX11_isRead_12 : decode cX11_isRead 12 = .ok (.aload_n 0, 1) := by decide +kernel
theorem dX11_isRead_13 : decode cX11_isRead 13 = .ok (.getfield 165, 3) := by decide +kernel
theorem dX11_isRead_16 : decode cX11_isRead 16 = .ok (.putfield 31, 3) := by decide +kernel
theorem dX11_isRead_19 : decode cX11_isRead 19 = .ok (.aload_n 0, 1) := by decide +kernel
theorem dX11_isRead_20 : decode cX11_isRead 20 = .ok (.getfield 19, 3) := by decide +kernel
theorem dX11_isRead_23 : decode cX11_isRead 23 = .ok (.iconst 0, 1) := by decide +kernel
theorem dX11_isRead_24 : decode cX11_isRead 24 = .ok (.dup2, 1) := by decide +kernel
theorem dX11_isRead_25 : decode cX11_isRead 25 = .ok (.iaload, 1) := by decide +kernel
theorem dX11_isRead_26 : decode cX11_isRead 26 = .ok (.aload_n 0, 1) := by decide +kernel
theorem dX11_isRead_27 : decode cX11_isRead 27 = .ok (.getfield 162, 3) := by decide +kernel
theorem dX11_isRead_30 : decode cX11_isRead 30 = .ok (.ifCond .ne 7, 3) := by decide +kernel
theorem dX11_isRead_33 : decode cX11_isRead 33 = .ok (.iconst 0, 1) := by decide +kernel
theorem dX11_isRead_34 : decode cX11_isRead 34 = .ok (.goto 4, 3) := by decide +kernel
theorem dX11_isRead_37 : decode cX11_isRead 37 = .ok (.iconst 1, 1) := by decide +kernel
theorem dX11_isRead_38 : decode cX11_isRead 38 = .ok (.iadd, 1) := by decide +kernel
theorem dX11_isRead_39 : decode cX11_isRead 39 = .ok (.iastore, 1) := by decide +kernel
theorem dX11_isRead_40 : decode cX11_isRead 40 = .ok (.aload_n 0, 1) := by decide +kernel
theorem dX11_isRead_41 : decode cX11_isRead 41 = .ok (.getfield 162, 3) := by decide +kernel
theorem dX11_isRead_44 : decode cX11_isRead 44 = .ok (.ifCond .ne 7, 3) := by decide +kernel
theorem dX11_isRead_47 : decode cX11_isRead 47 = .ok (.iconst 1, 1) := by decide +kernel
theorem dX11_isRead_48 : decode cX11_isRead 48 = .ok (.goto 4, 3) := by decide +kernel
theorem dX11_isRead_51 : decode cX11_isRead 51 = .ok (.iconst 0, 1) := by decide +kernel
theorem dX11_isRead_52 : decode cX11_isRead 52 = .ok (.ireturn, 1) := by decide +kernel
set_option maxRecDepth 20000 in
theorem ggX11_tree_X11_isTape : GoodIn wsX11_tree wsX11_isTape := goodIn_r _ [14, 2, 15, 16, 13, 17, 110, 111, 112, 113, 114, 115, 116, 117, 118, 119, 120, 121, 122, 123, 124, 125, 126, 127, 128, 129, 130, 131, 132, 133, 134, 135, 136, 137, 138, 139, 140, 141, 142, 143, 144, 145, 146, 147, 148, 149, 150, 151, 152, 153, 154, 155, 156, 157, 158, 159, 160, 161, 162, 163, 164, 165, 166, 167, 168, 169, 170, 171, 172, 173, 174, 175] (by decide +kernel) (by decide +kernel)
set_option maxRecDepth 20000 in
theorem gX11_tree_X11_isTape : GoodIn wsX11_tree (wsV RX11 223 RX11 yX11_isTape wsX11_isTape) := goodIn_app (goodIn_of _ (by decide +kernel)) ggX11_tree_X11_isTape
set_option maxRecDepth 20000 in
theorem ggX11_tree_X11_fail : GoodIn wsX11_tree wsX11_fail := goodIn_r _ [21, 1, 110, 111, 112, 113, 114, 115, 116, 117, 118, 119, 120, 121, 122, 123, 124, 125, 126, 127, 128, 129, 130, 131, 132, 133, 134, 135, 136, 137, 138, 139, 140, 141, 142, 143, 144, 145, 146, 147, 148, 149, 150, 151, 152, 153, 154, 155, 156, 157, 158, 159, 160, 161, 162, 163, 164, 165, 166, 167, 168, 169, 170, 171, 172, 173, 174, 175] (by decide +kernel) (by decide +kernel)
set_option maxRecDepth 20000 in
theorem gX11_tree_X11_fail : GoodIn wsX11_tree (wsV RX11 226 RX11 yX11_fail wsX11_fail) := goodIn_app (goodIn_of _ (by decide +kernel)) ggX11_tree_X11_fail
set_option maxRecDepth 20000 in
theorem ggX11_tree_X11_readsData : GoodIn wsX11_tree wsX11_readsData := goodIn_r _ [25, 4, 26, 3, 27, 28, 29, 30, 13, 31, 32, 33, 34, 35, 36, 37, 38, 39, 40, 41, 42, 43, 44, 45, 46, 47, 48, 49, 50, 51, 52, 53, 54, 55, 56, 57, 58, 59, 60, 61, 62, 6, 63, 64, 65, 66, 67, 68, 69, 70, 71, 72, 73, 74, 75, 76, 77, 78, 79, 80, 81, 82, 83, 84, 85, 86, 87, 88, 89, 90, 91, 92, 93, 94, 95, 96, 97, 98, 99, 100, 101, 102, 103, 104, 105, 106, 107, 108, 109, 110, 111, 112, 113, 114, 115, 116, 117, 118, 119, 120, 121, 122, 123, 124, 125, 126, 127, 128, 129, 130, 131, 132, 133, 134, 135, 136, 137, 138, 139, 140, 141, 142, 143, 144, 145, 146, 147, 148, 149, 150, 151, 152, 153, 154, 155, 156, 157, 158, 159, 160, 161, 162, 163, 164, 165, 166, 167, 168, 169, 170, 171, 172, 173, 174, 175] (by decide +kernel) (by decide +kernel)
set_option maxRecDepth 20000 in
theorem gX11_tree_X11_readsData : GoodIn wsX11_tree (wsV RX11 229 RX11 yX11_readsData wsX11_readsData) := goodIn_app (goodIn_of _ (by decide +kernel)) ggX11_tree_X11_readsData
theorem dX11_tree_0 : decode cX11_tree 0 = .ok (.aload_n 0, 1) := by decide +kernel
theorem dX11_tree_1 : decode cX11_tree 1 = .ok (.iconst 0, 1) := by decide +kernel
theorem dX11_tree_2 : decode cX11_tree 2 = .ok (.putfield 111, 3) := by decide +kernel
theorem dX11_tree_5 : decode cX11_tree 5 = .ok (.aload_n 0, 1) := by decide +kernel
theorem dX11_tree_6 : decode cX11_tree 6 = .ok (.iload_n 1, 1) := by decide +kernel
theorem dX11_tree_7 : decode cX11_tree 7 = .ok (.invokevirtual 223, 3) := by decide +kernel
theorem dX11_tree_10 : decode cX11_tree 10 = .ok (.ifCond .ne 9, 3) := by decide +kernel
theorem dX11_tree_13 : decode cX11_tree 13 = .ok (.aload_n 0, 1) := by decide +kernel
theorem dX11_tree_14 : decode cX11_tree 14 = .ok (.iconst 1, 1) := by decide +kernel
theorem dX11_tree_15 : decode cX11_tree 15 = .ok (.invokevirtual 226, 3) := by decide +kernel
theorem dX11_tree_18 : decode cX11_tree 18 = .ok (.ireturn, 1) := by decide +kernel
theorem dX11_tree_19 : decode cX11_tree 19 = .ok (.aload_n 0, 1) := by decide +kernel
theorem dX11_tree_20 : decode cX11_tree 20 = .ok (.iconst 0, 1) := by decide +kernel
theorem dX11_tree_21 : decode cX11_tree 21 = .ok (.putfield 114, 3) := by decide +kernel
theorem dX11_tree_24 : decode cX11_tree 24 = .ok (.aload_n 0, 1) := by decide +kernel
theorem dX11_tree_25 : decode cX11_tree 25 = .ok (.iload_n 1, 1) := by decide +kernel
theorem dX11_tree_26 : decode cX11_tree 26 = .ok (.invokevirtual 229, 3) := by decide +kernel
theorem dX11_tree_29 : decode cX11_tree 29 = .ok (.ifCond .ne 8, 3) := by decide +kernel
theorem dX11_tree_32 : decode cX11_tree 32 = .ok (.aload_n 0, 1) := by decide +kernel
theorem dX11_tree_33 : decode cX11_tree 33 = .ok (.getfield 162, 3) := by decide +kernel
theorem dX11_tree_36 : decode cX11_tree 36 = .ok (.ireturn, 1) := by decide +kernel
theorem dX11_readPath_0 : decode cX11_readPath 0 = .ok (.aload_n 0, 1) := by decide +kernel
theorem dX11_readPath_1 : decode cX11_readPath 1 = .ok (.iconst 0, 1) := by decide +kernel
theorem dX11_readPath_2 : decode cX11_readPath 2 = .ok (.putfield 273, 3) := by decide +kernel
theorem dX11_readPath_5 : decode cX11_readPath 5 = .ok (.aload_n 0, 1) := by decide +kernel
theorem dX11_readPath_6 : decode cX11_readPath 6 = .ok (.iconst 0, 1) := by decide +kernel
theorem dX11_readPath_7 : decode cX11_readPath 7 = .ok (.putfield 276, 3) := by decide +kernel
theorem dX11_readPath_10 : decode cX11_readPath 10 = .ok (.aload_n 0, 1) := by decide +kernel
theorem dX11_readPath_11 : decode cX11_readPath 11 = .ok (.iconst 0, 1) := by decide +kernel
theorem dX11_readPath_12 : decode cX11_readPath 12 = .ok (.putfield 279, 3) := by decide +kernel
theorem dX11_readPath_15 : decode cX11_readPath 15 = .ok (.aload_n 0, 1) := by decide +kernel
theorem dX11_readPath_16 : decode cX11_readPath 16 = .ok (.iload_n 1, 1) := by decide +kernel
theorem dX11_readPath_17 : decode cX11_readPath 17 = .ok (.putfield 282, 3) := by decide +kernel
theorem dX11_readPath_20 : decode cX11_readPath 20 = .ok (.aload_n 0, 1) := by decide +kernel
theorem dX11_readPath_21 : decode cX11_readPath 21 = .ok (.getfield 162, 3) := by decide +kernel
theorem dX11_readPath_24 : decode cX11_readPath 24 = .ok (.ifCond .ne 28, 3) := by decide +kernel
theorem dX11_readPath_27 : decode cX11_readPath 27 = .ok (.aload_n 0, 1) := by decide +kernel
theorem dX11_readPath_28 : decode cX11_readPath 28 = .ok (.getfield 136, 3) := by decide +kernel
theorem dX11_readPath_31 : decode cX11_readPath 31 = .ok (.ifCond .eq 21, 3) := by decide +kernel
theorem dX11_readPath_52 : decode cX11_readPath 52 = .ok (.return_, 1) := by decide +kernel
set_option maxRecDepth 20000 in
theorem ggX11_path_X11_isIn : GoodIn wsX11_path wsX11_isIn := goodIn_r _ [11] (by decide +kernel) (by decide +kernel)
set_option maxRecDepth 20000 in
theorem gX11_path_X11_isIn : GoodIn wsX11_path (va_wsS RX11 219 yX11_isIn wsX11_isIn) := goodIn_app (goodIn_of _ (by decide +kernel)) ggX11_path_X11_isIn
set_option maxRecDepth 20000 in
theorem ggX11_path_X11_fail : GoodIn wsX11_path wsX11_fail := goodIn_r _ [15, 1, 182, 183, 184, 185, 186, 187, 188, 189, 190, 191, 192, 193, 194, 195, 196, 197, 198, 199, 200, 201, 202, 203, 204, 205, 206, 207, 208, 209, 210, 211, 212, 213, 214, 215, 216, 217, 218, 219, 220, 221, 222, 223, 224, 225, 226, 227, 228, 229, 230, 231, 232, 233, 234, 235, 236, 237, 238, 239, 240, 241, 242, 243, 244, 245, 246, 247] (by decide +kernel) (by decide +kernel)
set_option maxRecDepth 20000 in
theorem gX11_path_X11_fail : GoodIn wsX11_path (wsV RX11 226 RX11 yX11_fail wsX11_fail) := goodIn_app (goodIn_of _ (by decide +kernel)) ggX11_path_X11_fail
set_option maxRecDepth 20000 in
theorem ggX11_path_X11_isTape : GoodIn wsX11_path wsX11_isTape := goodIn_r _ [19, 2, 8, 9, 10, 11, 182, 183, 184, 185, 186, 187, 188, 189, 190, 191, 192, 193, 194, 195, 196, 197, 198, 199, 200, 201, 202, 203, 204, 205, 206, 207, 208, 209, 210, 211, 212, 213, 214, 215, 216, 217, 218, 219, 220, 221, 222, 223, 224, 225, 226, 227, 228, 229, 230, 231, 232, 233, 234, 235, 236, 237, 238, 239, 240, 241, 242, 243, 244, 245, 246, 247] (by decide +kernel) (by decide +kernel)
set_option maxRecDepth 20000 in
theorem gX11_path_X11_isTape : GoodIn wsX11_path (wsV RX11 223 RX11 yX11_isTape wsX11_isTape) := goodIn_app (goodIn_of _ (by decide +kernel)) ggX11_path_X11_isTape
set_option maxRecDepth 20000 in
theorem ggX11_path_X11_beginText : GoodIn wsX11_path wsX11_beginText := goodIn_r _ [23, 24, 25, 26, 27, 5, 28, 29, 30, 10, 31, 32, 33, 34, 35, 36, 37, 38, 39, 40, 41, 42, 43, 44, 45, 46, 47, 48, 49, 50, 51, 182, 183, 184, 185, 186, 187, 188, 189, 190, 191, 192, 193, 194, 195, 196, 197, 198, 199, 200, 201, 202, 203, 204, 205, 206, 207, 208, 209, 210, 211, 212, 213, 214, 215, 216, 217, 218, 219, 220, 221, 222, 223, 224, 225, 226, 227, 228, 229, 230, 231, 232, 233, 234, 235, 236, 237, 238, 239, 240, 241, 242, 243, 244, 245, 246, 247] (by decide +kernel) (by decide +kernel)
set_option maxRecDepth 20000 in
theorem gX11_path_X11_beginText : GoodIn wsX11_path (wsV RX11 211 RX11 yX11_beginText wsX11_beginText) := goodIn_app (goodIn_of _ (by decide +kernel)) ggX11_path_X11_beginText
set_option maxRecDepth 20000 in
theorem ggX11_path_X11_readPath : GoodIn wsX11_path wsX11_readPath := goodIn_r _ [55, 56, 57, 58, 59, 5, 33, 60, 61, 62, 10, 63, 64, 3, 65, 66, 67, 68, 69, 32, 42, 43, 44, 45, 26, 24, 25, 70, 71, 72, 73, 74, 75, 76, 77, 78, 28, 29, 30, 31, 27, 34, 35, 36, 37, 38, 39, 40, 41, 46, 47, 48, 49, 50, 51, 79, 80, 81, 82, 83, 84, 85, 86, 87, 88, 89, 90, 91, 92, 93, 94, 95, 96, 97, 98, 99, 100, 101, 102, 103, 104, 105, 106, 107, 108, 109, 110, 111, 112, 113, 114, 115, 116, 117, 118, 119, 120, 121, 122, 123, 124, 125, 126, 127, 128, 129, 130, 131, 132, 133, 134, 135, 136, 137, 138, 139, 140, 141, 142, 143, 144, 145, 146, 147, 148, 149, 150, 151, 152, 153, 154, 155, 156, 157, 158, 159, 160, 161, 162, 163, 164, 165, 166, 167, 168, 169, 170, 171, 172, 173, 174, 175, 182, 183, 184, 185, 186, 187, 188, 189, 190, 191, 192, 193, 194, 195, 196, 197, 198, 199, 200, 201, 202, 203, 204, 205, 206, 207, 208, 209, 210, 211, 212, 213, 214, 215, 216, 217, 218, 219, 220, 221, 222, 223, 224, 225, 226, 227, 228, 229, 230, 231, 232, 233, 234, 235, 236, 237, 238, 239, 240, 241, 242, 243, 244, 245, 246, 247] (by decide +kernel) (by decide +kernel)
set_option maxRecDepth 20000 in
theorem gX11_path_X11_readPath : GoodIn wsX11_path (wsV RX11 341 RX11 yX11_readPath wsX11_readPath) := goodIn_app (goodIn_of _ (by decide +kernel)) ggX11_path_X11_readPath
set_option maxRecDepth 20000 in
theorem ggX11_path_X11_isRead : GoodIn wsX11_path wsX11_isRead := goodIn_r _ [179, 5, 74, 180, 181, 182, 183, 184, 185, 186, 187, 188, 189, 190, 191, 192, 193, 194, 195, 196, 197, 198, 199, 200, 201, 202, 203, 204, 205, 206, 207, 208, 209, 210, 211, 212, 213, 214, 215, 216, 217, 218, 219, 220, 221, 222, 223, 224, 225, 226, 227, 228, 229, 230, 231, 232, 233, 234, 235, 236, 237, 238, 239, 240, 241, 242, 243, 244, 245, 246, 247] (by decide +kernel) (by decide +kernel)
set_option maxRecDepth 20000 in
theorem gX11_path_X11_isRead : GoodIn wsX11_path (wsV RX11 215 RX11 yX11_isRead wsX11_isRead) := goodIn_app (goodIn_of _ (by decide +kernel)) ggX11_path_X11_isRead
theorem dX11_path_0 : decode cX11_path 0 = .ok (.aload_n 0, 1) := by decide +kernel
theorem dX11_path_1 : decode cX11_path 1 = .ok (.iconst 0, 1) := by decide +kernel
theorem dX11_path_2 : decode cX11_path 2 = .ok (.putfield 111, 3) := by decide +kernel
theorem dX11_path_5 : decode cX11_path 5 = .ok (.iload_n 1, 1) := by decide +kernel
theorem dX11_path_6 : decode cX11_path 6 = .ok (.iconst 0, 1) := by decide +kernel
theorem dX11_path_7 : decode cX11_path 7 = .ok (.iconst 3, 1) := by decide +kernel
theorem dX11_path_8 : decode cX11_path 8 = .ok (.invokestatic 219, 3) := by decide +kernel
theorem dX11_path_11 : decode cX11_path 11 = .ok (.ifCond .ne 9, 3) := by decide +kernel
theorem dX11_path_14 : decode cX11_path 14 = .ok (.aload_n 0, 1) := by decide +kernel
theorem dX11_path_15 : decode cX11_path 15 = .ok (.iconst 1, 1) := by decide +kernel
theorem dX11_path_16 : decode cX11_path 16 = .ok (.invokevirtual 226, 3) := by decide +kernel
theorem dX11_path_19 : decode cX11_path 19 = .ok (.ireturn, 1) := by decide +kernel
theorem dX11_path_20 : decode cX11_path 20 = .ok (.aload_n 0, 1) := by decide +kernel
theorem dX11_path_21 : decode cX11_path 21 = .ok (.iload_n 2, 1) := by decide +kernel
theorem dX11_path_22 : decode cX11_path 22 = .ok (.invokevirtual 223, 3) := by decide +kernel
theorem dX11_path_25 : decode cX11_path 25 = .ok (.ifCond .ne 9, 3) := by decide +kernel
theorem dX11_path_28 : decode cX11_path 28 = .ok (.aload_n 0, 1) := by decide +kernel
theorem dX11_path_29 : decode cX11_path 29 = .ok (.iconst 2, 1) := by decide +kernel
theorem dX11_path_30 : decode cX11_path 30 = .ok (.invokevirtual 226, 3) := by decide +kernel
theorem dX11_path_33 : decode cX11_path 33 = .ok (.ireturn, 1) := by decide +kernel
theorem dX11_path_34 : decode cX11_path 34 = .ok (.aload_n 0, 1) := by decide +kernel
theorem dX11_path_35 : decode cX11_path 35 = .ok (.iconst 0, 1) := by decide +kernel
theorem dX11_path_36 : decode cX11_path 36 = .ok (.putfield 114, 3) := by decide +kernel
theorem dX11_path_39 : decode cX11_path 39 = .ok (.aload_n 0, 1) := by decide +kernel
theorem dX11_path_40 : decode cX11_path 40 = .ok (.iconst 0, 1) := by decide +kernel
theorem dX11_path_41 : decode cX11_path 41 = .ok (.putfield 300, 3) := by decide +kernel
theorem dX11_path_44 : decode cX11_path 44 = .ok (.aload_n 0, 1) := by decide +kernel
theorem dX11_path_45 : decode cX11_path 45 = .ok (.aload_n 0, 1) := by decide +kernel
theorem dX11_path_46 : decode cX11_path 46 = .ok (.getfield 22, 3) := by decide +kernel
theorem dX11_path_49 : decode cX11_path 49 = .ok (.iconst 0, 1) := by decide +kernel
theorem dX11_path_50 : decode cX11_path 50 = .ok (.iload_n 2, 1) := by decide +kernel
theorem dX11_path_51 : decode cX11_path 51 = .ok (.invokevirtual 211, 3) := by decide +kernel
theorem dX11_path_54 : decode cX11_path 54 = .ok (.aload_n 0, 1) := by decide +kernel
theorem dX11_path_55 : decode cX11_path 55 = .ok (.iconst (-1), 1) := by decide +kernel
theorem dX11_path_56 : decode cX11_path 56 = .ok (.invokevirtual 341, 3) := by decide +kernel
theorem dX11_path_59 : decode cX11_path 59 = .ok (.aload_n 0, 1) := by decide +kernel
theorem dX11_path_60 : decode cX11_path 60 = .ok (.invokevirtual 215, 3) := by decide +kernel
theorem dX11_path_63 : decode cX11_path 63 = .ok (.ifCond .ne 8, 3) := by decide +kernel
theorem dX11_path_71 : decode cX11_path 71 = .ok (.iconst 0, 1) := by decide +kernel
theorem dX11_path_72 : decode cX11_path 72 = .ok (.istore_n 3, 1) := by decide +kernel
theorem dX11_path_73 : decode cX11_path 73 = .ok (.iload_n 3, 1) := by decide +kernel
theorem dX11_path_74 : decode cX11_path 74 = .ok (.iload_n 2, 1) := by decide +kernel
theorem dX11_path_75 : decode cX11_path 75 = .ok (.if_icmp .ge 27, 3) := by decide +kernel
theorem dX11_path_102 : decode cX11_path 102 = .ok (.aload_n 0, 1) := by decide +kernel
theorem dX11_path_103 : decode cX11_path 103 = .ok (.getfield 28, 3) := by decide +kernel
theorem dX11_path_106 : decode cX11_path 106 = .ok (.iload_n 1, 1) := by decide +kernel
theorem dX11_path_107 : decode cX11_path 107 = .ok (.iload_n 2, 1) := by decide +kernel
theorem dX11_path_108 : decode cX11_path 108 = .ok (.iconst 1, 1) := by decide +kernel
theorem dX11_path_109 : decode cX11_path 109 = .ok (.iadd, 1) := by decide +kernel
theorem dX11_path_110 : decode cX11_path 110 = .ok (.iastore, 1) := by decide +kernel
theorem dX11_path_111 : decode cX11_path 111 = .ok (.iconst 0, 1) := by decide +kernel
theorem dX11_path_112 : decode cX11_path 112 = .ok (.ireturn, 1) := by decide +kernel
set_option maxRecDepth 20000 in
theorem ggX11_answer_X11_isPath : GoodIn wsX11_answer wsX11_isPath := goodIn_r _ [7, 8, 9, 10, 6, 11, 182, 183, 184, 185, 186, 187, 188, 189, 190, 191, 192, 193, 194, 195, 196, 197, 198, 199, 200, 201, 202, 203, 204, 205, 206, 207, 208, 209, 210, 211, 212, 213, 214, 215, 216, 217, 218, 219, 220, 221, 222, 223, 224, 225, 226, 227, 228, 229, 230, 231, 232, 233, 234, 235, 236, 237, 238, 239, 240, 241, 242, 243, 244, 245, 246, 247] (by decide +kernel) (by decide +kernel)
set_option maxRecDepth 20000 in
theorem gX11_answer_X11_isPath : GoodIn wsX11_answer (wsV RX11 344 RX11 yX11_isPath wsX11_isPath) := goodIn_app (goodIn_of _ (by decide +kernel)) ggX11_answer_X11_isPath
set_option maxRecDepth 20000 in
theorem ggX11_answer_X11_fail : GoodIn wsX11_answer wsX11_fail := goodIn_r _ [15, 1, 182, 183, 184, 185, 186, 187, 188, 189, 190, 191, 192, 193, 194, 195, 196, 197, 198, 199, 200, 201, 202, 203, 204, 205, 206, 207, 208, 209, 210, 211, 212, 213, 214, 215, 216, 217, 218, 219, 220, 221, 222, 223, 224, 225, 226, 227, 228, 229, 230, 231, 232, 233, 234, 235, 236, 237, 238, 239, 240, 241, 242, 243, 244, 245, 246, 247] (by decide +kernel) (by decide +kernel)
set_option maxRecDepth 20000 in
theorem gX11_answer_X11_fail : GoodIn wsX11_answer (wsV RX11 226 RX11 yX11_fail wsX11_fail) := goodIn_app (goodIn_of _ (by decide +kernel)) ggX11_answer_X11_fail
theorem dX11_answer_0 : decode cX11_answer 0 = .ok (.aload_n 0, 1) := by decide +kernel
theorem dX11_answer_1 : decode cX11_answer 1 = .ok (.iconst 0, 1) := by decide +kernel
theorem dX11_answer_2 : decode cX11_answer 2 = .ok (.putfield 111, 3) := by decide +kernel
theorem dX11_answer_5 : decode cX11_answer 5 = .ok (.aload_n 0, 1) := by decide +kernel
theorem dX11_answer_6 : decode cX11_answer 6 = .ok (.iload_n 1, 1) := by decide +kernel
theorem dX11_answer_7 : decode cX11_answer 7 = .ok (.invokevirtual 344, 3) := by decide +kernel
theorem dX11_answer_10 : decode cX11_answer 10 = .ok (.ifCond .ne 9, 3) := by decide +kernel
theorem dX11_answer_13 : decode cX11_answer 13 = .ok (.aload_n 0, 1) := by decide +kernel
theorem dX11_answer_14 : decode cX11_answer 14 = .ok (.iconst 1, 1) := by decide +kernel
theorem dX11_answer_15 : decode cX11_answer 15 = .ok (.invokevirtual 226, 3) := by decide +kernel
theorem dX11_answer_18 : decode cX11_answer 18 = .ok (.ireturn, 1) := by decide +kernel
set_option maxRecDepth 20000 in
theorem ggX11_steps_X11_isPath : GoodIn wsX11_steps wsX11_isPath := goodIn_r _ [7, 8, 9, 10, 6, 11, 182, 183, 184, 185, 186, 187, 188, 189, 190, 191, 192, 193, 194, 195, 196, 197, 198, 199, 200, 201, 202, 203, 204, 205, 206, 207, 208, 209, 210, 211, 212, 213, 214, 215, 216, 217, 218, 219, 220, 221, 222, 223, 224, 225, 226, 227, 228, 229, 230, 231, 232, 233, 234, 235, 236, 237, 238, 239, 240, 241, 242, 243, 244, 245, 246, 247] (by decide +kernel) (by decide +kernel)
set_option maxRecDepth 20000 in
theorem gX11_steps_X11_isPath : GoodIn wsX11_steps (wsV RX11 344 RX11 yX11_isPath wsX11_isPath) := goodIn_app (goodIn_of _ (by decide +kernel)) ggX11_steps_X11_isPath
set_option maxRecDepth 20000 in
theorem ggX11_steps_X11_fail : GoodIn wsX11_steps wsX11_fail := goodIn_r _ [15, 1, 182, 183, 184, 185, 186, 187, 188, 189, 190, 191, 192, 193, 194, 195, 196, 197, 198, 199, 200, 201, 202, 203, 204, 205, 206, 207, 208, 209, 210, 211, 212, 213, 214, 215, 216, 217, 218, 219, 220, 221, 222, 223, 224, 225, 226, 227, 228, 229, 230, 231, 232, 233, 234, 235, 236, 237, 238, 239, 240, 241, 242, 243, 244, 245, 246, 247] (by decide +kernel) (by decide +kernel)
set_option maxRecDepth 20000 in
theorem gX11_steps_X11_fail : GoodIn wsX11_steps (wsV RX11 226 RX11 yX11_fail wsX11_fail) := goodIn_app (goodIn_of _ (by decide +kernel)) ggX11_steps_X11_fail
theorem dX11_steps_0 : decode cX11_steps 0 = .ok (.aload_n 0, 1) := by decide +kernel
theorem dX11_steps_1 : decode cX11_steps 1 = .ok (.iconst 0, 1) := by decide +kernel
theorem dX11_steps_2 : decode cX11_steps 2 = .ok (.putfield 111, 3) := by decide +kernel
theorem dX11_steps_5 : decode cX11_steps 5 = .ok (.aload_n 0, 1) := by decide +kernel
theorem dX11_steps_6 : decode cX11_steps 6 = .ok (.iload_n 1, 1) := by decide +kernel
theorem dX11_steps_7 : decode cX11_steps 7 = .ok (.invokevirtual 344, 3) := by decide +kernel
theorem dX11_steps_10 : decode cX11_steps 10 = .ok (.ifCond .ne 9, 3) := by decide +kernel
theorem dX11_steps_13 : decode cX11_steps 13 = .ok (.aload_n 0, 1) := by decide +kernel
theorem dX11_steps_14 : decode cX11_steps 14 = .ok (.iconst 1, 1) := by decide +kernel
theorem dX11_steps_15 : decode cX11_steps 15 = .ok (.invokevirtual 226, 3) := by decide +kernel
theorem dX11_steps_18 : decode cX11_steps 18 = .ok (.ireturn, 1) := by decide +kernel
set_option maxRecDepth 20000 in
theorem ggX11_withText_X11_isTape : GoodIn wsX11_withText wsX11_isTape := goodIn_r _ [8, 2, 9, 10, 7, 11, 275, 276, 277, 278, 279, 280, 281, 282, 283, 284, 285, 286, 287, 288, 289, 290, 291, 292, 293, 294, 295, 296, 297, 298, 299, 300, 301, 302, 303, 304, 305, 306, 307, 308, 309, 310, 311, 312, 313, 314, 315, 316, 317, 318, 319, 320, 321, 322, 323, 324, 325, 326, 327, 328, 329, 330, 331, 332, 333, 334, 335, 336, 337, 338, 339, 340] (by decide +kernel) (by decide +kernel)
set_option maxRecDepth 20000 in
theorem gX11_withText_X11_isTape : GoodIn wsX11_withText (wsV RX11 223 RX11 yX11_isTape wsX11_isTape) := goodIn_app (goodIn_of _ (by decide +kernel)) ggX11_withText_X11_isTape
set_option maxRecDepth 20000 in
theorem ggX11_withText_X11_fail : GoodIn wsX11_withText wsX11_fail := goodIn_r _ [15, 1, 275, 276, 277, 278, 279, 280, 281, 282, 283, 284, 285, 286, 287, 288, 289, 290, 291, 292, 293, 294, 295, 296, 297, 298, 299, 300, 301, 302, 303, 304, 305, 306, 307, 308, 309, 310, 311, 312, 313, 314, 315, 316, 317, 318, 319, 320, 321, 322, 323, 324, 325, 326, 327, 328, 329, 330, 331, 332, 333, 334, 335, 336, 337, 338, 339, 340] (by decide +kernel) (by decide +kernel)
set_option maxRecDepth 20000 in
theorem gX11_withText_X11_fail : GoodIn wsX11_withText (wsV RX11 226 RX11 yX11_fail wsX11_fail) := goodIn_app (goodIn_of _ (by decide +kernel)) ggX11_withText_X11_fail
set_option maxRecDepth 20000 in
theorem ggX11_withText_X11_isPath : GoodIn wsX11_withText wsX11_isPath := goodIn_r _ [19, 20, 9, 10, 7, 11, 275, 276, 277, 278, 279, 280, 281, 282, 283, 284, 285, 286, 287, 288, 289, 290, 291, 292, 293, 294, 295, 296, 297, 298, 299, 300, 301, 302, 303, 304, 305, 306, 307, 308, 309, 310, 311, 312, 313, 314, 315, 316, 317, 318, 319, 320, 321, 322, 323, 324, 325, 326, 327, 328, 329, 330, 331, 332, 333, 334, 335, 336, 337, 338, 339, 340] (by decide +kernel) (by decide +kernel)
set_option maxRecDepth 20000 in
theorem gX11_withText_X11_isPath : GoodIn wsX11_withText (wsV RX11 344 RX11 yX11_isPath wsX11_isPath) := goodIn_app (goodIn_of _ (by decide +kernel)) ggX11_withText_X11_isPath
set_option maxRecDepth 20000 in
theorem ggX11_withText_X11_refuse : GoodIn wsX11_withText wsX11_refuse := goodIn_r _ [30, 31, 275, 276, 277, 278, 279, 280, 281, 282, 283, 284, 285, 286, 287, 288, 289, 290, 291, 292, 293, 294, 295, 296, 297, 298, 299, 300, 301, 302, 303, 304, 305, 306, 307, 308, 309, 310, 311, 312, 313, 314, 315, 316, 317, 318, 319, 320, 321, 322, 323, 324, 325, 326, 327, 328, 329, 330, 331, 332, 333, 334, 335, 336, 337, 338, 339, 340] (by decide +kernel) (by decide +kernel)
set_option maxRecDepth 20000 in
theorem gX11_withText_X11_refuse : GoodIn wsX11_withText (wsV RX11 409 RX11 yX11_refuse wsX11_refuse) := goodIn_app (goodIn_of _ (by decide +kernel)) ggX11_withText_X11_refuse
theorem dX11_withText_0 : decode cX11_withText 0 = .ok (.aload_n 0, 1) := by decide +kernel
theorem dX11_withText_1 : decode cX11_withText 1 = .ok (.iconst 0, 1) := by decide +kernel
theorem dX11_withText_2 : decode cX11_withText 2 = .ok (.putfield 111, 3) := by decide +kernel
theorem dX11_withText_5 : decode cX11_withText 5 = .ok (.aload_n 0, 1) := by decide +kernel
theorem dX11_withText_6 : decode cX11_withText 6 = .ok (.iload 4, 2) := by decide +kernel
theorem dX11_withText_8 : decode cX11_withText 8 = .ok (.invokevirtual 223, 3) := by decide +kernel
theorem dX11_withText_11 : decode cX11_withText 11 = .ok (.ifCond .ne 9, 3) := by decide +kernel
theorem dX11_withText_14 : decode cX11_withText 14 = .ok (.aload_n 0, 1) := by decide +kernel
theorem dX11_withText_15 : decode cX11_withText 15 = .ok (.iconst 1, 1) := by decide +kernel
theorem dX11_withText_16 : decode cX11_withText 16 = .ok (.invokevirtual 226, 3) := by decide +kernel
theorem dX11_withText_19 : decode cX11_withText 19 = .ok (.ireturn, 1) := by decide +kernel
theorem dX11_withText_20 : decode cX11_withText 20 = .ok (.aload_n 0, 1) := by decide +kernel
theorem dX11_withText_21 : decode cX11_withText 21 = .ok (.iconst 0, 1) := by decide +kernel
theorem dX11_withText_22 : decode cX11_withText 22 = .ok (.putfield 114, 3) := by decide +kernel
theorem dX11_withText_25 : decode cX11_withText 25 = .ok (.aload_n 0, 1) := by decide +kernel
theorem dX11_withText_26 : decode cX11_withText 26 = .ok (.iload_n 1, 1) := by decide +kernel
theorem dX11_withText_27 : decode cX11_withText 27 = .ok (.invokevirtual 344, 3) := by decide +kernel
theorem dX11_withText_30 : decode cX11_withText 30 = .ok (.ifCond .eq 15, 3) := by decide +kernel
theorem dX11_withText_45 : decode cX11_withText 45 = .ok (.aload_n 0, 1) := by decide +kernel
theorem dX11_withText_46 : decode cX11_withText 46 = .ok (.iconst 1, 1) := by decide +kernel
theorem dX11_withText_47 : decode cX11_withText 47 = .ok (.invokevirtual 409, 3) := by decide +kernel
theorem dX11_withText_50 : decode cX11_withText 50 = .ok (.ireturn, 1) := by decide +kernel
set_option maxRecDepth 20000 in
theorem ggX11_put_X11_withText : GoodIn wsX11_put wsX11_withText := goodIn_r _ [5, 6, 7, 8, 9, 10, 11, 4, 12, 13, 14, 15, 16, 17, 18, 19, 20, 21, 22, 23, 24, 25, 26, 27, 28, 29, 30, 31, 32, 33, 34, 35, 36, 37, 38, 39, 40, 41, 42, 43, 44, 45, 46, 47, 48, 49, 50, 51, 52, 53, 54, 55, 56, 57, 58, 59, 60, 61, 62, 63, 64, 65, 66, 67, 68, 69, 70, 71, 72, 73, 74, 75, 76, 77, 78, 79, 80, 81, 82, 83, 84, 85, 86, 87, 88, 89, 90, 91, 92, 93, 94, 95, 96, 97, 98, 99, 100, 101, 102, 103, 104, 105, 106, 107, 108, 109, 110, 111, 112, 113, 114, 115, 116, 117, 118, 119, 120, 121, 122, 123, 124, 125, 126, 127, 128, 129, 130, 131, 132, 133, 134, 135, 136, 137, 138, 139, 140, 141, 142, 143, 144, 145, 146, 147, 148, 149, 150, 151, 152, 153, 154, 155, 156, 157, 158, 159, 160, 161, 162, 163, 164, 165, 166, 167, 168, 169, 170, 171, 172, 173, 174, 175, 176, 177, 178, 179, 180, 181, 182, 183, 184, 185, 186, 187, 188, 189, 190, 191, 192, 193, 194, 195, 196, 197, 198, 199, 200, 201, 202, 203, 204, 205, 206, 207, 208, 209, 210, 211, 212, 213, 214, 215, 216, 217, 218, 219, 220, 221, 222, 223, 224, 225, 226, 227, 228, 229, 230, 231, 232, 233, 234, 235, 236, 237, 238, 239, 240, 241, 242, 243, 244, 245, 246, 247, 248, 249, 250, 251, 252, 253, 254, 255, 256, 257, 258, 259, 260, 261, 262, 263, 264, 265, 266, 267, 268, 269, 270, 271, 272, 273, 274, 275, 276, 277, 278, 279, 280, 281, 282, 283, 284, 285, 286, 287, 288, 289, 290, 291, 292, 293, 294, 295, 296, 297, 298, 299, 300, 301, 302, 303, 304, 305, 306, 307, 308, 309, 310, 311, 312, 313, 314, 315, 316, 317, 318, 319, 320, 321, 322, 323, 324, 325, 326, 327, 328, 329, 330, 331, 332, 333, 334, 335, 336, 337, 338, 339, 340, 341, 342, 343, 344] (by decide +kernel) (by decide +kernel)
set_option maxRecDepth 20000 in
theorem gX11_put_X11_withText : GoodIn wsX11_put (wsV RX11 416 RX11 yX11_withText wsX11_withText) := goodIn_app (goodIn_of _ (by decide +kernel)) ggX11_put_X11_withText
theorem dX11_put_0 : decode cX11_put 0 = .ok (.aload_n 0, 1) := by decide +kernel
theorem dX11_put_1 : decode cX11_put 1 = .ok (.iload_n 1, 1) := by decide +kernel
theorem dX11_put_2 : decode cX11_put 2 = .ok (.iconst 0, 1) := by decide +kernel
theorem dX11_put_3 : decode cX11_put 3 = .ok (.iconst 0, 1) := by decide +kernel
theorem dX11_put_4 : decode cX11_put 4 = .ok (.iload_n 2, 1) := by decide +kernel
theorem dX11_put_5 : decode cX11_put 5 = .ok (.invokevirtual 416, 3) := by decide +kernel
theorem dX11_put_8 : decode cX11_put 8 = .ok (.ireturn, 1) := by decide +kernel
set_option maxRecDepth 20000 in
theorem ggX11_append_X11_withText : GoodIn wsX11_append wsX11_withText := goodIn_r _ [5, 6, 7, 8, 9, 10, 11, 4, 12, 13, 14, 15, 16, 17, 18, 19, 20, 21, 22, 23, 24, 25, 26, 27, 28, 29, 30, 31, 32, 33, 34, 35, 36, 37, 38, 39, 40, 41, 42, 43, 44, 45, 46, 47, 48, 49, 50, 51, 52, 53, 54, 55, 56, 57, 58, 59, 60, 61, 62, 63, 64, 65, 66, 67, 68, 69, 70, 71, 72, 73, 74, 75, 76, 77, 78, 79, 80, 81, 82, 83, 84, 85, 86, 87, 88, 89, 90, 91, 92, 93, 94, 95, 96, 97, 98, 99, 100, 101, 102, 103, 104, 105, 106, 107, 108, 109, 110, 111, 112, 113, 114, 115, 116, 117, 118, 119, 120, 121, 122, 123, 124, 125, 126, 127, 128, 129, 130, 131, 132, 133, 134, 135, 136, 137, 138, 139, 140, 141, 142, 143, 144, 145, 146, 147, 148, 149, 150, 151, 152, 153, 154, 155, 156, 157, 158, 159, 160, 161, 162, 163, 164, 165, 166, 167, 168, 169, 170, 171, 172, 173, 174, 175, 176, 177, 178, 179, 180, 181, 182, 183, 184, 185, 186, 187, 188, 189, 190, 191, 192, 193, 194, 195, 196, 197, 198, 199, 200, 201, 202, 203, 204, 205, 206, 207, 208, 209, 210, 211, 212, 213, 214, 215, 216, 217, 218, 219, 220, 221, 222, 223, 224, 225, 226, 227, 228, 229, 230, 231, 232, 233, 234, 235, 236, 237, 238, 239, 240, 241, 242, 243, 244, 245, 246, 247, 248, 249, 250, 251, 252, 253, 254, 255, 256, 257, 258, 259, 260, 261, 262, 263, 264, 265, 266, 267, 268, 269, 270, 271, 272, 273, 274, 275, 276, 277, 278, 279, 280, 281, 282, 283, 284, 285, 286, 287, 288, 289, 290, 291, 292, 293, 294, 295, 296, 297, 298, 299, 300, 301, 302, 303, 304, 305, 306, 307, 308, 309, 310, 311, 312, 313, 314, 315, 316, 317, 318, 319, 320, 321, 322, 323, 324, 325, 326, 327, 328, 329, 330, 331, 332, 333, 334, 335, 336, 337, 338, 339, 340, 341, 342, 343, 344] (by decide +kernel) (by decide +kernel)
set_option maxRecDepth 20000 in
theorem gX11_append_X11_withText : GoodIn wsX11_append (wsV RX11 416 RX11 yX11_withText wsX11_withText) := goodIn_app (goodIn_of _ (by decide +kernel)) ggX11_append_X11_withText
theorem dX11_append_0 : decode cX11_append 0 = .ok (.aload_n 0, 1) := by decide +kernel
theorem dX11_append_1 : decode cX11_append 1 = .ok (.iload_n 1, 1) := by decide +kernel
theorem dX11_append_2 : decode cX11_append 2 = .ok (.iconst 1, 1) := by decide +kernel
theorem dX11_append_3 : decode cX11_append 3 = .ok (.iconst 0, 1) := by decide +kernel
theorem dX11_append_4 : decode cX11_append 4 = .ok (.iload_n 2, 1) := by decide +kernel
theorem dX11_append_5 : decode cX11_append 5 = .ok (.invokevirtual 416, 3) := by decide +kernel
theorem dX11_append_8 : decode cX11_append 8 = .ok (.ireturn, 1) := by decide +kernel
set_option maxRecDepth 20000 in
theorem ggX11_key_X11_withText : GoodIn wsX11_key wsX11_withText := goodIn_r _ [5, 6, 7, 8, 9, 10, 11, 4, 12, 13, 14, 15, 16, 17, 18, 19, 20, 21, 22, 23, 24, 25, 26, 27, 28, 29, 30, 31, 32, 33, 34, 35, 36, 37, 38, 39, 40, 41, 42, 43, 44, 45, 46, 47, 48, 49, 50, 51, 52, 53, 54, 55, 56, 57, 58, 59, 60, 61, 62, 63, 64, 65, 66, 67, 68, 69, 70, 71, 72, 73, 74, 75, 76, 77, 78, 79, 80, 81, 82, 83, 84, 85, 86, 87, 88, 89, 90, 91, 92, 93, 94, 95, 96, 97, 98, 99, 100, 101, 102, 103, 104, 105, 106, 107, 108, 109, 110, 111, 112, 113, 114, 115, 116, 117, 118, 119, 120, 121, 122, 123, 124, 125, 126, 127, 128, 129, 130, 131, 132, 133, 134, 135, 136, 137, 138, 139, 140, 141, 142, 143, 144, 145, 146, 147, 148, 149, 150, 151, 152, 153, 154, 155, 156, 157, 158, 159, 160, 161, 162, 163, 164, 165, 166, 167, 168, 169, 170, 171, 172, 173, 174, 175, 176, 177, 178, 179, 180, 181, 182, 183, 184, 185, 186, 187, 188, 189, 190, 191, 192, 193, 194, 195, 196, 197, 198, 199, 200, 201, 202, 203, 204, 205, 206, 207, 208, 209, 210, 211, 212, 213, 214, 215, 216, 217, 218, 219, 220, 221, 222, 223, 224, 225, 226, 227, 228, 229, 230, 231, 232, 233, 234, 235, 236, 237, 238, 239, 240, 241, 242, 243, 244, 245, 246, 247, 248, 249, 250, 251, 252, 253, 254, 255, 256, 257, 258, 259, 260, 261, 262, 263, 264, 265, 266, 267, 268, 269, 270, 271, 272, 273, 274, 275, 276, 277, 278, 279, 280, 281, 282, 283, 284, 285, 286, 287, 288, 289, 290, 291, 292, 293, 294, 295, 296, 297, 298, 299, 300, 301, 302, 303, 304, 305, 306, 307, 308, 309, 310, 311, 312, 313, 314, 315, 316, 317, 318, 319, 320, 321, 322, 323, 324, 325, 326, 327, 328, 329, 330, 331, 332, 333, 334, 335, 336, 337, 338, 339, 340, 341, 342, 343, 344] (by decide +kernel) (by decide +kernel)
set_option maxRecDepth 20000 in
theorem gX11_key_X11_withText : GoodIn wsX11_key (wsV RX11 416 RX11 yX11_withText wsX11_withText) := goodIn_app (goodIn_of _ (by decide +kernel)) ggX11_key_X11_withText
theorem dX11_key_0 : decode cX11_key 0 = .ok (.aload_n 0, 1) := by decide +kernel
theorem dX11_key_1 : decode cX11_key 1 = .ok (.iload_n 1, 1) := by decide +kernel
theorem dX11_key_2 : decode cX11_key 2 = .ok (.iconst 2, 1) := by decide +kernel
theorem dX11_key_3 : decode cX11_key 3 = .ok (.iload_n 2, 1) := by decide +kernel
theorem dX11_key_4 : decode cX11_key 4 = .ok (.iload_n 3, 1) := by decide +kernel
theorem dX11_key_5 : decode cX11_key 5 = .ok (.invokevirtual 416, 3) := by decide +kernel
theorem dX11_key_8 : decode cX11_key 8 = .ok (.ireturn, 1) := by decide +kernel
set_option maxRecDepth 20000 in
theorem ggX11_row_X11_isRow : GoodIn wsX11_row wsX11_isRow := goodIn_r _ [11, 12, 13, 14, 10, 15, 23, 24, 25, 26, 27, 28, 29, 30, 31, 32, 33, 34, 35, 36, 37, 38, 39, 40, 41, 42, 43, 44, 45, 46, 47, 48, 49, 50, 51, 52, 53, 54, 55, 56, 57, 58, 59, 60, 61, 62, 63, 64, 65, 66, 67, 68, 69, 70, 71, 72, 73, 74, 75, 76, 77, 78, 79, 80, 81, 82, 83, 84, 85, 86, 87, 88] (by decide +kernel) (by decide +kernel)
set_option maxRecDepth 20000 in
theorem gX11_row_X11_isRow : GoodIn wsX11_row (wsV RX11 461 RX11 yX11_isRow wsX11_isRow) := goodIn_app (goodIn_of _ (by decide +kernel)) ggX11_row_X11_isRow
set_option maxRecDepth 20000 in
theorem ggX11_row_X11_fail : GoodIn wsX11_row wsX11_fail := goodIn_r _ [19, 1, 23, 24, 25, 26, 27, 28, 29, 30, 31, 32, 33, 34, 35, 36, 37, 38, 39, 40, 41, 42, 43, 44, 45, 46, 47, 48, 49, 50, 51, 52, 53, 54, 55, 56, 57, 58, 59, 60, 61, 62, 63, 64, 65, 66, 67, 68, 69, 70, 71, 72, 73, 74, 75, 76, 77, 78, 79, 80, 81, 82, 83, 84, 85, 86, 87, 88] (by decide +kernel) (by decide +kernel)
set_option maxRecDepth 20000 in
theorem gX11_row_X11_fail : GoodIn wsX11_row (wsV RX11 226 RX11 yX11_fail wsX11_fail) := goodIn_app (goodIn_of _ (by decide +kernel)) ggX11_row_X11_fail
theorem dX11_row_0 : decode cX11_row 0 = .ok (.aload_n 0, 1) := by decide +kernel
theorem dX11_row_1 : decode cX11_row 1 = .ok (.iconst 0, 1) := by decide +kernel
theorem dX11_row_2 : decode cX11_row 2 = .ok (.putfield 111, 3) := by decide +kernel
theorem dX11_row_5 : decode cX11_row 5 = .ok (.aload_n 0, 1) := by decide +kernel
theorem dX11_row_6 : decode cX11_row 6 = .ok (.iload_n 1, 1) := by decide +kernel
theorem dX11_row_7 : decode cX11_row 7 = .ok (.invokevirtual 461, 3) := by decide +kernel
theorem dX11_row_10 : decode cX11_row 10 = .ok (.ifCond .eq 12, 3) := by decide +kernel
theorem dX11_row_22 : decode cX11_row 22 = .ok (.aload_n 0, 1) := by decide +kernel
theorem dX11_row_23 : decode cX11_row 23 = .ok (.iconst 1, 1) := by decide +kernel
theorem dX11_row_24 : decode cX11_row 24 = .ok (.invokevirtual 226, 3) := by decide +kernel
theorem dX11_row_27 : decode cX11_row 27 = .ok (.ireturn, 1) := by decide +kernel
theorem dX11_tell_0 : decode cX11_tell 0 = .ok (.aload_n 0, 1) := by decide +kernel
theorem dX11_tell_1 : decode cX11_tell 1 = .ok (.getfield 78, 3) := by decide +kernel
theorem dX11_tell_4 : decode cX11_tell 4 = .ok (.aload_n 0, 1) := by decide +kernel
theorem dX11_tell_5 : decode cX11_tell 5 = .ok (.getfield 471, 3) := by decide +kernel
theorem dX11_tell_8 : decode cX11_tell 8 = .ok (.iload_n 1, 1) := by decide +kernel
theorem dX11_tell_9 : decode cX11_tell 9 = .ok (.iastore, 1) := by decide +kernel
theorem dX11_tell_10 : decode cX11_tell 10 = .ok (.aload_n 0, 1) := by decide +kernel
theorem dX11_tell_11 : decode cX11_tell 11 = .ok (.dup, 1) := by decide +kernel
theorem dX11_tell_12 : decode cX11_tell 12 = .ok (.getfield 471, 3) := by decide +kernel
theorem dX11_tell_15 : decode cX11_tell 15 = .ok (.iconst 1, 1) := by decide +kernel
theorem dX11_tell_16 : decode cX11_tell 16 = .ok (.iadd, 1) := by decide +kernel
theorem dX11_tell_17 : decode cX11_tell 17 = .ok (.putfield 471, 3) := by decide +kernel
theorem dX11_tell_20 : decode cX11_tell 20 = .ok (.return_, 1) := by decide +kernel
set_option maxRecDepth 20000 in
theorem ggX11_tellThing_X11_holds : GoodIn wsX11_tellThing wsX11_holds := goodIn_r _ [4] (by decide +kernel) (by decide +kernel)
set_option maxRecDepth 20000 in
theorem gX11_tellThing_X11_holds : GoodIn wsX11_tellThing (va_wsS RX11 256 yX11_holds wsX11_holds) := goodIn_app (goodIn_of _ (by decide +kernel)) ggX11_tellThing_X11_holds
set_option maxRecDepth 20000 in
theorem ggX11_tellThing_X11_kind : GoodIn wsX11_tellThing wsX11_kind := goodIn_r _ [7] (by decide +kernel) (by decide +kernel)
set_option maxRecDepth 20000 in
theorem gX11_tellThing_X11_kind : GoodIn wsX11_tellThing (va_wsS RX11 253 yX11_kind wsX11_kind) := goodIn_app (goodIn_of _ (by decide +kernel)) ggX11_tellThing_X11_kind
set_option maxRecDepth 20000 in
theorem ggX11_tellThing_X11_tell : GoodIn wsX11_tellThing wsX11_tell := goodIn_r _ [15, 16, 17, 31, 32, 33, 34, 35, 36, 37, 38, 39, 40, 41, 42, 43, 44, 45, 46, 47, 48, 49, 50, 51, 52, 53, 54, 55, 56, 57, 58, 59, 60, 61, 62, 63, 64, 65, 66, 67, 68, 69, 70, 71, 72, 73, 74, 75, 76, 77, 78, 79, 80, 81, 82, 83, 84, 85, 86, 87, 88, 89, 90, 91, 92, 93, 94, 95, 96] (by decide +kernel) (by decide +kernel)
set_option maxRecDepth 20000 in
theorem gX11_tellThing_X11_tell : GoodIn wsX11_tellThing (wsV RX11 474 RX11 yX11_tell wsX11_tell) := goodIn_app (goodIn_of _ (by decide +kernel)) ggX11_tellThing_X11_tell
set_option maxRecDepth 20000 in
theorem ggX11_tellThing_X11_size : GoodIn wsX11_tellThing wsX11_size := goodIn_r _ [27] (by decide +kernel) (by decide +kernel)
set_option maxRecDepth 20000 in
theorem gX11_tellThing_X11_size : GoodIn wsX11_tellThing (va_wsS RX11 242 yX11_size wsX11_size) := goodIn_app (goodIn_of _ (by decide +kernel)) ggX11_tellThing_X11_size
theorem dX11_tellThing_0 : decode cX11_tellThing 0 = .ok (.aload_n 1, 1) := by decide +kernel
theorem dX11_tellThing_1 : decode cX11_tellThing 1 = .ok (.iload_n 2, 1) := by decide +kernel
theorem dX11_tellThing_2 : decode cX11_tellThing 2 = .ok (.invokestatic 256, 3) := by decide +kernel
theorem dX11_tellThing_5 : decode cX11_tellThing 5 = .ok (.ifCond .ne 37, 3) := by decide +kernel
theorem dX11_tellThing_42 : decode cX11_tellThing 42 = .ok (.aload_n 1, 1) := by decide +kernel
theorem dX11_tellThing_43 : decode cX11_tellThing 43 = .ok (.iload_n 2, 1) := by decide +kernel
theorem dX11_tellThing_44 : decode cX11_tellThing 44 = .ok (.invokestatic 253, 3) := by decide +kernel
theorem dX11_tellThing_47 : decode cX11_tellThing 47 = .ok (.iconst 3, 1) := by decide +kernel
theorem dX11_tellThing_48 : decode cX11_tellThing 48 = .ok (.if_icmp .ne 7, 3) := by decide +kernel
theorem dX11_tellThing_51 : decode cX11_tellThing 51 = .ok (.iconst 1, 1) := by decide +kernel
theorem dX11_tellThing_52 : decode cX11_tellThing 52 = .ok (.goto 4, 3) := by decide +kernel
theorem dX11_tellThing_56 : decode cX11_tellThing 56 = .ok (.istore_n 3, 1) := by decide +kernel
theorem dX11_tellThing_57 : decode cX11_tellThing 57 = .ok (.aload_n 0, 1) := by decide +kernel
theorem dX11_tellThing_58 : decode cX11_tellThing 58 = .ok (.iload_n 3, 1) := by decide +kernel
theorem dX11_tellThing_59 : decode cX11_tellThing 59 = .ok (.ifCond .eq 8, 3) := by decide +kernel
theorem dX11_tellThing_62 : decode cX11_tellThing 62 = .ok (.bipush 123, 2) := by decide +kernel
theorem dX11_tellThing_64 : decode cX11_tellThing 64 = .ok (.goto 5, 3) := by decide +kernel
theorem dX11_tellThing_69 : decode cX11_tellThing 69 = .ok (.invokevirtual 474, 3) := by decide +kernel
theorem dX11_tellThing_72 : decode cX11_tellThing 72 = .ok (.iload_n 2, 1) := by decide +kernel
theorem dX11_tellThing_73 : decode cX11_tellThing 73 = .ok (.iconst 1, 1) := by decide +kernel
theorem dX11_tellThing_74 : decode cX11_tellThing 74 = .ok (.iadd, 1) := by decide +kernel
theorem dX11_tellThing_75 : decode cX11_tellThing 75 = .ok (.istore 4, 2) := by decide +kernel
theorem dX11_tellThing_77 : decode cX11_tellThing 77 = .ok (.iload 4, 2) := by decide +kernel
theorem dX11_tellThing_79 : decode cX11_tellThing 79 = .ok (.iload_n 2, 1) := by decide +kernel
theorem dX11_tellThing_80 : decode cX11_tellThing 80 = .ok (.aload_n 1, 1) := by decide +kernel
theorem dX11_tellThing_81 : decode cX11_tellThing 81 = .ok (.iload_n 2, 1) := by decide +kernel
theorem dX11_tellThing_82 : decode cX11_tellThing 82 = .ok (.invokestatic 242, 3) := by decide +kernel
theorem dX11_tellThing_85 : decode cX11_tellThing 85 = .ok (.iadd, 1) := by decide +kernel
theorem dX11_tellThing_86 : decode cX11_tellThing 86 = .ok (.if_icmp .ge 60, 3) := by decide +kernel
theorem dX11_tellThing_146 : decode cX11_tellThing 146 = .ok (.aload_n 0, 1) := by decide +kernel
theorem dX11_tellThing_147 : decode cX11_tellThing 147 = .ok (.iload_n 3, 1) := by decide +kernel
theorem dX11_tellThing_148 : decode cX11_tellThing 148 = .ok (.ifCond .eq 8, 3) := by decide +kernel
theorem dX11_tellThing_151 : decode cX11_tellThing 151 = .ok (.bipush 125, 2) := by decide +kernel
theorem dX11_tellThing_153 : decode cX11_tellThing 153 = .ok (.goto 5, 3) := by decide +kernel
theorem dX11_tellThing_158 : decode cX11_tellThing 158 = .ok (.invokevirtual 474, 3) := by decide +kernel
theorem dX11_tellThing_161 : decode cX11_tellThing 161 = .ok (.return_, 1) := by decide +kernel
set_option maxRecDepth 20000 in
theorem ggX11_tellWay_X11_parentOf : GoodIn wsX11_tellWay wsX11_parentOf := goodIn_r _ [5, 6, 7, 4, 8] (by decide +kernel) (by decide +kernel)
set_option maxRecDepth 20000 in
theorem gX11_tellWay_X11_parentOf : GoodIn wsX11_tellWay (va_wsS RX11 270 yX11_parentOf wsX11_parentOf) := goodIn_app (goodIn_of _ (by decide +kernel)) ggX11_tellWay_X11_parentOf
theorem dX11_tellWay_0 : decode cX11_tellWay 0 = .ok (.aload_n 0, 1) := by decide +kernel
theorem dX11_tellWay_1 : decode cX11_tellWay 1 = .ok (.getfield 9, 3) := by decide +kernel
theorem dX11_tellWay_4 : decode cX11_tellWay 4 = .ok (.iload_n 1, 1) := by decide +kernel
theorem dX11_tellWay_5 : decode cX11_tellWay 5 = .ok (.invokestatic 270, 3) := by decide +kernel
theorem dX11_tellWay_8 : decode cX11_tellWay 8 = .ok (.istore_n 2, 1) := by decide +kernel
theorem dX11_tellWay_9 : decode cX11_tellWay 9 = .ok (.iload_n 2, 1) := by decide +kernel
theorem dX11_tellWay_10 : decode cX11_tellWay 10 = .ok (.iconst (-1), 1) := by decide +kernel
theorem dX11_tellWay_11 : decode cX11_tellWay 11 = .ok (.if_icmp .ne 4, 3) := by decide +kernel
theorem dX11_tellWay_14 : decode cX11_tellWay 14 = .ok (.return_, 1) := by decide +kernel
set_option maxRecDepth 20000 in
theorem ggX11_outAt_X11_isIn : GoodIn wsX11_outAt wsX11_isIn := goodIn_r _ [6] (by decide +kernel) (by decide +kernel)
set_option maxRecDepth 20000 in
theorem gX11_outAt_X11_isIn : GoodIn wsX11_outAt (va_wsS RX11 219 yX11_isIn wsX11_isIn) := goodIn_app (goodIn_of _ (by decide +kernel)) ggX11_outAt_X11_isIn
set_option maxRecDepth 20000 in
theorem ggX11_outAt_X11_fail : GoodIn wsX11_outAt wsX11_fail := goodIn_r _ [10, 11, 12, 13, 14, 15, 16, 17, 18, 19, 20, 21, 22, 23, 24, 25, 26, 27, 28, 29, 30, 31, 32, 33, 34, 35, 36, 37, 38, 39, 40, 41, 42, 43, 44, 45, 46, 47, 48, 49, 50, 51, 52, 53, 54, 55, 56, 57, 58, 59, 60, 61, 62, 63, 64, 65, 66, 67, 68, 69, 70, 71, 72, 73, 74, 75, 76, 77] (by decide +kernel) (by decide +kernel)
set_option maxRecDepth 20000 in
theorem gX11_outAt_X11_fail : GoodIn wsX11_outAt (wsV RX11 226 RX11 yX11_fail wsX11_fail) := goodIn_app (goodIn_of _ (by decide +kernel)) ggX11_outAt_X11_fail
theorem dX11_outAt_0 : decode cX11_outAt 0 = .ok (.iload_n 1, 1) := by decide +kernel
theorem dX11_outAt_1 : decode cX11_outAt 1 = .ok (.iconst (-1), 1) := by decide +kernel
theorem dX11_outAt_2 : decode cX11_outAt 2 = .ok (.if_icmp .ne 10, 3) := by decide +kernel
theorem dX11_outAt_5 : decode cX11_outAt 5 = .ok (.aload_n 0, 1) := by decide +kernel
theorem dX11_outAt_6 : decode cX11_outAt 6 = .ok (.getfield 471, 3) := by decide +kernel
theorem dX11_outAt_9 : decode cX11_outAt 9 = .ok (.goto 31, 3) := by decide +kernel
theorem dX11_outAt_12 : decode cX11_outAt 12 = .ok (.iload_n 1, 1) := by decide +kernel
theorem dX11_outAt_13 : decode cX11_outAt 13 = .ok (.iconst 0, 1) := by decide +kernel
theorem dX11_outAt_14 : decode cX11_outAt 14 = .ok (.aload_n 0, 1) := by decide +kernel
theorem dX11_outAt_15 : decode cX11_outAt 15 = .ok (.getfield 471, 3) := by decide +kernel
theorem dX11_outAt_18 : decode cX11_outAt 18 = .ok (.iconst 1, 1) := by decide +kernel
theorem dX11_outAt_19 : decode cX11_outAt 19 = .ok (.isub, 1) := by decide +kernel
theorem dX11_outAt_20 : decode cX11_outAt 20 = .ok (.invokestatic 219, 3) := by decide +kernel
theorem dX11_outAt_23 : decode cX11_outAt 23 = .ok (.ifCond .eq 12, 3) := by decide +kernel
theorem dX11_outAt_26 : decode cX11_outAt 26 = .ok (.aload_n 0, 1) := by decide +kernel
theorem dX11_outAt_27 : decode cX11_outAt 27 = .ok (.getfield 78, 3) := by decide +kernel
theorem dX11_outAt_30 : decode cX11_outAt 30 = .ok (.iload_n 1, 1) := by decide +kernel
theorem dX11_outAt_31 : decode cX11_outAt 31 = .ok (.iaload, 1) := by decide +kernel
theorem dX11_outAt_32 : decode cX11_outAt 32 = .ok (.goto 8, 3) := by decide +kernel
theorem dX11_outAt_35 : decode cX11_outAt 35 = .ok (.aload_n 0, 1) := by decide +kernel
theorem dX11_outAt_36 : decode cX11_outAt 36 = .ok (.iconst 1, 1) := by decide +kernel
theorem dX11_outAt_37 : decode cX11_outAt 37 = .ok (.invokevirtual 226, 3) := by decide +kernel
theorem dX11_outAt_40 : decode cX11_outAt 40 = .ok (.ireturn, 1) := by decide +kernel
set_option maxRecDepth 20000 in
theorem ggX11_told_X11_isThing : GoodIn wsX11_told wsX11_isThing := goodIn_r _ [8, 9, 10, 11, 7, 12, 3, 13, 14, 15, 70, 71, 72, 73, 74, 75, 76, 77, 78, 79, 80, 81, 82, 83, 84, 85, 86, 87, 88, 89, 90, 91, 92, 93, 94, 95, 96, 97, 98, 99, 100, 101, 102, 103, 104, 105, 106, 107, 108, 109, 110, 111, 112, 113, 114, 115, 116, 117, 118, 119, 120, 121, 122, 123, 124, 125, 126, 127, 128, 129, 130, 131, 132, 133, 134, 135] (by decide +kernel) (by decide +kernel)
set_option maxRecDepth 20000 in
theorem gX11_told_X11_isThing : GoodIn wsX11_told (wsV RX11 420 RX11 yX11_isThing wsX11_isThing) := goodIn_app (goodIn_of _ (by decide +kernel)) ggX11_told_X11_isThing
set_option maxRecDepth 20000 in
theorem ggX11_told_X11_fail : GoodIn wsX11_told wsX11_fail := goodIn_r _ [19, 1, 70, 71, 72, 73, 74, 75, 76, 77, 78, 79, 80, 81, 82, 83, 84, 85, 86, 87, 88, 89, 90, 91, 92, 93, 94, 95, 96, 97, 98, 99, 100, 101, 102, 103, 104, 105, 106, 107, 108, 109, 110, 111, 112, 113, 114, 115, 116, 117, 118, 119, 120, 121, 122, 123, 124, 125, 126, 127, 128, 129, 130, 131, 132, 133, 134, 135] (by decide +kernel) (by decide +kernel)
set_option maxRecDepth 20000 in
theorem gX11_told_X11_fail : GoodIn wsX11_told (wsV RX11 226 RX11 yX11_fail wsX11_fail) := goodIn_app (goodIn_of _ (by decide +kernel)) ggX11_told_X11_fail
set_option maxRecDepth 20000 in
theorem ggX11_told_X11_tellWay : GoodIn wsX11_told wsX11_tellWay := goodIn_r _ [23, 3, 24, 25, 7, 26, 27, 28, 29, 20, 21, 22, 30, 31, 32, 33, 34, 35, 36, 37, 38, 39, 40, 41, 42, 43, 44, 45, 46, 47, 2, 48, 49, 50, 51, 52, 53, 54, 55, 56, 57, 58, 70, 71, 72, 73, 74, 75, 76, 77, 78, 79, 80, 81, 82, 83, 84, 85, 86, 87, 88, 89, 90, 91, 92, 93, 94, 95, 96, 97, 98, 99, 100, 101, 102, 103, 104, 105, 106, 107, 108, 109, 110, 111, 112, 113, 114, 115, 116, 117, 118, 119, 120, 121, 122, 123, 124, 125, 126, 127, 128, 129, 130, 131, 132, 133, 134, 135] (by decide +kernel) (by decide +kernel)
set_option maxRecDepth 20000 in
theorem gX11_told_X11_tellWay : GoodIn wsX11_told (wsV RX11 486 RX11 yX11_tellWay wsX11_tellWay) := goodIn_app (goodIn_of _ (by decide +kernel)) ggX11_told_X11_tellWay
set_option maxRecDepth 20000 in
theorem ggX11_told_X11_tellThing : GoodIn wsX11_told wsX11_tellThing := goodIn_r _ [62, 63, 64, 7, 65, 30, 31, 32, 55, 56, 57, 58, 43, 44, 45, 46, 47, 2, 48, 49, 50, 51, 52, 53, 54, 27, 28, 29, 59, 60, 61, 70, 71, 72, 73, 74, 75, 76, 77, 78, 79, 80, 81, 82, 83, 84, 85, 86, 87, 88, 89, 90, 91, 92, 93, 94, 95, 96, 97, 98, 99, 100, 101, 102, 103, 104, 105, 106, 107, 108, 109, 110, 111, 112, 113, 114, 115, 116, 117, 118, 119, 120, 121, 122, 123, 124, 125, 126, 127, 128, 129, 130, 131, 132, 133, 134, 135] (by decide +kernel) (by decide +kernel)
set_option maxRecDepth 20000 in
theorem gX11_told_X11_tellThing : GoodIn wsX11_told (wsV RX11 483 RX11 yX11_tellThing wsX11_tellThing) := goodIn_app (goodIn_of _ (by decide +kernel)) ggX11_told_X11_tellThing
set_option maxRecDepth 20000 in
theorem ggX11_told_X11_outAt : GoodIn wsX11_told wsX11_outAt := goodIn_r _ [69, 2, 47, 13, 14, 7, 15, 16, 17, 18, 19, 1, 70, 71, 72, 73, 74, 75, 76, 77, 78, 79, 80, 81, 82, 83, 84, 85, 86, 87, 88, 89, 90, 91, 92, 93, 94, 95, 96, 97, 98, 99, 100, 101, 102, 103, 104, 105, 106, 107, 108, 109, 110, 111, 112, 113, 114, 115, 116, 117, 118, 119, 120, 121, 122, 123, 124, 125, 126, 127, 128, 129, 130, 131, 132, 133, 134, 135] (by decide +kernel) (by decide +kernel)
set_option maxRecDepth 20000 in
theorem gX11_told_X11_outAt : GoodIn wsX11_told (wsV RX11 495 RX11 yX11_outAt wsX11_outAt) := goodIn_app (goodIn_of _ (by decide +kernel)) ggX11_told_X11_outAt
theorem dX11_told_0 : decode cX11_told 0 = .ok (.aload_n 0, 1) := by decide +kernel
theorem dX11_told_1 : decode cX11_told 1 = .ok (.iconst 0, 1) := by decide +kernel
theorem dX11_told_2 : decode cX11_told 2 = .ok (.putfield 111, 3) := by decide +kernel
theorem dX11_told_5 : decode cX11_told 5 = .ok (.aload_n 0, 1) := by decide +kernel
theorem dX11_told_6 : decode cX11_told 6 = .ok (.iload_n 1, 1) := by decide +kernel
theorem dX11_told_7 : decode cX11_told 7 = .ok (.invokevirtual 420, 3) := by decide +kernel
theorem dX11_told_10 : decode cX11_told 10 = .ok (.ifCond .ne 9, 3) := by decide +kernel
theorem dX11_told_13 : decode cX11_told 13 = .ok (.aload_n 0, 1) := by decide +kernel
theorem dX11_told_14 : decode cX11_told 14 = .ok (.iconst 1, 1) := by decide +kernel
theorem dX11_told_15 : decode cX11_told 15 = .ok (.invokevirtual 226, 3) := by decide +kernel
theorem dX11_told_18 : decode cX11_told 18 = .ok (.ireturn, 1) := by decide +kernel
theorem dX11_told_19 : decode cX11_told 19 = .ok (.aload_n 0, 1) := by decide +kernel
theorem dX11_told_20 : decode cX11_told 20 = .ok (.iconst 0, 1) := by decide +kernel
theorem dX11_told_21 : decode cX11_told 21 = .ok (.putfield 471, 3) := by decide +kernel
theorem dX11_told_24 : decode cX11_told 24 = .ok (.iload_n 2, 1) := by decide +kernel
theorem dX11_told_25 : decode cX11_told 25 = .ok (.ifCond .eq 11, 3) := by decide +kernel
theorem dX11_told_28 : decode cX11_told 28 = .ok (.aload_n 0, 1) := by decide +kernel
theorem dX11_told_29 : decode cX11_told 29 = .ok (.iload_n 1, 1) := by decide +kernel
theorem dX11_told_30 : decode cX11_told 30 = .ok (.invokevirtual 486, 3) := by decide +kernel
theorem dX11_told_33 : decode cX11_told 33 = .ok (.goto 12, 3) := by decide +kernel
theorem dX11_told_36 : decode cX11_told 36 = .ok (.aload_n 0, 1) := by decide +kernel
theorem dX11_told_37 : decode cX11_told 37 = .ok (.aload_n 0, 1) := by decide +kernel
theorem dX11_told_38 : decode cX11_told 38 = .ok (.getfield 9, 3) := by decide +kernel
theorem dX11_told_41 : decode cX11_told 41 = .ok (.iload_n 1, 1) := by decide +kernel
theorem dX11_told_42 : decode cX11_told 42 = .ok (.invokevirtual 483, 3) := by decide +kernel
theorem dX11_told_45 : decode cX11_told 45 = .ok (.aload_n 0, 1) := by decide +kernel
theorem dX11_told_46 : decode cX11_told 46 = .ok (.iload_n 3, 1) := by decide +kernel
theorem dX11_told_47 : decode cX11_told 47 = .ok (.invokevirtual 495, 3) := by decide +kernel
theorem dX11_told_50 : decode cX11_told 50 = .ok (.ireturn, 1) := by decide +kernel
set_option maxRecDepth 20000 in
theorem ggX11_rowText_X11_isRow : GoodIn wsX11_rowText wsX11_isRow := goodIn_r _ [12, 13, 14, 15, 11, 16, 58, 59, 60, 61, 62, 63, 64, 65, 66, 67, 68, 69, 70, 71, 72, 73, 74, 75, 76, 77, 78, 79, 80, 81, 82, 83, 84, 85, 86, 87, 88, 89, 90, 91, 92, 93, 94, 95, 96, 97, 98, 99, 100, 101, 102, 103, 104, 105, 106, 107, 108, 109, 110, 111, 112, 113, 114, 115, 116, 117, 118, 119, 120, 121, 122, 123] (by decide +kernel) (by decide +kernel)
set_option maxRecDepth 20000 in
theorem gX11_rowText_X11_isRow : GoodIn wsX11_rowText (wsV RX11 461 RX11 yX11_isRow wsX11_isRow) := goodIn_app (goodIn_of _ (by decide +kernel)) ggX11_rowText_X11_isRow
set_option maxRecDepth 20000 in
theorem ggX11_rowText_X11_fail : GoodIn wsX11_rowText wsX11_fail := goodIn_r _ [20, 1, 58, 59, 60, 61, 62, 63, 64, 65, 66, 67, 68, 69, 70, 71, 72, 73, 74, 75, 76, 77, 78, 79, 80, 81, 82, 83, 84, 85, 86, 87, 88, 89, 90, 91, 92, 93, 94, 95, 96, 97, 98, 99, 100, 101, 102, 103, 104, 105, 106, 107, 108, 109, 110, 111, 112, 113, 114, 115, 116, 117, 118, 119, 120, 121, 122, 123] (by decide +kernel) (by decide +kernel)
set_option maxRecDepth 20000 in
theorem gX11_rowText_X11_fail : GoodIn wsX11_rowText (wsV RX11 226 RX11 yX11_fail wsX11_fail) := goodIn_app (goodIn_of _ (by decide +kernel)) ggX11_rowText_X11_fail
theorem dX11_rowText_0 : decode cX11_rowText 0 = .ok (.aload_n 0, 1) := by decide +kernel
theorem dX11_rowText_1 : decode cX11_rowText 1 = .ok (.iconst 0, 1) := by decide +kernel
theorem dX11_rowText_2 : decode cX11_rowText 2 = .ok (.putfield 111, 3) := by decide +kernel
theorem dX11_rowText_5 : decode cX11_rowText 5 = .ok (.aload_n 0, 1) := by decide +kernel
theorem dX11_rowText_6 : decode cX11_rowText 6 = .ok (.iload_n 1, 1) := by decide +kernel
theorem dX11_rowText_7 : decode cX11_rowText 7 = .ok (.invokevirtual 461, 3) := by decide +kernel
theorem dX11_rowText_10 : decode cX11_rowText 10 = .ok (.ifCond .ne 9, 3) := by decide +kernel
theorem dX11_rowText_13 : decode cX11_rowText 13 = .ok (.aload_n 0, 1) := by decide +kernel
theorem dX11_rowText_14 : decode cX11_rowText 14 = .ok (.iconst 1, 1) := by decide +kernel
theorem dX11_rowText_15 : decode cX11_rowText 15 = .ok (.invokevirtual 226, 3) := by decide +kernel
theorem dX11_rowText_18 : decode cX11_rowText 18 = .ok (.ireturn, 1) := by decide +kernel
set_option maxRecDepth 20000 in
theorem ggX11_count_X11_things : GoodIn wsX11_count wsX11_things := goodIn_r _ [12, 13, 255, 256, 257, 258, 259, 260, 261, 262, 263, 264, 265, 266, 267, 268, 269, 270, 271, 272, 273, 274, 275, 276, 277, 278, 279, 280, 281, 282, 283, 284, 285, 286, 287, 288, 289, 290, 291, 292, 293, 294, 295, 296, 297, 298, 299, 300, 301, 302, 303, 304, 305, 306, 307, 308, 309, 310, 311, 312, 313, 314, 315, 316, 317, 318, 319, 320] (by decide +kernel) (by decide +kernel)
set_option maxRecDepth 20000 in
theorem gX11_count_X11_things : GoodIn wsX11_count (wsV RX11 267 RX11 yX11_things wsX11_things) := goodIn_app (goodIn_of _ (by decide +kernel)) ggX11_count_X11_things
set_option maxRecDepth 20000 in
theorem ggX11_count_X11_ofKind : GoodIn wsX11_count wsX11_ofKind := goodIn_r _ [17, 13, 8, 9, 10, 11, 12, 18, 19, 20, 255, 256, 257, 258, 259, 260, 261, 262, 263, 264, 265, 266, 267, 268, 269, 270, 271, 272, 273, 274, 275, 276, 277, 278, 279, 280, 281, 282, 283, 284, 285, 286, 287, 288, 289, 290, 291, 292, 293, 294, 295, 296, 297, 298, 299, 300, 301, 302, 303, 304, 305, 306, 307, 308, 309, 310, 311, 312, 313, 314, 315, 316, 317, 318, 319, 320] (by decide +kernel) (by decide +kernel)
set_option maxRecDepth 20000 in
theorem gX11_count_X11_ofKind : GoodIn wsX11_count (wsV RX11 498 RX11 yX11_ofKind wsX11_ofKind) := goodIn_app (goodIn_of _ (by decide +kernel)) ggX11_count_X11_ofKind
set_option maxRecDepth 20000 in
theorem ggX11_count_X11_deepest : GoodIn wsX11_count wsX11_deepest := goodIn_r _ [24, 13, 25, 26, 27, 28, 8, 9, 10, 11, 12, 29, 30, 31, 32, 33, 34, 255, 256, 257, 258, 259, 260, 261, 262, 263, 264, 265, 266, 267, 268, 269, 270, 271, 272, 273, 274, 275, 276, 277, 278, 279, 280, 281, 282, 283, 284, 285, 286, 287, 288, 289, 290, 291, 292, 293, 294, 295, 296, 297, 298, 299, 300, 301, 302, 303, 304, 305, 306, 307, 308, 309, 310, 311, 312, 313, 314, 315, 316, 317, 318, 319, 320] (by decide +kernel) (by decide +kernel)
set_option maxRecDepth 20000 in
theorem gX11_count_X11_deepest : GoodIn wsX11_count (wsV RX11 501 RX11 yX11_deepest wsX11_deepest) := goodIn_app (goodIn_of _ (by decide +kernel)) ggX11_count_X11_deepest
set_option maxRecDepth 20000 in
theorem ggX11_count_X11_pathSet : GoodIn wsX11_count wsX11_pathSet := goodIn_r _ [38, 39, 40, 41, 11, 42, 43, 44, 45, 46, 255, 256, 257, 258, 259, 260, 261, 262, 263, 264, 265, 266, 267, 268, 269, 270, 271, 272, 273, 274, 275, 276, 277, 278, 279, 280, 281, 282, 283, 284, 285, 286, 287, 288, 289, 290, 291, 292, 293, 294, 295, 296, 297, 298, 299, 300, 301, 302, 303, 304, 305, 306, 307, 308, 309, 310, 311, 312, 313, 314, 315, 316, 317, 318, 319, 320] (by decide +kernel) (by decide +kernel)
set_option maxRecDepth 20000 in
theorem gX11_count_X11_pathSet : GoodIn wsX11_count (wsV RX11 504 RX11 yX11_pathSet wsX11_pathSet) := goodIn_app (goodIn_of _ (by decide +kernel)) ggX11_count_X11_pathSet
set_option maxRecDepth 20000 in
theorem ggX11_count_X11_unlike : GoodIn wsX11_count wsX11_unlike := goodIn_r _ [50, 13, 8, 9, 10, 11, 12, 51, 52, 53, 18, 19, 20, 32, 33, 34, 54, 55, 56, 57, 58, 59, 60, 61, 62, 63, 64, 65, 255, 256, 257, 258, 259, 260, 261, 262, 263, 264, 265, 266, 267, 268, 269, 270, 271, 272, 273, 274, 275, 276, 277, 278, 279, 280, 281, 282, 283, 284, 285, 286, 287, 288, 289, 290, 291, 292, 293, 294, 295, 296, 297, 298, 299, 300, 301, 302, 303, 304, 305, 306, 307, 308, 309, 310, 311, 312, 313, 314, 315, 316, 317, 318, 319, 320] (by decide +kernel) (by decide +kernel)
set_option maxRecDepth 20000 in
theorem gX11_count_X11_unlike : GoodIn wsX11_count (wsV RX11 507 RX11 yX11_unlike wsX11_unlike) := goodIn_app (goodIn_of _ (by decide +kernel)) ggX11_count_X11_unlike
set_option maxRecDepth 20000 in
theorem ggX11_count_X11_sum : GoodIn wsX11_count wsX11_sum := goodIn_r _ [102, 13, 8, 9, 10, 11, 12, 18, 19, 20, 255, 256, 257, 258, 259, 260, 261, 262, 263, 264, 265, 266, 267, 268, 269, 270, 271, 272, 273, 274, 275, 276, 277, 278, 279, 280, 281, 282, 283, 284, 285, 286, 287, 288, 289, 290, 291, 292, 293, 294, 295, 296, 297, 298, 299, 300, 301, 302, 303, 304, 305, 306, 307, 308, 309, 310, 311, 312, 313, 314, 315, 316, 317, 318, 319, 320] (by decide +kernel) (by decide +kernel)
set_option maxRecDepth 20000 in
theorem gX11_count_X11_sum : GoodIn wsX11_count (wsV RX11 510 RX11 yX11_sum wsX11_sum) := goodIn_app (goodIn_of _ (by decide +kernel)) ggX11_count_X11_sum
set_option maxRecDepth 20000 in
theorem ggX11_count_X11_fits : GoodIn wsX11_count wsX11_fits := goodIn_r _ [106, 107, 108, 5, 109, 110, 111, 39, 40, 41, 11, 42, 43, 44, 45, 46, 112, 113, 114, 115, 116, 117, 118, 119, 120, 121, 122, 123, 124, 125, 126, 127, 128, 129, 130, 131, 132, 133, 134, 135, 136, 137, 27, 138, 139, 140, 141, 142, 143, 144, 145, 146, 147, 148, 149, 150, 151, 152, 153, 154, 155, 156, 157, 158, 159, 160, 161, 162, 163, 164, 165, 166, 167, 168, 169, 170, 171, 172, 173, 174, 175, 176, 177, 178, 179, 13, 8, 9, 10, 12, 32, 33, 34, 180, 181, 182, 183, 184, 185, 186, 187, 54, 55, 56, 18, 19, 20, 188, 189, 190, 191, 192, 193, 194, 195, 196, 197, 198, 199, 200, 201, 202, 203, 204, 205, 206, 57, 58, 59, 63, 64, 65, 207, 208, 209, 25, 26, 28, 210, 211, 212, 213, 214, 215, 216, 217, 218, 219, 220, 221, 222, 223, 224, 225, 226, 227, 228, 229, 230, 231, 232, 233, 234, 60, 61, 62, 235, 236, 237, 238, 239, 240, 241, 242, 243, 244, 245, 246, 247, 248, 249, 250, 255, 256, 257, 258, 259, 260, 261, 262, 263, 264, 265, 266, 267, 268, 269, 270, 271, 272, 273, 274, 275, 276, 277, 278, 279, 280, 281, 282, 283, 284, 285, 286, 287, 288, 289, 290, 291, 292, 293, 294, 295, 296, 297, 298, 299, 300, 301, 302, 303, 304, 305, 306, 307, 308, 309, 310, 311, 312, 313, 314, 315, 316, 317, 318, 319, 320] (by decide +kernel) (by decide +kernel)
set_option maxRecDepth 20000 in
theorem gX11_count_X11_fits : GoodIn wsX11_count (wsV RX11 513 RX11 yX11_fits wsX11_fits) := goodIn_app (goodIn_of _ (by decide +kernel)) ggX11_count_X11_fits
set_option maxRecDepth 20000 in
theorem ggX11_count_X11_fail : GoodIn wsX11_count wsX11_fail := goodIn_r _ [254, 1, 255, 256, 257, 258, 259, 260, 261, 262, 263, 264, 265, 266, 267, 268, 269, 270, 271, 272, 273, 274, 275, 276, 277, 278, 279, 280, 281, 282, 283, 284, 285, 286, 287, 288, 289, 290, 291, 292, 293, 294, 295, 296, 297, 298, 299, 300, 301, 302, 303, 304, 305, 306, 307, 308, 309, 310, 311, 312, 313, 314, 315, 316, 317, 318, 319, 320] (by decide +kernel) (by decide +kernel)
set_option maxRecDepth 20000 in
theorem gX11_count_X11_fail : GoodIn wsX11_count (wsV RX11 226 RX11 yX11_fail wsX11_fail) := goodIn_app (goodIn_of _ (by decide +kernel)) ggX11_count_X11_fail
theorem dX11_count_0 : decode cX11_count 0 = .ok (.aload_n 0, 1) := by decide +kernel
theorem dX11_count_1 : decode cX11_count 1 = .ok (.iconst 0, 1) := by decide +kernel
theorem dX11_count_2 : decode cX11_count 2 = .ok (.putfield 111, 3) := by decide +kernel
theorem dX11_count_5 : decode cX11_count 5 = .ok (.iload_n 1, 1) := by decide +kernel
theorem dX11_count_6 : decode cX11_count 6 = .ok (.tableswitch 173 0 17 #[86, 91, 91, 91, 91, 99, 104, 109, 114, 121, 138, 143, 148, 153, 153, 153, 163, 168], 86) := by decide +kernel
theorem dX11_count_92 : decode cX11_count 92 = .ok (.aload_n 0, 1) := by decide +kernel
theorem dX11_count_93 : decode cX11_count 93 = .ok (.invokevirtual 267, 3) := by decide +kernel
theorem dX11_count_96 : decode cX11_count 96 = .ok (.ireturn, 1) := by decide +kernel
theorem dX11_count_97 : decode cX11_count 97 = .ok (.aload_n 0, 1) := by decide +kernel
theorem dX11_count_98 : decode cX11_count 98 = .ok (.iload_n 1, 1) := by decide +kernel
theorem dX11_count_99 : decode cX11_count 99 = .ok (.iconst 1, 1) := by decide +kernel
theorem dX11_count_100 : decode cX11_count 100 = .ok (.isub, 1) := by decide +kernel
theorem dX11_count_101 : decode cX11_count 101 = .ok (.invokevirtual 498, 3) := by decide +kernel
theorem dX11_count_104 : decode cX11_count 104 = .ok (.ireturn, 1) := by decide +kernel
theorem dX11_count_105 : decode cX11_count 105 = .ok (.aload_n 0, 1) := by decide +kernel
theorem dX11_count_106 : decode cX11_count 106 = .ok (.invokevirtual 501, 3) := by decide +kernel
theorem dX11_count_109 : decode cX11_count 109 = .ok (.ireturn, 1) := by decide +kernel
theorem dX11_count_110 : decode cX11_count 110 = .ok (.aload_n 0, 1) := by decide +kernel
theorem dX11_count_111 : decode cX11_count 111 = .ok (.invokevirtual 504, 3) := by decide +kernel
theorem dX11_count_114 : decode cX11_count 114 = .ok (.ireturn, 1) := by decide +kernel
theorem dX11_count_115 : decode cX11_count 115 = .ok (.aload_n 0, 1) := by decide +kernel
theorem dX11_count_116 : decode cX11_count 116 = .ok (.invokevirtual 507, 3) := by decide +kernel
theorem dX11_count_119 : decode cX11_count 119 = .ok (.ireturn, 1) := by decide +kernel
theorem dX11_count_120 : decode cX11_count 120 = .ok (.aload_n 0, 1) := by decide +kernel
theorem dX11_count_121 : decode cX11_count 121 = .ok (.getfield 69, 3) := by decide +kernel
theorem dX11_count_124 : decode cX11_count 124 = .ok (.iconst 1, 1) := by decide +kernel
theorem dX11_count_125 : decode cX11_count 125 = .ok (.iaload, 1) := by decide +kernel
theorem dX11_count_126 : decode cX11_count 126 = .ok (.ireturn, 1) := by decide +kernel
theorem dX11_count_127 : decode cX11_count 127 = .ok (.aload_n 0, 1) := by decide +kernel
theorem dX11_count_128 : decode cX11_count 128 = .ok (.getfield 238, 3) := by decide +kernel
theorem dX11_count_131 : decode cX11_count 131 = .ok (.ifCond .eq 11, 3) := by decide +kernel
theorem dX11_count_142 : decode cX11_count 142 = .ok (.iconst (-1), 1) := by decide +kernel
theorem dX11_count_143 : decode cX11_count 143 = .ok (.ireturn, 1) := by decide +kernel
theorem dX11_count_144 : decode cX11_count 144 = .ok (.aload_n 0, 1) := by decide +kernel
theorem dX11_count_145 : decode cX11_count 145 = .ok (.getfield 232, 3) := by decide +kernel
theorem dX11_count_148 : decode cX11_count 148 = .ok (.ireturn, 1) := by decide +kernel
theorem dX11_count_149 : decode cX11_count 149 = .ok (.aload_n 0, 1) := by decide +kernel
theorem dX11_count_150 : decode cX11_count 150 = .ok (.getfield 235, 3) := by decide +kernel
theorem dX11_count_153 : decode cX11_count 153 = .ok (.ireturn, 1) := by decide +kernel
theorem dX11_count_154 : decode cX11_count 154 = .ok (.aload_n 0, 1) := by decide +kernel
theorem dX11_count_155 : decode cX11_count 155 = .ok (.getfield 114, 3) := by decide +kernel
theorem dX11_count_158 : decode cX11_count 158 = .ok (.ireturn, 1) := by decide +kernel
theorem dX11_count_159 : decode cX11_count 159 = .ok (.aload_n 0, 1) := by decide +kernel
theorem dX11_count_160 : decode cX11_count 160 = .ok (.getfield 19, 3) := by decide +kernel
theorem dX11_count_163 : decode cX11_count 163 = .ok (.iload_n 1, 1) := by decide +kernel
theorem dX11_count_164 : decode cX11_count 164 = .ok (.bipush 13, 2) := by decide +kernel
theorem dX11_count_166 : decode cX11_count 166 = .ok (.isub, 1) := by decide +kernel
theorem dX11_count_167 : decode cX11_count 167 = .ok (.iaload, 1) := by decide +kernel
theorem dX11_count_168 : decode cX11_count 168 = .ok (.ireturn, 1) := by decide +kernel
theorem dX11_count_169 : decode cX11_count 169 = .ok (.aload_n 0, 1) := by decide +kernel
theorem dX11_count_170 : decode cX11_count 170 = .ok (.invokevirtual 510, 3) := by decide +kernel
theorem dX11_count_173 : decode cX11_count 173 = .ok (.ireturn, 1) := by decide +kernel
theorem dX11_count_174 : decode cX11_count 174 = .ok (.aload_n 0, 1) := by decide +kernel
theorem dX11_count_175 : decode cX11_count 175 = .ok (.invokevirtual 513, 3) := by decide +kernel
theorem dX11_count_178 : decode cX11_count 178 = .ok (.ireturn, 1) := by decide +kernel
theorem dX11_count_179 : decode cX11_count 179 = .ok (.aload_n 0, 1) := by decide +kernel
theorem dX11_count_180 : decode cX11_count 180 = .ok (.iconst 1, 1) := by decide +kernel
theorem dX11_count_181 : decode cX11_count 181 = .ok (.invokevirtual 226, 3) := by decide +kernel
theorem dX11_count_184 : decode cX11_count 184 = .ok (.ireturn, 1) := by decide +kernel
set_option maxRecDepth 20000 in
theorem ggX11_thing_X11_isThing : GoodIn wsX11_thing wsX11_isThing := goodIn_r _ [7, 8, 9, 10, 6, 11, 2, 12, 13, 14, 202, 203, 204, 205, 206, 207, 208, 209, 210, 211, 212, 213, 214, 215, 216, 217, 218, 219, 220, 221, 222, 223, 224, 225, 226, 227, 228, 229, 230, 231, 232, 233, 234, 235, 236, 237, 238, 239, 240, 241, 242, 243, 244, 245, 246, 247, 248, 249, 250, 251, 252, 253, 254, 255, 256, 257, 258, 259, 260, 261, 262, 263, 264, 265, 266, 267] (by decide +kernel) (by decide +kernel)
set_option maxRecDepth 20000 in
theorem gX11_thing_X11_isThing : GoodIn wsX11_thing (wsV RX11 420 RX11 yX11_isThing wsX11_isThing) := goodIn_app (goodIn_of _ (by decide +kernel)) ggX11_thing_X11_isThing
set_option maxRecDepth 20000 in
theorem ggX11_thing_X11_fail : GoodIn wsX11_thing wsX11_fail := goodIn_r _ [18, 1, 202, 203, 204, 205, 206, 207, 208, 209, 210, 211, 212, 213, 214, 215, 216, 217, 218, 219, 220, 221, 222, 223, 224, 225, 226, 227, 228, 229, 230, 231, 232, 233, 234, 235, 236, 237, 238, 239, 240, 241, 242, 243, 244, 245, 246, 247, 248, 249, 250, 251, 252, 253, 254, 255, 256, 257, 258, 259, 260, 261, 262, 263, 264, 265, 266, 267] (by decide +kernel) (by decide +kernel)
set_option maxRecDepth 20000 in
theorem gX11_thing_X11_fail : GoodIn wsX11_thing (wsV RX11 226 RX11 yX11_fail wsX11_fail) := goodIn_app (goodIn_of _ (by decide +kernel)) ggX11_thing_X11_fail
set_option maxRecDepth 20000 in
theorem ggX11_thing_X11_kind : GoodIn wsX11_thing wsX11_kind := goodIn_r _ [21] (by decide +kernel) (by decide +kernel)
set_option maxRecDepth 20000 in
theorem gX11_thing_X11_kind : GoodIn wsX11_thing (va_wsS RX11 253 yX11_kind wsX11_kind) := goodIn_app (goodIn_of _ (by decide +kernel)) ggX11_thing_X11_kind
set_option maxRecDepth 20000 in
theorem ggX11_thing_X11_parentOf : GoodIn wsX11_thing wsX11_parentOf := goodIn_r _ [24, 25, 26, 6, 27] (by decide +kernel) (by decide +kernel)
set_option maxRecDepth 20000 in
theorem gX11_thing_X11_parentOf : GoodIn wsX11_thing (va_wsS RX11 270 yX11_parentOf wsX11_parentOf) := goodIn_app (goodIn_of _ (by decide +kernel)) ggX11_thing_X11_parentOf
set_option maxRecDepth 20000 in
theorem ggX11_thing_X11_placeOf : GoodIn wsX11_thing wsX11_placeOf := goodIn_r _ [30, 22, 23, 6, 24, 25, 26, 27] (by decide +kernel) (by decide +kernel)
set_option maxRecDepth 20000 in
theorem gX11_thing_X11_placeOf : GoodIn wsX11_thing (va_wsS RX11 489 yX11_placeOf wsX11_placeOf) := goodIn_app (goodIn_of _ (by decide +kernel)) ggX11_thing_X11_placeOf
set_option maxRecDepth 20000 in
theorem ggX11_thing_X11_depthOf : GoodIn wsX11_thing wsX11_depthOf := goodIn_r _ [33, 25, 26, 6, 27] (by decide +kernel) (by decide +kernel)
set_option maxRecDepth 20000 in
theorem gX11_thing_X11_depthOf : GoodIn wsX11_thing (va_wsS RX11 360 yX11_depthOf wsX11_depthOf) := goodIn_app (goodIn_of _ (by decide +kernel)) ggX11_thing_X11_depthOf
set_option maxRecDepth 20000 in
theorem ggX11_thing_X11_many : GoodIn wsX11_thing wsX11_many := goodIn_r _ [36, 25, 26, 6, 27] (by decide +kernel) (by decide +kernel)
set_option maxRecDepth 20000 in
theorem gX11_thing_X11_many : GoodIn wsX11_thing (va_wsS RX11 246 yX11_many wsX11_many) := goodIn_app (goodIn_of _ (by decide +kernel)) ggX11_thing_X11_many
set_option maxRecDepth 20000 in
theorem ggX11_thing_X11_size : GoodIn wsX11_thing wsX11_size := goodIn_r _ [27] (by decide +kernel) (by decide +kernel)
set_option maxRecDepth 20000 in
theorem gX11_thing_X11_size : GoodIn wsX11_thing (va_wsS RX11 242 yX11_size wsX11_size) := goodIn_app (goodIn_of _ (by decide +kernel)) ggX11_thing_X11_size
set_option maxRecDepth 20000 in
theorem ggX11_thing_X11_lettersOf : GoodIn wsX11_thing wsX11_lettersOf := goodIn_r _ [39] (by decide +kernel) (by decide +kernel)
set_option maxRecDepth 20000 in
theorem gX11_thing_X11_lettersOf : GoodIn wsX11_thing (va_wsS RX11 338 yX11_lettersOf wsX11_lettersOf) := goodIn_app (goodIn_of _ (by decide +kernel)) ggX11_thing_X11_lettersOf
set_option maxRecDepth 20000 in
theorem ggX11_thing_X11_twinsOf : GoodIn wsX11_thing wsX11_twinsOf := goodIn_r _ [43, 2, 8, 9, 10, 6, 11, 44, 45, 46, 19, 20, 21, 25, 26, 27, 47, 48, 49, 34, 35, 36, 50, 51, 52, 53, 54, 55, 202, 203, 204, 205, 206, 207, 208, 209, 210, 211, 212, 213, 214, 215, 216, 217, 218, 219, 220, 221, 222, 223, 224, 225, 226, 227, 228, 229, 230, 231, 232, 233, 234, 235, 236, 237, 238, 239, 240, 241, 242, 243, 244, 245, 246, 247, 248, 249, 250, 251, 252, 253, 254, 255, 256, 257, 258, 259, 260, 261, 262, 263, 264, 265, 266, 267] (by decide +kernel) (by decide +kernel)
set_option maxRecDepth 20000 in
theorem gX11_thing_X11_twinsOf : GoodIn wsX11_thing (wsV RX11 516 RX11 yX11_twinsOf wsX11_twinsOf) := goodIn_app (goodIn_of _ (by decide +kernel)) ggX11_thing_X11_twinsOf
set_option maxRecDepth 20000 in
theorem ggX11_thing_X11_answers : GoodIn wsX11_thing wsX11_answers := goodIn_r _ [59, 60, 61, 62, 63, 6, 64, 65, 12, 13, 14, 66, 67, 68, 69, 70, 71, 72, 73, 74, 75, 76, 77, 78, 79, 80, 81, 82, 83, 84, 85, 86, 87, 88, 89, 90, 91, 92, 93, 94, 95, 96, 97, 98, 99, 100, 101, 102, 103, 104, 105, 106, 107, 108, 109, 110, 111, 112, 113, 114, 115, 116, 117, 118, 119, 120, 121, 122, 123, 124, 125, 126, 127, 128, 129, 130, 131, 132, 133, 134, 2, 8, 9, 10, 11, 25, 26, 27, 135, 136, 137, 138, 139, 140, 141, 142, 47, 48, 49, 19, 20, 21, 143, 144, 145, 146, 147, 148, 149, 150, 151, 152, 153, 154, 155, 156, 157, 158, 159, 160, 161, 34, 35, 36, 53, 54, 55, 162, 163, 164, 165, 166, 167, 168, 169, 170, 171, 172, 173, 174, 175, 176, 177, 178, 179, 180, 181, 182, 183, 184, 185, 186, 187, 188, 189, 190, 191, 192, 50, 51, 52, 193, 194, 195, 37, 38, 39, 196, 197, 198, 199, 200, 201, 202, 203, 204, 205, 206, 207, 208, 209, 210, 211, 212, 213, 214, 215, 216, 217, 218, 219, 220, 221, 222, 223, 224, 225, 226, 227, 228, 229, 230, 231, 232, 233, 234, 235, 236, 237, 238, 239, 240, 241, 242, 243, 244, 245, 246, 247, 248, 249, 250, 251, 252, 253, 254, 255, 256, 257, 258, 259, 260, 261, 262, 263, 264, 265, 266, 267] (by decide +kernel) (by decide +kernel)
set_option maxRecDepth 20000 in
theorem gX11_thing_X11_answers : GoodIn wsX11_thing (wsV RX11 519 RX11 yX11_answers wsX11_answers) := goodIn_app (goodIn_of _ (by decide +kernel)) ggX11_thing_X11_answers
theorem dX11_thing_0 : decode cX11_thing 0 = .ok (.aload_n 0, 1) := by decide +kernel
theorem dX11_thing_1 : decode cX11_thing 1 = .ok (.iconst 0, 1) := by decide +kernel
theorem dX11_thing_2 : decode cX11_thing 2 = .ok (.putfield 111, 3) := by decide +kernel
theorem dX11_thing_5 : decode cX11_thing 5 = .ok (.aload_n 0, 1) := by decide +kernel
theorem dX11_thing_6 : decode cX11_thing 6 = .ok (.iload_n 1, 1) := by decide +kernel
theorem dX11_thing_7 : decode cX11_thing 7 = .ok (.invokevirtual 420, 3) := by decide +kernel
theorem dX11_thing_10 : decode cX11_thing 10 = .ok (.ifCond .ne 9, 3) := by decide +kernel
theorem dX11_thing_13 : decode cX11_thing 13 = .ok (.aload_n 0, 1) := by decide +kernel
theorem dX11_thing_14 : decode cX11_thing 14 = .ok (.iconst 1, 1) := by decide +kernel
theorem dX11_thing_15 : decode cX11_thing 15 = .ok (.invokevirtual 226, 3) := by decide +kernel
theorem dX11_thing_18 : decode cX11_thing 18 = .ok (.ireturn, 1) := by decide +kernel
theorem dX11_thing_19 : decode cX11_thing 19 = .ok (.iload_n 2, 1) := by decide +kernel
theorem dX11_thing_20 : decode cX11_thing 20 = .ok (.tableswitch 168 0 9 #[56, 65, 74, 83, 92, 101, 114, 142, 156, 162], 56) := by decide +kernel
theorem dX11_thing_76 : decode cX11_thing 76 = .ok (.aload_n 0, 1) := by decide +kernel
theorem dX11_thing_77 : decode cX11_thing 77 = .ok (.getfield 9, 3) := by decide +kernel
theorem dX11_thing_80 : decode cX11_thing 80 = .ok (.iload_n 1, 1) := by decide +kernel
theorem dX11_thing_81 : decode cX11_thing 81 = .ok (.invokestatic 253, 3) := by decide +kernel
theorem dX11_thing_84 : decode cX11_thing 84 = .ok (.ireturn, 1) := by decide +kernel
theorem dX11_thing_85 : decode cX11_thing 85 = .ok (.aload_n 0, 1) := by decide +kernel
theorem dX11_thing_86 : decode cX11_thing 86 = .ok (.getfield 9, 3) := by decide +kernel
theorem dX11_thing_89 : decode cX11_thing 89 = .ok (.iload_n 1, 1) := by decide +kernel
theorem dX11_thing_90 : decode cX11_thing 90 = .ok (.invokestatic 270, 3) := by decide +kernel
theorem dX11_thing_93 : decode cX11_thing 93 = .ok (.ireturn, 1) := by decide +kernel
theorem dX11_thing_94 : decode cX11_thing 94 = .ok (.aload_n 0, 1) := by decide +kernel
theorem dX11_thing_95 : decode cX11_thing 95 = .ok (.getfield 9, 3) := by decide +kernel
theorem dX11_thing_98 : decode cX11_thing 98 = .ok (.iload_n 1, 1) := by decide +kernel
theorem dX11_thing_99 : decode cX11_thing 99 = .ok (.invokestatic 489, 3) := by decide +kernel
theorem dX11_thing_102 : decode cX11_thing 102 = .ok (.ireturn, 1) := by decide +kernel
theorem dX11_thing_103 : decode cX11_thing 103 = .ok (.aload_n 0, 1) := by decide +kernel
theorem dX11_thing_104 : decode cX11_thing 104 = .ok (.getfield 9, 3) := by decide +kernel
theorem dX11_thing_107 : decode cX11_thing 107 = .ok (.iload_n 1, 1) := by decide +kernel
theorem dX11_thing_108 : decode cX11_thing 108 = .ok (.invokestatic 360, 3) := by decide +kernel
theorem dX11_thing_111 : decode cX11_thing 111 = .ok (.ireturn, 1) := by decide +kernel
theorem dX11_thing_112 : decode cX11_thing 112 = .ok (.aload_n 0, 1) := by decide +kernel
theorem dX11_thing_113 : decode cX11_thing 113 = .ok (.getfield 9, 3) := by decide +kernel
theorem dX11_thing_116 : decode cX11_thing 116 = .ok (.iload_n 1, 1) := by decide +kernel
theorem dX11_thing_117 : decode cX11_thing 117 = .ok (.invokestatic 246, 3) := by decide +kernel
theorem dX11_thing_120 : decode cX11_thing 120 = .ok (.ireturn, 1) := by decide +kernel
theorem dX11_thing_121 : decode cX11_thing 121 = .ok (.iload_n 1, 1) := by decide +kernel
theorem dX11_thing_122 : decode cX11_thing 122 = .ok (.aload_n 0, 1) := by decide +kernel
theorem dX11_thing_123 : decode cX11_thing 123 = .ok (.getfield 9, 3) := by decide +kernel
theorem dX11_thing_126 : decode cX11_thing 126 = .ok (.iload_n 1, 1) := by decide +kernel
theorem dX11_thing_127 : decode cX11_thing 127 = .ok (.invokestatic 242, 3) := by decide +kernel
theorem dX11_thing_130 : decode cX11_thing 130 = .ok (.iadd, 1) := by decide +kernel
theorem dX11_thing_131 : decode cX11_thing 131 = .ok (.iconst 1, 1) := by decide +kernel
theorem dX11_thing_132 : decode cX11_thing 132 = .ok (.isub, 1) := by decide +kernel
theorem dX11_thing_133 : decode cX11_thing 133 = .ok (.ireturn, 1) := by decide +kernel
theorem dX11_thing_134 : decode cX11_thing 134 = .ok (.aload_n 0, 1) := by decide +kernel
theorem dX11_thing_135 : decode cX11_thing 135 = .ok (.getfield 9, 3) := by decide +kernel
theorem dX11_thing_138 : decode cX11_thing 138 = .ok (.iload_n 1, 1) := by decide +kernel
theorem dX11_thing_139 : decode cX11_thing 139 = .ok (.invokestatic 253, 3) := by decide +kernel
theorem dX11_thing_142 : decode cX11_thing 142 = .ok (.ifCond .ne 16, 3) := by decide +kernel
theorem dX11_thing_158 : decode cX11_thing 158 = .ok (.sipush (-1000), 3) := by decide +kernel
theorem dX11_thing_161 : decode cX11_thing 161 = .ok (.ireturn, 1) := by decide +kernel
theorem dX11_thing_162 : decode cX11_thing 162 = .ok (.aload_n 0, 1) := by decide +kernel
theorem dX11_thing_163 : decode cX11_thing 163 = .ok (.getfield 9, 3) := by decide +kernel
theorem dX11_thing_166 : decode cX11_thing 166 = .ok (.iconst 4, 1) := by decide +kernel
theorem dX11_thing_167 : decode cX11_thing 167 = .ok (.iload_n 1, 1) := by decide +kernel
theorem dX11_thing_168 : decode cX11_thing 168 = .ok (.imul, 1) := by decide +kernel
theorem dX11_thing_169 : decode cX11_thing 169 = .ok (.iconst 2, 1) := by decide +kernel
theorem dX11_thing_170 : decode cX11_thing 170 = .ok (.iadd, 1) := by decide +kernel
theorem dX11_thing_171 : decode cX11_thing 171 = .ok (.iaload, 1) := by decide +kernel
theorem dX11_thing_172 : decode cX11_thing 172 = .ok (.invokestatic 338, 3) := by decide +kernel
theorem dX11_thing_175 : decode cX11_thing 175 = .ok (.ireturn, 1) := by decide +kernel
theorem dX11_thing_176 : decode cX11_thing 176 = .ok (.aload_n 0, 1) := by decide +kernel
theorem dX11_thing_177 : decode cX11_thing 177 = .ok (.iload_n 1, 1) := by decide +kernel
theorem dX11_thing_178 : decode cX11_thing 178 = .ok (.invokevirtual 516, 3) := by decide +kernel
theorem dX11_thing_181 : decode cX11_thing 181 = .ok (.ireturn, 1) := by decide +kernel
theorem dX11_thing_182 : decode cX11_thing 182 = .ok (.aload_n 0, 1) := by decide +kernel
theorem dX11_thing_183 : decode cX11_thing 183 = .ok (.iload_n 1, 1) := by decide +kernel
theorem dX11_thing_184 : decode cX11_thing 184 = .ok (.invokevirtual 519, 3) := by decide +kernel
theorem dX11_thing_187 : decode cX11_thing 187 = .ok (.ireturn, 1) := by decide +kernel
theorem dX11_thing_188 : decode cX11_thing 188 = .ok (.aload_n 0, 1) := by decide +kernel
theorem dX11_thing_189 : decode cX11_thing 189 = .ok (.iconst 1, 1) := by decide +kernel
theorem dX11_thing_190 : decode cX11_thing 190 = .ok (.invokevirtual 226, 3) := by decide +kernel
theorem dX11_thing_193 : decode cX11_thing 193 = .ok (.ireturn, 1) := by decide +kernel
set_option maxRecDepth 20000 in
theorem ggX11_within_X11_isThing : GoodIn wsX11_within wsX11_isThing := goodIn_r _ [7, 8, 9, 10, 6, 11, 2, 12, 13, 14, 28, 29, 30, 31, 32, 33, 34, 35, 36, 37, 38, 39, 40, 41, 42, 43, 44, 45, 46, 47, 48, 49, 50, 51, 52, 53, 54, 55, 56, 57, 58, 59, 60, 61, 62, 63, 64, 65, 66, 67, 68, 69, 70, 71, 72, 73, 74, 75, 76, 77, 78, 79, 80, 81, 82, 83, 84, 85, 86, 87, 88, 89, 90, 91, 92, 93] (by decide +kernel) (by decide +kernel)
set_option maxRecDepth 20000 in
theorem gX11_within_X11_isThing : GoodIn wsX11_within (wsV RX11 420 RX11 yX11_isThing wsX11_isThing) := goodIn_app (goodIn_of _ (by decide +kernel)) ggX11_within_X11_isThing
set_option maxRecDepth 20000 in
theorem ggX11_within_X11_many : GoodIn wsX11_within wsX11_many := goodIn_r _ [17, 18, 19, 6, 20] (by decide +kernel) (by decide +kernel)
set_option maxRecDepth 20000 in
theorem gX11_within_X11_many : GoodIn wsX11_within (va_wsS RX11 246 yX11_many wsX11_many) := goodIn_app (goodIn_of _ (by decide +kernel)) ggX11_within_X11_many
set_option maxRecDepth 20000 in
theorem ggX11_within_X11_isIn : GoodIn wsX11_within wsX11_isIn := goodIn_r _ [14] (by decide +kernel) (by decide +kernel)
set_option maxRecDepth 20000 in
theorem gX11_within_X11_isIn : GoodIn wsX11_within (va_wsS RX11 219 yX11_isIn wsX11_isIn) := goodIn_app (goodIn_of _ (by decide +kernel)) ggX11_within_X11_isIn
set_option maxRecDepth 20000 in
theorem ggX11_within_X11_fail : GoodIn wsX11_within wsX11_fail := goodIn_r _ [27, 1, 28, 29, 30, 31, 32, 33, 34, 35, 36, 37, 38, 39, 40, 41, 42, 43, 44, 45, 46, 47, 48, 49, 50, 51, 52, 53, 54, 55, 56, 57, 58, 59, 60, 61, 62, 63, 64, 65, 66, 67, 68, 69, 70, 71, 72, 73, 74, 75, 76, 77, 78, 79, 80, 81, 82, 83, 84, 85, 86, 87, 88, 89, 90, 91, 92, 93] (by decide +kernel) (by decide +kernel)
set_option maxRecDepth 20000 in
theorem gX11_within_X11_fail : GoodIn wsX11_within (wsV RX11 226 RX11 yX11_fail wsX11_fail) := goodIn_app (goodIn_of _ (by decide +kernel)) ggX11_within_X11_fail
theorem dX11_within_0 : decode cX11_within 0 = .ok (.aload_n 0, 1) := by decide +kernel
theorem dX11_within_1 : decode cX11_within 1 = .ok (.iconst 0, 1) := by decide +kernel
theorem dX11_within_2 : decode cX11_within 2 = .ok (.putfield 111, 3) := by decide +kernel
theorem dX11_within_5 : decode cX11_within 5 = .ok (.aload_n 0, 1) := by decide +kernel
theorem dX11_within_6 : decode cX11_within 6 = .ok (.iload_n 1, 1) := by decide +kernel
theorem dX11_within_7 : decode cX11_within 7 = .ok (.invokevirtual 420, 3) := by decide +kernel
theorem dX11_within_10 : decode cX11_within 10 = .ok (.ifCond .eq 33, 3) := by decide +kernel
theorem dX11_within_13 : decode cX11_within 13 = .ok (.iload_n 2, 1) := by decide +kernel
theorem dX11_within_14 : decode cX11_within 14 = .ok (.iconst 0, 1) := by decide +kernel
theorem dX11_within_15 : decode cX11_within 15 = .ok (.aload_n 0, 1) := by decide +kernel
theorem dX11_within_16 : decode cX11_within 16 = .ok (.getfield 9, 3) := by decide +kernel
theorem dX11_within_19 : decode cX11_within 19 = .ok (.iload_n 1, 1) := by decide +kernel
theorem dX11_within_20 : decode cX11_within 20 = .ok (.invokestatic 246, 3) := by decide +kernel
theorem dX11_within_23 : decode cX11_within 23 = .ok (.iconst 1, 1) := by decide +kernel
theorem dX11_within_24 : decode cX11_within 24 = .ok (.isub, 1) := by decide +kernel
theorem dX11_within_25 : decode cX11_within 25 = .ok (.invokestatic 219, 3) := by decide +kernel
theorem dX11_within_28 : decode cX11_within 28 = .ok (.ifCond .eq 15, 3) := by decide +kernel
theorem dX11_within_43 : decode cX11_within 43 = .ok (.aload_n 0, 1) := by decide +kernel
theorem dX11_within_44 : decode cX11_within 44 = .ok (.iconst 1, 1) := by decide +kernel
theorem dX11_within_45 : decode cX11_within 45 = .ok (.invokevirtual 226, 3) := by decide +kernel
theorem dX11_within_48 : decode cX11_within 48 = .ok (.ireturn, 1) := by decide +kernel
set_option maxRecDepth 20000 in
theorem ggX11_alike_X11_isThing : GoodIn wsX11_alike wsX11_isThing := goodIn_r _ [7, 8, 9, 10, 6, 11, 2, 12, 13, 14, 40, 41, 42, 43, 44, 45, 46, 47, 48, 49, 50, 51, 52, 53, 54, 55, 56, 57, 58, 59, 60, 61, 62, 63, 64, 65, 66, 67, 68, 69, 70, 71, 72, 73, 74, 75, 76, 77, 78, 79, 80, 81, 82, 83, 84, 85, 86, 87, 88, 89, 90, 91, 92, 93, 94, 95, 96, 97, 98, 99, 100, 101, 102, 103, 104, 105] (by decide +kernel) (by decide +kernel)
set_option maxRecDepth 20000 in
theorem gX11_alike_X11_isThing : GoodIn wsX11_alike (wsV RX11 420 RX11 yX11_isThing wsX11_isThing) := goodIn_app (goodIn_of _ (by decide +kernel)) ggX11_alike_X11_isThing
set_option maxRecDepth 20000 in
theorem ggX11_alike_X11_areLike : GoodIn wsX11_alike wsX11_areLike := goodIn_r _ [17, 18, 19, 6, 20, 21, 22, 23, 24, 25, 26, 27, 28, 29, 30, 31, 32, 33, 34, 35, 15, 16] (by decide +kernel) (by decide +kernel)
set_option maxRecDepth 20000 in
theorem gX11_alike_X11_areLike : GoodIn wsX11_alike (va_wsS RX11 263 yX11_areLike wsX11_areLike) := goodIn_app (goodIn_of _ (by decide +kernel)) ggX11_alike_X11_areLike
set_option maxRecDepth 20000 in
theorem ggX11_alike_X11_fail : GoodIn wsX11_alike wsX11_fail := goodIn_r _ [39, 1, 40, 41, 42, 43, 44, 45, 46, 47, 48, 49, 50, 51, 52, 53, 54, 55, 56, 57, 58, 59, 60, 61, 62, 63, 64, 65, 66, 67, 68, 69, 70, 71, 72, 73, 74, 75, 76, 77, 78, 79, 80, 81, 82, 83, 84, 85, 86, 87, 88, 89, 90, 91, 92, 93, 94, 95, 96, 97, 98, 99, 100, 101, 102, 103, 104, 105] (by decide +kernel) (by decide +kernel)
set_option maxRecDepth 20000 in
theorem gX11_alike_X11_fail : GoodIn wsX11_alike (wsV RX11 226 RX11 yX11_fail wsX11_fail) := goodIn_app (goodIn_of _ (by decide +kernel)) ggX11_alike_X11_fail
theorem dX11_alike_0 : decode cX11_alike 0 = .ok (.aload_n 0, 1) := by decide +kernel
theorem dX11_alike_1 : decode cX11_alike 1 = .ok (.iconst 0, 1) := by decide +kernel
theorem dX11_alike_2 : decode cX11_alike 2 = .ok (.putfield 111, 3) := by decide +kernel
theorem dX11_alike_5 : decode cX11_alike 5 = .ok (.aload_n 0, 1) := by decide +kernel
theorem dX11_alike_6 : decode cX11_alike 6 = .ok (.iload_n 1, 1) := by decide +kernel
theorem dX11_alike_7 : decode cX11_alike 7 = .ok (.invokevirtual 420, 3) := by decide +kernel
theorem dX11_alike_10 : decode cX11_alike 10 = .ok (.ifCond .eq 35, 3) := by decide +kernel
theorem dX11_alike_13 : decode cX11_alike 13 = .ok (.aload_n 0, 1) := by decide +kernel
theorem dX11_alike_14 : decode cX11_alike 14 = .ok (.iload_n 2, 1) := by decide +kernel
theorem dX11_alike_15 : decode cX11_alike 15 = .ok (.invokevirtual 420, 3) := by decide +kernel
theorem dX11_alike_18 : decode cX11_alike 18 = .ok (.ifCond .eq 27, 3) := by decide +kernel
theorem dX11_alike_21 : decode cX11_alike 21 = .ok (.aload_n 0, 1) := by decide +kernel
theorem dX11_alike_22 : decode cX11_alike 22 = .ok (.getfield 9, 3) := by decide +kernel
theorem dX11_alike_25 : decode cX11_alike 25 = .ok (.iload_n 1, 1) := by decide +kernel
theorem dX11_alike_26 : decode cX11_alike 26 = .ok (.aload_n 0, 1) := by decide +kernel
theorem dX11_alike_27 : decode cX11_alike 27 = .ok (.getfield 9, 3) := by decide +kernel
theorem dX11_alike_30 : decode cX11_alike 30 = .ok (.iload_n 2, 1) := by decide +kernel
theorem dX11_alike_31 : decode cX11_alike 31 = .ok (.invokestatic 263, 3) := by decide +kernel
theorem dX11_alike_34 : decode cX11_alike 34 = .ok (.ifCond .eq 7, 3) := by decide +kernel
theorem dX11_alike_37 : decode cX11_alike 37 = .ok (.iconst 1, 1) := by decide +kernel
theorem dX11_alike_38 : decode cX11_alike 38 = .ok (.goto 12, 3) := by decide +kernel
theorem dX11_alike_45 : decode cX11_alike 45 = .ok (.aload_n 0, 1) := by decide +kernel
theorem dX11_alike_46 : decode cX11_alike 46 = .ok (.iconst 1, 1) := by decide +kernel
theorem dX11_alike_47 : decode cX11_alike 47 = .ok (.invokevirtual 226, 3) := by decide +kernel
theorem dX11_alike_50 : decode cX11_alike 50 = .ok (.ireturn, 1) := by decide +kernel
set_option maxRecDepth 20000 in
theorem ggX11_fits_X11_isPath : GoodIn wsX11_fits wsX11_isPath := goodIn_r _ [11, 12, 13, 14, 10, 15, 182, 183, 184, 185, 186, 187, 188, 189, 190, 191, 192, 193, 194, 195, 196, 197, 198, 199, 200, 201, 202, 203, 204, 205, 206, 207, 208, 209, 210, 211, 212, 213, 214, 215, 216, 217, 218, 219, 220, 221, 222, 223, 224, 225, 226, 227, 228, 229, 230, 231, 232, 233, 234, 235, 236, 237, 238, 239, 240, 241, 242, 243, 244, 245, 246, 247] (by decide +kernel) (by decide +kernel)
set_option maxRecDepth 20000 in
theorem gX11_fits_X11_isPath : GoodIn wsX11_fits (wsV RX11 344 RX11 yX11_isPath wsX11_isPath) := goodIn_app (goodIn_of _ (by decide +kernel)) ggX11_fits_X11_isPath
theorem dX11_fits_0 : decode cX11_fits 0 = .ok (.iconst 0, 1) := by decide +kernel
theorem dX11_fits_1 : decode cX11_fits 1 = .ok (.istore_n 1, 1) := by decide +kernel
theorem dX11_fits_2 : decode cX11_fits 2 = .ok (.aload_n 0, 1) := by decide +kernel
theorem dX11_fits_3 : decode cX11_fits 3 = .ok (.iconst 0, 1) := by decide +kernel
theorem dX11_fits_4 : decode cX11_fits 4 = .ok (.putfield 522, 3) := by decide +kernel
theorem dX11_fits_7 : decode cX11_fits 7 = .ok (.iconst 0, 1) := by decide +kernel
theorem dX11_fits_8 : decode cX11_fits 8 = .ok (.istore_n 2, 1) := by decide +kernel
theorem dX11_fits_9 : decode cX11_fits 9 = .ok (.iload_n 2, 1) := by decide +kernel
theorem dX11_fits_10 : decode cX11_fits 10 = .ok (.bipush 60, 2) := by decide +kernel
theorem dX11_fits_12 : decode cX11_fits 12 = .ok (.if_icmp .ge 16, 3) := by decide +kernel
theorem dX11_fits_15 : decode cX11_fits 15 = .ok (.aload_n 0, 1) := by decide +kernel
theorem dX11_fits_16 : decode cX11_fits 16 = .ok (.getfield 87, 3) := by decide +kernel
theorem dX11_fits_19 : decode cX11_fits 19 = .ok (.iload_n 2, 1) := by decide +kernel
theorem dX11_fits_20 : decode cX11_fits 20 = .ok (.iconst 0, 1) := by decide +kernel
theorem dX11_fits_21 : decode cX11_fits 21 = .ok (.iastore, 1) := by decide +kernel
theorem dX11_fits_22 : decode cX11_fits 22 = .ok (.iinc 2 1, 3) := by decide +kernel
theorem dX11_fits_25 : decode cX11_fits 25 = .ok (.goto (-16), 3) := by decide +kernel
theorem dX11_fits_28 : decode cX11_fits 28 = .ok (.iconst 0, 1) := by decide +kernel
theorem dX11_fits_29 : decode cX11_fits 29 = .ok (.istore_n 2, 1) := by decide +kernel
theorem dX11_fits_30 : decode cX11_fits 30 = .ok (.iload_n 2, 1) := by decide +kernel
theorem dX11_fits_31 : decode cX11_fits 31 = .ok (.iconst 4, 1) := by decide +kernel
theorem dX11_fits_32 : decode cX11_fits 32 = .ok (.if_icmp .ge 166, 3) := by decide +kernel
theorem dX11_fits_35 : decode cX11_fits 35 = .ok (.aload_n 0, 1) := by decide +kernel
theorem dX11_fits_36 : decode cX11_fits 36 = .ok (.iload_n 2, 1) := by decide +kernel
theorem dX11_fits_37 : decode cX11_fits 37 = .ok (.invokevirtual 344, 3) := by decide +kernel
theorem dX11_fits_40 : decode cX11_fits 40 = .ok (.ifCond .ne 6, 3) := by decide +kernel
theorem dX11_fits_43 : decode cX11_fits 43 = .ok (.goto 149, 3) := by decide +kernel
theorem dX11_fits_192 : decode cX11_fits 192 = .ok (.iinc 2 1, 3) := by decide +kernel
theorem dX11_fits_195 : decode cX11_fits 195 = .ok (.goto (-165), 3) := by decide +kernel
theorem dX11_fits_198 : decode cX11_fits 198 = .ok (.iload_n 1, 1) := by decide +kernel
theorem dX11_fits_199 : decode cX11_fits 199 = .ok (.ireturn, 1) := by decide +kernel
