set_option maxRecDepth 20000 in
theorem ggX11_readsData_X11_beginText : GoodIn wsX11_readsData wsX11_beginText := goodIn_r _ [9, 10, 11, 12, 13, 3, 14, 15, 16, 8, 17, 18, 4, 19, 20, 21, 22, 23, 24, 25, 26, 27, 28, 29, 30, 31, 32, 33, 34, 35, 36, 89, 90, 91, 92, 93, 94, 95, 96, 97, 98, 99, 100, 101, 102, 103, 104, 105, 106, 107, 108, 109, 110, 111, 112, 113, 114, 115, 116, 117, 118, 119, 120, 121, 122, 123, 124, 125, 126, 127, 128, 129, 130, 131, 132, 133, 134, 135, 136, 137, 138, 139, 140, 141, 142, 143, 144, 145, 146, 147, 148, 149, 150, 151, 152, 153, 154] (by decide +kernel) (by decide +kernel)
set_option maxRecDepth 20000 in
theorem gX11_readsData_X11_beginText : GoodIn wsX11_readsData (wsV RX11 211 RX11 yX11_beginText wsX11_beginText) := goodIn_app (goodIn_of _ (by decide +kernel)) ggX11_readsData_X11_beginText
set_option maxRecDepth 20000 in
theorem ggX11_readsData_X11_readThing : GoodIn wsX11_readsData wsX11_readThing := goodIn_r _ [40, 4, 3, 1, 41, 42, 43, 44, 8, 45, 18, 27, 28, 29, 30, 12, 10, 11, 46, 47, 48, 49, 50, 51, 52, 53, 54, 55, 56, 57, 58, 26, 19, 59, 60, 61, 62, 14, 15, 16, 17, 13, 20, 21, 22, 23, 24, 25, 31, 32, 33, 34, 35, 36, 63, 64, 65, 66, 67, 68, 69, 70, 71, 72, 73, 74, 75, 76, 77, 78, 79, 80, 81, 82, 37, 38, 39, 89, 90, 91, 92, 93, 94, 95, 96, 97, 98, 99, 100, 101, 102, 103, 104, 105, 106, 107, 108, 109, 110, 111, 112, 113, 114, 115, 116, 117, 118, 119, 120, 121, 122, 123, 124, 125, 126, 127, 128, 129, 130, 131, 132, 133, 134, 135, 136, 137, 138, 139, 140, 141, 142, 143, 144, 145, 146, 147, 148, 149, 150, 151, 152, 153, 154] (by decide +kernel) (by decide +kernel)
set_option maxRecDepth 20000 in
theorem gX11_readsData_X11_readThing : GoodIn wsX11_readsData (wsV RX11 204 RX11 yX11_readThing wsX11_readThing) := goodIn_app (goodIn_of _ (by decide +kernel)) ggX11_readsData_X11_readThing
set_option maxRecDepth 20000 in
theorem ggX11_readsData_X11_isRead : GoodIn wsX11_readsData wsX11_isRead := goodIn_r _ [86, 3, 50, 87, 88, 89, 90, 91, 92, 93, 94, 95, 96, 97, 98, 99, 100, 101, 102, 103, 104, 105, 106, 107, 108, 109, 110, 111, 112, 113, 114, 115, 116, 117, 118, 119, 120, 121, 122, 123, 124, 125, 126, 127, 128, 129, 130, 131, 132, 133, 134, 135, 136, 137, 138, 139, 140, 141, 142, 143, 144, 145, 146, 147, 148, 149, 150, 151, 152, 153, 154] (by decide +kernel) (by decide +kernel)
set_option maxRecDepth 20000 in
theorem gX11_readsData_X11_isRead : GoodIn wsX11_readsData (wsV RX11 215 RX11 yX11_isRead wsX11_isRead) := goodIn_app (goodIn_of _ (by decide +kernel)) ggX11_readsData_X11_isRead
theorem dX11_readsData_0 : decode cX11_readsData 0 = .ok (.aload_n 0, 1) := by decide +kernel
theorem dX11_readsData_1 : decode cX11_readsData 1 = .ok (.iconst 0, 1) := by decide +kernel
theorem dX11_readsData_2 : decode cX11_readsData 2 = .ok (.putfield 188, 3) := by decide +kernel
theorem dX11_readsData_5 : decode cX11_readsData 5 = .ok (.aload_n 0, 1) := by decide +kernel
theorem dX11_readsData_6 : decode cX11_readsData 6 = .ok (.aload_n 0, 1) := by decide +kernel
theorem dX11_readsData_7 : decode cX11_readsData 7 = .ok (.getfield 22, 3) := by decide +kernel
theorem dX11_readsData_10 : decode cX11_readsData 10 = .ok (.iconst 0, 1) := by decide +kernel
theorem dX11_readsData_11 : decode cX11_readsData 11 = .ok (.iload_n 1, 1) := by decide +kernel
theorem dX11_readsData_12 : decode cX11_readsData 12 = .ok (.invokevirtual 211, 3) := by decide +kernel
theorem dX11_readsData_15 : decode cX11_readsData 15 = .ok (.aload_n 0, 1) := by decide +kernel
theorem dX11_readsData_16 : decode cX11_readsData 16 = .ok (.iconst 0, 1) := by decide +kernel
theorem dX11_readsData_17 : decode cX11_readsData 17 = .ok (.iconst 0, 1) := by decide +kernel
theorem dX11_readsData_18 : decode cX11_readsData 18 = .ok (.invokevirtual 204, 3) := by decide +kernel
theorem dX11_readsData_21 : decode cX11_readsData 21 = .ok (.aload_n 0, 1) := by decide +kernel
theorem dX11_readsData_22 : decode cX11_readsData 22 = .ok (.getfield 162, 3) := by decide +kernel
theorem dX11_readsData_25 : decode cX11_readsData 25 = .ok (.ifCond .ne 15, 3) := by decide +kernel
theorem dX11_readsData_40 : decode cX11_readsData 40 = .ok (.aload_n 0, 1) := by decide +kernel
theorem dX11_readsData_41 : decode cX11_readsData 41 = .ok (.invokevirtual 215, 3) := by decide +kernel
theorem dX11_readsData_44 : decode cX11_readsData 44 = .ok (.ireturn, 1) := by decide +kernel
theorem dX11_isRead_0 : decode cX11_isRead 0 = .ok (.aload_n 0, 1) := by decide +kernel
theorem dX11_isRead_1 : decode cX11_isRead 1 = .ok (.aload_n 0, 1) := by decide +kernel
theorem dX11_isRead_2 : decode cX11_isRead 2 = .ok (.getfield 162, 3) := by decide +kernel
theorem dX11_isRead_5 : decode cX11_isRead 5 = .ok (.ifCond .ne 7, 3) := by decide +kernel
theorem dX11_isRead_8 : decode cX11_isRead 8 = .ok (.iconst (-1), 1) := by decide +kernel
theorem dX11_isRead_9 : decode cX11_isRead 9 = .ok (.goto 7, 3) := by decide +kernel
theorem dX11_isRead_12 : decode cX11_isRead 12 = .ok (.aload_n 0, 1) := by decide +kernel
theorem dX11_isRead_13 : decode cX11_isRead 13 = .ok (.getfield 165, 3) := by decide +kernel
theorem dX11_isRead_16 : decode cX11_isRead 16 = .ok (.putfield 31, 3) := by decide +kernel
theorem dX11_isRead_19 : decode cX11_isRead 19 = .ok (.aload_n 0, 1) := by decide +kernel
theorem dX11_isRead_20 : decode cX11_isRead 20 = .ok (.getfield 19, 3) := by decide +kernel
theorem dX11_isRead_23 : decode cX11_isRead 23 = .ok (.iconst 0, 1) := by decide +kernel
theorem dX11_isRead_24 : decode cX11_isRead 24 = .ok (.dup2, 1) := by decide +kernel
theorem dX11_isRead_25 : decode cX11_isRead 25 = .ok (.iaload, 1) := by decide +kernel
theorem dX11_isRead_26 : decode cX11_isRead 26 = .ok (.aload_n 0, 1) := by decide +kernel
theorem dX11_isRead_27 : decode cX11_isRead 27 = .ok (.getfield 162, 3) := by decide +kernel
theorem dX11_isRead_30 : decode cX11_isRead 30 = .ok (.ifCond .ne 7, 3) := by decide +kernel
theorem dX11_isRead_33 : decode cX11_isRead 33 = .ok (.iconst 0, 1) := by decide +kernel
theorem dX11_isRead_34 : decode cX11_isRead 34 = .ok (.goto 4, 3) := by decide +kernel
theorem dX11_isRead_37 : decode cX11_isRead 37 = .ok (.iconst 1, 1) := by decide +kernel
theorem dX11_isRead_38 : decode cX11_isRead 38 = .ok (.iadd, 1) := by decide +kernel
theorem dX11_isRead_39 : decode cX11_isRead 39 = .ok (.iastore, 1) := by decide +kernel
theorem dX11_isRead_40 : decode cX11_isRead 40 = .ok (.aload_n 0, 1) := by decide +kernel
theorem dX11_isRead_41 : decode cX11_isRead 41 = .ok (.getfield 162, 3) := by decide +kernel
theorem dX11_isRead_44 : decode cX11_isRead 44 = .ok (.ifCond .ne 7, 3) := by decide +kernel
theorem dX11_isRead_47 : decode cX11_isRead 47 = .ok (.iconst 1, 1) := by decide +kernel
theorem dX11_isRead_48 : decode cX11_isRead 48 = .ok (.goto 4, 3) := by decide +kernel
theorem dX11_isRead_51 : decode cX11_isRead 51 = .ok (.iconst 0, 1) := by decide +kernel
theorem dX11_isRead_52 : decode cX11_isRead 52 = .ok (.ireturn, 1) := by decide +kernel
