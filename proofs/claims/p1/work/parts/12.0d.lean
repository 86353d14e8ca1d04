set_option maxRecDepth 20000 in
theorem ggX1_read_X8_begin : GoodIn wsX1_read wsX8_begin := goodIn_r _ [6, 7, 8, 9, 10, 11, 12, 13, 14, 15, 16, 17, 18, 19, 20, 21, 5, 22, 23, 24, 25, 26, 27, 28, 29, 30, 31, 32, 33, 34, 35, 36, 37, 38, 39, 40, 116, 117, 118, 119, 120, 121, 122, 123, 124] (by decide +kernel) (by decide +kernel)
set_option maxRecDepth 20000 in
theorem gX1_read_X8_begin : GoodIn wsX1_read (wsV RX1 15 RX8 yX8_begin wsX8_begin) := goodIn_app (goodIn_of _ (by decide +kernel)) ggX1_read_X8_begin
set_option maxRecDepth 20000 in
theorem ggX1_read_X9_clear : GoodIn wsX1_read wsX9_clear := goodIn_r _ [45, 46, 125, 126, 127, 128, 129] (by decide +kernel) (by decide +kernel)
set_option maxRecDepth 20000 in
theorem gX1_read_X9_clear : GoodIn wsX1_read (wsV RX1 21 RX9 yX9_clear wsX9_clear) := goodIn_app (goodIn_of _ (by decide +kernel)) ggX1_read_X9_clear
set_option maxRecDepth 20000 in
theorem ggX1_read_X1_readThing : GoodIn wsX1_read wsX1_readThing := goodIn_r _ [51, 1, 52, 53, 50, 54, 55, 56, 57, 5, 58, 15, 17, 31, 16, 19, 59, 60, 61, 62, 63, 64, 65, 66, 67, 68, 69, 70, 71, 72, 73, 33, 74, 75, 76, 77, 32, 78, 79, 80, 81, 14, 18, 82, 83, 84, 85, 86, 87, 88, 44, 89, 46, 90, 91, 92, 93, 94, 95, 96, 97, 98, 99, 47, 48, 49, 100, 101, 102, 103, 104, 105, 106, 107, 108, 109, 110, 111, 112, 113, 114, 115, 116, 117, 118, 119, 120, 121, 122, 123, 124, 125, 126, 127, 128, 129] (by decide +kernel) (by decide +kernel)
set_option maxRecDepth 20000 in
theorem gX1_read_X1_readThing : GoodIn wsX1_read (wsV RX1 26 RX1 yX1_readThing wsX1_readThing) := goodIn_app (goodIn_of _ (by decide +kernel)) ggX1_read_X1_readThing
set_option maxRecDepth 20000 in
theorem ggX1_read_X8_fail : GoodIn wsX1_read wsX8_fail := goodIn_r _ [58, 15, 17, 31, 16, 19, 116, 117, 118, 119, 120, 121, 122, 123, 124] (by decide +kernel) (by decide +kernel)
set_option maxRecDepth 20000 in
theorem gX1_read_X8_fail : GoodIn wsX1_read (wsV RX1 34 RX8 yX8_fail wsX8_fail) := goodIn_app (goodIn_of _ (by decide +kernel)) ggX1_read_X8_fail
theorem dX1_read_0 : decode cX1_read 0 = .ok (.aload_n 0, 1) := by decide +kernel
theorem dX1_read_1 : decode cX1_read 1 = .ok (.getfield 9, 3) := by decide +kernel
theorem dX1_read_4 : decode cX1_read 4 = .ok (.aload_n 1, 1) := by decide +kernel
theorem dX1_read_5 : decode cX1_read 5 = .ok (.iload_n 2, 1) := by decide +kernel
theorem dX1_read_6 : decode cX1_read 6 = .ok (.invokevirtual 15, 3) := by decide +kernel
theorem dX1_read_9 : decode cX1_read 9 = .ok (.aload_n 3, 1) := by decide +kernel
theorem dX1_read_10 : decode cX1_read 10 = .ok (.invokevirtual 21, 3) := by decide +kernel
theorem dX1_read_13 : decode cX1_read 13 = .ok (.aload_n 0, 1) := by decide +kernel
theorem dX1_read_14 : decode cX1_read 14 = .ok (.aload_n 3, 1) := by decide +kernel
theorem dX1_read_15 : decode cX1_read 15 = .ok (.iconst 0, 1) := by decide +kernel
theorem dX1_read_16 : decode cX1_read 16 = .ok (.iconst 0, 1) := by decide +kernel
theorem dX1_read_17 : decode cX1_read 17 = .ok (.invokevirtual 26, 3) := by decide +kernel
theorem dX1_read_20 : decode cX1_read 20 = .ok (.aload_n 0, 1) := by decide +kernel
theorem dX1_read_21 : decode cX1_read 21 = .ok (.getfield 9, 3) := by decide +kernel
theorem dX1_read_24 : decode cX1_read 24 = .ok (.getfield 30, 3) := by decide +kernel
theorem dX1_read_27 : decode cX1_read 27 = .ok (.sipush 259, 3) := by decide +kernel
theorem dX1_read_30 : decode cX1_read 30 = .ok (.if_icmp .eq 11, 3) := by decide +kernel
theorem dX1_read_33 : decode cX1_read 33 = .ok (.aload_n 0, 1) := by decide +kernel
theorem dX1_read_34 : decode cX1_read 34 = .ok (.getfield 9, 3) := by decide +kernel
theorem dX1_read_37 : decode cX1_read 37 = .ok (.iconst 1, 1) := by decide +kernel
theorem dX1_read_38 : decode cX1_read 38 = .ok (.invokevirtual 34, 3) := by decide +kernel
theorem dX1_read_41 : decode cX1_read 41 = .ok (.aload_n 0, 1) := by decide +kernel
theorem dX1_read_42 : decode cX1_read 42 = .ok (.getfield 9, 3) := by decide +kernel
theorem dX1_read_45 : decode cX1_read 45 = .ok (.getfield 38, 3) := by decide +kernel
theorem dX1_read_48 : decode cX1_read 48 = .ok (.ireturn, 1) := by decide +kernel
set_option maxRecDepth 20000 in
theorem ggX1_readThing_X1_canBegin : GoodIn wsX1_readThing wsX1_canBegin := goodIn_r _ [5] (by decide +kernel) (by decide +kernel)
set_option maxRecDepth 20000 in
theorem gX1_readThing_X1_canBegin : GoodIn wsX1_readThing (va_wsS RX1 41 yX1_canBegin wsX1_canBegin) := goodIn_app (goodIn_of _ (by decide +kernel)) ggX1_readThing_X1_canBegin
set_option maxRecDepth 20000 in
theorem ggX1_readThing_X8_fail : GoodIn wsX1_readThing wsX8_fail := goodIn_r _ [10, 11, 12, 13, 14, 15, 82, 83, 84, 85, 86, 87, 88, 89, 90] (by decide +kernel) (by decide +kernel)
set_option maxRecDepth 20000 in
theorem gX1_readThing_X8_fail : GoodIn wsX1_readThing (wsV RX1 34 RX8 yX8_fail wsX8_fail) := goodIn_app (goodIn_of _ (by decide +kernel)) ggX1_readThing_X8_fail
theorem dX1_readThing_0 : decode cX1_readThing 0 = .ok (.aload_n 0, 1) := by decide +kernel
theorem dX1_readThing_1 : decode cX1_readThing 1 = .ok (.getfield 9, 3) := by decide +kernel
theorem dX1_readThing_4 : decode cX1_readThing 4 = .ok (.getfield 30, 3) := by decide +kernel
theorem dX1_readThing_7 : decode cX1_readThing 7 = .ok (.invokestatic 41, 3) := by decide +kernel
theorem dX1_readThing_10 : decode cX1_readThing 10 = .ok (.ifCond .ne 14, 3) := by decide +kernel
theorem dX1_readThing_13 : decode cX1_readThing 13 = .ok (.aload_n 0, 1) := by decide +kernel
theorem dX1_readThing_14 : decode cX1_readThing 14 = .ok (.getfield 9, 3) := by decide +kernel
theorem dX1_readThing_17 : decode cX1_readThing 17 = .ok (.iconst 1, 1) := by decide +kernel
theorem dX1_readThing_18 : decode cX1_readThing 18 = .ok (.invokevirtual 34, 3) := by decide +kernel
theorem dX1_readThing_21 : decode cX1_readThing 21 = .ok (.goto 122, 3) := by decide +kernel
theorem dX1_readThing_143 : decode cX1_readThing 143 = .ok (.return_, 1) := by decide +kernel
theorem dX1_canBegin_0 : decode cX1_canBegin 0 = .ok (.iload_n 0, 1) := by decide +kernel
theorem dX1_canBegin_1 : decode cX1_canBegin 1 = .ok (.bipush 45, 2) := by decide +kernel
theorem dX1_canBegin_3 : decode cX1_canBegin 3 = .ok (.if_icmp .eq 29, 3) := by decide +kernel
theorem dX1_canBegin_6 : decode cX1_canBegin 6 = .ok (.iload_n 0, 1) := by decide +kernel
theorem dX1_canBegin_7 : decode cX1_canBegin 7 = .ok (.sipush 257, 3) := by decide +kernel
theorem dX1_canBegin_10 : decode cX1_canBegin 10 = .ok (.if_icmp .eq 22, 3) := by decide +kernel
theorem dX1_canBegin_13 : decode cX1_canBegin 13 = .ok (.iload_n 0, 1) := by decide +kernel
theorem dX1_canBegin_14 : decode cX1_canBegin 14 = .ok (.sipush 256, 3) := by decide +kernel
theorem dX1_canBegin_17 : decode cX1_canBegin 17 = .ok (.if_icmp .eq 15, 3) := by decide +kernel
theorem dX1_canBegin_20 : decode cX1_canBegin 20 = .ok (.iload_n 0, 1) := by decide +kernel
theorem dX1_canBegin_21 : decode cX1_canBegin 21 = .ok (.bipush 91, 2) := by decide +kernel
theorem dX1_canBegin_23 : decode cX1_canBegin 23 = .ok (.if_icmp .eq 9, 3) := by decide +kernel
theorem dX1_canBegin_26 : decode cX1_canBegin 26 = .ok (.iload_n 0, 1) := by decide +kernel
theorem dX1_canBegin_27 : decode cX1_canBegin 27 = .ok (.bipush 123, 2) := by decide +kernel
theorem dX1_canBegin_29 : decode cX1_canBegin 29 = .ok (.if_icmp .ne 7, 3) := by decide +kernel
theorem dX1_canBegin_36 : decode cX1_canBegin 36 = .ok (.iconst 0, 1) := by decide +kernel
theorem dX1_canBegin_37 : decode cX1_canBegin 37 = .ok (.ireturn, 1) := by decide +kernel
theorem dX4_clear_0 : decode cX4_clear 0 = .ok (.aload_n 0, 1) := by decide +kernel
theorem dX4_clear_1 : decode cX4_clear 1 = .ok (.iconst 0, 1) := by decide +kernel
theorem dX4_clear_2 : decode cX4_clear 2 = .ok (.putfield 43, 3) := by decide +kernel
theorem dX4_clear_5 : decode cX4_clear 5 = .ok (.aload_n 0, 1) := by decide +kernel
theorem dX4_clear_6 : decode cX4_clear 6 = .ok (.iconst 0, 1) := by decide +kernel
theorem dX4_clear_7 : decode cX4_clear 7 = .ok (.putfield 47, 3) := by decide +kernel
theorem dX4_clear_10 : decode cX4_clear 10 = .ok (.aload_n 0, 1) := by decide +kernel
theorem dX4_clear_11 : decode cX4_clear 11 = .ok (.iconst 0, 1) := by decide +kernel
theorem dX4_clear_12 : decode cX4_clear 12 = .ok (.putfield 50, 3) := by decide +kernel
theorem dX4_clear_15 : decode cX4_clear 15 = .ok (.aload_n 0, 1) := by decide +kernel
theorem dX4_clear_16 : decode cX4_clear 16 = .ok (.iconst 0, 1) := by decide +kernel
theorem dX4_clear_17 : decode cX4_clear 17 = .ok (.putfield 53, 3) := by decide +kernel
theorem dX4_clear_20 : decode cX4_clear 20 = .ok (.return_, 1) := by decide +kernel
set_option maxRecDepth 20000 in
theorem ggX5_read_X8_begin : GoodIn wsX5_read wsX8_begin := goodIn_r _ [6, 7, 8, 9, 10, 11, 12, 13, 14, 15, 16, 17, 18, 19, 20, 21, 5, 22, 23, 24, 25, 26, 27, 28, 29, 30, 31, 32, 33, 34, 35, 36, 37, 38, 39, 40, 145, 146, 147, 148, 149, 150, 151, 152, 153] (by decide +kernel) (by decide +kernel)
set_option maxRecDepth 20000 in
theorem gX5_read_X8_begin : GoodIn wsX5_read (wsV RX5 15 RX8 yX8_begin wsX8_begin) := goodIn_app (goodIn_of _ (by decide +kernel)) ggX5_read_X8_begin
set_option maxRecDepth 20000 in
theorem ggX5_read_X4_clear : GoodIn wsX5_read wsX4_clear := goodIn_r _ [45, 46, 47, 48, 49, 154, 155, 156, 157, 158, 159, 160, 161, 162, 163, 164, 165, 166, 167] (by decide +kernel) (by decide +kernel)
set_option maxRecDepth 20000 in
theorem gX5_read_X4_clear : GoodIn wsX5_read (wsV RX5 21 RX4 yX4_clear wsX4_clear) := goodIn_app (goodIn_of _ (by decide +kernel)) ggX5_read_X4_clear
theorem dX5_read_0 : decode cX5_read 0 = .ok (.aload_n 0, 1) := by decide +kernel
theorem dX5_read_1 : decode cX5_read 1 = .ok (.getfield 9, 3) := by decide +kernel
theorem dX5_read_4 : decode cX5_read 4 = .ok (.aload_n 1, 1) := by decide +kernel
theorem dX5_read_5 : decode cX5_read 5 = .ok (.iload_n 2, 1) := by decide +kernel
theorem dX5_read_6 : decode cX5_read 6 = .ok (.invokevirtual 15, 3) := by decide +kernel
theorem dX5_read_9 : decode cX5_read 9 = .ok (.aload_n 3, 1) := by decide +kernel
theorem dX5_read_10 : decode cX5_read 10 = .ok (.invokevirtual 21, 3) := by decide +kernel
theorem dX5_read_13 : decode cX5_read 13 = .ok (.iconst 0, 1) := by decide +kernel
theorem dX5_read_14 : decode cX5_read 14 = .ok (.istore 4, 2) := by decide +kernel
theorem dX5_read_16 : decode cX5_read 16 = .ok (.aload_n 0, 1) := by decide +kernel
theorem dX5_read_17 : decode cX5_read 17 = .ok (.getfield 9, 3) := by decide +kernel
theorem dX5_read_20 : decode cX5_read 20 = .ok (.getfield 26, 3) := by decide +kernel
theorem dX5_read_23 : decode cX5_read 23 = .ok (.ifCond .ne 35, 3) := by decide +kernel
theorem dX5_read_26 : decode cX5_read 26 = .ok (.aload_n 0, 1) := by decide +kernel
theorem dX5_read_27 : decode cX5_read 27 = .ok (.getfield 9, 3) := by decide +kernel
theorem dX5_read_30 : decode cX5_read 30 = .ok (.getfield 30, 3) := by decide +kernel
theorem dX5_read_33 : decode cX5_read 33 = .ok (.sipush 259, 3) := by decide +kernel
theorem dX5_read_36 : decode cX5_read 36 = .ok (.if_icmp .eq 22, 3) := by decide +kernel
theorem dX5_read_58 : decode cX5_read 58 = .ok (.aload_n 0, 1) := by decide +kernel
theorem dX5_read_59 : decode cX5_read 59 = .ok (.getfield 9, 3) := by decide +kernel
theorem dX5_read_62 : decode cX5_read 62 = .ok (.getfield 26, 3) := by decide +kernel
theorem dX5_read_65 : decode cX5_read 65 = .ok (.ireturn, 1) := by decide +kernel
theorem dX7_clear_0 : decode cX7_clear 0 = .ok (.aload_n 0, 1) := by decide +kernel
theorem dX7_clear_1 : decode cX7_clear 1 = .ok (.iconst 0, 1) := by decide +kernel
theorem dX7_clear_2 : decode cX7_clear 2 = .ok (.putfield 15, 3) := by decide +kernel
theorem dX7_clear_5 : decode cX7_clear 5 = .ok (.return_, 1) := by decide +kernel
theorem dX7_write_0 : decode cX7_write 0 = .ok (.aload_n 0, 1) := by decide +kernel
theorem dX7_write_1 : decode cX7_write 1 = .ok (.getfield 15, 3) := by decide +kernel
theorem dX7_write_4 : decode cX7_write 4 = .ok (.ifCond .lt 33, 3) := by decide +kernel
theorem dX7_write_7 : decode cX7_write 7 = .ok (.aload_n 0, 1) := by decide +kernel
theorem dX7_write_8 : decode cX7_write 8 = .ok (.getfield 15, 3) := by decide +kernel
theorem dX7_write_11 : decode cX7_write 11 = .ok (.sipush 1024, 3) := by decide +kernel
theorem dX7_write_14 : decode cX7_write 14 = .ok (.if_icmp .ge 23, 3) := by decide +kernel
theorem dX7_write_17 : decode cX7_write 17 = .ok (.aload_n 0, 1) := by decide +kernel
theorem dX7_write_18 : decode cX7_write 18 = .ok (.getfield 11, 3) := by decide +kernel
theorem dX7_write_21 : decode cX7_write 21 = .ok (.aload_n 0, 1) := by decide +kernel
theorem dX7_write_22 : decode cX7_write 22 = .ok (.getfield 15, 3) := by decide +kernel
theorem dX7_write_25 : decode cX7_write 25 = .ok (.iload_n 1, 1) := by decide +kernel
theorem dX7_write_26 : decode cX7_write 26 = .ok (.iastore, 1) := by decide +kernel
theorem dX7_write_27 : decode cX7_write 27 = .ok (.aload_n 0, 1) := by decide +kernel
theorem dX7_write_28 : decode cX7_write 28 = .ok (.dup, 1) := by decide +kernel
theorem dX7_write_29 : decode cX7_write 29 = .ok (.getfield 15, 3) := by decide +kernel
theorem dX7_write_32 : decode cX7_write 32 = .ok (.iconst 1, 1) := by decide +kernel
theorem dX7_write_33 : decode cX7_write 33 = .ok (.iadd, 1) := by decide +kernel
theorem dX7_write_34 : decode cX7_write 34 = .ok (.putfield 15, 3) := by decide +kernel
theorem dX7_write_37 : decode cX7_write 37 = .ok (.return_, 1) := by decide +kernel
theorem dX7_byteAt_0 : decode cX7_byteAt 0 = .ok (.iload_n 1, 1) := by decide +kernel
theorem dX7_byteAt_1 : decode cX7_byteAt 1 = .ok (.ifCond .lt 11, 3) := by decide +kernel
theorem dX7_byteAt_4 : decode cX7_byteAt 4 = .ok (.iload_n 1, 1) := by decide +kernel
theorem dX7_byteAt_5 : decode cX7_byteAt 5 = .ok (.aload_n 0, 1) := by decide +kernel
theorem dX7_byteAt_6 : decode cX7_byteAt 6 = .ok (.getfield 15, 3) := by decide +kernel
theorem dX7_byteAt_9 : decode cX7_byteAt 9 = .ok (.if_icmp .lt 7, 3) := by decide +kernel
theorem dX7_byteAt_16 : decode cX7_byteAt 16 = .ok (.aload_n 0, 1) := by decide +kernel
theorem dX7_byteAt_17 : decode cX7_byteAt 17 = .ok (.getfield 11, 3) := by decide +kernel
theorem dX7_byteAt_20 : decode cX7_byteAt 20 = .ok (.iload_n 1, 1) := by decide +kernel
theorem dX7_byteAt_21 : decode cX7_byteAt 21 = .ok (.iaload, 1) := by decide +kernel
theorem dX7_byteAt_22 : decode cX7_byteAt 22 = .ok (.ireturn, 1) := by decide +kernel
set_option maxRecDepth 20000 in
theorem ggX7_writePath_X9_depthAt : GoodIn wsX7_writePath wsX9_depthAt := goodIn_r _ [5, 6, 7, 49, 50, 51, 52, 53] (by decide +kernel) (by decide +kernel)
set_option maxRecDepth 20000 in
theorem gX7_writePath_X9_depthAt : GoodIn wsX7_writePath (wsV RX7 29 RX9 yX9_depthAt wsX9_depthAt) := goodIn_app (goodIn_of _ (by decide +kernel)) ggX7_writePath_X9_depthAt
theorem dX7_writePath_0 : decode cX7_writePath 0 = .ok (.aload_n 1, 1) := by decide +kernel
theorem dX7_writePath_1 : decode cX7_writePath 1 = .ok (.iload_n 2, 1) := by decide +kernel
theorem dX7_writePath_2 : decode cX7_writePath 2 = .ok (.invokevirtual 29, 3) := by decide +kernel
theorem dX7_writePath_5 : decode cX7_writePath 5 = .ok (.istore_n 3, 1) := by decide +kernel
theorem dX7_writePath_6 : decode cX7_writePath 6 = .ok (.iconst 1, 1) := by decide +kernel
theorem dX7_writePath_7 : decode cX7_writePath 7 = .ok (.istore 4, 2) := by decide +kernel
theorem dX7_writePath_9 : decode cX7_writePath 9 = .ok (.iload 4, 2) := by decide +kernel
theorem dX7_writePath_11 : decode cX7_writePath 11 = .ok (.iload_n 3, 1) := by decide +kernel
theorem dX7_writePath_12 : decode cX7_writePath 12 = .ok (.if_icmp .gt 73, 3) := by decide +kernel
theorem dX7_writePath_85 : decode cX7_writePath 85 = .ok (.return_, 1) := by decide +kernel
set_option maxRecDepth 20000 in
theorem ggX7_writeThing_X9_kindAt : GoodIn wsX7_writeThing wsX9_kindAt := goodIn_r _ [5, 6, 7, 53, 54, 55, 56, 57] (by decide +kernel) (by decide +kernel)
set_option maxRecDepth 20000 in
theorem gX7_writeThing_X9_kindAt : GoodIn wsX7_writeThing (wsV RX7 41 RX9 yX9_kindAt wsX9_kindAt) := goodIn_app (goodIn_of _ (by decide +kernel)) ggX7_writeThing_X9_kindAt
set_option maxRecDepth 20000 in
theorem ggX7_writeThing_X7_writeHolder : GoodIn wsX7_writeThing wsX7_writeHolder := goodIn_r _ [35, 1, 2, 3, 4, 5, 6, 7, 36, 37, 38, 39, 40, 22, 23, 24, 16, 25, 26, 27, 41, 42, 43, 44, 45, 28, 29, 30, 31, 46, 47, 48, 49, 50, 51, 52, 0, 8, 9, 10, 11, 12, 13, 14, 15, 17, 18, 19, 20, 21, 32, 33, 34, 53, 54, 55, 56, 57, 58, 59] (by decide +kernel) (by decide +kernel)
set_option maxRecDepth 20000 in
theorem gX7_writeThing_X7_writeHolder : GoodIn wsX7_writeThing (wsV RX7 59 RX7 yX7_writeHolder wsX7_writeHolder) := goodIn_app (goodIn_of _ (by decide +kernel)) ggX7_writeThing_X7_writeHolder
theorem dX7_writeThing_0 : decode cX7_writeThing 0 = .ok (.aload_n 1, 1) := by decide +kernel
theorem dX7_writeThing_1 : decode cX7_writeThing 1 = .ok (.iload_n 2, 1) := by decide +kernel
theorem dX7_writeThing_2 : decode cX7_writeThing 2 = .ok (.invokevirtual 41, 3) := by decide +kernel
theorem dX7_writeThing_5 : decode cX7_writeThing 5 = .ok (.istore 4, 2) := by decide +kernel
theorem dX7_writeThing_7 : decode cX7_writeThing 7 = .ok (.iload 4, 2) := by decide +kernel
theorem dX7_writeThing_9 : decode cX7_writeThing 9 = .ok (.ifCond .ne 15, 3) := by decide +kernel
theorem dX7_writeThing_24 : decode cX7_writeThing 24 = .ok (.iload 4, 2) := by decide +kernel
theorem dX7_writeThing_26 : decode cX7_writeThing 26 = .ok (.iconst 1, 1) := by decide +kernel
theorem dX7_writeThing_27 : decode cX7_writeThing 27 = .ok (.if_icmp .ne 15, 3) := by decide +kernel
theorem dX7_writeThing_42 : decode cX7_writeThing 42 = .ok (.iload_n 3, 1) := by decide +kernel
theorem dX7_writeThing_43 : decode cX7_writeThing 43 = .ok (.bipush 16, 2) := by decide +kernel
theorem dX7_writeThing_45 : decode cX7_writeThing 45 = .ok (.if_icmp .gt 10, 3) := by decide +kernel
theorem dX7_writeThing_48 : decode cX7_writeThing 48 = .ok (.aload_n 0, 1) := by decide +kernel
theorem dX7_writeThing_49 : decode cX7_writeThing 49 = .ok (.aload_n 1, 1) := by decide +kernel
theorem dX7_writeThing_50 : decode cX7_writeThing 50 = .ok (.iload_n 2, 1) := by decide +kernel
theorem dX7_writeThing_51 : decode cX7_writeThing 51 = .ok (.iload_n 3, 1) := by decide +kernel
theorem dX7_writeThing_52 : decode cX7_writeThing 52 = .ok (.invokevirtual 59, 3) := by decide +kernel
theorem dX7_writeThing_55 : decode cX7_writeThing 55 = .ok (.return_, 1) := by decide +kernel
set_option maxRecDepth 20000 in
theorem ggX7_writeHolder_X9_kindAt : GoodIn wsX7_writeHolder wsX9_kindAt := goodIn_r _ [5, 6, 7, 53, 54, 55, 56, 57] (by decide +kernel) (by decide +kernel)
set_option maxRecDepth 20000 in
theorem gX7_writeHolder_X9_kindAt : GoodIn wsX7_writeHolder (wsV RX7 41 RX9 yX9_kindAt wsX9_kindAt) := goodIn_app (goodIn_of _ (by decide +kernel)) ggX7_writeHolder_X9_kindAt
set_option maxRecDepth 20000 in
theorem ggX7_writeHolder_X9_childCount : GoodIn wsX7_writeHolder wsX9_childCount := goodIn_r _ [11, 6, 12, 53, 54, 55, 56, 57] (by decide +kernel) (by decide +kernel)
set_option maxRecDepth 20000 in
theorem gX7_writeHolder_X9_childCount : GoodIn wsX7_writeHolder (wsV RX7 63 RX9 yX9_childCount wsX9_childCount) := goodIn_app (goodIn_of _ (by decide +kernel)) ggX7_writeHolder_X9_childCount
set_option maxRecDepth 20000 in
theorem ggX7_writeHolder_X7_write : GoodIn wsX7_writeHolder wsX7_write := goodIn_r _ [17, 18, 19, 58, 59] (by decide +kernel) (by decide +kernel)
set_option maxRecDepth 20000 in
theorem gX7_writeHolder_X7_write : GoodIn wsX7_writeHolder (wsV RX7 25 RX7 yX7_write wsX7_write) := goodIn_app (goodIn_of _ (by decide +kernel)) ggX7_writeHolder_X7_write
theorem dX7_writeHolder_0 : decode cX7_writeHolder 0 = .ok (.aload_n 1, 1) := by decide +kernel
theorem dX7_writeHolder_1 : decode cX7_writeHolder 1 = .ok (.iload_n 2, 1) := by decide +kernel
theorem dX7_writeHolder_2 : decode cX7_writeHolder 2 = .ok (.invokevirtual 41, 3) := by decide +kernel
theorem dX7_writeHolder_5 : decode cX7_writeHolder 5 = .ok (.iconst 3, 1) := by decide +kernel
theorem dX7_writeHolder_6 : decode cX7_writeHolder 6 = .ok (.if_icmp .ne 7, 3) := by decide +kernel
theorem dX7_writeHolder_9 : decode cX7_writeHolder 9 = .ok (.iconst 1, 1) := by decide +kernel
theorem dX7_writeHolder_10 : decode cX7_writeHolder 10 = .ok (.goto 4, 3) := by decide +kernel
theorem dX7_writeHolder_14 : decode cX7_writeHolder 14 = .ok (.istore 4, 2) := by decide +kernel
theorem dX7_writeHolder_16 : decode cX7_writeHolder 16 = .ok (.aload_n 1, 1) := by decide +kernel
theorem dX7_writeHolder_17 : decode cX7_writeHolder 17 = .ok (.iload_n 2, 1) := by decide +kernel
theorem dX7_writeHolder_18 : decode cX7_writeHolder 18 = .ok (.invokevirtual 63, 3) := by decide +kernel
theorem dX7_writeHolder_21 : decode cX7_writeHolder 21 = .ok (.istore 5, 2) := by decide +kernel
theorem dX7_writeHolder_23 : decode cX7_writeHolder 23 = .ok (.iload_n 2, 1) := by decide +kernel
theorem dX7_writeHolder_24 : decode cX7_writeHolder 24 = .ok (.iconst 1, 1) := by decide +kernel
theorem dX7_writeHolder_25 : decode cX7_writeHolder 25 = .ok (.iadd, 1) := by decide +kernel
theorem dX7_writeHolder_26 : decode cX7_writeHolder 26 = .ok (.istore 6, 2) := by decide +kernel
theorem dX7_writeHolder_28 : decode cX7_writeHolder 28 = .ok (.aload_n 0, 1) := by decide +kernel
theorem dX7_writeHolder_29 : decode cX7_writeHolder 29 = .ok (.iload 4, 2) := by decide +kernel
theorem dX7_writeHolder_31 : decode cX7_writeHolder 31 = .ok (.ifCond .eq 8, 3) := by decide +kernel
theorem dX7_writeHolder_34 : decode cX7_writeHolder 34 = .ok (.bipush 123, 2) := by decide +kernel
theorem dX7_writeHolder_36 : decode cX7_writeHolder 36 = .ok (.goto 5, 3) := by decide +kernel
theorem dX7_writeHolder_41 : decode cX7_writeHolder 41 = .ok (.invokevirtual 25, 3) := by decide +kernel
theorem dX7_writeHolder_44 : decode cX7_writeHolder 44 = .ok (.iconst 0, 1) := by decide +kernel
theorem dX7_writeHolder_45 : decode cX7_writeHolder 45 = .ok (.istore 7, 2) := by decide +kernel
theorem dX7_writeHolder_47 : decode cX7_writeHolder 47 = .ok (.iload 7, 2) := by decide +kernel
theorem dX7_writeHolder_49 : decode cX7_writeHolder 49 = .ok (.iload 5, 2) := by decide +kernel
theorem dX7_writeHolder_51 : decode cX7_writeHolder 51 = .ok (.if_icmp .ge 61, 3) := by decide +kernel
theorem dX7_writeHolder_112 : decode cX7_writeHolder 112 = .ok (.aload_n 0, 1) := by decide +kernel
theorem dX7_writeHolder_113 : decode cX7_writeHolder 113 = .ok (.iload 4, 2) := by decide +kernel
theorem dX7_writeHolder_115 : decode cX7_writeHolder 115 = .ok (.ifCond .eq 8, 3) := by decide +kernel
theorem dX7_writeHolder_118 : decode cX7_writeHolder 118 = .ok (.bipush 125, 2) := by decide +kernel
theorem dX7_writeHolder_120 : decode cX7_writeHolder 120 = .ok (.goto 5, 3) := by decide +kernel
theorem dX7_writeHolder_125 : decode cX7_writeHolder 125 = .ok (.invokevirtual 25, 3) := by decide +kernel
theorem dX7_writeHolder_128 : decode cX7_writeHolder 128 = .ok (.return_, 1) := by decide +kernel
set_option maxRecDepth 20000 in
theorem ggX8_begin_X8_addToken : GoodIn wsX8_begin wsX8_addToken := goodIn_r _ [25, 8, 12, 26, 27, 28, 36, 37, 38, 39, 40, 41, 42, 43, 44] (by decide +kernel) (by decide +kernel)
set_option maxRecDepth 20000 in
theorem gX8_begin_X8_addToken : GoodIn wsX8_begin (wsV RX8 54 RX8 yX8_addToken wsX8_addToken) := goodIn_app (goodIn_of _ (by decide +kernel)) ggX8_begin_X8_addToken
theorem dX8_begin_0 : decode cX8_begin 0 = .ok (.iconst 0, 1) := by decide +kernel
theorem dX8_begin_1 : decode cX8_begin 1 = .ok (.iload_n 2, 1) := by decide +kernel
theorem dX8_begin_2 : decode cX8_begin 2 = .ok (.aload_n 1, 1) := by decide +kernel
theorem dX8_begin_3 : decode cX8_begin 3 = .ok (.arraylength, 1) := by decide +kernel
theorem dX8_begin_4 : decode cX8_begin 4 = .ok (.invokestatic 28, 3) := by decide +kernel
theorem dX8_begin_7 : decode cX8_begin 7 = .ok (.invokestatic 34, 3) := by decide +kernel
theorem dX8_begin_10 : decode cX8_begin 10 = .ok (.istore_n 3, 1) := by decide +kernel
theorem dX8_begin_11 : decode cX8_begin 11 = .ok (.aload_n 0, 1) := by decide +kernel
theorem dX8_begin_12 : decode cX8_begin 12 = .ok (.iconst 0, 1) := by decide +kernel
theorem dX8_begin_13 : decode cX8_begin 13 = .ok (.putfield 37, 3) := by decide +kernel
theorem dX8_begin_16 : decode cX8_begin 16 = .ok (.iconst 0, 1) := by decide +kernel
theorem dX8_begin_17 : decode cX8_begin 17 = .ok (.istore 4, 2) := by decide +kernel
theorem dX8_begin_19 : decode cX8_begin 19 = .ok (.iconst 0, 1) := by decide +kernel
theorem dX8_begin_20 : decode cX8_begin 20 = .ok (.istore 5, 2) := by decide +kernel
theorem dX8_begin_22 : decode cX8_begin 22 = .ok (.iload 5, 2) := by decide +kernel
theorem dX8_begin_24 : decode cX8_begin 24 = .ok (.iload_n 3, 1) := by decide +kernel
theorem dX8_begin_25 : decode cX8_begin 25 = .ok (.if_icmp .gt 161, 3) := by decide +kernel
theorem dX8_begin_28 : decode cX8_begin 28 = .ok (.iload 4, 2) := by decide +kernel
theorem dX8_begin_30 : decode cX8_begin 30 = .ok (.iload_n 3, 1) := by decide +kernel
theorem dX8_begin_31 : decode cX8_begin 31 = .ok (.if_icmp .ge 155, 3) := by decide +kernel
theorem dX8_begin_186 : decode cX8_begin 186 = .ok (.aload_n 0, 1) := by decide +kernel
theorem dX8_begin_187 : decode cX8_begin 187 = .ok (.sipush 259, 3) := by decide +kernel
theorem dX8_begin_190 : decode cX8_begin 190 = .ok (.iload_n 3, 1) := by decide +kernel
theorem dX8_begin_191 : decode cX8_begin 191 = .ok (.iconst 0, 1) := by decide +kernel
theorem dX8_begin_192 : decode cX8_begin 192 = .ok (.iconst 0, 1) := by decide +kernel
theorem dX8_begin_193 : decode cX8_begin 193 = .ok (.invokevirtual 54, 3) := by decide +kernel
theorem dX8_begin_196 : decode cX8_begin 196 = .ok (.aload_n 0, 1) := by decide +kernel
theorem dX8_begin_197 : decode cX8_begin 197 = .ok (.iconst 0, 1) := by decide +kernel
theorem dX8_begin_198 : decode cX8_begin 198 = .ok (.putfield 58, 3) := by decide +kernel
theorem dX8_begin_201 : decode cX8_begin 201 = .ok (.aload_n 0, 1) := by decide +kernel
theorem dX8_begin_202 : decode cX8_begin 202 = .ok (.iconst (-1), 1) := by decide +kernel
theorem dX8_begin_203 : decode cX8_begin 203 = .ok (.putfield 24, 3) := by decide +kernel
theorem dX8_begin_206 : decode cX8_begin 206 = .ok (.aload_n 0, 1) := by decide +kernel
theorem dX8_begin_207 : decode cX8_begin 207 = .ok (.iconst 0, 1) := by decide +kernel
theorem dX8_begin_208 : decode cX8_begin 208 = .ok (.putfield 61, 3) := by decide +kernel
theorem dX8_begin_211 : decode cX8_begin 211 = .ok (.aload_n 0, 1) := by decide +kernel
theorem dX8_begin_212 : decode cX8_begin 212 = .ok (.aload_n 0, 1) := by decide +kernel
theorem dX8_begin_213 : decode cX8_begin 213 = .ok (.getfield 11, 3) := by decide +kernel
theorem dX8_begin_216 : decode cX8_begin 216 = .ok (.iconst 0, 1) := by decide +kernel
theorem dX8_begin_217 : decode cX8_begin 217 = .ok (.iaload, 1) := by decide +kernel
theorem dX8_begin_218 : decode cX8_begin 218 = .ok (.putfield 64, 3) := by decide +kernel
theorem dX8_begin_221 : decode cX8_begin 221 = .ok (.return_, 1) := by decide +kernel
theorem dX8_addToken_0 : decode cX8_addToken 0 = .ok (.aload_n 0, 1) := by decide +kernel
theorem dX8_addToken_1 : decode cX8_addToken 1 = .ok (.getfield 37, 3) := by decide +kernel
theorem dX8_addToken_4 : decode cX8_addToken 4 = .ok (.ifCond .lt 64, 3) := by decide +kernel
theorem dX8_addToken_7 : decode cX8_addToken 7 = .ok (.aload_n 0, 1) := by decide +kernel
theorem dX8_addToken_8 : decode cX8_addToken 8 = .ok (.getfield 37, 3) := by decide +kernel
theorem dX8_addToken_11 : decode cX8_addToken 11 = .ok (.sipush 401, 3) := by decide +kernel
theorem dX8_addToken_14 : decode cX8_addToken 14 = .ok (.if_icmp .ge 54, 3) := by decide +kernel
theorem dX8_addToken_17 : decode cX8_addToken 17 = .ok (.aload_n 0, 1) := by decide +kernel
theorem dX8_addToken_18 : decode cX8_addToken 18 = .ok (.getfield 11, 3) := by decide +kernel
theorem dX8_addToken_21 : decode cX8_addToken 21 = .ok (.aload_n 0, 1) := by decide +kernel
theorem dX8_addToken_22 : decode cX8_addToken 22 = .ok (.getfield 37, 3) := by decide +kernel
theorem dX8_addToken_25 : decode cX8_addToken 25 = .ok (.iload_n 1, 1) := by decide +kernel
theorem dX8_addToken_26 : decode cX8_addToken 26 = .ok (.iastore, 1) := by decide +kernel
theorem dX8_addToken_27 : decode cX8_addToken 27 = .ok (.aload_n 0, 1) := by decide +kernel
theorem dX8_addToken_28 : decode cX8_addToken 28 = .ok (.getfield 15, 3) := by decide +kernel
theorem dX8_addToken_31 : decode cX8_addToken 31 = .ok (.aload_n 0, 1) := by decide +kernel
theorem dX8_addToken_32 : decode cX8_addToken 32 = .ok (.getfield 37, 3) := by decide +kernel
theorem dX8_addToken_35 : decode cX8_addToken 35 = .ok (.iload_n 2, 1) := by decide +kernel
theorem dX8_addToken_36 : decode cX8_addToken 36 = .ok (.iastore, 1) := by decide +kernel
theorem dX8_addToken_37 : decode cX8_addToken 37 = .ok (.aload_n 0, 1) := by decide +kernel
theorem dX8_addToken_38 : decode cX8_addToken 38 = .ok (.getfield 18, 3) := by decide +kernel
theorem dX8_addToken_41 : decode cX8_addToken 41 = .ok (.aload_n 0, 1) := by decide +kernel
theorem dX8_addToken_42 : decode cX8_addToken 42 = .ok (.getfield 37, 3) := by decide +kernel
theorem dX8_addToken_45 : decode cX8_addToken 45 = .ok (.iload_n 3, 1) := by decide +kernel
theorem dX8_addToken_46 : decode cX8_addToken 46 = .ok (.iastore, 1) := by decide +kernel
theorem dX8_addToken_47 : decode cX8_addToken 47 = .ok (.aload_n 0, 1) := by decide +kernel
theorem dX8_addToken_48 : decode cX8_addToken 48 = .ok (.getfield 21, 3) := by decide +kernel
theorem dX8_addToken_51 : decode cX8_addToken 51 = .ok (.aload_n 0, 1) := by decide +kernel
theorem dX8_addToken_52 : decode cX8_addToken 52 = .ok (.getfield 37, 3) := by decide +kernel
theorem dX8_addToken_55 : decode cX8_addToken 55 = .ok (.iload 4, 2) := by decide +kernel
theorem dX8_addToken_57 : decode cX8_addToken 57 = .ok (.iastore, 1) := by decide +kernel
theorem dX8_addToken_58 : decode cX8_addToken 58 = .ok (.aload_n 0, 1) := by decide +kernel
theorem dX8_addToken_59 : decode cX8_addToken 59 = .ok (.dup, 1) := by decide +kernel
theorem dX8_addToken_60 : decode cX8_addToken 60 = .ok (.getfield 37, 3) := by decide +kernel
theorem dX8_addToken_63 : decode cX8_addToken 63 = .ok (.iconst 1, 1) := by decide +kernel
theorem dX8_addToken_64 : decode cX8_addToken 64 = .ok (.iadd, 1) := by decide +kernel
theorem dX8_addToken_65 : decode cX8_addToken 65 = .ok (.putfield 37, 3) := by decide +kernel
theorem dX8_addToken_68 : decode cX8_addToken 68 = .ok (.return_, 1) := by decide +kernel
theorem dX8_fail_0 : decode cX8_fail 0 = .ok (.aload_n 0, 1) := by decide +kernel
theorem dX8_fail_1 : decode cX8_fail 1 = .ok (.getfield 58, 3) := by decide +kernel
theorem dX8_fail_4 : decode cX8_fail 4 = .ok (.ifCond .ne 38, 3) := by decide +kernel
theorem dX8_fail_7 : decode cX8_fail 7 = .ok (.aload_n 0, 1) := by decide +kernel
theorem dX8_fail_8 : decode cX8_fail 8 = .ok (.getfield 61, 3) := by decide +kernel
theorem dX8_fail_11 : decode cX8_fail 11 = .ok (.ifCond .lt 31, 3) := by decide +kernel
theorem dX8_fail_14 : decode cX8_fail 14 = .ok (.aload_n 0, 1) := by decide +kernel
theorem dX8_fail_15 : decode cX8_fail 15 = .ok (.getfield 61, 3) := by decide +kernel
theorem dX8_fail_18 : decode cX8_fail 18 = .ok (.sipush 401, 3) := by decide +kernel
theorem dX8_fail_21 : decode cX8_fail 21 = .ok (.if_icmp .ge 21, 3) := by decide +kernel
theorem dX8_fail_24 : decode cX8_fail 24 = .ok (.aload_n 0, 1) := by decide +kernel
theorem dX8_fail_25 : decode cX8_fail 25 = .ok (.iload_n 1, 1) := by decide +kernel
theorem dX8_fail_26 : decode cX8_fail 26 = .ok (.putfield 58, 3) := by decide +kernel
theorem dX8_fail_29 : decode cX8_fail 29 = .ok (.aload_n 0, 1) := by decide +kernel
theorem dX8_fail_30 : decode cX8_fail 30 = .ok (.aload_n 0, 1) := by decide +kernel
theorem dX8_fail_31 : decode cX8_fail 31 = .ok (.getfield 15, 3) := by decide +kernel
theorem dX8_fail_34 : decode cX8_fail 34 = .ok (.aload_n 0, 1) := by decide +kernel
theorem dX8_fail_35 : decode cX8_fail 35 = .ok (.getfield 61, 3) := by decide +kernel
theorem dX8_fail_38 : decode cX8_fail 38 = .ok (.iaload, 1) := by decide +kernel
theorem dX8_fail_39 : decode cX8_fail 39 = .ok (.putfield 24, 3) := by decide +kernel
theorem dX8_fail_42 : decode cX8_fail 42 = .ok (.aload_n 0, 1) := by decide +kernel
theorem dX8_fail_43 : decode cX8_fail 43 = .ok (.sipush 260, 3) := by decide +kernel
theorem dX8_fail_46 : decode cX8_fail 46 = .ok (.putfield 64, 3) := by decide +kernel
theorem dX8_fail_49 : decode cX8_fail 49 = .ok (.return_, 1) := by decide +kernel
set_option maxRecDepth 20000 in
theorem ggX9_like_X9_kindAt : GoodIn wsX9_like wsX9_kindAt := goodIn_r _ [5, 6, 7, 38, 39, 40, 41, 42] (by decide +kernel) (by decide +kernel)
set_option maxRecDepth 20000 in
theorem gX9_like_X9_kindAt : GoodIn wsX9_like (wsV RX9 38 RX9 yX9_kindAt wsX9_kindAt) := goodIn_app (goodIn_of _ (by decide +kernel)) ggX9_like_X9_kindAt
set_option maxRecDepth 20000 in
theorem ggX9_like_X9_sizeOf : GoodIn wsX9_like wsX9_sizeOf := goodIn_r _ [16, 6, 17, 18, 19, 4, 20, 21, 38, 39, 40, 41, 42] (by decide +kernel) (by decide +kernel)
set_option maxRecDepth 20000 in
theorem gX9_like_X9_sizeOf : GoodIn wsX9_like (wsV RX9 44 RX9 yX9_sizeOf wsX9_sizeOf) := goodIn_app (goodIn_of _ (by decide +kernel)) ggX9_like_X9_sizeOf
set_option maxRecDepth 20000 in
theorem ggX9_like_X9_childCount : GoodIn wsX9_like wsX9_childCount := goodIn_r _ [25, 6, 21, 38, 39, 40, 41, 42] (by decide +kernel) (by decide +kernel)
set_option maxRecDepth 20000 in
theorem gX9_like_X9_childCount : GoodIn wsX9_like (wsV RX9 47 RX9 yX9_childCount wsX9_childCount) := goodIn_app (goodIn_of _ (by decide +kernel)) ggX9_like_X9_childCount
theorem dX9_like_0 : decode cX9_like 0 = .ok (.aload_n 0, 1) := by decide +kernel
theorem dX9_like_1 : decode cX9_like 1 = .ok (.iload_n 1, 1) := by decide +kernel
theorem dX9_like_2 : decode cX9_like 2 = .ok (.invokevirtual 38, 3) := by decide +kernel
theorem dX9_like_5 : decode cX9_like 5 = .ok (.istore 5, 2) := by decide +kernel
theorem dX9_like_7 : decode cX9_like 7 = .ok (.iload 5, 2) := by decide +kernel
theorem dX9_like_9 : decode cX9_like 9 = .ok (.ifCond .lt 20, 3) := by decide +kernel
theorem dX9_like_12 : decode cX9_like 12 = .ok (.iload 5, 2) := by decide +kernel
theorem dX9_like_14 : decode cX9_like 14 = .ok (.aload_n 2, 1) := by decide +kernel
theorem dX9_like_15 : decode cX9_like 15 = .ok (.iload_n 3, 1) := by decide +kernel
theorem dX9_like_16 : decode cX9_like 16 = .ok (.invokevirtual 38, 3) := by decide +kernel
theorem dX9_like_19 : decode cX9_like 19 = .ok (.if_icmp .ne 10, 3) := by decide +kernel
theorem dX9_like_22 : decode cX9_like 22 = .ok (.iload 4, 2) := by decide +kernel
theorem dX9_like_24 : decode cX9_like 24 = .ok (.bipush 16, 2) := by decide +kernel
theorem dX9_like_26 : decode cX9_like 26 = .ok (.if_icmp .le 5, 3) := by decide +kernel
theorem dX9_like_31 : decode cX9_like 31 = .ok (.iload 5, 2) := by decide +kernel
theorem dX9_like_33 : decode cX9_like 33 = .ok (.ifCond .eq 9, 3) := by decide +kernel
theorem dX9_like_36 : decode cX9_like 36 = .ok (.iload 5, 2) := by decide +kernel
theorem dX9_like_38 : decode cX9_like 38 = .ok (.iconst 1, 1) := by decide +kernel
theorem dX9_like_39 : decode cX9_like 39 = .ok (.if_icmp .ne 22, 3) := by decide +kernel
theorem dX9_like_61 : decode cX9_like 61 = .ok (.aload_n 0, 1) := by decide +kernel
theorem dX9_like_62 : decode cX9_like 62 = .ok (.iload_n 1, 1) := by decide +kernel
theorem dX9_like_63 : decode cX9_like 63 = .ok (.invokevirtual 44, 3) := by decide +kernel
theorem dX9_like_66 : decode cX9_like 66 = .ok (.aload_n 2, 1) := by decide +kernel
theorem dX9_like_67 : decode cX9_like 67 = .ok (.iload_n 3, 1) := by decide +kernel
theorem dX9_like_68 : decode cX9_like 68 = .ok (.invokevirtual 44, 3) := by decide +kernel
theorem dX9_like_71 : decode cX9_like 71 = .ok (.if_icmp .eq 5, 3) := by decide +kernel
theorem dX9_like_76 : decode cX9_like 76 = .ok (.aload_n 0, 1) := by decide +kernel
theorem dX9_like_77 : decode cX9_like 77 = .ok (.iload_n 1, 1) := by decide +kernel
theorem dX9_like_78 : decode cX9_like 78 = .ok (.invokevirtual 47, 3) := by decide +kernel
theorem dX9_like_81 : decode cX9_like 81 = .ok (.istore 6, 2) := by decide +kernel
theorem dX9_like_83 : decode cX9_like 83 = .ok (.iload 6, 2) := by decide +kernel
theorem dX9_like_85 : decode cX9_like 85 = .ok (.aload_n 2, 1) := by decide +kernel
theorem dX9_like_86 : decode cX9_like 86 = .ok (.iload_n 3, 1) := by decide +kernel
theorem dX9_like_87 : decode cX9_like 87 = .ok (.invokevirtual 47, 3) := by decide +kernel
theorem dX9_like_90 : decode cX9_like 90 = .ok (.if_icmp .eq 5, 3) := by decide +kernel
theorem dX9_like_95 : decode cX9_like 95 = .ok (.iload_n 1, 1) := by decide +kernel
theorem dX9_like_96 : decode cX9_like 96 = .ok (.iconst 1, 1) := by decide +kernel
theorem dX9_like_97 : decode cX9_like 97 = .ok (.iadd, 1) := by decide +kernel
theorem dX9_like_98 : decode cX9_like 98 = .ok (.istore 7, 2) := by decide +kernel
theorem dX9_like_100 : decode cX9_like 100 = .ok (.iload_n 3, 1) := by decide +kernel
theorem dX9_like_101 : decode cX9_like 101 = .ok (.iconst 1, 1) := by decide +kernel
theorem dX9_like_102 : decode cX9_like 102 = .ok (.iadd, 1) := by decide +kernel
theorem dX9_like_103 : decode cX9_like 103 = .ok (.istore 8, 2) := by decide +kernel
theorem dX9_like_105 : decode cX9_like 105 = .ok (.iconst 0, 1) := by decide +kernel
theorem dX9_like_106 : decode cX9_like 106 = .ok (.istore 9, 2) := by decide +kernel
theorem dX9_like_108 : decode cX9_like 108 = .ok (.iload 9, 2) := by decide +kernel
theorem dX9_like_110 : decode cX9_like 110 = .ok (.iload 6, 2) := by decide +kernel
theorem dX9_like_112 : decode cX9_like 112 = .ok (.if_icmp .ge 71, 3) := by decide +kernel
theorem dX9_like_183 : decode cX9_like 183 = .ok (.iconst 1, 1) := by decide +kernel
theorem dX9_like_184 : decode cX9_like 184 = .ok (.ireturn, 1) := by decide +kernel
theorem dX9_clear_0 : decode cX9_clear 0 = .ok (.aload_n 0, 1) := by decide +kernel
theorem dX9_clear_1 : decode cX9_clear 1 = .ok (.iconst 0, 1) := by decide +kernel
theorem dX9_clear_2 : decode cX9_clear 2 = .ok (.putfield 24, 3) := by decide +kernel
theorem dX9_clear_5 : decode cX9_clear 5 = .ok (.return_, 1) := by decide +kernel
set_option maxRecDepth 20000 in
theorem ggX10_tree_X10_tapeHas : GoodIn wsX10_tree wsX10_tapeHas := goodIn_r _ [10, 11, 155, 156, 157, 158, 159, 160, 161, 162, 163, 164, 165, 166, 167, 168, 169, 170, 171, 172] (by decide +kernel) (by decide +kernel)
set_option maxRecDepth 20000 in
theorem gX10_tree_X10_tapeHas : GoodIn wsX10_tree (wsV RX10 120 RX10 yX10_tapeHas wsX10_tapeHas) := goodIn_app (goodIn_of _ (by decide +kernel)) ggX10_tree_X10_tapeHas
set_option maxRecDepth 20000 in
theorem ggX10_tree_X10_readData : GoodIn wsX10_tree wsX10_readData := goodIn_r _ [15, 16, 17, 4, 18, 19, 20, 21, 22, 23, 24, 25, 26, 27, 28, 29, 30, 31, 32, 33, 34, 35, 36, 37, 38, 39, 40, 41, 42, 43, 44, 45, 46, 47, 48, 49, 50, 51, 52, 53, 54, 55, 56, 57, 58, 59, 60, 61, 62, 63, 64, 65, 66, 67, 68, 69, 70, 71, 72, 73, 74, 75, 76, 77, 78, 79, 80, 81, 82, 83, 84, 85, 86, 87, 88, 89, 90, 91, 92, 93, 94, 95, 96, 97, 98, 99, 100, 101, 102, 103, 9, 104, 105, 106, 107, 108, 109, 110, 111, 112, 113, 114, 115, 116, 117, 118, 119, 120, 121, 122, 123, 124, 125, 126, 127, 128, 129, 130, 131, 132, 133, 134, 135, 136, 137, 138, 11, 139, 140, 3, 141, 142, 143, 144, 145, 146, 155, 156, 157, 158, 159, 160, 161, 162, 163, 164, 165, 166, 167, 168, 169, 170, 171, 172, 180, 181, 182, 183, 184, 185, 186, 187, 188, 189, 190, 191, 192, 193, 194, 173, 174, 175, 176, 177, 178, 179] (by decide +kernel) (by decide +kernel)
set_option maxRecDepth 20000 in
theorem gX10_tree_X10_readData : GoodIn wsX10_tree (wsV RX10 131 RX10 yX10_readData wsX10_readData) := goodIn_app (goodIn_of _ (by decide +kernel)) ggX10_tree_X10_readData
theorem dX10_tree_0 : decode cX10_tree 0 = .ok (.aload_n 0, 1) := by decide +kernel
theorem dX10_tree_1 : decode cX10_tree 1 = .ok (.iload_n 1, 1) := by decide +kernel
theorem dX10_tree_2 : decode cX10_tree 2 = .ok (.invokevirtual 120, 3) := by decide +kernel
theorem dX10_tree_5 : decode cX10_tree 5 = .ok (.ifCond .ne 13, 3) := by decide +kernel
theorem dX10_tree_8 : decode cX10_tree 8 = .ok (.new 124, 3) := by decide +kernel
theorem dX10_tree_11 : decode cX10_tree 11 = .ok (.dup, 1) := by decide +kernel
theorem dX10_tree_12 : decode cX10_tree 12 = .ok (.ldc 126, 2) := by decide +kernel
theorem dX10_tree_14 : decode cX10_tree 14 = .ok (.invokespecial 128, 3) := by decide +kernel
theorem dX10_tree_17 : decode cX10_tree 17 = .ok (.athrow, 1) := by decide +kernel
theorem dX10_tree_18 : decode cX10_tree 18 = .ok (.aload_n 0, 1) := by decide +kernel
theorem dX10_tree_19 : decode cX10_tree 19 = .ok (.iload_n 1, 1) := by decide +kernel
theorem dX10_tree_20 : decode cX10_tree 20 = .ok (.invokevirtual 131, 3) := by decide +kernel
theorem dX10_tree_23 : decode cX10_tree 23 = .ok (.istore_n 2, 1) := by decide +kernel
theorem dX10_tree_24 : decode cX10_tree 24 = .ok (.iload_n 2, 1) := by decide +kernel
theorem dX10_tree_25 : decode cX10_tree 25 = .ok (.ifCond .ne 38, 3) := by decide +kernel
theorem dX10_tree_63 : decode cX10_tree 63 = .ok (.iload_n 2, 1) := by decide +kernel
theorem dX10_tree_64 : decode cX10_tree 64 = .ok (.ireturn, 1) := by decide +kernel
set_option maxRecDepth 20000 in
theorem ggX10_path_X10_tapeHas : GoodIn wsX10_path wsX10_tapeHas := goodIn_r _ [16, 17, 183, 184, 185, 186, 187, 188, 189, 190, 191, 192, 193, 194, 195, 196, 197, 198, 199, 200] (by decide +kernel) (by decide +kernel)
set_option maxRecDepth 20000 in
theorem gX10_path_X10_tapeHas : GoodIn wsX10_path (wsV RX10 120 RX10 yX10_tapeHas wsX10_tapeHas) := goodIn_app (goodIn_of _ (by decide +kernel)) ggX10_path_X10_tapeHas
set_option maxRecDepth 20000 in
theorem ggX10_path_X5_read : GoodIn wsX10_path wsX5_read := goodIn_r _ [22, 23, 24, 25, 26, 27, 28, 29, 30, 31, 32, 33, 34, 35, 36, 37, 38, 39, 40, 41, 42, 43, 44, 45, 46, 47, 48, 49, 50, 51, 52, 53, 54, 55, 56, 57, 58, 59, 60, 61, 62, 63, 64, 65, 11, 66, 67, 68, 69, 70, 71, 72, 73, 21, 74, 75, 76, 77, 78, 79, 80, 81, 82, 83, 84, 85, 86, 87, 88, 89, 90, 91, 92, 93, 94, 95, 96, 97, 98, 99, 100, 101, 102, 103, 104, 105, 106, 107, 108, 109, 110, 111, 112, 113, 114, 115, 116, 117, 118, 119, 120, 121, 122, 123, 124, 125, 126, 127, 128, 129, 130, 131, 132, 133, 134, 135, 136, 137, 138, 139, 140, 141, 142, 143, 144, 145, 146, 147, 148, 149, 150, 151, 152, 153, 154, 155, 156, 157, 158, 159, 160, 15, 161, 162, 215, 216, 217, 218, 219, 220, 221, 222, 223, 224, 201, 202, 203, 204, 205, 206, 207, 208, 209, 210, 211, 212, 213, 214] (by decide +kernel) (by decide +kernel)
set_option maxRecDepth 20000 in
theorem gX10_path_X5_read : GoodIn wsX10_path (wsV RX10 154 RX5 yX5_read wsX5_read) := goodIn_app (goodIn_of _ (by decide +kernel)) ggX10_path_X5_read
set_option maxRecDepth 20000 in
theorem ggX10_path_X10_textWasRead : GoodIn wsX10_path wsX10_textWasRead := goodIn_r _ [166, 17, 167, 168, 169, 170, 171, 172, 173, 174, 175, 183, 184, 185, 186, 187, 188, 189, 190, 191, 192, 193, 194, 195, 196, 197, 198, 199, 200, 216, 217, 218, 219, 220, 221, 222, 223, 224, 225, 226, 227, 228, 229, 230, 231] (by decide +kernel) (by decide +kernel)
set_option maxRecDepth 20000 in
theorem gX10_path_X10_textWasRead : GoodIn wsX10_path (wsV RX10 158 RX10 yX10_textWasRead wsX10_textWasRead) := goodIn_app (goodIn_of _ (by decide +kernel)) ggX10_path_X10_textWasRead
set_option maxRecDepth 20000 in
theorem ggX10_path_X4_init : GoodIn wsX10_path wsX4_init := goodIn_r _ [177, 178, 179, 180, 181, 91, 92, 93, 135, 182, 149, 150, 155, 156, 157, 158, 201, 202, 203, 204, 205, 206, 207, 208, 209, 210, 211, 212, 213, 214] (by decide +kernel) (by decide +kernel)
set_option maxRecDepth 20000 in
theorem gX10_path_X4_init_n23 : GoodIn wsX10_path (wsX4_init) := ggX10_path_X4_init
theorem dX10_path_0 : decode cX10_path 0 = .ok (.iload_n 1, 1) := by decide +kernel
theorem dX10_path_1 : decode cX10_path 1 = .ok (.ifCond .lt 8, 3) := by decide +kernel
theorem dX10_path_4 : decode cX10_path 4 = .ok (.iload_n 1, 1) := by decide +kernel
theorem dX10_path_5 : decode cX10_path 5 = .ok (.iconst 4, 1) := by decide +kernel
theorem dX10_path_6 : decode cX10_path 6 = .ok (.if_icmp .lt 13, 3) := by decide +kernel
theorem dX10_path_9 : decode cX10_path 9 = .ok (.new 149, 3) := by decide +kernel
theorem dX10_path_12 : decode cX10_path 12 = .ok (.dup, 1) := by decide +kernel
theorem dX10_path_13 : decode cX10_path 13 = .ok (.ldc 151, 2) := by decide +kernel
theorem dX10_path_15 : decode cX10_path 15 = .ok (.invokespecial 153, 3) := by decide +kernel
theorem dX10_path_18 : decode cX10_path 18 = .ok (.athrow, 1) := by decide +kernel
theorem dX10_path_19 : decode cX10_path 19 = .ok (.aload_n 0, 1) := by decide +kernel
theorem dX10_path_20 : decode cX10_path 20 = .ok (.iload_n 2, 1) := by decide +kernel
theorem dX10_path_21 : decode cX10_path 21 = .ok (.invokevirtual 120, 3) := by decide +kernel
theorem dX10_path_24 : decode cX10_path 24 = .ok (.ifCond .ne 13, 3) := by decide +kernel
theorem dX10_path_27 : decode cX10_path 27 = .ok (.new 124, 3) := by decide +kernel
theorem dX10_path_30 : decode cX10_path 30 = .ok (.dup, 1) := by decide +kernel
theorem dX10_path_31 : decode cX10_path 31 = .ok (.ldc 126, 2) := by decide +kernel
theorem dX10_path_33 : decode cX10_path 33 = .ok (.invokespecial 128, 3) := by decide +kernel
theorem dX10_path_36 : decode cX10_path 36 = .ok (.athrow, 1) := by decide +kernel
theorem dX10_path_37 : decode cX10_path 37 = .ok (.aload_n 0, 1) := by decide +kernel
theorem dX10_path_38 : decode cX10_path 38 = .ok (.getfield 47, 3) := by decide +kernel
theorem dX10_path_41 : decode cX10_path 41 = .ok (.aload_n 0, 1) := by decide +kernel
theorem dX10_path_42 : decode cX10_path 42 = .ok (.getfield 9, 3) := by decide +kernel
theorem dX10_path_45 : decode cX10_path 45 = .ok (.iload_n 2, 1) := by decide +kernel
theorem dX10_path_46 : decode cX10_path 46 = .ok (.aload_n 0, 1) := by decide +kernel
theorem dX10_path_47 : decode cX10_path 47 = .ok (.getfield 24, 3) := by decide +kernel
theorem dX10_path_50 : decode cX10_path 50 = .ok (.invokevirtual 154, 3) := by decide +kernel
theorem dX10_path_53 : decode cX10_path 53 = .ok (.istore_n 3, 1) := by decide +kernel
theorem dX10_path_54 : decode cX10_path 54 = .ok (.aload_n 0, 1) := by decide +kernel
theorem dX10_path_55 : decode cX10_path 55 = .ok (.iload_n 3, 1) := by decide +kernel
theorem dX10_path_56 : decode cX10_path 56 = .ok (.invokevirtual 158, 3) := by decide +kernel
theorem dX10_path_59 : decode cX10_path 59 = .ok (.iload_n 3, 1) := by decide +kernel
theorem dX10_path_60 : decode cX10_path 60 = .ok (.ifCond .ne 42, 3) := by decide +kernel
theorem dX10_path_63 : decode cX10_path 63 = .ok (.aload_n 0, 1) := by decide +kernel
theorem dX10_path_64 : decode cX10_path 64 = .ok (.getfield 19, 3) := by decide +kernel
theorem dX10_path_67 : decode cX10_path 67 = .ok (.iload_n 1, 1) := by decide +kernel
theorem dX10_path_68 : decode cX10_path 68 = .ok (.aaload, 1) := by decide +kernel
theorem dX10_path_69 : decode cX10_path 69 = .ok (.astore 4, 2) := by decide +kernel
theorem dX10_path_71 : decode cX10_path 71 = .ok (.aload_n 0, 1) := by decide +kernel
theorem dX10_path_72 : decode cX10_path 72 = .ok (.getfield 19, 3) := by decide +kernel
theorem dX10_path_75 : decode cX10_path 75 = .ok (.iload_n 1, 1) := by decide +kernel
theorem dX10_path_76 : decode cX10_path 76 = .ok (.aload_n 0, 1) := by decide +kernel
theorem dX10_path_77 : decode cX10_path 77 = .ok (.getfield 24, 3) := by decide +kernel
theorem dX10_path_80 : decode cX10_path 80 = .ok (.aastore, 1) := by decide +kernel
theorem dX10_path_81 : decode cX10_path 81 = .ok (.aload_n 0, 1) := by decide +kernel
theorem dX10_path_82 : decode cX10_path 82 = .ok (.aload 4, 2) := by decide +kernel
theorem dX10_path_84 : decode cX10_path 84 = .ok (.ifnonnull 13, 3) := by decide +kernel
theorem dX10_path_87 : decode cX10_path 87 = .ok (.new 17, 3) := by decide +kernel
theorem dX10_path_90 : decode cX10_path 90 = .ok (.dup, 1) := by decide +kernel
theorem dX10_path_91 : decode cX10_path 91 = .ok (.invokespecial 23, 3) := by decide +kernel
theorem dX10_path_94 : decode cX10_path 94 = .ok (.goto 5, 3) := by decide +kernel
theorem dX10_path_99 : decode cX10_path 99 = .ok (.putfield 24, 3) := by decide +kernel
theorem dX10_path_102 : decode cX10_path 102 = .ok (.iload_n 3, 1) := by decide +kernel
theorem dX10_path_103 : decode cX10_path 103 = .ok (.ireturn, 1) := by decide +kernel
set_option maxRecDepth 20000 in
theorem ggX10_count_X9_countKind : GoodIn wsX10_count wsX9_countKind := goodIn_r _ [13, 14, 15, 225, 226, 227, 228, 229] (by decide +kernel) (by decide +kernel)
set_option maxRecDepth 20000 in
theorem gX10_count_X9_countKind : GoodIn wsX10_count (wsV RX10 164 RX9 yX9_countKind wsX9_countKind) := goodIn_app (goodIn_of _ (by decide +kernel)) ggX10_count_X9_countKind
set_option maxRecDepth 20000 in
theorem ggX10_count_X9_deepest : GoodIn wsX10_count wsX9_deepest := goodIn_r _ [19, 14, 20, 21, 22, 23, 24, 225, 226, 227, 228, 229] (by decide +kernel) (by decide +kernel)
set_option maxRecDepth 20000 in
theorem gX10_count_X9_deepest : GoodIn wsX10_count (wsV RX10 167 RX9 yX9_deepest wsX9_deepest) := goodIn_app (goodIn_of _ (by decide +kernel)) ggX10_count_X9_deepest
set_option maxRecDepth 20000 in
theorem ggX10_count_X10_pathsThere : GoodIn wsX10_count wsX10_pathsThere := goodIn_r _ [29, 30, 200, 201, 202, 203, 204, 205, 206, 207, 208, 209, 210, 211, 212, 213, 214, 215, 216, 217] (by decide +kernel) (by decide +kernel)
set_option maxRecDepth 20000 in
theorem gX10_count_X10_pathsThere : GoodIn wsX10_count (wsV RX10 171 RX10 yX10_pathsThere wsX10_pathsThere) := goodIn_app (goodIn_of _ (by decide +kernel)) ggX10_count_X10_pathsThere
set_option maxRecDepth 20000 in
theorem ggX10_count_X9_unlike : GoodIn wsX10_count wsX9_unlike := goodIn_r _ [34, 14, 35, 36, 37, 12, 38, 39, 40, 41, 42, 15, 43, 44, 45, 46, 47, 48, 49, 50, 51, 52, 53, 54, 55, 20, 56, 57, 58, 59, 60, 61, 62, 63, 64, 65, 66, 67, 68, 225, 226, 227, 228, 229] (by decide +kernel) (by decide +kernel)
set_option maxRecDepth 20000 in
theorem gX10_count_X9_unlike : GoodIn wsX10_count (wsV RX10 174 RX9 yX9_unlike wsX9_unlike) := goodIn_app (goodIn_of _ (by decide +kernel)) ggX10_count_X9_unlike
set_option maxRecDepth 20000 in
theorem ggX10_count_X6_refusedOf : GoodIn wsX10_count wsX6_refusedOf := goodIn_r _ [119, 120, 218, 219, 220, 221, 222, 223, 224] (by decide +kernel) (by decide +kernel)
set_option maxRecDepth 20000 in
theorem gX10_count_X6_refusedOf : GoodIn wsX10_count (wsV RX10 184 RX6 yX6_refusedOf wsX6_refusedOf) := goodIn_app (goodIn_of _ (by decide +kernel)) ggX10_count_X6_refusedOf
set_option maxRecDepth 20000 in
theorem ggX10_count_X9_sum : GoodIn wsX10_count wsX9_sum := goodIn_r _ [124, 14, 15, 47, 225, 226, 227, 228, 229] (by decide +kernel) (by decide +kernel)
set_option maxRecDepth 20000 in
theorem gX10_count_X9_sum : GoodIn wsX10_count (wsV RX10 187 RX9 yX9_sum wsX9_sum) := goodIn_app (goodIn_of _ (by decide +kernel)) ggX10_count_X9_sum
set_option maxRecDepth 20000 in
theorem ggX10_count_X10_pathsThatFit : GoodIn wsX10_count wsX10_pathsThatFit := goodIn_r _ [128, 30, 3, 129, 130, 131, 132, 28, 133, 134, 135, 136, 137, 138, 139, 140, 141, 142, 143, 144, 145, 146, 66, 67, 12, 68, 14, 15, 20, 64, 147, 148, 149, 150, 151, 152, 153, 154, 155, 156, 53, 54, 55, 157, 158, 159, 160, 161, 162, 163, 164, 165, 166, 167, 168, 169, 40, 41, 42, 170, 57, 58, 59, 171, 172, 173, 174, 175, 22, 23, 24, 176, 177, 178, 179, 180, 181, 182, 183, 184, 185, 186, 187, 188, 189, 44, 45, 46, 47, 190, 191, 192, 118, 193, 194, 195, 196, 197, 198, 199, 200, 201, 202, 203, 204, 205, 206, 207, 208, 209, 210, 211, 212, 213, 214, 215, 216, 217, 218, 219, 220, 221, 222, 223, 224, 235, 236, 237, 238, 239, 240, 241, 242, 243, 244, 245, 246, 247, 248, 225, 226, 227, 228, 229] (by decide +kernel) (by decide +kernel)
set_option maxRecDepth 20000 in
theorem gX10_count_X10_pathsThatFit : GoodIn wsX10_count (wsV RX10 190 RX10 yX10_pathsThatFit wsX10_pathsThatFit) := goodIn_app (goodIn_of _ (by decide +kernel)) ggX10_count_X10_pathsThatFit
theorem dX10_count_0 : decode cX10_count 0 = .ok (.iload_n 1, 1) := by decide +kernel
theorem dX10_count_1 : decode cX10_count 1 = .ok (.tableswitch 229 0 17 #[87, 98, 98, 98, 98, 112, 123, 128, 139, 147, 180, 188, 196, 201, 201, 201, 213, 224], 87) := by decide +kernel
theorem dX10_count_88 : decode cX10_count 88 = .ok (.aload_n 0, 1) := by decide +kernel
theorem dX10_count_89 : decode cX10_count 89 = .ok (.getfield 63, 3) := by decide +kernel
theorem dX10_count_92 : decode cX10_count 92 = .ok (.getfield 107, 3) := by decide +kernel
theorem dX10_count_95 : decode cX10_count 95 = .ok (.getfield 161, 3) := by decide +kernel
theorem dX10_count_98 : decode cX10_count 98 = .ok (.ireturn, 1) := by decide +kernel
theorem dX10_count_99 : decode cX10_count 99 = .ok (.aload_n 0, 1) := by decide +kernel
theorem dX10_count_100 : decode cX10_count 100 = .ok (.getfield 63, 3) := by decide +kernel
theorem dX10_count_103 : decode cX10_count 103 = .ok (.getfield 107, 3) := by decide +kernel
theorem dX10_count_106 : decode cX10_count 106 = .ok (.iload_n 1, 1) := by decide +kernel
theorem dX10_count_107 : decode cX10_count 107 = .ok (.iconst 1, 1) := by decide +kernel
theorem dX10_count_108 : decode cX10_count 108 = .ok (.isub, 1) := by decide +kernel
theorem dX10_count_109 : decode cX10_count 109 = .ok (.invokevirtual 164, 3) := by decide +kernel
theorem dX10_count_112 : decode cX10_count 112 = .ok (.ireturn, 1) := by decide +kernel
theorem dX10_count_113 : decode cX10_count 113 = .ok (.aload_n 0, 1) := by decide +kernel
theorem dX10_count_114 : decode cX10_count 114 = .ok (.getfield 63, 3) := by decide +kernel
theorem dX10_count_117 : decode cX10_count 117 = .ok (.getfield 107, 3) := by decide +kernel
theorem dX10_count_120 : decode cX10_count 120 = .ok (.invokevirtual 167, 3) := by decide +kernel
theorem dX10_count_123 : decode cX10_count 123 = .ok (.ireturn, 1) := by decide +kernel
theorem dX10_count_124 : decode cX10_count 124 = .ok (.aload_n 0, 1) := by decide +kernel
theorem dX10_count_125 : decode cX10_count 125 = .ok (.invokevirtual 171, 3) := by decide +kernel
theorem dX10_count_128 : decode cX10_count 128 = .ok (.ireturn, 1) := by decide +kernel
theorem dX10_count_129 : decode cX10_count 129 = .ok (.aload_n 0, 1) := by decide +kernel
theorem dX10_count_130 : decode cX10_count 130 = .ok (.getfield 63, 3) := by decide +kernel
theorem dX10_count_133 : decode cX10_count 133 = .ok (.getfield 107, 3) := by decide +kernel
theorem dX10_count_136 : decode cX10_count 136 = .ok (.invokevirtual 174, 3) := by decide +kernel
theorem dX10_count_139 : decode cX10_count 139 = .ok (.ireturn, 1) := by decide +kernel
theorem dX10_count_140 : decode cX10_count 140 = .ok (.aload_n 0, 1) := by decide +kernel
theorem dX10_count_141 : decode cX10_count 141 = .ok (.getfield 82, 3) := by decide +kernel
theorem dX10_count_144 : decode cX10_count 144 = .ok (.getfield 177, 3) := by decide +kernel
theorem dX10_count_147 : decode cX10_count 147 = .ok (.ireturn, 1) := by decide +kernel
theorem dX10_count_148 : decode cX10_count 148 = .ok (.aload_n 0, 1) := by decide +kernel
theorem dX10_count_149 : decode cX10_count 149 = .ok (.getfield 145, 3) := by decide +kernel
theorem dX10_count_152 : decode cX10_count 152 = .ok (.ifCond .eq 27, 3) := by decide +kernel
theorem dX10_count_179 : decode cX10_count 179 = .ok (.iconst (-1), 1) := by decide +kernel
theorem dX10_count_180 : decode cX10_count 180 = .ok (.ireturn, 1) := by decide +kernel
theorem dX10_count_181 : decode cX10_count 181 = .ok (.aload_n 0, 1) := by decide +kernel
theorem dX10_count_182 : decode cX10_count 182 = .ok (.getfield 63, 3) := by decide +kernel
theorem dX10_count_185 : decode cX10_count 185 = .ok (.getfield 139, 3) := by decide +kernel
theorem dX10_count_188 : decode cX10_count 188 = .ok (.ireturn, 1) := by decide +kernel
theorem dX10_count_189 : decode cX10_count 189 = .ok (.aload_n 0, 1) := by decide +kernel
theorem dX10_count_190 : decode cX10_count 190 = .ok (.getfield 63, 3) := by decide +kernel
theorem dX10_count_193 : decode cX10_count 193 = .ok (.getfield 142, 3) := by decide +kernel
theorem dX10_count_196 : decode cX10_count 196 = .ok (.ireturn, 1) := by decide +kernel
theorem dX10_count_197 : decode cX10_count 197 = .ok (.aload_n 0, 1) := by decide +kernel
theorem dX10_count_198 : decode cX10_count 198 = .ok (.getfield 114, 3) := by decide +kernel
theorem dX10_count_201 : decode cX10_count 201 = .ok (.ireturn, 1) := by decide +kernel
theorem dX10_count_202 : decode cX10_count 202 = .ok (.aload_n 0, 1) := by decide +kernel
theorem dX10_count_203 : decode cX10_count 203 = .ok (.getfield 63, 3) := by decide +kernel
theorem dX10_count_206 : decode cX10_count 206 = .ok (.iload_n 1, 1) := by decide +kernel
theorem dX10_count_207 : decode cX10_count 207 = .ok (.bipush 13, 2) := by decide +kernel
theorem dX10_count_209 : decode cX10_count 209 = .ok (.isub, 1) := by decide +kernel
theorem dX10_count_210 : decode cX10_count 210 = .ok (.invokevirtual 184, 3) := by decide +kernel
theorem dX10_count_213 : decode cX10_count 213 = .ok (.ireturn, 1) := by decide +kernel
theorem dX10_count_214 : decode cX10_count 214 = .ok (.aload_n 0, 1) := by decide +kernel
theorem dX10_count_215 : decode cX10_count 215 = .ok (.getfield 63, 3) := by decide +kernel
theorem dX10_count_218 : decode cX10_count 218 = .ok (.getfield 107, 3) := by decide +kernel
theorem dX10_count_221 : decode cX10_count 221 = .ok (.invokevirtual 187, 3) := by decide +kernel
theorem dX10_count_224 : decode cX10_count 224 = .ok (.ireturn, 1) := by decide +kernel
theorem dX10_count_225 : decode cX10_count 225 = .ok (.aload_n 0, 1) := by decide +kernel
theorem dX10_count_226 : decode cX10_count 226 = .ok (.invokevirtual 190, 3) := by decide +kernel
theorem dX10_count_229 : decode cX10_count 229 = .ok (.ireturn, 1) := by decide +kernel
theorem dX10_count_230 : decode cX10_count 230 = .ok (.new 149, 3) := by decide +kernel
theorem dX10_count_233 : decode cX10_count 233 = .ok (.dup, 1) := by decide +kernel
theorem dX10_count_234 : decode cX10_count 234 = .ok (.ldc 193, 2) := by decide +kernel
theorem dX10_count_236 : decode cX10_count 236 = .ok (.invokespecial 153, 3) := by decide +kernel
theorem dX10_count_239 : decode cX10_count 239 = .ok (.athrow, 1) := by decide +kernel
set_option maxRecDepth 20000 in
theorem ggX10_thing_X10_mustBeThere : GoodIn wsX10_thing wsX10_mustBeThere := goodIn_ca (goodIn_r _ [8, 1, 2, 3, 9, 10, 11, 12, 13, 14, 15, 153, 154, 155, 156, 157, 158, 159, 160, 161, 162, 163, 164, 165, 166, 167, 168, 169, 170, 171, 172, 173, 174, 175, 176, 177, 178, 179, 180, 181, 182] (by decide +kernel) (by decide +kernel)) (goodIn_sub (fun _ h => List.mem_cons_of_mem _ (List.mem_append_right _ h)) (by decide +kernel))
set_option maxRecDepth 20000 in
theorem gX10_thing_X10_mustBeThere : GoodIn wsX10_thing (wsV RX10 195 RX10 yX10_mustBeThere wsX10_mustBeThere) := goodIn_app (goodIn_of _ (by decide +kernel)) ggX10_thing_X10_mustBeThere
set_option maxRecDepth 20000 in
theorem ggX10_thing_X9_kindAt : GoodIn wsX10_thing wsX9_kindAt := goodIn_r _ [19, 14, 15, 178, 179, 180, 181, 182] (by decide +kernel) (by decide +kernel)
set_option maxRecDepth 20000 in
theorem gX10_thing_X9_kindAt : GoodIn wsX10_thing (wsV RX10 198 RX9 yX9_kindAt wsX9_kindAt) := goodIn_app (goodIn_of _ (by decide +kernel)) ggX10_thing_X9_kindAt
set_option maxRecDepth 20000 in
theorem ggX10_thing_X9_parentOf : GoodIn wsX10_thing wsX9_parentOf := goodIn_r _ [23, 14, 24, 178, 179, 180, 181, 182] (by decide +kernel) (by decide +kernel)
set_option maxRecDepth 20000 in
theorem gX10_thing_X9_parentOf : GoodIn wsX10_thing (wsV RX10 201 RX9 yX9_parentOf wsX9_parentOf) := goodIn_app (goodIn_of _ (by decide +kernel)) ggX10_thing_X9_parentOf
set_option maxRecDepth 20000 in
theorem ggX10_thing_X9_placeOf : GoodIn wsX10_thing wsX9_placeOf := goodIn_r _ [28, 14, 24, 178, 179, 180, 181, 182] (by decide +kernel) (by decide +kernel)
set_option maxRecDepth 20000 in
theorem gX10_thing_X9_placeOf : GoodIn wsX10_thing (wsV RX10 204 RX9 yX9_placeOf wsX9_placeOf) := goodIn_app (goodIn_of _ (by decide +kernel)) ggX10_thing_X9_placeOf
set_option maxRecDepth 20000 in
theorem ggX10_thing_X9_depthAt : GoodIn wsX10_thing wsX9_depthAt := goodIn_r _ [32, 14, 24, 178, 179, 180, 181, 182] (by decide +kernel) (by decide +kernel)
set_option maxRecDepth 20000 in
theorem gX10_thing_X9_depthAt : GoodIn wsX10_thing (wsV RX10 207 RX9 yX9_depthAt wsX9_depthAt) := goodIn_app (goodIn_of _ (by decide +kernel)) ggX10_thing_X9_depthAt
set_option maxRecDepth 20000 in
theorem ggX10_thing_X9_childCount : GoodIn wsX10_thing wsX9_childCount := goodIn_r _ [36, 14, 24, 178, 179, 180, 181, 182] (by decide +kernel) (by decide +kernel)
set_option maxRecDepth 20000 in
theorem gX10_thing_X9_childCount : GoodIn wsX10_thing (wsV RX10 210 RX9 yX9_childCount wsX9_childCount) := goodIn_app (goodIn_of _ (by decide +kernel)) ggX10_thing_X9_childCount
set_option maxRecDepth 20000 in
theorem ggX10_thing_X9_end : GoodIn wsX10_thing wsX9_end := goodIn_r _ [40, 14, 24, 178, 179, 180, 181, 182] (by decide +kernel) (by decide +kernel)
set_option maxRecDepth 20000 in
theorem gX10_thing_X9_end : GoodIn wsX10_thing (wsV RX10 213 RX9 yX9_end wsX9_end) := goodIn_app (goodIn_of _ (by decide +kernel)) ggX10_thing_X9_end
set_option maxRecDepth 20000 in
theorem ggX10_thing_X9_keyAt : GoodIn wsX10_thing wsX9_keyAt := goodIn_r _ [49, 14, 50, 178, 179, 180, 181, 182] (by decide +kernel) (by decide +kernel)
set_option maxRecDepth 20000 in
theorem gX10_thing_X9_keyAt : GoodIn wsX10_thing (wsV RX10 219 RX9 yX9_keyAt wsX9_keyAt) := goodIn_app (goodIn_of _ (by decide +kernel)) ggX10_thing_X9_keyAt
set_option maxRecDepth 20000 in
theorem ggX10_thing_X10_lettersOf : GoodIn wsX10_thing wsX10_lettersOf := goodIn_r _ [53] (by decide +kernel) (by decide +kernel)
set_option maxRecDepth 20000 in
theorem gX10_thing_X10_lettersOf : GoodIn wsX10_thing (va_wsS RX10 222 yX10_lettersOf wsX10_lettersOf) := goodIn_app (goodIn_of _ (by decide +kernel)) ggX10_thing_X10_lettersOf
set_option maxRecDepth 20000 in
theorem ggX10_thing_X9_twinsOf : GoodIn wsX10_thing wsX9_twinsOf := goodIn_r _ [57, 14, 58, 59, 60, 12, 61, 62, 17, 18, 19, 15, 63, 42, 43, 44, 45, 64, 65, 66, 67, 68, 38, 39, 40, 24, 69, 34, 35, 36, 70, 47, 48, 49, 50, 71, 72, 73, 74, 178, 179, 180, 181, 182] (by decide +kernel) (by decide +kernel)
set_option maxRecDepth 20000 in
theorem gX10_thing_X9_twinsOf : GoodIn wsX10_thing (wsV RX10 225 RX9 yX9_twinsOf wsX9_twinsOf) := goodIn_app (goodIn_of _ (by decide +kernel)) ggX10_thing_X9_twinsOf
set_option maxRecDepth 20000 in
theorem ggX10_thing_X10_pathsAnswering : GoodIn wsX10_thing wsX10_pathsAnswering := goodIn_r _ [78, 79, 80, 81, 7, 82, 83, 84, 3, 85, 86, 87, 88, 89, 90, 91, 92, 93, 94, 95, 96, 97, 72, 73, 12, 74, 14, 15, 24, 50, 98, 99, 100, 101, 102, 103, 30, 31, 32, 104, 38, 39, 40, 105, 106, 107, 108, 109, 110, 111, 112, 113, 114, 115, 116, 117, 17, 18, 19, 118, 34, 35, 36, 119, 120, 121, 122, 123, 124, 125, 126, 127, 128, 129, 130, 131, 132, 133, 134, 135, 136, 137, 138, 139, 140, 42, 43, 44, 45, 141, 142, 143, 144, 145, 146, 147, 148, 149, 150, 151, 152, 153, 154, 155, 156, 157, 158, 159, 160, 161, 162, 163, 164, 165, 166, 167, 168, 169, 170, 171, 172, 173, 174, 175, 176, 177, 183, 184, 185, 186, 187, 188, 189, 190, 191, 192, 193, 194, 195, 196, 178, 179, 180, 181, 182] (by decide +kernel) (by decide +kernel)
set_option maxRecDepth 20000 in
theorem gX10_thing_X10_pathsAnswering : GoodIn wsX10_thing (wsV RX10 228 RX10 yX10_pathsAnswering wsX10_pathsAnswering) := goodIn_app (goodIn_of _ (by decide +kernel)) ggX10_thing_X10_pathsAnswering
theorem dX10_thing_0 : decode cX10_thing 0 = .ok (.aload_n 0, 1) := by decide +kernel
theorem dX10_thing_1 : decode cX10_thing 1 = .ok (.iload_n 1, 1) := by decide +kernel
theorem dX10_thing_2 : decode cX10_thing 2 = .ok (.invokevirtual 195, 3) := by decide +kernel
theorem dX10_thing_5 : decode cX10_thing 5 = .ok (.iload_n 2, 1) := by decide +kernel
theorem dX10_thing_6 : decode cX10_thing 6 = .ok (.tableswitch 191 0 9 #[54, 66, 78, 90, 102, 114, 126, 158, 173, 185], 54) := by decide +kernel
theorem dX10_thing_60 : decode cX10_thing 60 = .ok (.aload_n 0, 1) := by decide +kernel
theorem dX10_thing_61 : decode cX10_thing 61 = .ok (.getfield 63, 3) := by decide +kernel
theorem dX10_thing_64 : decode cX10_thing 64 = .ok (.getfield 107, 3) := by decide +kernel
theorem dX10_thing_67 : decode cX10_thing 67 = .ok (.iload_n 1, 1) := by decide +kernel
theorem dX10_thing_68 : decode cX10_thing 68 = .ok (.invokevirtual 198, 3) := by decide +kernel
theorem dX10_thing_71 : decode cX10_thing 71 = .ok (.ireturn, 1) := by decide +kernel
theorem dX10_thing_72 : decode cX10_thing 72 = .ok (.aload_n 0, 1) := by decide +kernel
theorem dX10_thing_73 : decode cX10_thing 73 = .ok (.getfield 63, 3) := by decide +kernel
theorem dX10_thing_76 : decode cX10_thing 76 = .ok (.getfield 107, 3) := by decide +kernel
theorem dX10_thing_79 : decode cX10_thing 79 = .ok (.iload_n 1, 1) := by decide +kernel
theorem dX10_thing_80 : decode cX10_thing 80 = .ok (.invokevirtual 201, 3) := by decide +kernel
theorem dX10_thing_83 : decode cX10_thing 83 = .ok (.ireturn, 1) := by decide +kernel
theorem dX10_thing_84 : decode cX10_thing 84 = .ok (.aload_n 0, 1) := by decide +kernel
theorem dX10_thing_85 : decode cX10_thing 85 = .ok (.getfield 63, 3) := by decide +kernel
theorem dX10_thing_88 : decode cX10_thing 88 = .ok (.getfield 107, 3) := by decide +kernel
theorem dX10_thing_91 : decode cX10_thing 91 = .ok (.iload_n 1, 1) := by decide +kernel
theorem dX10_thing_92 : decode cX10_thing 92 = .ok (.invokevirtual 204, 3) := by decide +kernel
theorem dX10_thing_95 : decode cX10_thing 95 = .ok (.ireturn, 1) := by decide +kernel
theorem dX10_thing_96 : decode cX10_thing 96 = .ok (.aload_n 0, 1) := by decide +kernel
theorem dX10_thing_97 : decode cX10_thing 97 = .ok (.getfield 63, 3) := by decide +kernel
theorem dX10_thing_100 : decode cX10_thing 100 = .ok (.getfield 107, 3) := by decide +kernel
theorem dX10_thing_103 : decode cX10_thing 103 = .ok (.iload_n 1, 1) := by decide +kernel
theorem dX10_thing_104 : decode cX10_thing 104 = .ok (.invokevirtual 207, 3) := by decide +kernel
theorem dX10_thing_107 : decode cX10_thing 107 = .ok (.ireturn, 1) := by decide +kernel
theorem dX10_thing_108 : decode cX10_thing 108 = .ok (.aload_n 0, 1) := by decide +kernel
theorem dX10_thing_109 : decode cX10_thing 109 = .ok (.getfield 63, 3) := by decide +kernel
theorem dX10_thing_112 : decode cX10_thing 112 = .ok (.getfield 107, 3) := by decide +kernel
theorem dX10_thing_115 : decode cX10_thing 115 = .ok (.iload_n 1, 1) := by decide +kernel
theorem dX10_thing_116 : decode cX10_thing 116 = .ok (.invokevirtual 210, 3) := by decide +kernel
theorem dX10_thing_119 : decode cX10_thing 119 = .ok (.ireturn, 1) := by decide +kernel
theorem dX10_thing_120 : decode cX10_thing 120 = .ok (.aload_n 0, 1) := by decide +kernel
theorem dX10_thing_121 : decode cX10_thing 121 = .ok (.getfield 63, 3) := by decide +kernel
theorem dX10_thing_124 : decode cX10_thing 124 = .ok (.getfield 107, 3) := by decide +kernel
theorem dX10_thing_127 : decode cX10_thing 127 = .ok (.iload_n 1, 1) := by decide +kernel
theorem dX10_thing_128 : decode cX10_thing 128 = .ok (.invokevirtual 213, 3) := by decide +kernel
theorem dX10_thing_131 : decode cX10_thing 131 = .ok (.ireturn, 1) := by decide +kernel
theorem dX10_thing_132 : decode cX10_thing 132 = .ok (.aload_n 0, 1) := by decide +kernel
theorem dX10_thing_133 : decode cX10_thing 133 = .ok (.getfield 63, 3) := by decide +kernel
theorem dX10_thing_136 : decode cX10_thing 136 = .ok (.getfield 107, 3) := by decide +kernel
theorem dX10_thing_139 : decode cX10_thing 139 = .ok (.iload_n 1, 1) := by decide +kernel
theorem dX10_thing_140 : decode cX10_thing 140 = .ok (.invokevirtual 198, 3) := by decide +kernel
theorem dX10_thing_143 : decode cX10_thing 143 = .ok (.ifCond .ne 17, 3) := by decide +kernel
theorem dX10_thing_160 : decode cX10_thing 160 = .ok (.sipush (-1000), 3) := by decide +kernel
theorem dX10_thing_163 : decode cX10_thing 163 = .ok (.ireturn, 1) := by decide +kernel
theorem dX10_thing_164 : decode cX10_thing 164 = .ok (.aload_n 0, 1) := by decide +kernel
theorem dX10_thing_165 : decode cX10_thing 165 = .ok (.getfield 63, 3) := by decide +kernel
theorem dX10_thing_168 : decode cX10_thing 168 = .ok (.getfield 107, 3) := by decide +kernel
theorem dX10_thing_171 : decode cX10_thing 171 = .ok (.iload_n 1, 1) := by decide +kernel
theorem dX10_thing_172 : decode cX10_thing 172 = .ok (.invokevirtual 219, 3) := by decide +kernel
theorem dX10_thing_175 : decode cX10_thing 175 = .ok (.invokestatic 222, 3) := by decide +kernel
theorem dX10_thing_178 : decode cX10_thing 178 = .ok (.ireturn, 1) := by decide +kernel
theorem dX10_thing_179 : decode cX10_thing 179 = .ok (.aload_n 0, 1) := by decide +kernel
theorem dX10_thing_180 : decode cX10_thing 180 = .ok (.getfield 63, 3) := by decide +kernel
theorem dX10_thing_183 : decode cX10_thing 183 = .ok (.getfield 107, 3) := by decide +kernel
theorem dX10_thing_186 : decode cX10_thing 186 = .ok (.iload_n 1, 1) := by decide +kernel
theorem dX10_thing_187 : decode cX10_thing 187 = .ok (.invokevirtual 225, 3) := by decide +kernel
theorem dX10_thing_190 : decode cX10_thing 190 = .ok (.ireturn, 1) := by decide +kernel
theorem dX10_thing_191 : decode cX10_thing 191 = .ok (.aload_n 0, 1) := by decide +kernel
theorem dX10_thing_192 : decode cX10_thing 192 = .ok (.iload_n 1, 1) := by decide +kernel
theorem dX10_thing_193 : decode cX10_thing 193 = .ok (.invokevirtual 228, 3) := by decide +kernel
theorem dX10_thing_196 : decode cX10_thing 196 = .ok (.ireturn, 1) := by decide +kernel
theorem dX10_thing_197 : decode cX10_thing 197 = .ok (.new 149, 3) := by decide +kernel
theorem dX10_thing_200 : decode cX10_thing 200 = .ok (.dup, 1) := by decide +kernel
theorem dX10_thing_201 : decode cX10_thing 201 = .ok (.ldc 231, 2) := by decide +kernel
theorem dX10_thing_203 : decode cX10_thing 203 = .ok (.invokespecial 153, 3) := by decide +kernel
theorem dX10_thing_206 : decode cX10_thing 206 = .ok (.athrow, 1) := by decide +kernel
set_option maxRecDepth 20000 in
theorem ggX10_within_X10_mustBeThere : GoodIn wsX10_within wsX10_mustBeThere := goodIn_ca (goodIn_r _ [8, 1, 2, 3, 9, 10, 11, 12, 13, 14, 15, 21, 22, 23, 24, 25, 26, 27, 28, 29, 30, 31, 32, 33, 34, 35, 36, 37, 38, 39, 40, 41, 42, 43, 44, 45, 46, 47, 48, 49, 50] (by decide +kernel) (by decide +kernel)) (goodIn_sub (fun _ h => List.mem_cons_of_mem _ (List.mem_append_right _ h)) (by decide +kernel))
set_option maxRecDepth 20000 in
theorem gX10_within_X10_mustBeThere : GoodIn wsX10_within (wsV RX10 195 RX10 yX10_mustBeThere wsX10_mustBeThere) := goodIn_app (goodIn_of _ (by decide +kernel)) ggX10_within_X10_mustBeThere
set_option maxRecDepth 20000 in
theorem ggX10_within_X9_childAt : GoodIn wsX10_within wsX9_childAt := goodIn_r _ [19, 14, 20, 46, 47, 48, 49, 50] (by decide +kernel) (by decide +kernel)
set_option maxRecDepth 20000 in
theorem gX10_within_X9_childAt : GoodIn wsX10_within (wsV RX10 233 RX9 yX9_childAt wsX9_childAt) := goodIn_app (goodIn_of _ (by decide +kernel)) ggX10_within_X9_childAt
theorem dX10_within_0 : decode cX10_within 0 = .ok (.aload_n 0, 1) := by decide +kernel
theorem dX10_within_1 : decode cX10_within 1 = .ok (.iload_n 1, 1) := by decide +kernel
theorem dX10_within_2 : decode cX10_within 2 = .ok (.invokevirtual 195, 3) := by decide +kernel
theorem dX10_within_5 : decode cX10_within 5 = .ok (.aload_n 0, 1) := by decide +kernel
theorem dX10_within_6 : decode cX10_within 6 = .ok (.getfield 63, 3) := by decide +kernel
theorem dX10_within_9 : decode cX10_within 9 = .ok (.getfield 107, 3) := by decide +kernel
theorem dX10_within_12 : decode cX10_within 12 = .ok (.iload_n 1, 1) := by decide +kernel
theorem dX10_within_13 : decode cX10_within 13 = .ok (.iload_n 2, 1) := by decide +kernel
theorem dX10_within_14 : decode cX10_within 14 = .ok (.invokevirtual 233, 3) := by decide +kernel
theorem dX10_within_17 : decode cX10_within 17 = .ok (.istore_n 3, 1) := by decide +kernel
theorem dX10_within_18 : decode cX10_within 18 = .ok (.iload_n 3, 1) := by decide +kernel
theorem dX10_within_19 : decode cX10_within 19 = .ok (.iconst (-1), 1) := by decide +kernel
theorem dX10_within_20 : decode cX10_within 20 = .ok (.if_icmp .ne 13, 3) := by decide +kernel
theorem dX10_within_23 : decode cX10_within 23 = .ok (.new 149, 3) := by decide +kernel
theorem dX10_within_26 : decode cX10_within 26 = .ok (.dup, 1) := by decide +kernel
theorem dX10_within_27 : decode cX10_within 27 = .ok (.ldc 237, 2) := by decide +kernel
theorem dX10_within_29 : decode cX10_within 29 = .ok (.invokespecial 153, 3) := by decide +kernel
theorem dX10_within_32 : decode cX10_within 32 = .ok (.athrow, 1) := by decide +kernel
set_option maxRecDepth 20000 in
theorem ggX10_told_X10_mustBeThere : GoodIn wsX10_told wsX10_mustBeThere := goodIn_ca (goodIn_r _ [7, 8, 9, 2, 10, 11, 12, 13, 14, 15, 16, 100, 101, 102, 103, 104, 105, 106, 107, 108, 109, 110, 111, 112, 113, 114, 115, 116, 117, 118, 119, 120, 121, 122, 123, 124, 125, 126, 127, 128, 129] (by decide +kernel) (by decide +kernel)) (goodIn_sub (fun _ h => List.mem_cons_of_mem _ (List.mem_append_right _ h)) (by decide +kernel))
set_option maxRecDepth 20000 in
theorem gX10_told_X10_mustBeThere : GoodIn wsX10_told (wsV RX10 195 RX10 yX10_mustBeThere wsX10_mustBeThere) := goodIn_app (goodIn_of _ (by decide +kernel)) ggX10_told_X10_mustBeThere
set_option maxRecDepth 20000 in
theorem ggX10_told_X7_clear : GoodIn wsX10_told wsX7_clear := goodIn_r _ [21, 22, 130, 131] (by decide +kernel) (by decide +kernel)
set_option maxRecDepth 20000 in
theorem gX10_told_X7_clear : GoodIn wsX10_told (wsV RX10 239 RX7 yX7_clear wsX7_clear) := goodIn_app (goodIn_of _ (by decide +kernel)) ggX10_told_X7_clear
set_option maxRecDepth 20000 in
theorem ggX10_told_X7_writePath : GoodIn wsX10_told wsX7_writePath := goodIn_r _ [26, 27, 28, 29, 13, 30, 15, 31, 32, 33, 34, 35, 36, 37, 38, 39, 40, 41, 42, 43, 16, 44, 45, 46, 20, 47, 22, 48, 49, 50, 51, 52, 53, 54, 55, 56, 57, 58, 59, 60, 61, 62, 63, 64, 65, 66, 67, 68, 69, 125, 126, 127, 128, 129, 130, 131] (by decide +kernel) (by decide +kernel)
set_option maxRecDepth 20000 in
theorem gX10_told_X7_writePath : GoodIn wsX10_told (wsV RX10 242 RX7 yX7_writePath wsX7_writePath) := goodIn_app (goodIn_of _ (by decide +kernel)) ggX10_told_X7_writePath
set_option maxRecDepth 20000 in
theorem ggX10_told_X7_writeThing : GoodIn wsX10_told wsX7_writeThing := goodIn_r _ [73, 40, 41, 42, 13, 43, 15, 16, 74, 75, 76, 77, 78, 62, 63, 64, 20, 65, 66, 67, 68, 69, 44, 45, 46, 47, 22, 48, 54, 55, 56, 57, 79, 80, 81, 82, 83, 84, 85, 86, 31, 49, 50, 51, 52, 53, 87, 71, 72, 88, 89, 90, 91, 125, 126, 127, 128, 129, 130, 131] (by decide +kernel) (by decide +kernel)
set_option maxRecDepth 20000 in
theorem gX10_told_X7_writeThing : GoodIn wsX10_told (wsV RX10 246 RX7 yX7_writeThing wsX7_writeThing) := goodIn_app (goodIn_of _ (by decide +kernel)) ggX10_told_X7_writeThing
set_option maxRecDepth 20000 in
theorem ggX10_told_X10_ofText : GoodIn wsX10_told wsX10_ofText := goodIn_ca (goodIn_r _ [95, 8, 9, 1, 96, 97, 98, 20, 99, 22, 48, 100, 101, 102, 103, 104, 105, 106, 107, 108, 109, 110, 111, 112, 113, 114, 115, 116, 117, 130, 131] (by decide +kernel) (by decide +kernel)) (goodIn_sub (fun _ h => List.mem_cons_of_mem _ (List.mem_append_right _ h)) (by decide +kernel))
set_option maxRecDepth 20000 in
theorem gX10_told_X10_ofText : GoodIn wsX10_told (wsV RX10 250 RX10 yX10_ofText wsX10_ofText) := goodIn_app (goodIn_of _ (by decide +kernel)) ggX10_told_X10_ofText
theorem dX10_told_0 : decode cX10_told 0 = .ok (.aload_n 0, 1) := by decide +kernel
theorem dX10_told_1 : decode cX10_told 1 = .ok (.iload_n 1, 1) := by decide +kernel
theorem dX10_told_2 : decode cX10_told 2 = .ok (.invokevirtual 195, 3) := by decide +kernel
theorem dX10_told_5 : decode cX10_told 5 = .ok (.aload_n 0, 1) := by decide +kernel
theorem dX10_told_6 : decode cX10_told 6 = .ok (.getfield 92, 3) := by decide +kernel
theorem dX10_told_9 : decode cX10_told 9 = .ok (.invokevirtual 239, 3) := by decide +kernel
theorem dX10_told_12 : decode cX10_told 12 = .ok (.iload_n 2, 1) := by decide +kernel
theorem dX10_told_13 : decode cX10_told 13 = .ok (.ifCond .eq 21, 3) := by decide +kernel
theorem dX10_told_16 : decode cX10_told 16 = .ok (.aload_n 0, 1) := by decide +kernel
theorem dX10_told_17 : decode cX10_told 17 = .ok (.getfield 92, 3) := by decide +kernel
theorem dX10_told_20 : decode cX10_told 20 = .ok (.aload_n 0, 1) := by decide +kernel
theorem dX10_told_21 : decode cX10_told 21 = .ok (.getfield 63, 3) := by decide +kernel
theorem dX10_told_24 : decode cX10_told 24 = .ok (.getfield 107, 3) := by decide +kernel
theorem dX10_told_27 : decode cX10_told 27 = .ok (.iload_n 1, 1) := by decide +kernel
theorem dX10_told_28 : decode cX10_told 28 = .ok (.invokevirtual 242, 3) := by decide +kernel
theorem dX10_told_31 : decode cX10_told 31 = .ok (.goto 19, 3) := by decide +kernel
theorem dX10_told_34 : decode cX10_told 34 = .ok (.aload_n 0, 1) := by decide +kernel
theorem dX10_told_35 : decode cX10_told 35 = .ok (.getfield 92, 3) := by decide +kernel
theorem dX10_told_38 : decode cX10_told 38 = .ok (.aload_n 0, 1) := by decide +kernel
theorem dX10_told_39 : decode cX10_told 39 = .ok (.getfield 63, 3) := by decide +kernel
theorem dX10_told_42 : decode cX10_told 42 = .ok (.getfield 107, 3) := by decide +kernel
theorem dX10_told_45 : decode cX10_told 45 = .ok (.iload_n 1, 1) := by decide +kernel
theorem dX10_told_46 : decode cX10_told 46 = .ok (.iconst 0, 1) := by decide +kernel
theorem dX10_told_47 : decode cX10_told 47 = .ok (.invokevirtual 246, 3) := by decide +kernel
theorem dX10_told_50 : decode cX10_told 50 = .ok (.aload_n 0, 1) := by decide +kernel
theorem dX10_told_51 : decode cX10_told 51 = .ok (.iload_n 3, 1) := by decide +kernel
theorem dX10_told_52 : decode cX10_told 52 = .ok (.invokevirtual 250, 3) := by decide +kernel
theorem dX10_told_55 : decode cX10_told 55 = .ok (.ireturn, 1) := by decide +kernel
set_option maxRecDepth 20000 in
theorem ggX10_alike_X10_mustBeThere : GoodIn wsX10_alike wsX10_mustBeThere := goodIn_ca (goodIn_r _ [6, 7, 8, 1, 9, 10, 11, 12, 13, 14, 15, 52, 53, 54, 55, 56, 57, 58, 59, 60, 61, 62, 63, 64, 65, 66, 67, 68, 69, 70, 71, 72, 73, 74, 75, 76, 77, 78, 79, 80, 81] (by decide +kernel) (by decide +kernel)) (goodIn_sub (fun _ h => List.mem_cons_of_mem _ (List.mem_append_right _ h)) (by decide +kernel))
set_option maxRecDepth 20000 in
theorem gX10_alike_X10_mustBeThere : GoodIn wsX10_alike (wsV RX10 195 RX10 yX10_mustBeThere wsX10_mustBeThere) := goodIn_app (goodIn_of _ (by decide +kernel)) ggX10_alike_X10_mustBeThere
set_option maxRecDepth 20000 in
theorem ggX10_alike_X9_like : GoodIn wsX10_alike wsX9_like := goodIn_r _ [19, 20, 21, 22, 12, 23, 14, 15, 24, 25, 26, 27, 28, 29, 30, 31, 32, 33, 34, 35, 36, 37, 38, 39, 40, 41, 42, 43, 44, 45, 46, 47, 48, 49, 50, 51, 17, 18, 77, 78, 79, 80, 81] (by decide +kernel) (by decide +kernel)
set_option maxRecDepth 20000 in
theorem gX10_alike_X9_like : GoodIn wsX10_alike (wsV RX10 253 RX9 yX9_like wsX9_like) := goodIn_app (goodIn_of _ (by decide +kernel)) ggX10_alike_X9_like
theorem dX10_alike_0 : decode cX10_alike 0 = .ok (.aload_n 0, 1) := by decide +kernel
theorem dX10_alike_1 : decode cX10_alike 1 = .ok (.iload_n 1, 1) := by decide +kernel
theorem dX10_alike_2 : decode cX10_alike 2 = .ok (.invokevirtual 195, 3) := by decide +kernel
theorem dX10_alike_5 : decode cX10_alike 5 = .ok (.aload_n 0, 1) := by decide +kernel
theorem dX10_alike_6 : decode cX10_alike 6 = .ok (.iload_n 2, 1) := by decide +kernel
theorem dX10_alike_7 : decode cX10_alike 7 = .ok (.invokevirtual 195, 3) := by decide +kernel
theorem dX10_alike_10 : decode cX10_alike 10 = .ok (.aload_n 0, 1) := by decide +kernel
theorem dX10_alike_11 : decode cX10_alike 11 = .ok (.getfield 63, 3) := by decide +kernel
theorem dX10_alike_14 : decode cX10_alike 14 = .ok (.getfield 107, 3) := by decide +kernel
theorem dX10_alike_17 : decode cX10_alike 17 = .ok (.iload_n 1, 1) := by decide +kernel
theorem dX10_alike_18 : decode cX10_alike 18 = .ok (.aload_n 0, 1) := by decide +kernel
theorem dX10_alike_19 : decode cX10_alike 19 = .ok (.getfield 63, 3) := by decide +kernel
theorem dX10_alike_22 : decode cX10_alike 22 = .ok (.getfield 107, 3) := by decide +kernel
theorem dX10_alike_25 : decode cX10_alike 25 = .ok (.iload_n 2, 1) := by decide +kernel
theorem dX10_alike_26 : decode cX10_alike 26 = .ok (.iconst 0, 1) := by decide +kernel
theorem dX10_alike_27 : decode cX10_alike 27 = .ok (.invokevirtual 253, 3) := by decide +kernel
theorem dX10_alike_30 : decode cX10_alike 30 = .ok (.ifCond .eq 7, 3) := by decide +kernel
theorem dX10_alike_33 : decode cX10_alike 33 = .ok (.iconst 1, 1) := by decide +kernel
theorem dX10_alike_34 : decode cX10_alike 34 = .ok (.goto 4, 3) := by decide +kernel
theorem dX10_alike_38 : decode cX10_alike 38 = .ok (.ireturn, 1) := by decide +kernel
set_option maxRecDepth 20000 in
theorem ggX10_answer_X10_pathAt : GoodIn wsX10_answer wsX10_pathAt := goodIn_r _ [8, 9, 104, 105, 106, 107, 108, 109, 110, 111, 112, 113, 114, 115, 116, 117, 118, 119, 120, 121] (by decide +kernel) (by decide +kernel)
set_option maxRecDepth 20000 in
theorem gX10_answer_X10_pathAt : GoodIn wsX10_answer (wsV RX10 257 RX10 yX10_pathAt wsX10_pathAt) := goodIn_app (goodIn_of _ (by decide +kernel)) ggX10_answer_X10_pathAt
theorem dX10_answer_0 : decode cX10_answer 0 = .ok (.aload_n 0, 1) := by decide +kernel
theorem dX10_answer_1 : decode cX10_answer 1 = .ok (.iload_n 1, 1) := by decide +kernel
theorem dX10_answer_2 : decode cX10_answer 2 = .ok (.invokevirtual 257, 3) := by decide +kernel
theorem dX10_answer_5 : decode cX10_answer 5 = .ok (.astore_n 3, 1) := by decide +kernel
theorem dX10_answer_6 : decode cX10_answer 6 = .ok (.aload_n 3, 1) := by decide +kernel
theorem dX10_answer_7 : decode cX10_answer 7 = .ok (.ifnonnull 14, 3) := by decide +kernel
theorem dX10_answer_10 : decode cX10_answer 10 = .ok (.new 149, 3) := by decide +kernel
theorem dX10_answer_13 : decode cX10_answer 13 = .ok (.dup, 1) := by decide +kernel
theorem dX10_answer_14 : decode cX10_answer 14 = .ok (.ldc_w 261, 3) := by decide +kernel
theorem dX10_answer_17 : decode cX10_answer 17 = .ok (.invokespecial 153, 3) := by decide +kernel
theorem dX10_answer_20 : decode cX10_answer 20 = .ok (.athrow, 1) := by decide +kernel
set_option maxRecDepth 20000 in
theorem ggX10_steps_X10_pathAt : GoodIn wsX10_steps wsX10_pathAt := goodIn_r _ [8, 9, 111, 112, 113, 114, 115, 116, 117, 118, 119, 120, 121, 122, 123, 124, 125, 126, 127, 128] (by decide +kernel) (by decide +kernel)
set_option maxRecDepth 20000 in
theorem gX10_steps_X10_pathAt : GoodIn wsX10_steps (wsV RX10 257 RX10 yX10_pathAt wsX10_pathAt) := goodIn_app (goodIn_of _ (by decide +kernel)) ggX10_steps_X10_pathAt
theorem dX10_steps_0 : decode cX10_steps 0 = .ok (.aload_n 0, 1) := by decide +kernel
theorem dX10_steps_1 : decode cX10_steps 1 = .ok (.iload_n 1, 1) := by decide +kernel
theorem dX10_steps_2 : decode cX10_steps 2 = .ok (.invokevirtual 257, 3) := by decide +kernel
theorem dX10_steps_5 : decode cX10_steps 5 = .ok (.astore_n 3, 1) := by decide +kernel
theorem dX10_steps_6 : decode cX10_steps 6 = .ok (.aload_n 3, 1) := by decide +kernel
theorem dX10_steps_7 : decode cX10_steps 7 = .ok (.ifnonnull 14, 3) := by decide +kernel
theorem dX10_steps_10 : decode cX10_steps 10 = .ok (.new 149, 3) := by decide +kernel
theorem dX10_steps_13 : decode cX10_steps 13 = .ok (.dup, 1) := by decide +kernel
theorem dX10_steps_14 : decode cX10_steps 14 = .ok (.ldc_w 261, 3) := by decide +kernel
theorem dX10_steps_17 : decode cX10_steps 17 = .ok (.invokespecial 153, 3) := by decide +kernel
theorem dX10_steps_20 : decode cX10_steps 20 = .ok (.athrow, 1) := by decide +kernel
theorem dX10_row_0 : decode cX10_row 0 = .ok (.iload_n 1, 1) := by decide +kernel
theorem dX10_row_1 : decode cX10_row 1 = .ok (.ifCond .lt 14, 3) := by decide +kernel
theorem dX10_row_4 : decode cX10_row 4 = .ok (.iload_n 1, 1) := by decide +kernel
theorem dX10_row_5 : decode cX10_row 5 = .ok (.aload_n 0, 1) := by decide +kernel
theorem dX10_row_6 : decode cX10_row 6 = .ok (.getfield 82, 3) := by decide +kernel
theorem dX10_row_9 : decode cX10_row 9 = .ok (.getfield 177, 3) := by decide +kernel
theorem dX10_row_12 : decode cX10_row 12 = .ok (.if_icmp .lt 14, 3) := by decide +kernel
theorem dX10_row_15 : decode cX10_row 15 = .ok (.new 149, 3) := by decide +kernel
theorem dX10_row_18 : decode cX10_row 18 = .ok (.dup, 1) := by decide +kernel
theorem dX10_row_19 : decode cX10_row 19 = .ok (.ldc_w 284, 3) := by decide +kernel
theorem dX10_row_22 : decode cX10_row 22 = .ok (.invokespecial 153, 3) := by decide +kernel
theorem dX10_row_25 : decode cX10_row 25 = .ok (.athrow, 1) := by decide +kernel
theorem dX10_rowText_0 : decode cX10_rowText 0 = .ok (.iload_n 1, 1) := by decide +kernel
theorem dX10_rowText_1 : decode cX10_rowText 1 = .ok (.ifCond .lt 14, 3) := by decide +kernel
theorem dX10_rowText_4 : decode cX10_rowText 4 = .ok (.iload_n 1, 1) := by decide +kernel
theorem dX10_rowText_5 : decode cX10_rowText 5 = .ok (.aload_n 0, 1) := by decide +kernel
theorem dX10_rowText_6 : decode cX10_rowText 6 = .ok (.getfield 82, 3) := by decide +kernel
theorem dX10_rowText_9 : decode cX10_rowText 9 = .ok (.getfield 177, 3) := by decide +kernel
theorem dX10_rowText_12 : decode cX10_rowText 12 = .ok (.if_icmp .lt 14, 3) := by decide +kernel
theorem dX10_rowText_15 : decode cX10_rowText 15 = .ok (.new 149, 3) := by decide +kernel
theorem dX10_rowText_18 : decode cX10_rowText 18 = .ok (.dup, 1) := by decide +kernel
theorem dX10_rowText_19 : decode cX10_rowText 19 = .ok (.ldc_w 284, 3) := by decide +kernel
theorem dX10_rowText_22 : decode cX10_rowText 22 = .ok (.invokespecial 153, 3) := by decide +kernel
theorem dX10_rowText_25 : decode cX10_rowText 25 = .ok (.athrow, 1) := by decide +kernel
set_option maxRecDepth 20000 in
theorem ggX10_put_X10_tapeHas : GoodIn wsX10_put wsX10_tapeHas := goodIn_r _ [10, 11, 321, 322, 323, 324, 325, 326, 327, 328, 329, 330, 331, 332, 333, 334, 335, 336, 337, 338] (by decide +kernel) (by decide +kernel)
set_option maxRecDepth 20000 in
theorem gX10_put_X10_tapeHas : GoodIn wsX10_put (wsV RX10 120 RX10 yX10_tapeHas wsX10_tapeHas) := goodIn_app (goodIn_of _ (by decide +kernel)) ggX10_put_X10_tapeHas
set_option maxRecDepth 20000 in
theorem ggX10_put_X10_pathAt : GoodIn wsX10_put wsX10_pathAt := goodIn_r _ [15, 16, 321, 322, 323, 324, 325, 326, 327, 328, 329, 330, 331, 332, 333, 334, 335, 336, 337, 338] (by decide +kernel) (by decide +kernel)
set_option maxRecDepth 20000 in
theorem gX10_put_X10_pathAt : GoodIn wsX10_put (wsV RX10 257 RX10 yX10_pathAt wsX10_pathAt) := goodIn_app (goodIn_of _ (by decide +kernel)) ggX10_put_X10_pathAt
set_option maxRecDepth 20000 in
theorem ggX10_put_X10_refusedUnread : GoodIn wsX10_put wsX10_refusedUnread := goodIn_r _ [20, 11, 4, 21, 22, 23, 24, 25, 26, 321, 322, 323, 324, 325, 326, 327, 328, 329, 330, 331, 332, 333, 334, 335, 336, 337, 338, 339, 340, 341, 342, 343, 344, 345] (by decide +kernel) (by decide +kernel)
set_option maxRecDepth 20000 in
theorem gX10_put_X10_refusedUnread : GoodIn wsX10_put (wsV RX10 304 RX10 yX10_refusedUnread wsX10_refusedUnread) := goodIn_app (goodIn_of _ (by decide +kernel)) ggX10_put_X10_refusedUnread
theorem dX10_put_0 : decode cX10_put 0 = .ok (.aload_n 0, 1) := by decide +kernel
theorem dX10_put_1 : decode cX10_put 1 = .ok (.iload_n 2, 1) := by decide +kernel
theorem dX10_put_2 : decode cX10_put 2 = .ok (.invokevirtual 120, 3) := by decide +kernel
theorem dX10_put_5 : decode cX10_put 5 = .ok (.ifCond .ne 13, 3) := by decide +kernel
theorem dX10_put_8 : decode cX10_put 8 = .ok (.new 124, 3) := by decide +kernel
theorem dX10_put_11 : decode cX10_put 11 = .ok (.dup, 1) := by decide +kernel
theorem dX10_put_12 : decode cX10_put 12 = .ok (.ldc 126, 2) := by decide +kernel
theorem dX10_put_14 : decode cX10_put 14 = .ok (.invokespecial 128, 3) := by decide +kernel
theorem dX10_put_17 : decode cX10_put 17 = .ok (.athrow, 1) := by decide +kernel
theorem dX10_put_18 : decode cX10_put 18 = .ok (.aload_n 0, 1) := by decide +kernel
theorem dX10_put_19 : decode cX10_put 19 = .ok (.iload_n 1, 1) := by decide +kernel
theorem dX10_put_20 : decode cX10_put 20 = .ok (.invokevirtual 257, 3) := by decide +kernel
theorem dX10_put_23 : decode cX10_put 23 = .ok (.astore_n 3, 1) := by decide +kernel
theorem dX10_put_24 : decode cX10_put 24 = .ok (.aload_n 3, 1) := by decide +kernel
theorem dX10_put_25 : decode cX10_put 25 = .ok (.ifnonnull 8, 3) := by decide +kernel
theorem dX10_put_28 : decode cX10_put 28 = .ok (.aload_n 0, 1) := by decide +kernel
theorem dX10_put_29 : decode cX10_put 29 = .ok (.invokevirtual 304, 3) := by decide +kernel
theorem dX10_put_32 : decode cX10_put 32 = .ok (.ireturn, 1) := by decide +kernel
set_option maxRecDepth 20000 in
theorem ggX10_append_X10_tapeHas : GoodIn wsX10_append wsX10_tapeHas := goodIn_r _ [10, 11, 309, 310, 311, 312, 313, 314, 315, 316, 317, 318, 319, 320, 321, 322, 323, 324, 325, 326] (by decide +kernel) (by decide +kernel)
set_option maxRecDepth 20000 in
theorem gX10_append_X10_tapeHas : GoodIn wsX10_append (wsV RX10 120 RX10 yX10_tapeHas wsX10_tapeHas) := goodIn_app (goodIn_of _ (by decide +kernel)) ggX10_append_X10_tapeHas
set_option maxRecDepth 20000 in
theorem ggX10_append_X10_pathAt : GoodIn wsX10_append wsX10_pathAt := goodIn_r _ [15, 16, 309, 310, 311, 312, 313, 314, 315, 316, 317, 318, 319, 320, 321, 322, 323, 324, 325, 326] (by decide +kernel) (by decide +kernel)
set_option maxRecDepth 20000 in
theorem gX10_append_X10_pathAt : GoodIn wsX10_append (wsV RX10 257 RX10 yX10_pathAt wsX10_pathAt) := goodIn_app (goodIn_of _ (by decide +kernel)) ggX10_append_X10_pathAt
set_option maxRecDepth 20000 in
theorem ggX10_append_X10_refusedUnread : GoodIn wsX10_append wsX10_refusedUnread := goodIn_r _ [20, 11, 4, 21, 22, 23, 24, 25, 26, 309, 310, 311, 312, 313, 314, 315, 316, 317, 318, 319, 320, 321, 322, 323, 324, 325, 326, 327, 328, 329, 330, 331, 332, 333] (by decide +kernel) (by decide +kernel)
set_option maxRecDepth 20000 in
theorem gX10_append_X10_refusedUnread : GoodIn wsX10_append (wsV RX10 304 RX10 yX10_refusedUnread wsX10_refusedUnread) := goodIn_app (goodIn_of _ (by decide +kernel)) ggX10_append_X10_refusedUnread
theorem dX10_append_0 : decode cX10_append 0 = .ok (.aload_n 0, 1) := by decide +kernel
theorem dX10_append_1 : decode cX10_append 1 = .ok (.iload_n 2, 1) := by decide +kernel
theorem dX10_append_2 : decode cX10_append 2 = .ok (.invokevirtual 120, 3) := by decide +kernel
theorem dX10_append_5 : decode cX10_append 5 = .ok (.ifCond .ne 13, 3) := by decide +kernel
theorem dX10_append_8 : decode cX10_append 8 = .ok (.new 124, 3) := by decide +kernel
theorem dX10_append_11 : decode cX10_append 11 = .ok (.dup, 1) := by decide +kernel
theorem dX10_append_12 : decode cX10_append 12 = .ok (.ldc 126, 2) := by decide +kernel
theorem dX10_append_14 : decode cX10_append 14 = .ok (.invokespecial 128, 3) := by decide +kernel
theorem dX10_append_17 : decode cX10_append 17 = .ok (.athrow, 1) := by decide +kernel
theorem dX10_append_18 : decode cX10_append 18 = .ok (.aload_n 0, 1) := by decide +kernel
theorem dX10_append_19 : decode cX10_append 19 = .ok (.iload_n 1, 1) := by decide +kernel
theorem dX10_append_20 : decode cX10_append 20 = .ok (.invokevirtual 257, 3) := by decide +kernel
theorem dX10_append_23 : decode cX10_append 23 = .ok (.astore_n 3, 1) := by decide +kernel
theorem dX10_append_24 : decode cX10_append 24 = .ok (.aload_n 3, 1) := by decide +kernel
theorem dX10_append_25 : decode cX10_append 25 = .ok (.ifnonnull 8, 3) := by decide +kernel
theorem dX10_append_28 : decode cX10_append 28 = .ok (.aload_n 0, 1) := by decide +kernel
theorem dX10_append_29 : decode cX10_append 29 = .ok (.invokevirtual 304, 3) := by decide +kernel
theorem dX10_append_32 : decode cX10_append 32 = .ok (.ireturn, 1) := by decide +kernel
set_option maxRecDepth 20000 in
theorem ggX10_key_X10_tapeHas : GoodIn wsX10_key wsX10_tapeHas := goodIn_r _ [10, 11, 341, 342, 343, 344, 345, 346, 347, 348, 349, 350, 351, 352, 353, 354, 355, 356, 357, 358] (by decide +kernel) (by decide +kernel)
set_option maxRecDepth 20000 in
theorem gX10_key_X10_tapeHas : GoodIn wsX10_key (wsV RX10 120 RX10 yX10_tapeHas wsX10_tapeHas) := goodIn_app (goodIn_of _ (by decide +kernel)) ggX10_key_X10_tapeHas
set_option maxRecDepth 20000 in
theorem ggX10_key_X10_pathAt : GoodIn wsX10_key wsX10_pathAt := goodIn_r _ [15, 16, 341, 342, 343, 344, 345, 346, 347, 348, 349, 350, 351, 352, 353, 354, 355, 356, 357, 358] (by decide +kernel) (by decide +kernel)
set_option maxRecDepth 20000 in
theorem gX10_key_X10_pathAt : GoodIn wsX10_key (wsV RX10 257 RX10 yX10_pathAt wsX10_pathAt) := goodIn_app (goodIn_of _ (by decide +kernel)) ggX10_key_X10_pathAt
set_option maxRecDepth 20000 in
theorem ggX10_key_X10_refusedUnread : GoodIn wsX10_key wsX10_refusedUnread := goodIn_r _ [24, 11, 4, 25, 26, 27, 28, 29, 30, 341, 342, 343, 344, 345, 346, 347, 348, 349, 350, 351, 352, 353, 354, 355, 356, 357, 358, 359, 360, 361, 362, 363, 364, 365] (by decide +kernel) (by decide +kernel)
set_option maxRecDepth 20000 in
theorem gX10_key_X10_refusedUnread : GoodIn wsX10_key (wsV RX10 304 RX10 yX10_refusedUnread wsX10_refusedUnread) := goodIn_app (goodIn_of _ (by decide +kernel)) ggX10_key_X10_refusedUnread
theorem dX10_key_0 : decode cX10_key 0 = .ok (.aload_n 0, 1) := by decide +kernel
theorem dX10_key_1 : decode cX10_key 1 = .ok (.iload_n 3, 1) := by decide +kernel
theorem dX10_key_2 : decode cX10_key 2 = .ok (.invokevirtual 120, 3) := by decide +kernel
theorem dX10_key_5 : decode cX10_key 5 = .ok (.ifCond .ne 13, 3) := by decide +kernel
theorem dX10_key_8 : decode cX10_key 8 = .ok (.new 124, 3) := by decide +kernel
theorem dX10_key_11 : decode cX10_key 11 = .ok (.dup, 1) := by decide +kernel
theorem dX10_key_12 : decode cX10_key 12 = .ok (.ldc 126, 2) := by decide +kernel
theorem dX10_key_14 : decode cX10_key 14 = .ok (.invokespecial 128, 3) := by decide +kernel
theorem dX10_key_17 : decode cX10_key 17 = .ok (.athrow, 1) := by decide +kernel
theorem dX10_key_18 : decode cX10_key 18 = .ok (.aload_n 0, 1) := by decide +kernel
theorem dX10_key_19 : decode cX10_key 19 = .ok (.iload_n 1, 1) := by decide +kernel
theorem dX10_key_20 : decode cX10_key 20 = .ok (.invokevirtual 257, 3) := by decide +kernel
theorem dX10_key_23 : decode cX10_key 23 = .ok (.astore 4, 2) := by decide +kernel
theorem dX10_key_25 : decode cX10_key 25 = .ok (.aload 4, 2) := by decide +kernel
theorem dX10_key_27 : decode cX10_key 27 = .ok (.ifnull 10, 3) := by decide +kernel
theorem dX10_key_37 : decode cX10_key 37 = .ok (.aload_n 0, 1) := by decide +kernel
theorem dX10_key_38 : decode cX10_key 38 = .ok (.invokevirtual 304, 3) := by decide +kernel
theorem dX10_key_41 : decode cX10_key 41 = .ok (.ireturn, 1) := by decide +kernel
set_option maxRecDepth 20000 in
theorem ggX10_readData_X1_read : GoodIn wsX10_readData wsX1_read := goodIn_r _ [8, 9, 10, 11, 12, 13, 14, 15, 16, 17, 18, 19, 20, 21, 22, 23, 24, 25, 26, 27, 28, 29, 30, 31, 32, 33, 34, 35, 36, 37, 38, 39, 40, 41, 42, 43, 44, 45, 46, 47, 48, 49, 50, 51, 52, 53, 54, 55, 56, 57, 7, 58, 59, 60, 61, 62, 63, 64, 65, 66, 67, 68, 69, 70, 71, 72, 73, 74, 75, 76, 77, 78, 79, 80, 81, 82, 83, 84, 85, 86, 87, 88, 89, 90, 91, 92, 93, 94, 95, 96, 97, 98, 99, 100, 101, 102, 103, 104, 105, 106, 107, 108, 109, 110, 111, 112, 113, 114, 115, 116, 117, 118, 119, 120, 121, 154, 155, 156, 157, 158, 159, 160, 161, 162, 163, 164, 165, 166, 167, 168] (by decide +kernel) (by decide +kernel)
set_option maxRecDepth 20000 in
theorem gX10_readData_X1_read : GoodIn wsX10_readData (wsV RX10 376 RX1 yX1_read wsX1_read) := goodIn_app (goodIn_of _ (by decide +kernel)) ggX10_readData_X1_read
set_option maxRecDepth 20000 in
theorem ggX10_readData_X10_textWasRead : GoodIn wsX10_readData wsX10_textWasRead := goodIn_r _ [125, 126, 127, 128, 129, 130, 131, 132, 133, 134, 135, 136, 137, 138, 139, 140, 141, 142, 143, 144, 145, 146, 147, 148, 149, 150, 151, 152, 153, 155, 156, 157, 158, 159, 160, 161, 162, 163, 169, 170, 171, 172, 173, 174, 175] (by decide +kernel) (by decide +kernel)
set_option maxRecDepth 20000 in
theorem gX10_readData_X10_textWasRead : GoodIn wsX10_readData (wsV RX10 158 RX10 yX10_textWasRead wsX10_textWasRead) := goodIn_app (goodIn_of _ (by decide +kernel)) ggX10_readData_X10_textWasRead
theorem dX10_readData_0 : decode cX10_readData 0 = .ok (.aload_n 0, 1) := by decide +kernel
theorem dX10_readData_1 : decode cX10_readData 1 = .ok (.getfield 40, 3) := by decide +kernel
theorem dX10_readData_4 : decode cX10_readData 4 = .ok (.aload_n 0, 1) := by decide +kernel
theorem dX10_readData_5 : decode cX10_readData 5 = .ok (.getfield 9, 3) := by decide +kernel
theorem dX10_readData_8 : decode cX10_readData 8 = .ok (.iload_n 1, 1) := by decide +kernel
theorem dX10_readData_9 : decode cX10_readData 9 = .ok (.aload_n 0, 1) := by decide +kernel
theorem dX10_readData_10 : decode cX10_readData 10 = .ok (.getfield 56, 3) := by decide +kernel
theorem dX10_readData_13 : decode cX10_readData 13 = .ok (.invokevirtual 376, 3) := by decide +kernel
theorem dX10_readData_16 : decode cX10_readData 16 = .ok (.istore_n 2, 1) := by decide +kernel
theorem dX10_readData_17 : decode cX10_readData 17 = .ok (.aload_n 0, 1) := by decide +kernel
theorem dX10_readData_18 : decode cX10_readData 18 = .ok (.iload_n 2, 1) := by decide +kernel
theorem dX10_readData_19 : decode cX10_readData 19 = .ok (.invokevirtual 158, 3) := by decide +kernel
theorem dX10_readData_22 : decode cX10_readData 22 = .ok (.iload_n 2, 1) := by decide +kernel
theorem dX10_readData_23 : decode cX10_readData 23 = .ok (.ireturn, 1) := by decide +kernel
set_option maxRecDepth 20000 in
theorem ggX10_textWasRead_X6_refuse : GoodIn wsX10_textWasRead wsX6_refuse := goodIn_r _ [9, 10, 38, 39, 40, 41, 42, 43, 44] (by decide +kernel) (by decide +kernel)
set_option maxRecDepth 20000 in
theorem gX10_textWasRead_X6_refuse : GoodIn wsX10_textWasRead (wsV RX10 348 RX6 yX6_refuse wsX6_refuse) := goodIn_app (goodIn_of _ (by decide +kernel)) ggX10_textWasRead_X6_refuse
theorem dX10_textWasRead_0 : decode cX10_textWasRead 0 = .ok (.aload_n 0, 1) := by decide +kernel
theorem dX10_textWasRead_1 : decode cX10_textWasRead 1 = .ok (.iconst 0, 1) := by decide +kernel
theorem dX10_textWasRead_2 : decode cX10_textWasRead 2 = .ok (.putfield 114, 3) := by decide +kernel
theorem dX10_textWasRead_5 : decode cX10_textWasRead 5 = .ok (.aload_n 0, 1) := by decide +kernel
theorem dX10_textWasRead_6 : decode cX10_textWasRead 6 = .ok (.aload_n 0, 1) := by decide +kernel
theorem dX10_textWasRead_7 : decode cX10_textWasRead 7 = .ok (.getfield 31, 3) := by decide +kernel
theorem dX10_textWasRead_10 : decode cX10_textWasRead 10 = .ok (.getfield 379, 3) := by decide +kernel
theorem dX10_textWasRead_13 : decode cX10_textWasRead 13 = .ok (.putfield 13, 3) := by decide +kernel
theorem dX10_textWasRead_16 : decode cX10_textWasRead 16 = .ok (.iload_n 1, 1) := by decide +kernel
theorem dX10_textWasRead_17 : decode cX10_textWasRead 17 = .ok (.ifCond .eq 11, 3) := by decide +kernel
theorem dX10_textWasRead_20 : decode cX10_textWasRead 20 = .ok (.aload_n 0, 1) := by decide +kernel
theorem dX10_textWasRead_21 : decode cX10_textWasRead 21 = .ok (.getfield 63, 3) := by decide +kernel
theorem dX10_textWasRead_24 : decode cX10_textWasRead 24 = .ok (.iconst 0, 1) := by decide +kernel
theorem dX10_textWasRead_25 : decode cX10_textWasRead 25 = .ok (.invokevirtual 348, 3) := by decide +kernel
theorem dX10_textWasRead_28 : decode cX10_textWasRead 28 = .ok (.return_, 1) := by decide +kernel
set_option maxRecDepth 20000 in
theorem ggX10_refusedUnread_X6_refuse : GoodIn wsX10_refusedUnread wsX6_refuse := goodIn_r _ [7, 8, 27, 28, 29, 30, 31, 32, 33] (by decide +kernel) (by decide +kernel)
set_option maxRecDepth 20000 in
theorem gX10_refusedUnread_X6_refuse : GoodIn wsX10_refusedUnread (wsV RX10 348 RX6 yX6_refuse wsX6_refuse) := goodIn_app (goodIn_of _ (by decide +kernel)) ggX10_refusedUnread_X6_refuse
theorem dX10_refusedUnread_0 : decode cX10_refusedUnread 0 = .ok (.aload_n 0, 1) := by decide +kernel
theorem dX10_refusedUnread_1 : decode cX10_refusedUnread 1 = .ok (.iconst 0, 1) := by decide +kernel
theorem dX10_refusedUnread_2 : decode cX10_refusedUnread 2 = .ok (.putfield 114, 3) := by decide +kernel
theorem dX10_refusedUnread_5 : decode cX10_refusedUnread 5 = .ok (.aload_n 0, 1) := by decide +kernel
theorem dX10_refusedUnread_6 : decode cX10_refusedUnread 6 = .ok (.getfield 63, 3) := by decide +kernel
theorem dX10_refusedUnread_9 : decode cX10_refusedUnread 9 = .ok (.iconst 1, 1) := by decide +kernel
theorem dX10_refusedUnread_10 : decode cX10_refusedUnread 10 = .ok (.invokevirtual 348, 3) := by decide +kernel
theorem dX10_refusedUnread_13 : decode cX10_refusedUnread 13 = .ok (.iconst (-1), 1) := by decide +kernel
theorem dX10_refusedUnread_14 : decode cX10_refusedUnread 14 = .ok (.ireturn, 1) := by decide +kernel
set_option maxRecDepth 20000 in
theorem ggX10_mustBeThere_X9_has : GoodIn wsX10_mustBeThere wsX9_has := goodIn_r _ [8, 9, 10, 36, 37, 38, 39, 40] (by decide +kernel) (by decide +kernel)
set_option maxRecDepth 20000 in
theorem gX10_mustBeThere_X9_has : GoodIn wsX10_mustBeThere (wsV RX10 341 RX9 yX9_has wsX9_has) := goodIn_app (goodIn_of _ (by decide +kernel)) ggX10_mustBeThere_X9_has
theorem dX10_mustBeThere_0 : decode cX10_mustBeThere 0 = .ok (.aload_n 0, 1) := by decide +kernel
theorem dX10_mustBeThere_1 : decode cX10_mustBeThere 1 = .ok (.getfield 63, 3) := by decide +kernel
theorem dX10_mustBeThere_4 : decode cX10_mustBeThere 4 = .ok (.getfield 107, 3) := by decide +kernel
theorem dX10_mustBeThere_7 : decode cX10_mustBeThere 7 = .ok (.iload_n 1, 1) := by decide +kernel
theorem dX10_mustBeThere_8 : decode cX10_mustBeThere 8 = .ok (.invokevirtual 341, 3) := by decide +kernel
theorem dX10_mustBeThere_11 : decode cX10_mustBeThere 11 = .ok (.ifCond .ne 14, 3) := by decide +kernel
theorem dX10_mustBeThere_14 : decode cX10_mustBeThere 14 = .ok (.new 149, 3) := by decide +kernel
theorem dX10_mustBeThere_17 : decode cX10_mustBeThere 17 = .ok (.dup, 1) := by decide +kernel
theorem dX10_mustBeThere_18 : decode cX10_mustBeThere 18 = .ok (.ldc_w 404, 3) := by decide +kernel
theorem dX10_mustBeThere_21 : decode cX10_mustBeThere 21 = .ok (.invokespecial 153, 3) := by decide +kernel
theorem dX10_mustBeThere_24 : decode cX10_mustBeThere 24 = .ok (.athrow, 1) := by decide +kernel
theorem dX10_mustBeThere_25 : decode cX10_mustBeThere 25 = .ok (.return_, 1) := by decide +kernel
set_option maxRecDepth 20000 in
theorem ggX10_ofText_X7_byteAt : GoodIn wsX10_ofText wsX7_byteAt := goodIn_r _ [8, 9, 10, 29, 30] (by decide +kernel) (by decide +kernel)
set_option maxRecDepth 20000 in
theorem gX10_ofText_X7_byteAt : GoodIn wsX10_ofText (wsV RX10 411 RX7 yX7_byteAt wsX7_byteAt) := goodIn_app (goodIn_of _ (by decide +kernel)) ggX10_ofText_X7_byteAt
theorem dX10_ofText_0 : decode cX10_ofText 0 = .ok (.iload_n 1, 1) := by decide +kernel
theorem dX10_ofText_1 : decode cX10_ofText 1 = .ok (.iconst (-1), 1) := by decide +kernel
theorem dX10_ofText_2 : decode cX10_ofText 2 = .ok (.if_icmp .ne 11, 3) := by decide +kernel
theorem dX10_ofText_5 : decode cX10_ofText 5 = .ok (.aload_n 0, 1) := by decide +kernel
theorem dX10_ofText_6 : decode cX10_ofText 6 = .ok (.getfield 92, 3) := by decide +kernel
theorem dX10_ofText_9 : decode cX10_ofText 9 = .ok (.getfield 406, 3) := by decide +kernel
theorem dX10_ofText_12 : decode cX10_ofText 12 = .ok (.ireturn, 1) := by decide +kernel
theorem dX10_ofText_13 : decode cX10_ofText 13 = .ok (.iload_n 1, 1) := by decide +kernel
theorem dX10_ofText_14 : decode cX10_ofText 14 = .ok (.ifCond .lt 14, 3) := by decide +kernel
theorem dX10_ofText_17 : decode cX10_ofText 17 = .ok (.iload_n 1, 1) := by decide +kernel
theorem dX10_ofText_18 : decode cX10_ofText 18 = .ok (.aload_n 0, 1) := by decide +kernel
theorem dX10_ofText_19 : decode cX10_ofText 19 = .ok (.getfield 92, 3) := by decide +kernel
theorem dX10_ofText_22 : decode cX10_ofText 22 = .ok (.getfield 406, 3) := by decide +kernel
theorem dX10_ofText_25 : decode cX10_ofText 25 = .ok (.if_icmp .lt 14, 3) := by decide +kernel
theorem dX10_ofText_28 : decode cX10_ofText 28 = .ok (.new 149, 3) := by decide +kernel
theorem dX10_ofText_31 : decode cX10_ofText 31 = .ok (.dup, 1) := by decide +kernel
theorem dX10_ofText_32 : decode cX10_ofText 32 = .ok (.ldc_w 409, 3) := by decide +kernel
theorem dX10_ofText_35 : decode cX10_ofText 35 = .ok (.invokespecial 153, 3) := by decide +kernel
theorem dX10_ofText_38 : decode cX10_ofText 38 = .ok (.athrow, 1) := by decide +kernel
theorem dX10_ofText_39 : decode cX10_ofText 39 = .ok (.aload_n 0, 1) := by decide +kernel
theorem dX10_ofText_40 : decode cX10_ofText 40 = .ok (.getfield 92, 3) := by decide +kernel
theorem dX10_ofText_43 : decode cX10_ofText 43 = .ok (.iload_n 1, 1) := by decide +kernel
theorem dX10_ofText_44 : decode cX10_ofText 44 = .ok (.invokevirtual 411, 3) := by decide +kernel
theorem dX10_ofText_47 : decode cX10_ofText 47 = .ok (.ireturn, 1) := by decide +kernel
theorem dX10_lettersOf_0 : decode cX10_lettersOf 0 = .ok (.iconst 0, 1) := by decide +kernel
theorem dX10_lettersOf_1 : decode cX10_lettersOf 1 = .ok (.istore_n 1, 1) := by decide +kernel
theorem dX10_lettersOf_2 : decode cX10_lettersOf 2 = .ok (.iload_n 0, 1) := by decide +kernel
theorem dX10_lettersOf_3 : decode cX10_lettersOf 3 = .ok (.istore_n 2, 1) := by decide +kernel
theorem dX10_lettersOf_4 : decode cX10_lettersOf 4 = .ok (.iconst 0, 1) := by decide +kernel
theorem dX10_lettersOf_5 : decode cX10_lettersOf 5 = .ok (.istore_n 3, 1) := by decide +kernel
theorem dX10_lettersOf_6 : decode cX10_lettersOf 6 = .ok (.iload_n 3, 1) := by decide +kernel
theorem dX10_lettersOf_7 : decode cX10_lettersOf 7 = .ok (.bipush 6, 2) := by decide +kernel
theorem dX10_lettersOf_9 : decode cX10_lettersOf 9 = .ok (.if_icmp .ge 20, 3) := by decide +kernel
theorem dX10_lettersOf_12 : decode cX10_lettersOf 12 = .ok (.iload_n 2, 1) := by decide +kernel
theorem dX10_lettersOf_13 : decode cX10_lettersOf 13 = .ok (.ifCond .le 16, 3) := by decide +kernel
theorem dX10_lettersOf_29 : decode cX10_lettersOf 29 = .ok (.iload_n 1, 1) := by decide +kernel
theorem dX10_lettersOf_30 : decode cX10_lettersOf 30 = .ok (.ireturn, 1) := by decide +kernel
