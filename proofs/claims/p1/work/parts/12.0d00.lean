set_option maxRecDepth 100000 in
theorem ggX1_read_X8_begin : GoodIn wsX1_read wsX8_begin := (gi_cons 6 rfl rfl (gi_cons 7 rfl rfl (gi_cons 8 rfl rfl (gi_cons 9 rfl rfl (gi_cons 10 rfl rfl (gi_cons 11 rfl rfl (gi_cons 12 rfl rfl (gi_cons 13 rfl rfl (gi_cons 14 rfl rfl (gi_cons 15 rfl rfl (gi_cons 16 rfl rfl (gi_cons 17 rfl rfl (gi_cons 18 rfl rfl (gi_cons 19 rfl rfl (gi_cons 20 rfl rfl (gi_cons 21 rfl rfl (gi_cons 5 rfl rfl (gi_cons 22 rfl rfl (gi_cons 23 rfl rfl (gi_cons 24 rfl rfl (gi_cons 25 rfl rfl (gi_cons 26 rfl rfl (gi_cons 27 rfl rfl (gi_cons 28 rfl rfl (gi_cons 29 rfl rfl (gi_cons 30 rfl rfl (gi_cons 31 rfl rfl (gi_cons 32 rfl rfl (gi_cons 33 rfl rfl (gi_cons 34 rfl rfl (gi_cons 35 rfl rfl (gi_cons 36 rfl rfl (gi_cons 37 rfl rfl (gi_cons 38 rfl rfl (gi_cons 39 rfl rfl (gi_cons 40 rfl rfl (gi_cons 116 rfl rfl (gi_cons 117 rfl rfl (gi_cons 118 rfl rfl (gi_cons 119 rfl rfl (gi_cons 120 rfl rfl (gi_cons 121 rfl rfl (gi_cons 122 rfl rfl (gi_cons 123 rfl rfl (gi_cons 124 rfl rfl gi_nil)))))))))))))))))))))))))))))))))))))))))))))
set_option maxRecDepth 20000 in
theorem gX1_read_X8_begin : GoodIn wsX1_read (wsV RX1 15 RX8 yX8_begin wsX8_begin) := goodIn_app (goodIn_of _ (by decide +kernel)) ggX1_read_X8_begin
set_option maxRecDepth 100000 in
theorem ggX1_read_X9_clear : GoodIn wsX1_read wsX9_clear := (gi_cons 45 rfl rfl (gi_cons 46 rfl rfl (gi_cons 125 rfl rfl (gi_cons 126 rfl rfl (gi_cons 127 rfl rfl (gi_cons 128 rfl rfl (gi_cons 129 rfl rfl gi_nil)))))))
set_option maxRecDepth 20000 in
theorem gX1_read_X9_clear : GoodIn wsX1_read (wsV RX1 21 RX9 yX9_clear wsX9_clear) := goodIn_app (goodIn_of _ (by decide +kernel)) ggX1_read_X9_clear
set_option maxRecDepth 100000 in
theorem ggX1_read_X1_readThing : GoodIn wsX1_read wsX1_readThing := (gi_cons 51 rfl rfl (gi_cons 1 rfl rfl (gi_cons 52 rfl rfl (gi_cons 53 rfl rfl (gi_cons 50 rfl rfl (gi_cons 54 rfl rfl (gi_cons 55 rfl rfl (gi_cons 56 rfl rfl (gi_cons 57 rfl rfl (gi_cons 5 rfl rfl (gi_cons 58 rfl rfl (gi_cons 15 rfl rfl (gi_cons 17 rfl rfl (gi_cons 31 rfl rfl (gi_cons 16 rfl rfl (gi_cons 19 rfl rfl (gi_cons 59 rfl rfl (gi_cons 60 rfl rfl (gi_cons 61 rfl rfl (gi_cons 62 rfl rfl (gi_cons 63 rfl rfl (gi_cons 64 rfl rfl (gi_cons 65 rfl rfl (gi_cons 66 rfl rfl (gi_cons 67 rfl rfl (gi_cons 68 rfl rfl (gi_cons 69 rfl rfl (gi_cons 70 rfl rfl (gi_cons 71 rfl rfl (gi_cons 72 rfl rfl (gi_cons 73 rfl rfl (gi_cons 33 rfl rfl (gi_cons 74 rfl rfl (gi_cons 75 rfl rfl (gi_cons 76 rfl rfl (gi_cons 77 rfl rfl (gi_cons 32 rfl rfl (gi_cons 78 rfl rfl (gi_cons 79 rfl rfl (gi_cons 80 rfl rfl (gi_cons 81 rfl rfl (gi_cons 14 rfl rfl (gi_cons 18 rfl rfl (gi_cons 82 rfl rfl (gi_cons 83 rfl rfl (gi_cons 84 rfl rfl (gi_cons 85 rfl rfl (gi_cons 86 rfl rfl (gi_cons 87 rfl rfl (gi_cons 88 rfl rfl (gi_cons 44 rfl rfl (gi_cons 89 rfl rfl (gi_cons 46 rfl rfl (gi_cons 90 rfl rfl (gi_cons 91 rfl rfl (gi_cons 92 rfl rfl (gi_cons 93 rfl rfl (gi_cons 94 rfl rfl (gi_cons 95 rfl rfl (gi_cons 96 rfl rfl (gi_cons 97 rfl rfl (gi_cons 98 rfl rfl (gi_cons 99 rfl rfl (gi_cons 47 rfl rfl (gi_cons 48 rfl rfl (gi_cons 49 rfl rfl (gi_cons 100 rfl rfl (gi_cons 101 rfl rfl (gi_cons 102 rfl rfl (gi_cons 103 rfl rfl (gi_cons 104 rfl rfl (gi_cons 105 rfl rfl (gi_cons 106 rfl rfl (gi_cons 107 rfl rfl (gi_cons 108 rfl rfl (gi_cons 109 rfl rfl (gi_cons 110 rfl rfl (gi_cons 111 rfl rfl (gi_cons 112 rfl rfl (gi_cons 113 rfl rfl (gi_cons 114 rfl rfl (gi_cons 115 rfl rfl (gi_cons 116 rfl rfl (gi_cons 117 rfl rfl (gi_cons 118 rfl rfl (gi_cons 119 rfl rfl (gi_cons 120 rfl rfl (gi_cons 121 rfl rfl (gi_cons 122 rfl rfl (gi_cons 123 rfl rfl (gi_cons 124 rfl rfl (gi_cons 125 rfl rfl (gi_cons 126 rfl rfl (gi_cons 127 rfl rfl (gi_cons 128 rfl rfl (gi_cons 129 rfl rfl gi_nil))))))))))))))))))))))))))))))))))))))))))))))))))))))))))))))))))))))))))))))))))))))))))))))))
set_option maxRecDepth 20000 in
theorem gX1_read_X1_readThing : GoodIn wsX1_read (wsV RX1 26 RX1 yX1_readThing wsX1_readThing) := goodIn_app (goodIn_of _ (by decide +kernel)) ggX1_read_X1_readThing
set_option maxRecDepth 100000 in
theorem ggX1_read_X8_fail : GoodIn wsX1_read wsX8_fail := (gi_cons 58 rfl rfl (gi_cons 15 rfl rfl (gi_cons 17 rfl rfl (gi_cons 31 rfl rfl (gi_cons 16 rfl rfl (gi_cons 19 rfl rfl (gi_cons 116 rfl rfl (gi_cons 117 rfl rfl (gi_cons 118 rfl rfl (gi_cons 119 rfl rfl (gi_cons 120 rfl rfl (gi_cons 121 rfl rfl (gi_cons 122 rfl rfl (gi_cons 123 rfl rfl (gi_cons 124 rfl rfl gi_nil)))))))))))))))
set_option maxRecDepth 20000 in
theorem gX1_read_X8_fail : GoodIn wsX1_read (wsV RX1 34 RX8 yX8_fail wsX8_fail) := goodIn_app (goodIn_of _ (by decide +kernel)) ggX1_read_X8_fail
theorem dX1_read_0 : decode cX1_read 0 = .ok (.aload_n 0, 1) := by decide +kernel
theorem dX1_read_1 : decode cX1_read 1 = .ok (.getfield 9, 3) := by decide +kernel
theorem dX1_read_4 : decode cX1_read 4 = .ok (.aload_n 1, 1) := by decide +kernel
theorem dX1_read_5 : decode cX1_read 5 = .ok (.iload_n 2, 1) := by decide +kernel
theorem dX1_read_6 : decode cX1_read 6 = .ok (.invokevirtual 15, 3) := by decide +kernel
theorem dX1_read_9 : decode cX1_read 9 = .ok (.aload_n 3, 1) := by decide +kernel
theorem dX1_read_10 : decode cX1_read 10 = .ok (.invokevirtual 21, 3) := by decide +kernel
theorem dX1_read_13 : decode cX1_read 13 = .ok (.aload_n 0, 1) := by decide +kernel
theorem dX1_read_14 : decode cX1_read 14 = .ok (.aload_n 3, 1) := by decide +kernel
theorem dX1_read_15 : decode cX1_read 15 = .ok (.iconst 0, 1) := by decide +kernel
theorem dX1_read_16 : decode cX1_read 16 = .ok (.iconst 0, 1) := by decide +kernel
theorem dX1_read_17 : decode cX1_read 17 = .ok (.invokevirtual 26, 3) := by decide +kernel
theorem dX1_read_20 : decode cX1_read 20 = .ok (.aload_n 0, 1) := by decide +kernel
theorem dX1_read_21 : decode cX1_read 21 = .ok (.getfield 9, 3) := by decide +kernel
theorem dX1_read_24 : decode cX1_read 24 = .ok (.getfield 30, 3) := by decide +kernel
theorem dX1_read_27 : decode cX1_read 27 = .ok (.sipush 259, 3) := by decide +kernel
theorem dX1_read_30 : decode cX1_read 30 = .ok (.if_icmp .eq 11, 3) := by decide +kernel
theorem dX1_read_33 : decode cX1_read 33 = .ok (.aload_n 0, 1) := by decide +kernel
theorem dX1_read_34 : decode cX1_read 34 = .ok (.getfield 9, 3) := by decide +kernel
theorem dX1_read_37 : decode cX1_read 37 = .ok (.iconst 1, 1) := by decide +kernel
theorem dX1_read_38 : decode cX1_read 38 = .ok (.invokevirtual 34, 3) := by decide +kernel
theorem dX1_read_41 : decode cX1_read 41 = .ok (.aload_n 0, 1) := by decide +kernel
theorem dX1_read_42 : decode cX1_read 42 = .ok (.getfield 9, 3) := by decide +kernel
theorem dX1_read_45 : decode cX1_read 45 = .ok (.getfield 38, 3) := by decide +kernel
theorem dX1_read_48 : decode cX1_read 48 = .ok (.ireturn, 1) := by decide +kernel
set_option maxRecDepth 100000 in
theorem ggX1_readThing_X1_canBegin : GoodIn wsX1_readThing wsX1_canBegin := (gi_cons 5 rfl rfl gi_nil)
set_option maxRecDepth 20000 in
theorem gX1_readThing_X1_canBegin : GoodIn wsX1_readThing (va_wsS RX1 41 yX1_canBegin wsX1_canBegin) := goodIn_app (goodIn_of _ (by decide +kernel)) ggX1_readThing_X1_canBegin
set_option maxRecDepth 100000 in
theorem ggX1_readThing_X8_fail : GoodIn wsX1_readThing wsX8_fail := (gi_cons 10 rfl rfl (gi_cons 11 rfl rfl (gi_cons 12 rfl rfl (gi_cons 13 rfl rfl (gi_cons 14 rfl rfl (gi_cons 15 rfl rfl (gi_cons 82 rfl rfl (gi_cons 83 rfl rfl (gi_cons 84 rfl rfl (gi_cons 85 rfl rfl (gi_cons 86 rfl rfl (gi_cons 87 rfl rfl (gi_cons 88 rfl rfl (gi_cons 89 rfl rfl (gi_cons 90 rfl rfl gi_nil)))))))))))))))
set_option maxRecDepth 20000 in
theorem gX1_readThing_X8_fail : GoodIn wsX1_readThing (wsV RX1 34 RX8 yX8_fail wsX8_fail) := goodIn_app (goodIn_of _ (by decide +kernel)) ggX1_readThing_X8_fail
theorem dX1_readThing_0 : decode cX1_readThing 0 = .ok (.aload_n 0, 1) := by decide +kernel
theorem dX1_readThing_1 : decode cX1_readThing 1 = .ok (.getfield 9, 3) := by decide +kernel
theorem dX1_readThing_4 : decode cX1_readThing 4 = .ok (.getfield 30, 3) := by decide +kernel
theorem dX1_readThing_7 : decode cX1_readThing 7 = .ok (.invokestatic 41, 3) := by decide +kernel
theorem dX1_readThing_10 : decode cX1_readThing 10 = .ok (.ifCond .ne 14, 3) := by decide +kernel
theorem dX1_readThing_13 : decode cX1_readThing 13 = .ok (.aload_n 0, 1) := by decide +kernel
theorem dX1_readThing_14 : decode cX1_readThing 14 = .ok (.getfield 9, 3) := by decide +kernel
theorem dX1_readThing_17 : decode cX1_readThing 17 = .ok (.iconst 1, 1) := by decide +kernel
theorem dX1_readThing_18 : decode cX1_readThing 18 = .ok (.invokevirtual 34, 3) := by decide +kernel
theorem dX1_readThing_21 : decode cX1_readThing 21 = .ok (.goto 122, 3) := by decide +kernel
theorem dX1_readThing_143 : decode cX1_readThing 143 = .ok (.return_, 1) := by decide +kernel
theorem dX1_canBegin_0 : decode cX1_canBegin 0 = .ok (.iload_n 0, 1) := by decide +kernel
theorem dX1_canBegin_1 : decode cX1_canBegin 1 = .ok (.bipush 45, 2) := by decide +kernel
theorem dX1_canBegin_3 : decode cX1_canBegin 3 = .ok (.if_icmp .eq 29, 3) := by decide +kernel
theorem dX1_canBegin_6 : decode cX1_canBegin 6 = .ok (.iload_n 0, 1) := by decide +kernel
theorem dX1_canBegin_7 : decode cX1_canBegin 7 = .ok (.sipush 257, 3) := by decide +kernel
theorem dX1_canBegin_10 : decode cX1_canBegin 10 = .ok (.if_icmp .eq 22, 3) := by decide +kernel
theorem dX1_canBegin_13 : decode cX1_canBegin 13 = .ok (.iload_n 0, 1) := by decide +kernel
theorem dX1_canBegin_14 : decode cX1_canBegin 14 = .ok (.sipush 256, 3) := by decide +kernel
theorem dX1_canBegin_17 : decode cX1_canBegin 17 = .ok (.if_icmp .eq 15, 3) := by decide +kernel
theorem dX1_canBegin_20 : decode cX1_canBegin 20 = .ok (.iload_n 0, 1) := by decide +kernel
theorem dX1_canBegin_21 : decode cX1_canBegin 21 = .ok (.bipush 91, 2) := by decide +kernel
theorem dX1_canBegin_23 : decode cX1_canBegin 23 = .ok (.if_icmp .eq 9, 3) := by decide +kernel
theorem dX1_canBegin_26 : decode cX1_canBegin 26 = .ok (.iload_n 0, 1) := by decide +kernel
theorem dX1_canBegin_27 : decode cX1_canBegin 27 = .ok (.bipush 123, 2) := by decide +kernel
theorem dX1_canBegin_29 : decode cX1_canBegin 29 = .ok (.if_icmp .ne 7, 3) := by decide +kernel
theorem dX1_canBegin_36 : decode cX1_canBegin 36 = .ok (.iconst 0, 1) := by decide +kernel
theorem dX1_canBegin_37 : decode cX1_canBegin 37 = .ok (.ireturn, 1) := by decide +kernel
theorem dX4_clear_0 : decode cX4_clear 0 = .ok (.aload_n 0, 1) := by decide +kernel
theorem dX4_clear_1 : decode cX4_clear 1 = .ok (.iconst 0, 1) := by decide +kernel
theorem dX4_clear_2 : decode cX4_clear 2 = .ok (.putfield 43, 3) := by decide +kernel
theorem dX4_clear_5 : decode cX4_clear 5 = .ok (.aload_n 0, 1) := by decide +kernel
theorem dX4_clear_6 : decode cX4_clear 6 = .ok (.iconst 0, 1) := by decide +kernel
theorem dX4_clear_7 : decode cX4_clear 7 = .ok (.putfield 47, 3) := by decide +kernel
theorem dX4_clear_10 : decode cX4_clear 10 = .ok (.aload_n 0, 1) := by decide +kernel
theorem dX4_clear_11 : decode cX4_clear 11 = .ok (.iconst 0, 1) := by decide +kernel
theorem dX4_clear_12 : decode cX4_clear 12 = .ok (.putfield 50, 3) := by decide +kernel
theorem dX4_clear_15 : decode cX4_clear 15 = .ok (.aload_n 0, 1) := by decide +kernel
theorem dX4_clear_16 : decode cX4_clear 16 = .ok (.iconst 0, 1) := by decide +kernel
theorem dX4_clear_17 : decode cX4_clear 17 = .ok (.putfield 53, 3) := by decide +kernel
theorem dX4_clear_20 : decode cX4_clear 20 = .ok (.return_, 1) := by decide +kernel
set_option maxRecDepth 100000 in
theorem ggX5_read_X8_begin : GoodIn wsX5_read wsX8_begin := (gi_cons 6 rfl rfl (gi_cons 7 rfl rfl (gi_cons 8 rfl rfl (gi_cons 9 rfl rfl (gi_cons 10 rfl rfl (gi_cons 11 rfl rfl (gi_cons 12 rfl rfl (gi_cons 13 rfl rfl (gi_cons 14 rfl rfl (gi_cons 15 rfl rfl (gi_cons 16 rfl rfl (gi_cons 17 rfl rfl (gi_cons 18 rfl rfl (gi_cons 19 rfl rfl (gi_cons 20 rfl rfl (gi_cons 21 rfl rfl (gi_cons 5 rfl rfl (gi_cons 22 rfl rfl (gi_cons 23 rfl rfl (gi_cons 24 rfl rfl (gi_cons 25 rfl rfl (gi_cons 26 rfl rfl (gi_cons 27 rfl rfl (gi_cons 28 rfl rfl (gi_cons 29 rfl rfl (gi_cons 30 rfl rfl (gi_cons 31 rfl rfl (gi_cons 32 rfl rfl (gi_cons 33 rfl rfl (gi_cons 34 rfl rfl (gi_cons 35 rfl rfl (gi_cons 36 rfl rfl (gi_cons 37 rfl rfl (gi_cons 38 rfl rfl (gi_cons 39 rfl rfl (gi_cons 40 rfl rfl (gi_cons 145 rfl rfl (gi_cons 146 rfl rfl (gi_cons 147 rfl rfl (gi_cons 148 rfl rfl (gi_cons 149 rfl rfl (gi_cons 150 rfl rfl (gi_cons 151 rfl rfl (gi_cons 152 rfl rfl (gi_cons 153 rfl rfl gi_nil)))))))))))))))))))))))))))))))))))))))))))))
set_option maxRecDepth 20000 in
theorem gX5_read_X8_begin : GoodIn wsX5_read (wsV RX5 15 RX8 yX8_begin wsX8_begin) := goodIn_app (goodIn_of _ (by decide +kernel)) ggX5_read_X8_begin
set_option maxRecDepth 100000 in
theorem ggX5_read_X4_clear : GoodIn wsX5_read wsX4_clear := (gi_cons 45 rfl rfl (gi_cons 46 rfl rfl (gi_cons 47 rfl rfl (gi_cons 48 rfl rfl (gi_cons 49 rfl rfl (gi_cons 154 rfl rfl (gi_cons 155 rfl rfl (gi_cons 156 rfl rfl (gi_cons 157 rfl rfl (gi_cons 158 rfl rfl (gi_cons 159 rfl rfl (gi_cons 160 rfl rfl (gi_cons 161 rfl rfl (gi_cons 162 rfl rfl (gi_cons 163 rfl rfl (gi_cons 164 rfl rfl (gi_cons 165 rfl rfl (gi_cons 166 rfl rfl (gi_cons 167 rfl rfl gi_nil)))))))))))))))))))
set_option maxRecDepth 20000 in
theorem gX5_read_X4_clear : GoodIn wsX5_read (wsV RX5 21 RX4 yX4_clear wsX4_clear) := goodIn_app (goodIn_of _ (by decide +kernel)) ggX5_read_X4_clear
theorem dX5_read_0 : decode cX5_read 0 = .ok (.aload_n 0, 1) := by decide +kernel
theorem dX5_read_1 : decode cX5_read 1 = .ok (.getfield 9, 3) := by decide +kernel
theorem dX5_read_4 : decode cX5_read 4 = .ok (.aload_n 1, 1) := by decide +kernel
theorem dX5_read_5 : decode cX5_read 5 = .ok (.iload_n 2, 1) := by decide +kernel
theorem dX5_read_6 : decode cX5_read 6 = .ok (.invokevirtual 15, 3) := by decide +kernel
theorem dX5_read_9 : decode cX5_read 9 = .ok (.aload_n 3, 1) := by decide +kernel
theorem dX5_read_10 : decode cX5_read 10 = .ok (.invokevirtual 21, 3) := by decide +kernel
theorem dX5_read_13 : decode cX5_read 13 = .ok (.iconst 0, 1) := by decide +kernel
theorem dX5_read_14 : decode cX5_read 14 = .ok (.istore 4, 2) := by decide +kernel
theorem dX5_read_16 : decode cX5_read 16 = .ok (.aload_n 0, 1) := by decide +kernel
theorem dX5_read_17 : decode cX5_read 17 = .ok (.getfield 9, 3) := by decide +kernel
theorem dX5_read_20 : decode cX5_read 20 = .ok (.getfield 26, 3) := by decide +kernel
theorem dX5_read_23 : decode cX5_read 23 = .ok (.ifCond .ne 35, 3) := by decide +kernel
theorem dX5_read_26 : decode cX5_read 26 = .ok (.aload_n 0, 1) := by decide +kernel
theorem dX5_read_27 : decode cX5_read 27 = .ok (.getfield 9, 3) := by decide +kernel
theorem dX5_read_30 : decode cX5_read 30 = .ok (.getfield 30, 3) := by decide +kernel
theorem dX5_read_33 : decode cX5_read 33 = .ok (.sipush 259, 3) := by decide +kernel
theorem dX5_read_36 : decode cX5_read 36 = .ok (.if_icmp .eq 22, 3) := by decide +kernel
theorem dX5_read_58 : decode cX5_read 58 = .ok (.aload_n 0, 1) := by decide +kernel
theorem dX5_read_59 : decode cX5_read 59 = .ok (.getfield 9, 3) := by decide +kernel
theorem dX5_read_62 : decode cX5_read 62 = .ok (.getfield 26, 3) := by decide +kernel
theorem dX5_read_65 : decode cX5_read 65 = .ok (.ireturn, 1) := by decide +kernel
theorem dX7_clear_0 : decode cX7_clear 0 = .ok (.aload_n 0, 1) := by decide +kernel
theorem dX7_clear_1 : decode cX7_clear 1 = .ok (.iconst 0, 1) := by decide +kernel
theorem dX7_clear_2 : decode cX7_clear 2 = .ok (.putfield 15, 3) := by decide +kernel
theorem dX7_clear_5 : decode cX7_clear 5 = .ok (.return_, 1) := by decide +kernel
theorem dX7_write_0 : decode cX7_write 0 = .ok (.aload_n 0, 1) := by decide +kernel
theorem dX7_write_1 : decode cX7_write 1 = .ok (.getfield 15, 3) := by decide +kernel
theorem dX7_write_4 : decode cX7_write 4 = .ok (.ifCond .lt 33, 3) := by decide +kernel
theorem dX7_write_7 : decode cX7_write 7 = .ok (.aload_n 0, 1) := by decide +kernel
theorem dX7_write_8 : decode cX7_write 8 = .ok (.getfield 15, 3) := by decide +kernel
theorem dX7_write_11 : decode cX7_write 11 = .ok (.sipush 1024, 3) := by decide +kernel
theorem dX7_write_14 : decode cX7_write 14 = .ok (.if_icmp .ge 23, 3) := by decide +kernel
theorem dX7_write_17 : decode cX7_write 17 = .ok (.aload_n 0, 1) := by decide +kernel
theorem dX7_write_18 : decode cX7_write 18 = .ok (.getfield 11, 3) := by decide +kernel
theorem dX7_write_21 : decode cX7_write 21 = .ok (.aload_n 0, 1) := by decide +kernel
theorem dX7_write_22 : decode cX7_write 22 = .ok (.getfield 15, 3) := by decide +kernel
theorem dX7_write_25 : decode cX7_write 25 = .ok (.iload_n 1, 1) := by decide +kernel
theorem dX7_write_26 : decode cX7_write 26 = .ok (.iastore, 1) := by decide +kernel
theorem dX7_write_27 : decode cX7_write 27 = .ok (.aload_n 0, 1) := by decide +kernel
theorem dX7_write_28 : decode cX7_write 28 = .ok (.dup, 1) := by decide +kernel
theorem dX7_write_29 : decode cX7_write 29 = .ok (.getfield 15, 3) := by decide +kernel
theorem dX7_write_32 : decode cX7_write 32 = .ok (.iconst 1, 1) := by decide +kernel
theorem dX7_write_33 : decode cX7_write 33 = .ok (.iadd, 1) := by decide +kernel
theorem dX7_write_34 : decode cX7_write 34 = .ok (.putfield 15, 3) := by decide +kernel
theorem dX7_write_37 : decode cX7_write 37 = .ok (.return_, 1) := by decide +kernel
theorem dX7_byteAt_0 : decode cX7_byteAt 0 = .ok (.iload_n 1, 1) := by decide +kernel
theorem dX7_byteAt_1 : decode cX7_byteAt 1 = .ok (.ifCond .lt 11, 3) := by decide +kernel
theorem dX7_byteAt_4 : decode cX7_byteAt 4 = .ok (.iload_n 1, 1) := by decide +kernel
theorem dX7_byteAt_5 : decode cX7_byteAt 5 = .ok (.aload_n 0, 1) := by decide +kernel
theorem dX7_byteAt_6 : decode cX7_byteAt 6 = .ok (.getfield 15, 3) := by decide +kernel
theorem dX7_byteAt_9 : decode cX7_byteAt 9 = .ok (.if_icmp .lt 7, 3) := by decide +kernel
theorem dX7_byteAt_16 : decode cX7_byteAt 16 = .ok (.aload_n 0, 1) := by decide +kernel
theorem dX7_byteAt_17 : decode cX7_byteAt 17 = .ok (.getfield 11, 3) := by decide +kernel
theorem dX7_byteAt_20 : decode cX7_byteAt 20 = .ok (.iload_n 1, 1) := by decide +kernel
theorem dX7_byteAt_21 : decode cX7_byteAt 21 = .ok (.iaload, 1) := by decide +kernel
theorem dX7_byteAt_22 : decode cX7_byteAt 22 = .ok (.ireturn, 1) := by decide +kernel
set_option maxRecDepth 100000 in
theorem ggX7_writePath_X9_depthAt : GoodIn wsX7_writePath wsX9_depthAt := (gi_cons 5 rfl rfl (gi_cons 6 rfl rfl (gi_cons 7 rfl rfl (gi_cons 49 rfl rfl (gi_cons 50 rfl rfl (gi_cons 51 rfl rfl (gi_cons 52 rfl rfl (gi_cons 53 rfl rfl gi_nil))))))))
set_option maxRecDepth 20000 in
theorem gX7_writePath_X9_depthAt : GoodIn wsX7_writePath (wsV RX7 29 RX9 yX9_depthAt wsX9_depthAt) := goodIn_app (goodIn_of _ (by decide +kernel)) ggX7_writePath_X9_depthAt
theorem dX7_writePath_0 : decode cX7_writePath 0 = .ok (.aload_n 1, 1) := by decide +kernel
theorem dX7_writePath_1 : decode cX7_writePath 1 = .ok (.iload_n 2, 1) := by decide +kernel
theorem dX7_writePath_2 : decode cX7_writePath 2 = .ok (.invokevirtual 29, 3) := by decide +kernel
theorem dX7_writePath_5 : decode cX7_writePath 5 = .ok (.istore_n 3, 1) := by decide +kernel
theorem dX7_writePath_6 : decode cX7_writePath 6 = .ok (.iconst 1, 1) := by decide +kernel
theorem dX7_writePath_7 : decode cX7_writePath 7 = .ok (.istore 4, 2) := by decide +kernel
theorem dX7_writePath_9 : decode cX7_writePath 9 = .ok (.iload 4, 2) := by decide +kernel
theorem dX7_writePath_11 : decode cX7_writePath 11 = .ok (.iload_n 3, 1) := by decide +kernel
theorem dX7_writePath_12 : decode cX7_writePath 12 = .ok (.if_icmp .gt 73, 3) := by decide +kernel
theorem dX7_writePath_85 : decode cX7_writePath 85 = .ok (.return_, 1) := by decide +kernel
set_option maxRecDepth 100000 in
theorem ggX7_writeThing_X9_kindAt : GoodIn wsX7_writeThing wsX9_kindAt := (gi_cons 5 rfl rfl (gi_cons 6 rfl rfl (gi_cons 7 rfl rfl (gi_cons 53 rfl rfl (gi_cons 54 rfl rfl (gi_cons 55 rfl rfl (gi_cons 56 rfl rfl (gi_cons 57 rfl rfl gi_nil))))))))
set_option maxRecDepth 20000 in
theorem gX7_writeThing_X9_kindAt : GoodIn wsX7_writeThing (wsV RX7 41 RX9 yX9_kindAt wsX9_kindAt) := goodIn_app (goodIn_of _ (by decide +kernel)) ggX7_writeThing_X9_kindAt
set_option maxRecDepth 100000 in
theorem ggX7_writeThing_X7_writeHolder : GoodIn wsX7_writeThing wsX7_writeHolder := (gi_cons 35 rfl rfl (gi_cons 1 rfl rfl (gi_cons 2 rfl rfl (gi_cons 3 rfl rfl (gi_cons 4 rfl rfl (gi_cons 5 rfl rfl (gi_cons 6 rfl rfl (gi_cons 7 rfl rfl (gi_cons 36 rfl rfl (gi_cons 37 rfl rfl (gi_cons 38 rfl rfl (gi_cons 39 rfl rfl (gi_cons 40 rfl rfl (gi_cons 22 rfl rfl (gi_cons 23 rfl rfl (gi_cons 24 rfl rfl (gi_cons 16 rfl rfl (gi_cons 25 rfl rfl (gi_cons 26 rfl rfl (gi_cons 27 rfl rfl (gi_cons 41 rfl rfl (gi_cons 42 rfl rfl (gi_cons 43 rfl rfl (gi_cons 44 rfl rfl (gi_cons 45 rfl rfl (gi_cons 28 rfl rfl (gi_cons 29 rfl rfl (gi_cons 30 rfl rfl (gi_cons 31 rfl rfl (gi_cons 46 rfl rfl (gi_cons 47 rfl rfl (gi_cons 48 rfl rfl (gi_cons 49 rfl rfl (gi_cons 50 rfl rfl (gi_cons 51 rfl rfl (gi_cons 52 rfl rfl (gi_cons 0 rfl rfl (gi_cons 8 rfl rfl (gi_cons 9 rfl rfl (gi_cons 10 rfl rfl (gi_cons 11 rfl rfl (gi_cons 12 rfl rfl (gi_cons 13 rfl rfl (gi_cons 14 rfl rfl (gi_cons 15 rfl rfl (gi_cons 17 rfl rfl (gi_cons 18 rfl rfl (gi_cons 19 rfl rfl (gi_cons 20 rfl rfl (gi_cons 21 rfl rfl (gi_cons 32 rfl rfl (gi_cons 33 rfl rfl (gi_cons 34 rfl rfl (gi_cons 53 rfl rfl (gi_cons 54 rfl rfl (gi_cons 55 rfl rfl (gi_cons 56 rfl rfl (gi_cons 57 rfl rfl (gi_cons 58 rfl rfl (gi_cons 59 rfl rfl gi_nil))))))))))))))))))))))))))))))))))))))))))))))))))))))))))))
set_option maxRecDepth 20000 in
theorem gX7_writeThing_X7_writeHolder : GoodIn wsX7_writeThing (wsV RX7 59 RX7 yX7_writeHolder wsX7_writeHolder) := goodIn_app (goodIn_of _ (by decide +kernel)) ggX7_writeThing_X7_writeHolder
theorem dX7_writeThing_0 : decode cX7_writeThing 0 = .ok (.aload_n 1, 1) := by decide +kernel
theorem dX7_writeThing_1 : decode cX7_writeThing 1 = .ok (.iload_n 2, 1) := by decide +kernel
theorem dX7_writeThing_2 : decode cX7_writeThing 2 = .ok (.invokevirtual 41, 3) := by decide +kernel
theorem dX7_writeThing_5 : decode cX7_writeThing 5 = .ok (.istore 4, 2) := by decide +kernel
theorem dX7_writeThing_7 : decode cX7_writeThing 7 = .ok (.iload 4, 2) := by decide +kernel
theorem dX7_writeThing_9 : decode cX7_writeThing 9 = .ok (.ifCond .ne 15, 3) := by decide +kernel
theorem dX7_writeThing_24 : decode cX7_writeThing 24 = .ok (.iload 4, 2) := by decide +kernel
theorem dX7_writeThing_26 : decode cX7_writeThing 26 = .ok (.iconst 1, 1) := by decide +kernel
theorem dX7_writeThing_27 : decode cX7_writeThing 27 = .ok (.if_icmp .ne 15, 3) := by decide +kernel
theorem dX7_writeThing_42 : decode cX7_writeThing 42 = .ok (.iload_n 3, 1) := by decide +kernel
theorem dX7_writeThing_43 : decode cX7_writeThing 43 = .ok (.bipush 16, 2) := by decide +kernel
theorem dX7_writeThing_45 : decode cX7_writeThing 45 = .ok (.if_icmp .gt 10, 3) := by decide +kernel
theorem dX7_writeThing_48 : decode cX7_writeThing 48 = .ok (.aload_n 0, 1) := by decide +kernel
theorem dX7_writeThing_49 : decode cX7_writeThing 49 = .ok (.aload_n 1, 1) := by decide +kernel
theorem dX7_writeThing_50 : decode cX7_writeThing 50 = .ok (.iload_n 2, 1) := by decide +kernel
theorem dX7_writeThing_51 : decode cX7_writeThing 51 = .ok (.iload_n 3, 1) := by decide +kernel
theorem dX7_writeThing_52 : decode cX7_writeThing 52 = .ok (.invokevirtual 59, 3) := by decide +kernel
theorem dX7_writeThing_55 : decode cX7_writeThing 55 = .ok (.return_, 1) := by decide +kernel
set_option maxRecDepth 100000 in
theorem ggX7_writeHolder_X9_kindAt : GoodIn wsX7_writeHolder wsX9_kindAt := (gi_cons 5 rfl rfl (gi_cons 6 rfl rfl (gi_cons 7 rfl rfl (gi_cons 53 rfl rfl (gi_cons 54 rfl rfl (gi_cons 55 rfl rfl (gi_cons 56 rfl rfl (gi_cons 57 rfl rfl gi_nil))))))))
set_option maxRecDepth 20000 in
theorem gX7_writeHolder_X9_kindAt : GoodIn wsX7_writeHolder (wsV RX7 41 RX9 yX9_kindAt wsX9_kindAt) := goodIn_app (goodIn_of _ (by decide +kernel)) ggX7_writeHolder_X9_kindAt
set_option maxRecDepth 100000 in
theorem ggX7_writeHolder_X9_childCount : GoodIn wsX7_writeHolder wsX9_childCount := (gi_cons 11 rfl rfl (gi_cons 6 rfl rfl (gi_cons 12 rfl rfl (gi_cons 53 rfl rfl (gi_cons 54 rfl rfl (gi_cons 55 rfl rfl (gi_cons 56 rfl rfl (gi_cons 57 rfl rfl gi_nil))))))))
set_option maxRecDepth 20000 in
theorem gX7_writeHolder_X9_childCount : GoodIn wsX7_writeHolder (wsV RX7 63 RX9 yX9_childCount wsX9_childCount) := goodIn_app (goodIn_of _ (by decide +kernel)) ggX7_writeHolder_X9_childCount
set_option maxRecDepth 100000 in
theorem ggX7_writeHolder_X7_write : GoodIn wsX7_writeHolder wsX7_write := (gi_cons 17 rfl rfl (gi_cons 18 rfl rfl (gi_cons 19 rfl rfl (gi_cons 58 rfl rfl (gi_cons 59 rfl rfl gi_nil)))))
set_option maxRecDepth 20000 in
theorem gX7_writeHolder_X7_write : GoodIn wsX7_writeHolder (wsV RX7 25 RX7 yX7_write wsX7_write) := goodIn_app (goodIn_of _ (by decide +kernel)) ggX7_writeHolder_X7_write
theorem dX7_writeHolder_0 : decode cX7_writeHolder 0 = .ok (.aload_n 1, 1) := by decide +kernel
theorem dX7_writeHolder_1 : decode cX7_writeHolder 1 = .ok (.iload_n 2, 1) := by decide +kernel
theorem dX7_writeHolder_2 : decode cX7_writeHolder 2 = .ok (.invokevirtual 41, 3) := by decide +kernel
theorem dX7_writeHolder_5 : decode cX7_writeHolder 5 = .ok (.iconst 3, 1) := by decide +kernel
theorem dX7_writeHolder_6 : decode cX7_writeHolder 6 = .ok (.if_icmp .ne 7, 3) := by decide +kernel
theorem dX7_writeHolder_9 : decode cX7_writeHolder 9 = .ok (.iconst 1, 1) := by decide +kernel
theorem dX7_writeHolder_10 : decode cX7_writeHolder 10 = .ok (.goto 4, 3) := by decide +kernel
theorem dX7_writeHolder_14 : decode cX7_writeHolder 14 = .ok (.istore 4, 2) := by decide +kernel
theorem dX7_writeHolder_16 : decode cX7_writeHolder 16 = .ok (.aload_n 1, 1) := by decide +kernel
theorem dX7_writeHolder_17 : decode cX7_writeHolder 17 = .ok (.iload_n 2, 1) := by decide +kernel
theorem dX7_writeHolder_18 : decode cX7_writeHolder 18 = .ok (.invokevirtual 63, 3) := by decide +kernel
theorem dX7_writeHolder_21 : decode cX7_writeHolder 21 = .ok (.istore 5, 2) := by decide +kernel
theorem dX7_writeHolder_23 : decode cX7_writeHolder 23 = .ok (.iload_n 2, 1) := by decide +kernel
theorem dX7_writeHolder_24 : decode cX7_writeHolder 24 = .ok (.iconst 1, 1) := by decide +kernel
theorem dX7_writeHolder_25 : decode cX7_writeHolder 25 = .ok (.iadd, 1) := by decide +kernel
theorem dX7_writeHolder_26 : decode cX7_writeHolder 26 = .ok (.istore 6, 2) := by decide +kernel
theorem dX7_writeHolder_28 : decode cX7_writeHolder 28 = .ok (.aload_n 0, 1) := by decide +kernel
theorem dX7_writeHolder_29 : decode cX7_writeHolder 29 = .ok (.iload 4, 2) := by decide +kernel
theorem dX7_writeHolder_31 : decode cX7_writeHolder 31 = .ok (.ifCond .eq 8, 3) := by decide +kernel
theorem dX7_writeHolder_34 : decode cX7_writeHolder 34 = .ok (.bipush 123, 2) := by decide +kernel
theorem dX7_writeHolder_36 : decode cX7_writeHolder 36 = .ok (.goto 5, 3) := by decide +kernel
theorem dX7_writeHolder_41 : decode cX7_writeHolder 41 = .ok (.invokevirtual 25, 3) := by decide +kernel
theorem dX7_writeHolder_44 : decode cX7_writeHolder 44 = .ok (.iconst 0, 1) := by decide +kernel
theorem dX7_writeHolder_45 : decode cX7_writeHolder 45 = .ok (.istore 7, 2) := by decide +kernel
theorem dX7_writeHolder_47 : decode cX7_writeHolder 47 = .ok (.iload 7, 2) := by decide +kernel
theorem dX7_writeHolder_49 : decode cX7_writeHolder 49 = .ok (.iload 5, 2) := by decide +kernel
theorem dX7_writeHolder_51 : decode cX7_writeHolder 51 = .ok (.if_icmp .ge 61, 3) := by decide +kernel
theorem dX7_writeHolder_112 : decode cX7_writeHolder 112 = .ok (.aload_n 0, 1) := by decide +kernel
theorem dX7_writeHolder_113 : decode cX7_writeHolder 113 = .ok (.iload 4, 2) := by decide +kernel
theorem dX7_writeHolder_115 : decode cX7_writeHolder 115 = .ok (.ifCond .eq 8, 3) := by decide +kernel
theorem dX7_writeHolder_118 : decode cX7_writeHolder 118 = .ok (.bipush 125, 2) := by decide +kernel
theorem dX7_writeHolder_120 : decode cX7_writeHolder 120 = .ok (.goto 5, 3) := by decide +kernel
theorem dX7_writeHolder_125 : decode cX7_writeHolder 125 = .ok (.invokevirtual 25, 3) := by decide +kernel
theorem dX7_writeHolder_128 : decode cX7_writeHolder 128 = .ok (.return_, 1) := by decide +kernel
set_option maxRecDepth 100000 in
theorem ggX8_begin_X8_addToken : GoodIn wsX8_begin wsX8_addToken := (gi_cons 25 rfl rfl (gi_cons 8 rfl rfl (gi_cons 12 rfl rfl (gi_cons 26 rfl rfl (gi_cons 27 rfl rfl (gi_cons 28 rfl rfl (gi_cons 36 rfl rfl (gi_cons 37 rfl rfl (gi_cons 38 rfl rfl (gi_cons 39 rfl rfl (gi_cons 40 rfl rfl (gi_cons 41 rfl rfl (gi_cons 42 rfl rfl (gi_cons 43 rfl rfl (gi_cons 44 rfl rfl gi_nil)))))))))))))))
set_option maxRecDepth 20000 in
theorem gX8_begin_X8_addToken : GoodIn wsX8_begin (wsV RX8 54 RX8 yX8_addToken wsX8_addToken) := goodIn_app (goodIn_of _ (by decide +kernel)) ggX8_begin_X8_addToken
theorem dX8_begin_0 : decode cX8_begin 0 = .ok (.iconst 0, 1) := by decide +kernel
theorem dX8_begin_1 : decode cX8_begin 1 = .ok (.iload_n 2, 1) := by decide +kernel
theorem dX8_begin_2 : decode cX8_begin 2 = .ok (.aload_n 1, 1) := by decide +kernel
theorem dX8_begin_3 : decode cX8_begin 3 = .ok (.arraylength, 1) := by decide +kernel
theorem dX8_begin_4 : decode cX8_begin 4 = .ok (.invokestatic 28, 3) := by decide +kernel
theorem dX8_begin_7 : decode cX8_begin 7 = .ok (.invokestatic 34, 3) := by decide +kernel
theorem dX8_begin_10 : decode cX8_begin 10 = .ok (.istore_n 3, 1) := by decide +kernel
theorem dX8_begin_11 : decode cX8_begin 11 = .ok (.aload_n 0, 1) := by decide +kernel
theorem dX8_begin_12 : decode cX8_begin 12 = .ok (.iconst 0, 1) := by decide +kernel
theorem dX8_begin_13 : decode cX8_begin 13 = .ok (.putfield 37, 3) := by decide +kernel
theorem dX8_begin_16 : decode cX8_begin 16 = .ok (.iconst 0, 1) := by decide +kernel
theorem dX8_begin_17 : decode cX8_begin 17 = .ok (.istore 4, 2) := by decide +kernel
theorem dX8_begin_19 : decode cX8_begin 19 = .ok (.iconst 0, 1) := by decide +kernel
theorem dX8_begin_20 : decode cX8_begin 20 = .ok (.istore 5, 2) := by decide +kernel
theorem dX8_begin_22 : decode cX8_begin 22 = .ok (.iload 5, 2) := by decide +kernel
theorem dX8_begin_24 : decode cX8_begin 24 = .ok (.iload_n 3, 1) := by decide +kernel
theorem dX8_begin_25 : decode cX8_begin 25 = .ok (.if_icmp .gt 161, 3) := by decide +kernel
theorem dX8_begin_28 : decode cX8_begin 28 = .ok (.iload 4, 2) := by decide +kernel
theorem dX8_begin_30 : decode cX8_begin 30 = .ok (.iload_n 3, 1) := by decide +kernel
theorem dX8_begin_31 : decode cX8_begin 31 = .ok (.if_icmp .ge 155, 3) := by decide +kernel
theorem dX8_begin_186 : decode cX8_begin 186 = .ok (.aload_n 0, 1) := by decide +kernel
theorem dX8_begin_187 : decode cX8_begin 187 = .ok (.sipush 259, 3) := by decide +kernel
theorem dX8_begin_190 : decode cX8_begin 190 = .ok (.iload_n 3, 1) := by decide +kernel
theorem dX8_begin_191 : decode cX8_begin 191 = .ok (.iconst 0, 1) := by decide +kernel
theorem dX8_begin_192 : decode cX8_begin 192 = .ok (.iconst 0, 1) := by decide +kernel
theorem dX8_begin_193 : decode cX8_begin 193 = .ok (.invokevirtual 54, 3) := by decide +kernel
theorem dX8_begin_196 : decode cX8_begin 196 = .ok (.aload_n 0, 1) := by decide +kernel
theorem dX8_begin_197 : decode cX8_begin 197 = .ok (.iconst 0, 1) := by decide +kernel
theorem dX8_begin_198 : decode cX8_begin 198 = .ok (.putfield 58, 3) := by decide +kernel
theorem dX8_begin_201 : decode cX8_begin 201 = .ok (.aload_n 0, 1) := by decide +kernel
theorem dX8_begin_202 : decode cX8_begin 202 = .ok (.iconst (-1), 1) := by decide +kernel
theorem dX8_begin_203 : decode cX8_begin 203 = .ok (.putfield 24, 3) := by decide +kernel
theorem dX8_begin_206 : decode cX8_begin 206 = .ok (.aload_n 0, 1) := by decide +kernel
theorem dX8_begin_207 : decode cX8_begin 207 = .ok (.iconst 0, 1) := by decide +kernel
theorem dX8_begin_208 : decode cX8_begin 208 = .ok (.putfield 61, 3) := by decide +kernel
theorem dX8_begin_211 : decode cX8_begin 211 = .ok (.aload_n 0, 1) := by decide +kernel
theorem dX8_begin_212 : decode cX8_begin 212 = .ok (.aload_n 0, 1) := by decide +kernel
theorem dX8_begin_213 : decode cX8_begin 213 = .ok (.getfield 11, 3) := by decide +kernel
theorem dX8_begin_216 : decode cX8_begin 216 = .ok (.iconst 0, 1) := by decide +kernel
theorem dX8_begin_217 : decode cX8_begin 217 = .ok (.iaload, 1) := by decide +kernel
theorem dX8_begin_218 : decode cX8_begin 218 = .ok (.putfield 64, 3) := by decide +kernel
theorem dX8_begin_221 : decode cX8_begin 221 = .ok (.return_, 1) := by decide +kernel
theorem dX8_addToken_0 : decode cX8_addToken 0 = .ok (.aload_n 0, 1) := by decide +kernel
theorem dX8_addToken_1 : decode cX8_addToken 1 = .ok (.getfield 37, 3) := by decide +kernel
theorem dX8_addToken_4 : decode cX8_addToken 4 = .ok (.ifCond .lt 64, 3) := by decide +kernel
theorem dX8_addToken_7 : decode cX8_addToken 7 = .ok (.aload_n 0, 1) := by decide +kernel
theorem dX8_addToken_8 : decode cX8_addToken 8 = .ok (.getfield 37, 3) := by decide +kernel
theorem dX8_addToken_11 : decode cX8_addToken 11 = .ok (.sipush 401, 3) := by decide +kernel
theorem dX8_addToken_14 : decode cX8_addToken 14 = .ok (.if_icmp .ge 54, 3) := by decide +kernel
theorem dX8_addToken_17 : decode cX8_addToken 17 = .ok (.aload_n 0, 1) := by decide +kernel
theorem dX8_addToken_18 : decode cX8_addToken 18 = .ok (.getfield 11, 3) := by decide +kernel
theorem dX8_addToken_21 : decode cX8_addToken 21 = .ok (.aload_n 0, 1) := by decide +kernel
theorem dX8_addToken_22 : decode cX8_addToken 22 = .ok (.getfield 37, 3) := by decide +kernel
theorem dX8_addToken_25 : decode cX8_addToken 25 = .ok (.iload_n 1, 1) := by decide +kernel
theorem dX8_addToken_26 : decode cX8_addToken 26 = .ok (.iastore, 1) := by decide +kernel
theorem dX8_addToken_27 : decode cX8_addToken 27 = .ok (.aload_n 0, 1) := by decide +kernel
theorem dX8_addToken_28 : decode cX8_addToken 28 = .ok (.getfield 15, 3) := by decide +kernel
theorem dX8_addToken_31 : decode cX8_addToken 31 = .ok (.aload_n 0, 1) := by decide +kernel
theorem dX8_addToken_32 : decode cX8_addToken 32 = .ok (.getfield 37, 3) := by decide +kernel
theorem dX8_addToken_35 : decode cX8_addToken 35 = .ok (.iload_n 2, 1) := by decide +kernel
theorem dX8_addToken_36 : decode cX8_addToken 36 = .ok (.iastore, 1) := by decide +kernel
theorem dX8_addToken_37 : decode cX8_addToken 37 = .ok (.aload_n 0, 1) := by decide +kernel
theorem dX8_addToken_38 : decode cX8_addToken 38 = .ok (.getfield 18, 3) := by decide +kernel
theorem dX8_addToken_41 : decode cX8_addToken 41 = .ok (.aload_n 0, 1) := by decide +kernel
theorem dX8_addToken_42 : decode cX8_addToken 42 = .ok (.getfield 37, 3) := by decide +kernel
theorem dX8_addToken_45 : decode cX8_addToken 45 = .ok (.iload_n 3, 1) := by decide +kernel
theorem dX8_addToken_46 : decode cX8_addToken 46 = .ok (.iastore, 1) := by decide +kernel
theorem dX8_addToken_47 : decode cX8_addToken 47 = .ok (.aload_n 0, 1) := by decide +kernel
theorem dX8_addToken_48 : decode cX8_addToken 48 = .ok (.getfield 21, 3) := by decide +kernel
theorem dX8_addToken_51 : decode cX8_addToken 51 = .ok (.aload_n 0, 1) := by decide +kernel
theorem dX8_addToken_52 : decode cX8_addToken 52 = .ok (.getfield 37, 3) := by decide +kernel
theorem dX8_addToken_55 : decode cX8_addToken 55 = .ok (.iload 4, 2) := by decide +kernel
theorem dX8_addToken_57 : decode cX8_addToken 57 = .ok (.iastore, 1) := by decide +kernel
theorem dX8_addToken_58 : decode cX8_addToken 58 = .ok (.aload_n 0, 1) := by decide +kernel
theorem dX8_addToken_59 : decode cX8_addToken 59 = .ok (.dup, 1) := by decide +kernel
theorem dX8_addToken_60 : decode cX8_addToken 60 = .ok (.getfield 37, 3) := by decide +kernel
theorem dX8_addToken_63 : decode cX8_addToken 63 = .ok (.iconst 1, 1) := by decide +kernel
theorem dX8_addToken_64 : decode cX8_addToken 64 = .ok (.iadd, 1) := by decide +kernel
theorem dX8_addToken_65 : decode cX8_addToken 65 = .ok (.putfield 37, 3) := by decide +kernel
theorem dX8_addToken_68 : decode cX8_addToken 68 = .ok (.return_, 1) := by decide +kernel
theorem dX8_fail_0 : decode cX8_fail 0 = .ok (.aload_n 0, 1) := by decide +kernel
theorem dX8_fail_1 : decode cX8_fail 1 = .ok (.getfield 58, 3) := by decide +kernel
theorem dX8_fail_4 : decode cX8_fail 4 = .ok (.ifCond .ne 38, 3) := by decide +kernel
theorem dX8_fail_7 : decode cX8_fail 7 = .ok (.aload_n 0, 1) := by decide +kernel
theorem dX8_fail_8 : decode cX8_fail 8 = .ok (.getfield 61, 3) := by decide +kernel
theorem dX8_fail_11 : decode cX8_fail 11 = .ok (.ifCond .lt 31, 3) := by decide +kernel
theorem dX8_fail_14 : decode cX8_fail 14 = .ok (.aload_n 0, 1) := by decide +kernel
theorem dX8_fail_15 : decode cX8_fail 15 = .ok (.getfield 61, 3) := by decide +kernel
theorem dX8_fail_18 : decode cX8_fail 18 = .ok (.sipush 401, 3) := by decide +kernel
theorem dX8_fail_21 : decode cX8_fail 21 = .ok (.if_icmp .ge 21, 3) := by decide +kernel
theorem dX8_fail_24 : decode cX8_fail 24 = .ok (.aload_n 0, 1) := by decide +kernel
theorem dX8_fail_25 : decode cX8_fail 25 = .ok (.iload_n 1, 1) := by decide +kernel
theorem dX8_fail_26 : decode cX8_fail 26 = .ok (.putfield 58, 3) := by decide +kernel
theorem dX8_fail_29 : decode cX8_fail 29 = .ok (.aload_n 0, 1) := by decide +kernel
theorem dX8_fail_30 : decode cX8_fail 30 = .ok (.aload_n 0, 1) := by decide +kernel
theorem dX8_fail_31 : decode cX8_fail 31 = .ok (.getfield 15, 3) := by decide +kernel
theorem dX8_fail_34 : decode cX8_fail 34 = .ok (.aload_n 0, 1) := by decide +kernel
theorem dX8_fail_35 : decode cX8_fail 35 = .ok (.getfield 61, 3) := by decide +kernel
theorem dX8_fail_38 : decode cX8_fail 38 = .ok (.iaload, 1) := by decide +kernel
theorem dX8_fail_39 : decode cX8_fail 39 = .ok (.putfield 24, 3) := by decide +kernel
theorem dX8_fail_42 : decode cX8_fail 42 = .ok (.aload_n 0, 1) := by decide +kernel
theorem dX8_fail_43 : decode cX8_fail 43 = .ok (.sipush 260, 3) := by decide +kernel
theorem dX8_fail_46 : decode cX8_fail 46 = .ok (.putfield 64, 3) := by decide +kernel
theorem dX8_fail_49 : decode cX8_fail 49 = .ok (.return_, 1) := by decide +kernel
set_option maxRecDepth 100000 in
theorem ggX9_like_X9_kindAt : GoodIn wsX9_like wsX9_kindAt := (gi_cons 5 rfl rfl (gi_cons 6 rfl rfl (gi_cons 7 rfl rfl (gi_cons 38 rfl rfl (gi_cons 39 rfl rfl (gi_cons 40 rfl rfl (gi_cons 41 rfl rfl (gi_cons 42 rfl rfl gi_nil))))))))
set_option maxRecDepth 20000 in
theorem gX9_like_X9_kindAt : GoodIn wsX9_like (wsV RX9 38 RX9 yX9_kindAt wsX9_kindAt) := goodIn_app (goodIn_of _ (by decide +kernel)) ggX9_like_X9_kindAt
set_option maxRecDepth 100000 in
theorem ggX9_like_X9_sizeOf : GoodIn wsX9_like wsX9_sizeOf := (gi_cons 16 rfl rfl (gi_cons 6 rfl rfl (gi_cons 17 rfl rfl (gi_cons 18 rfl rfl (gi_cons 19 rfl rfl (gi_cons 4 rfl rfl (gi_cons 20 rfl rfl (gi_cons 21 rfl rfl (gi_cons 38 rfl rfl (gi_cons 39 rfl rfl (gi_cons 40 rfl rfl (gi_cons 41 rfl rfl (gi_cons 42 rfl rfl gi_nil)))))))))))))
set_option maxRecDepth 20000 in
theorem gX9_like_X9_sizeOf : GoodIn wsX9_like (wsV RX9 44 RX9 yX9_sizeOf wsX9_sizeOf) := goodIn_app (goodIn_of _ (by decide +kernel)) ggX9_like_X9_sizeOf
set_option maxRecDepth 100000 in
theorem ggX9_like_X9_childCount : GoodIn wsX9_like wsX9_childCount := (gi_cons 25 rfl rfl (gi_cons 6 rfl rfl (gi_cons 21 rfl rfl (gi_cons 38 rfl rfl (gi_cons 39 rfl rfl (gi_cons 40 rfl rfl (gi_cons 41 rfl rfl (gi_cons 42 rfl rfl gi_nil))))))))
set_option maxRecDepth 20000 in
theorem gX9_like_X9_childCount : GoodIn wsX9_like (wsV RX9 47 RX9 yX9_childCount wsX9_childCount) := goodIn_app (goodIn_of _ (by decide +kernel)) ggX9_like_X9_childCount
theorem dX9_like_0 : decode cX9_like 0 = .ok (.aload_n 0, 1) := by decide +kernel
theorem dX9_like_1 : decode cX9_like 1 = .ok (.iload_n 1, 1) := by decide +kernel
theorem dX9_like_2 : decode cX9_like 2 = .ok (.invokevirtual 38, 3) := by decide +kernel
theorem dX9_like_5 : decode cX9_like 5 = .ok (.istore 5, 2) := by decide +kernel
theorem dX9_like_7 : decode cX9_like 7 = .ok (.iload 5, 2) := by decide +kernel
theorem dX9_like_9 : decode cX9_like 9 = .ok (.ifCond .lt 20, 3) := by decide +kernel
theorem dX9_like_12 : decode cX9_like 12 = .ok (.iload 5, 2) := by decide +kernel
theorem dX9_like_14 : decode cX9_like 14 = .ok (.aload_n 2, 1) := by decide +kernel
theorem dX9_like_15 : decode cX9_like 15 = .ok (.iload_n 3, 1) := by decide +kernel
theorem dX9_like_16 : decode cX9_like 16 = .ok (.invokevirtual 38, 3) := by decide +kernel
theorem dX9_like_19 : decode cX9_like 19 = .ok (.if_icmp .ne 10, 3) := by decide +kernel
theorem dX9_like_22 : decode cX9_like 22 = .ok (.iload 4, 2) := by decide +kernel
theorem dX9_like_24 : decode cX9_like 24 = .ok (.bipush 16, 2) := by decide +kernel
theorem dX9_like_26 : decode cX9_like 26 = .ok (.if_icmp .le 5, 3) := by decide +kernel
theorem dX9_like_31 : decode cX9_like 31 = .ok (.iload 5, 2) := by decide +kernel
theorem dX9_like_33 : decode cX9_like 33 = .ok (.ifCond .eq 9, 3) := by decide +kernel
theorem dX9_like_36 : decode cX9_like 36 = .ok (.iload 5, 2) := by decide +kernel
theorem dX9_like_38 : decode cX9_like 38 = .ok (.iconst 1, 1) := by decide +kernel
theorem dX9_like_39 : decode cX9_like 39 = .ok (.if_icmp .ne 22, 3) := by decide +kernel
theorem dX9_like_61 : decode cX9_like 61 = .ok (.aload_n 0, 1) := by decide +kernel
theorem dX9_like_62 : decode cX9_like 62 = .ok (.iload_n 1, 1) := by decide +kernel
theorem dX9_like_63 : decode cX9_like 63 = .ok (.invokevirtual 44, 3) := by decide +kernel
theorem dX9_like_66 : decode cX9_like 66 = .ok (.aload_n 2, 1) := by decide +kernel
theorem dX9_like_67 : decode cX9_like 67 = .ok (.iload_n 3, 1) := by decide +kernel
theorem dX9_like_68 : decode cX9_like 68 = .ok (.invokevirtual 44, 3) := by decide +kernel
theorem dX9_like_71 : decode cX9_like 71 = .ok (.if_icmp .eq 5, 3) := by decide +kernel
theorem dX9_like_76 : decode cX9_like 76 = .ok (.aload_n 0, 1) := by decide +kernel
theorem dX9_like_77 : decode cX9_like 77 = .ok (.iload_n 1, 1) := by decide +kernel
theorem dX9_like_78 : decode cX9_like 78 = .ok (.invokevirtual 47, 3) := by decide +kernel
theorem dX9_like_81 : decode cX9_like 81 = .ok (.istore 6, 2) := by decide +kernel
theorem dX9_like_83 : decode cX9_like 83 = .ok (.iload 6, 2) := by decide +kernel
theorem dX9_like_85 : decode cX9_like 85 = .ok (.aload_n 2, 1) := by decide +kernel
theorem dX9_like_86 : decode cX9_like 86 = .ok (.iload_n 3, 1) := by decide +kernel
theorem dX9_like_87 : decode cX9_like 87 = .ok (.invokevirtual 47, 3) := by decide +kernel
theorem dX9_like_90 : decode cX9_like 90 = .ok (.if_icmp .eq 5, 3) := by decide +kernel
theorem dX9_like_95 : decode cX9_like 95 = .ok (.iload_n 1, 1) := by decide +kernel
theorem dX9_like_96 : decode cX9_like 96 = .ok (.iconst 1, 1) := by decide +kernel
theorem dX9_like_97 : decode cX9_like 97 = .ok (.iadd, 1) := by decide +kernel
theorem dX9_like_98 : decode cX9_like 98 = .ok (.istore 7, 2) := by decide +kernel
theorem dX9_like_100 : decode cX9_like 100 = .ok (.iload_n 3, 1) := by decide +kernel
theorem dX9_like_101 : decode cX9_like 101 = .ok (.iconst 1, 1) := by decide +kernel
theorem dX9_like_102 : decode cX9_like 102 = .ok (.iadd, 1) := by decide +kernel
theorem dX9_like_103 : decode cX9_like 103 = .ok (.istore 8, 2) := by decide +kernel
theorem dX9_like_105 : decode cX9_like 105 = .ok (.iconst 0, 1) := by decide +kernel
theorem dX9_like_106 : decode cX9_like 106 = .ok (.istore 9, 2) := by decide +kernel
theorem dX9_like_108 : decode cX9_like 108 = .ok (.iload 9, 2) := by decide +kernel
theorem dX9_like_110 : decode cX9_like 110 = .ok (.iload 6, 2) := by decide +kernel
theorem dX9_like_112 : decode cX9_like 112 = .ok (.if_icmp .ge 71, 3) := by decide +kernel
theorem dX9_like_183 : decode cX9_like 183 = .ok (.iconst 1, 1) := by decide +kernel
theorem dX9_like_184 : decode cX9_like 184 = .ok (.ireturn, 1) := by decide +kernel
theorem dX9_clear_0 : decode cX9_clear 0 = .ok (.aload_n 0, 1) := by decide +kernel
theorem dX9_clear_1 : decode cX9_clear 1 = .ok (.iconst 0, 1) := by decide +kernel
theorem dX9_clear_2 : decode cX9_clear 2 = .ok (.putfield 24, 3) := by decide +kernel
theorem dX9_clear_5 : decode cX9_clear 5 = .ok (.return_, 1) := by decide +kernel
set_option maxRecDepth 100000 in
theorem ggX10_tree_X10_tapeHas : GoodIn wsX10_tree wsX10_tapeHas := (gi_cons 10 rfl rfl (gi_cons 11 rfl rfl (gi_cons 155 rfl rfl (gi_cons 156 rfl rfl (gi_cons 157 rfl rfl (gi_cons 158 rfl rfl (gi_cons 159 rfl rfl (gi_cons 160 rfl rfl (gi_cons 161 rfl rfl (gi_cons 162 rfl rfl (gi_cons 163 rfl rfl (gi_cons 164 rfl rfl (gi_cons 165 rfl rfl (gi_cons 166 rfl rfl (gi_cons 167 rfl rfl (gi_cons 168 rfl rfl (gi_cons 169 rfl rfl (gi_cons 170 rfl rfl (gi_cons 171 rfl rfl (gi_cons 172 rfl rfl gi_nil))))))))))))))))))))
set_option maxRecDepth 20000 in
theorem gX10_tree_X10_tapeHas : GoodIn wsX10_tree (wsV RX10 120 RX10 yX10_tapeHas wsX10_tapeHas) := goodIn_app (goodIn_of _ (by decide +kernel)) ggX10_tree_X10_tapeHas
set_option maxRecDepth 100000 in
theorem ggX10_tree_X10_readData : GoodIn wsX10_tree wsX10_readData := (gi_cons 15 rfl rfl (gi_cons 16 rfl rfl (gi_cons 17 rfl rfl (gi_cons 4 rfl rfl (gi_cons 18 rfl rfl (gi_cons 19 rfl rfl (gi_cons 20 rfl rfl (gi_cons 21 rfl rfl (gi_cons 22 rfl rfl (gi_cons 23 rfl rfl (gi_cons 24 rfl rfl (gi_cons 25 rfl rfl (gi_cons 26 rfl rfl (gi_cons 27 rfl rfl (gi_cons 28 rfl rfl (gi_cons 29 rfl rfl (gi_cons 30 rfl rfl (gi_cons 31 rfl rfl (gi_cons 32 rfl rfl (gi_cons 33 rfl rfl (gi_cons 34 rfl rfl (gi_cons 35 rfl rfl (gi_cons 36 rfl rfl (gi_cons 37 rfl rfl (gi_cons 38 rfl rfl (gi_cons 39 rfl rfl (gi_cons 40 rfl rfl (gi_cons 41 rfl rfl (gi_cons 42 rfl rfl (gi_cons 43 rfl rfl (gi_cons 44 rfl rfl (gi_cons 45 rfl rfl (gi_cons 46 rfl rfl (gi_cons 47 rfl rfl (gi_cons 48 rfl rfl (gi_cons 49 rfl rfl (gi_cons 50 rfl rfl (gi_cons 51 rfl rfl (gi_cons 52 rfl rfl (gi_cons 53 rfl rfl (gi_cons 54 rfl rfl (gi_cons 55 rfl rfl (gi_cons 56 rfl rfl (gi_cons 57 rfl rfl (gi_cons 58 rfl rfl (gi_cons 59 rfl rfl (gi_cons 60 rfl rfl (gi_cons 61 rfl rfl (gi_cons 62 rfl rfl (gi_cons 63 rfl rfl (gi_cons 64 rfl rfl (gi_cons 65 rfl rfl (gi_cons 66 rfl rfl (gi_cons 67 rfl rfl (gi_cons 68 rfl rfl (gi_cons 69 rfl rfl (gi_cons 70 rfl rfl (gi_cons 71 rfl rfl (gi_cons 72 rfl rfl (gi_cons 73 rfl rfl (gi_cons 74 rfl rfl (gi_cons 75 rfl rfl (gi_cons 76 rfl rfl (gi_cons 77 rfl rfl (gi_cons 78 rfl rfl (gi_cons 79 rfl rfl (gi_cons 80 rfl rfl (gi_cons 81 rfl rfl (gi_cons 82 rfl rfl (gi_cons 83 rfl rfl (gi_cons 84 rfl rfl (gi_cons 85 rfl rfl (gi_cons 86 rfl rfl (gi_cons 87 rfl rfl (gi_cons 88 rfl rfl (gi_cons 89 rfl rfl (gi_cons 90 rfl rfl (gi_cons 91 rfl rfl (gi_cons 92 rfl rfl (gi_cons 93 rfl rfl (gi_cons 94 rfl rfl (gi_cons 95 rfl rfl (gi_cons 96 rfl rfl (gi_cons 97 rfl rfl (gi_cons 98 rfl rfl (gi_cons 99 rfl rfl (gi_cons 100 rfl rfl (gi_cons 101 rfl rfl (gi_cons 102 rfl rfl (gi_cons 103 rfl rfl (gi_cons 9 rfl rfl (gi_cons 104 rfl rfl (gi_cons 105 rfl rfl (gi_cons 106 rfl rfl (gi_cons 107 rfl rfl (gi_cons 108 rfl rfl (gi_cons 109 rfl rfl (gi_cons 110 rfl rfl (gi_cons 111 rfl rfl (gi_cons 112 rfl rfl (gi_cons 113 rfl rfl (gi_cons 114 rfl rfl (gi_cons 115 rfl rfl (gi_cons 116 rfl rfl (gi_cons 117 rfl rfl (gi_cons 118 rfl rfl (gi_cons 119 rfl rfl (gi_cons 120 rfl rfl (gi_cons 121 rfl rfl (gi_cons 122 rfl rfl (gi_cons 123 rfl rfl (gi_cons 124 rfl rfl (gi_cons 125 rfl rfl (gi_cons 126 rfl rfl (gi_cons 127 rfl rfl (gi_cons 128 rfl rfl (gi_cons 129 rfl rfl (gi_cons 130 rfl rfl (gi_cons 131 rfl rfl (gi_cons 132 rfl rfl (gi_cons 133 rfl rfl (gi_cons 134 rfl rfl (gi_cons 135 rfl rfl (gi_cons 136 rfl rfl (gi_cons 137 rfl rfl (gi_cons 138 rfl rfl (gi_cons 11 rfl rfl (gi_cons 139 rfl rfl (gi_cons 140 rfl rfl (gi_cons 3 rfl rfl (gi_cons 141 rfl rfl (gi_cons 142 rfl rfl (gi_cons 143 rfl rfl (gi_cons 144 rfl rfl (gi_cons 145 rfl rfl (gi_cons 146 rfl rfl (gi_cons 155 rfl rfl (gi_cons 156 rfl rfl (gi_cons 157 rfl rfl (gi_cons 158 rfl rfl (gi_cons 159 rfl rfl (gi_cons 160 rfl rfl (gi_cons 161 rfl rfl (gi_cons 162 rfl rfl (gi_cons 163 rfl rfl (gi_cons 164 rfl rfl (gi_cons 165 rfl rfl (gi_cons 166 rfl rfl (gi_cons 167 rfl rfl (gi_cons 168 rfl rfl (gi_cons 169 rfl rfl (gi_cons 170 rfl rfl (gi_cons 171 rfl rfl (gi_cons 172 rfl rfl (gi_cons 180 rfl rfl (gi_cons 181 rfl rfl (gi_cons 182 rfl rfl (gi_cons 183 rfl rfl (gi_cons 184 rfl rfl (gi_cons 185 rfl rfl (gi_cons 186 rfl rfl (gi_cons 187 rfl rfl (gi_cons 188 rfl rfl (gi_cons 189 rfl rfl (gi_cons 190 rfl rfl (gi_cons 191 rfl rfl (gi_cons 192 rfl rfl (gi_cons 193 rfl rfl (gi_cons 194 rfl rfl (gi_cons 173 rfl rfl (gi_cons 174 rfl rfl (gi_cons 175 rfl rfl (gi_cons 176 rfl rfl (gi_cons 177 rfl rfl (gi_cons 178 rfl rfl (gi_cons 179 rfl rfl gi_nil))))))))))))))))))))))))))))))))))))))))))))))))))))))))))))))))))))))))))))))))))))))))))))))))))))))))))))))))))))))))))))))))))))))))))))))))))))))))))))))))))))))))))))))))
set_option maxRecDepth 20000 in
theorem gX10_tree_X10_readData : GoodIn wsX10_tree (wsV RX10 131 RX10 yX10_readData wsX10_readData) := goodIn_app (goodIn_of _ (by decide +kernel)) ggX10_tree_X10_readData
theorem dX10_tree_0 : decode cX10_tree 0 = .ok (.aload_n 0, 1) := by decide +kernel
theorem dX10_tree_1 : decode cX10_tree 1 = .ok (.iload_n 1, 1) := by decide +kernel
theorem dX10_tree_2 : decode cX10_tree 2 = .ok (.invokevirtual 120, 3) := by decide +kernel
theorem dX10_tree_5 : decode cX10_tree 5 = .ok (.ifCond .ne 13, 3) := by decide +kernel
theorem dX10_tree_8 : decode cX10_tree 8 = .ok (.new 124, 3) := by decide +kernel
theorem dX10_tree_11 : decode cX10_tree 11 = .ok (.dup, 1) := by decide +kernel
theorem dX10_tree_12 : decode cX10_tree 12 = .ok (.ldc 126, 2) := by decide +kernel
theorem dX10_tree_14 : decode cX10_tree 14 = .ok (.invokespecial 128, 3) := by decide +kernel
theorem dX10_tree_17 : decode cX10_tree 17 = .ok (.athrow, 1) := by decide +kernel
theorem dX10_tree_18 : decode cX10_tree 18 = .ok (.aload_n 0, 1) := by decide +kernel
theorem dX10_tree_19 : decode cX10_tree 19 = .ok (.iload_n 1, 1) := by decide +kernel
theorem dX10_tree_20 : decode cX10_tree 20 = .ok (.invokevirtual 131, 3) := by decide +kernel
theorem dX10_tree_23 : decode cX10_tree 23 = .ok (.istore_n 2, 1) := by decide +kernel
theorem dX10_tree_24 : decode cX10_tree 24 = .ok (.iload_n 2, 1) := by decide +kernel
theorem dX10_tree_25 : decode cX10_tree 25 = .ok (.ifCond .ne 38, 3) := by decide +kernel
theorem dX10_tree_63 : decode cX10_tree 63 = .ok (.iload_n 2, 1) := by decide +kernel
theorem dX10_tree_64 : decode cX10_tree 64 = .ok (.ireturn, 1) := by decide +kernel
set_option maxRecDepth 100000 in
theorem ggX10_path_X10_tapeHas : GoodIn wsX10_path wsX10_tapeHas := (gi_cons 16 rfl rfl (gi_cons 17 rfl rfl (gi_cons 183 rfl rfl (gi_cons 184 rfl rfl (gi_cons 185 rfl rfl (gi_cons 186 rfl rfl (gi_cons 187 rfl rfl (gi_cons 188 rfl rfl (gi_cons 189 rfl rfl (gi_cons 190 rfl rfl (gi_cons 191 rfl rfl (gi_cons 192 rfl rfl (gi_cons 193 rfl rfl (gi_cons 194 rfl rfl (gi_cons 195 rfl rfl (gi_cons 196 rfl rfl (gi_cons 197 rfl rfl (gi_cons 198 rfl rfl (gi_cons 199 rfl rfl (gi_cons 200 rfl rfl gi_nil))))))))))))))))))))
set_option maxRecDepth 20000 in
theorem gX10_path_X10_tapeHas : GoodIn wsX10_path (wsV RX10 120 RX10 yX10_tapeHas wsX10_tapeHas) := goodIn_app (goodIn_of _ (by decide +kernel)) ggX10_path_X10_tapeHas
set_option maxRecDepth 100000 in
theorem ggX10_path_X5_read : GoodIn wsX10_path wsX5_read := (gi_cons 22 rfl rfl (gi_cons 23 rfl rfl (gi_cons 24 rfl rfl (gi_cons 25 rfl rfl (gi_cons 26 rfl rfl (gi_cons 27 rfl rfl (gi_cons 28 rfl rfl (gi_cons 29 rfl rfl (gi_cons 30 rfl rfl (gi_cons 31 rfl rfl (gi_cons 32 rfl rfl (gi_cons 33 rfl rfl (gi_cons 34 rfl rfl (gi_cons 35 rfl rfl (gi_cons 36 rfl rfl (gi_cons 37 rfl rfl (gi_cons 38 rfl rfl (gi_cons 39 rfl rfl (gi_cons 40 rfl rfl (gi_cons 41 rfl rfl (gi_cons 42 rfl rfl (gi_cons 43 rfl rfl (gi_cons 44 rfl rfl (gi_cons 45 rfl rfl (gi_cons 46 rfl rfl (gi_cons 47 rfl rfl (gi_cons 48 rfl rfl (gi_cons 49 rfl rfl (gi_cons 50 rfl rfl (gi_cons 51 rfl rfl (gi_cons 52 rfl rfl (gi_cons 53 rfl rfl (gi_cons 54 rfl rfl (gi_cons 55 rfl rfl (gi_cons 56 rfl rfl (gi_cons 57 rfl rfl (gi_cons 58 rfl rfl (gi_cons 59 rfl rfl (gi_cons 60 rfl rfl (gi_cons 61 rfl rfl (gi_cons 62 rfl rfl (gi_cons 63 rfl rfl (gi_cons 64 rfl rfl (gi_cons 65 rfl rfl (gi_cons 11 rfl rfl (gi_cons 66 rfl rfl (gi_cons 67 rfl rfl (gi_cons 68 rfl rfl (gi_cons 69 rfl rfl (gi_cons 70 rfl rfl (gi_cons 71 rfl rfl (gi_cons 72 rfl rfl (gi_cons 73 rfl rfl (gi_cons 21 rfl rfl (gi_cons 74 rfl rfl (gi_cons 75 rfl rfl (gi_cons 76 rfl rfl (gi_cons 77 rfl rfl (gi_cons 78 rfl rfl (gi_cons 79 rfl rfl (gi_cons 80 rfl rfl (gi_cons 81 rfl rfl (gi_cons 82 rfl rfl (gi_cons 83 rfl rfl (gi_cons 84 rfl rfl (gi_cons 85 rfl rfl (gi_cons 86 rfl rfl (gi_cons 87 rfl rfl (gi_cons 88 rfl rfl (gi_cons 89 rfl rfl (gi_cons 90 rfl rfl (gi_cons 91 rfl rfl (gi_cons 92 rfl rfl (gi_cons 93 rfl rfl (gi_cons 94 rfl rfl (gi_cons 95 rfl rfl (gi_cons 96 rfl rfl (gi_cons 97 rfl rfl (gi_cons 98 rfl rfl (gi_cons 99 rfl rfl (gi_cons 100 rfl rfl (gi_cons 101 rfl rfl (gi_cons 102 rfl rfl (gi_cons 103 rfl rfl (gi_cons 104 rfl rfl (gi_cons 105 rfl rfl (gi_cons 106 rfl rfl (gi_cons 107 rfl rfl (gi_cons 108 rfl rfl (gi_cons 109 rfl rfl (gi_cons 110 rfl rfl (gi_cons 111 rfl rfl (gi_cons 112 rfl rfl (gi_cons 113 rfl rfl (gi_cons 114 rfl rfl (gi_cons 115 rfl rfl (gi_cons 116 rfl rfl (gi_cons 117 rfl rfl (gi_cons 118 rfl rfl (gi_cons 119 rfl rfl (gi_cons 120 rfl rfl (gi_cons 121 rfl rfl (gi_cons 122 rfl rfl (gi_cons 123 rfl rfl (gi_cons 124 rfl rfl (gi_cons 125 rfl rfl (gi_cons 126 rfl rfl (gi_cons 127 rfl rfl (gi_cons 128 rfl rfl (gi_cons 129 rfl rfl (gi_cons 130 rfl rfl (gi_cons 131 rfl rfl (gi_cons 132 rfl rfl (gi_cons 133 rfl rfl (gi_cons 134 rfl rfl (gi_cons 135 rfl rfl (gi_cons 136 rfl rfl (gi_cons 137 rfl rfl (gi_cons 138 rfl rfl (gi_cons 139 rfl rfl (gi_cons 140 rfl rfl (gi_cons 141 rfl rfl (gi_cons 142 rfl rfl (gi_cons 143 rfl rfl (gi_cons 144 rfl rfl (gi_cons 145 rfl rfl (gi_cons 146 rfl rfl (gi_cons 147 rfl rfl (gi_cons 148 rfl rfl (gi_cons 149 rfl rfl (gi_cons 150 rfl rfl (gi_cons 151 rfl rfl (gi_cons 152 rfl rfl (gi_cons 153 rfl rfl (gi_cons 154 rfl rfl (gi_cons 155 rfl rfl (gi_cons 156 rfl rfl (gi_cons 157 rfl rfl (gi_cons 158 rfl rfl (gi_cons 159 rfl rfl (gi_cons 160 rfl rfl (gi_cons 15 rfl rfl (gi_cons 161 rfl rfl (gi_cons 162 rfl rfl (gi_cons 215 rfl rfl (gi_cons 216 rfl rfl (gi_cons 217 rfl rfl (gi_cons 218 rfl rfl (gi_cons 219 rfl rfl (gi_cons 220 rfl rfl (gi_cons 221 rfl rfl (gi_cons 222 rfl rfl (gi_cons 223 rfl rfl (gi_cons 224 rfl rfl (gi_cons 201 rfl rfl (gi_cons 202 rfl rfl (gi_cons 203 rfl rfl (gi_cons 204 rfl rfl (gi_cons 205 rfl rfl (gi_cons 206 rfl rfl (gi_cons 207 rfl rfl (gi_cons 208 rfl rfl (gi_cons 209 rfl rfl (gi_cons 210 rfl rfl (gi_cons 211 rfl rfl (gi_cons 212 rfl rfl (gi_cons 213 rfl rfl (gi_cons 214 rfl rfl gi_nil))))))))))))))))))))))))))))))))))))))))))))))))))))))))))))))))))))))))))))))))))))))))))))))))))))))))))))))))))))))))))))))))))))))))))))))))))))))))))))))))))))))))
set_option maxRecDepth 20000 in
theorem gX10_path_X5_read : GoodIn wsX10_path (wsV RX10 154 RX5 yX5_read wsX5_read) := goodIn_app (goodIn_of _ (by decide +kernel)) ggX10_path_X5_read
set_option maxRecDepth 100000 in
theorem ggX10_path_X10_textWasRead : GoodIn wsX10_path wsX10_textWasRead := (gi_cons 166 rfl rfl (gi_cons 17 rfl rfl (gi_cons 167 rfl rfl (gi_cons 168 rfl rfl (gi_cons 169 rfl rfl (gi_cons 170 rfl rfl (gi_cons 171 rfl rfl (gi_cons 172 rfl rfl (gi_cons 173 rfl rfl (gi_cons 174 rfl rfl (gi_cons 175 rfl rfl (gi_cons 183 rfl rfl (gi_cons 184 rfl rfl (gi_cons 185 rfl rfl (gi_cons 186 rfl rfl (gi_cons 187 rfl rfl (gi_cons 188 rfl rfl (gi_cons 189 rfl rfl (gi_cons 190 rfl rfl (gi_cons 191 rfl rfl (gi_cons 192 rfl rfl (gi_cons 193 rfl rfl (gi_cons 194 rfl rfl (gi_cons 195 rfl rfl (gi_cons 196 rfl rfl (gi_cons 197 rfl rfl (gi_cons 198 rfl rfl (gi_cons 199 rfl rfl (gi_cons 200 rfl rfl (gi_cons 216 rfl rfl (gi_cons 217 rfl rfl (gi_cons 218 rfl rfl (gi_cons 219 rfl rfl (gi_cons 220 rfl rfl (gi_cons 221 rfl rfl (gi_cons 222 rfl rfl (gi_cons 223 rfl rfl (gi_cons 224 rfl rfl (gi_cons 225 rfl rfl (gi_cons 226 rfl rfl (gi_cons 227 rfl rfl (gi_cons 228 rfl rfl (gi_cons 229 rfl rfl (gi_cons 230 rfl rfl (gi_cons 231 rfl rfl gi_nil)))))))))))))))))))))))))))))))))))))))))))))
set_option maxRecDepth 20000 in
theorem gX10_path_X10_textWasRead : GoodIn wsX10_path (wsV RX10 158 RX10 yX10_textWasRead wsX10_textWasRead) := goodIn_app (goodIn_of _ (by decide +kernel)) ggX10_path_X10_textWasRead
set_option maxRecDepth 100000 in
theorem ggX10_path_X4_init : GoodIn wsX10_path wsX4_init := (gi_cons 177 rfl rfl (gi_cons 178 rfl rfl (gi_cons 179 rfl rfl (gi_cons 180 rfl rfl (gi_cons 181 rfl rfl (gi_cons 91 rfl rfl (gi_cons 92 rfl rfl (gi_cons 93 rfl rfl (gi_cons 135 rfl rfl (gi_cons 182 rfl rfl (gi_cons 149 rfl rfl (gi_cons 150 rfl rfl (gi_cons 155 rfl rfl (gi_cons 156 rfl rfl (gi_cons 157 rfl rfl (gi_cons 158 rfl rfl (gi_cons 201 rfl rfl (gi_cons 202 rfl rfl (gi_cons 203 rfl rfl (gi_cons 204 rfl rfl (gi_cons 205 rfl rfl (gi_cons 206 rfl rfl (gi_cons 207 rfl rfl (gi_cons 208 rfl rfl (gi_cons 209 rfl rfl (gi_cons 210 rfl rfl (gi_cons 211 rfl rfl (gi_cons 212 rfl rfl (gi_cons 213 rfl rfl (gi_cons 214 rfl rfl gi_nil))))))))))))))))))))))))))))))
set_option maxRecDepth 20000 in
theorem gX10_path_X4_init_n23 : GoodIn wsX10_path (wsX4_init) := ggX10_path_X4_init
theorem dX10_path_0 : decode cX10_path 0 = .ok (.iload_n 1, 1) := by decide +kernel
theorem dX10_path_1 : decode cX10_path 1 = .ok (.ifCond .lt 8, 3) := by decide +kernel
theorem dX10_path_4 : decode cX10_path 4 = .ok (.iload_n 1, 1) := by decide +kernel
theorem dX10_path_5 : decode cX10_path 5 = .ok (.iconst 4, 1) := by decide +kernel
theorem dX10_path_6 : decode cX10_path 6 = .ok (.if_icmp .lt 13, 3) := by decide +kernel
theorem dX10_path_9 : decode cX10_path 9 = .ok (.new 149, 3) := by decide +kernel
theorem dX10_path_12 : decode cX10_path 12 = .ok (.dup, 1) := by decide +kernel
theorem dX10_path_13 : decode cX10_path 13 = .ok (.ldc 151, 2) := by decide +kernel
theorem dX10_path_15 : decode cX10_path 15 = .ok (.invokespecial 153, 3) := by decide +kernel
theorem dX10_path_18 : decode cX10_path 18 = .ok (.athrow, 1) := by decide +kernel
theorem dX10_path_19 : decode cX10_path 19 = .ok (.aload_n 0, 1) := by decide +kernel
theorem dX10_path_20 : decode cX10_path 20 = .ok (.iload_n 2, 1) := by decide +kernel
theorem dX10_path_21 : decode cX10_path 21 = .ok (.invokevirtual 120, 3) := by decide +kernel
theorem dX10_path_24 : decode cX10_path 24 = .ok (.ifCond .ne 13, 3) := by decide +kernel
theorem dX10_path_27 : decode cX10_path 27 = .ok (.new 124, 3) := by decide +kernel
theorem dX10_path_30 : decode cX10_path 30 = .ok (.dup, 1) := by decide +kernel
theorem dX10_path_31 : decode cX10_path 31 = .ok (.ldc 126, 2) := by decide +kernel
theorem dX10_path_33 : decode cX10_path 33 = .ok (.invokespecial 128, 3) := by decide +kernel
theorem dX10_path_36 : decode cX10_path 36 = .ok (.athrow, 1) := by decide +kernel
theorem dX10_path_37 : decode cX10_path 37 = .ok (.aload_n 0, 1) := by decide +kernel
theorem dX10_path_38 : decode cX10_path 38 = .ok (.getfield 47, 3) := by decide +kernel
theorem dX10_path_41 : decode cX10_path 41 = .ok (.aload_n 0, 1) := by decide +kernel
theorem dX10_path_42 : decode cX10_path 42 = .ok (.getfield 9, 3) := by decide +kernel
theorem dX10_path_45 : decode cX10_path 45 = .ok (.iload_n 2, 1) := by decide +kernel
theorem dX10_path_46 : decode cX10_path 46 = .ok (.aload_n 0, 1) := by decide +kernel
theorem dX10_path_47 : decode cX10_path 47 = .ok (.getfield 24, 3) := by decide +kernel
theorem dX10_path_50 : decode cX10_path 50 = .ok (.invokevirtual 154, 3) := by decide +kernel
theorem dX10_path_53 : decode cX10_path 53 = .ok (.istore_n 3, 1) := by decide +kernel
theorem dX10_path_54 : decode cX10_path 54 = .ok (.aload_n 0, 1) := by decide +kernel
theorem dX10_path_55 : decode cX10_path 55 = .ok (.iload_n 3, 1) := by decide +kernel
theorem dX10_path_56 : decode cX10_path 56 = .ok (.invokevirtual 158, 3) := by decide +kernel
theorem dX10_path_59 : decode cX10_path 59 = .ok (.iload_n 3, 1) := by decide +kernel
theorem dX10_path_60 : decode cX10_path 60 = .ok (.ifCond .ne 42, 3) := by decide +kernel
theorem dX10_path_63 : decode cX10_path 63 = .ok (.aload_n 0, 1) := by decide +kernel
theorem dX10_path_64 : decode cX10_path 64 = .ok (.getfield 19, 3) := by decide +kernel
theorem dX10_path_67 : decode cX10_path 67 = .ok (.iload_n 1, 1) := by decide +kernel
theorem dX10_path_68 : decode cX10_path 68 = .ok (.aaload, 1) := by decide +kernel
theorem dX10_path_69 : decode cX10_path 69 = .ok (.astore 4, 2) := by decide +kernel
theorem dX10_path_71 : decode cX10_path 71 = .ok (.aload_n 0, 1) := by decide +kernel
theorem dX10_path_72 : decode cX10_path 72 = .ok (.getfield 19, 3) := by decide +kernel
theorem dX10_path_75 : decode cX10_path 75 = .ok (.iload_n 1, 1) := by decide +kernel
theorem dX10_path_76 : decode cX10_path 76 = .ok (.aload_n 0, 1) := by decide +kernel
theorem dX10_path_77 : decode cX10_path 77 = .ok (.getfield 24, 3) := by decide +kernel
theorem dX10_path_80 : decode cX10_path 80 = .ok (.aastore, 1) := by decide +kernel
theorem dX10_path_81 : decode cX10_path 81 = .ok (.aload_n 0, 1) := by decide +kernel
theorem dX10_path_82 : decode cX10_path 82 = .ok (.aload 4, 2) := by decide +kernel
theorem dX10_path_84 : decode cX10_path 84 = .ok (.ifnonnull 13, 3) := by decide +kernel
theorem dX10_path_87 : decode cX10_path 87 = .ok (.new 17, 3) := by decide +kernel
theorem dX10_path_90 : decode cX10_path 90 = .ok (.dup, 1) := by decide +kernel
theorem dX10_path_91 : decode cX10_path 91 = .ok (.invokespecial 23, 3) := by decide +kernel
theorem dX10_path_94 : decode cX10_path 94 = .ok (.goto 5, 3) := by decide +kernel
theorem dX10_path_99 : decode cX10_path 99 = .ok (.putfield 24, 3) := by decide +kernel
theorem dX10_path_102 : decode cX10_path 102 = .ok (.iload_n 3, 1) := by decide +kernel
theorem dX10_path_103 : decode cX10_path 103 = .ok (.ireturn, 1) := by decide +kernel
set_option maxRecDepth 100000 in
theorem ggX10_count_X9_countKind : GoodIn wsX10_count wsX9_countKind := (gi_cons 13 rfl rfl (gi_cons 14 rfl rfl (gi_cons 15 rfl rfl (gi_cons 225 rfl rfl (gi_cons 226 rfl rfl (gi_cons 227 rfl rfl (gi_cons 228 rfl rfl (gi_cons 229 rfl rfl gi_nil))))))))
set_option maxRecDepth 20000 in
theorem gX10_count_X9_countKind : GoodIn wsX10_count (wsV RX10 164 RX9 yX9_countKind wsX9_countKind) := goodIn_app (goodIn_of _ (by decide +kernel)) ggX10_count_X9_countKind
set_option maxRecDepth 100000 in
theorem ggX10_count_X9_deepest : GoodIn wsX10_count wsX9_deepest := (gi_cons 19 rfl rfl (gi_cons 14 rfl rfl (gi_cons 20 rfl rfl (gi_cons 21 rfl rfl (gi_cons 22 rfl rfl (gi_cons 23 rfl rfl (gi_cons 24 rfl rfl (gi_cons 225 rfl rfl (gi_cons 226 rfl rfl (gi_cons 227 rfl rfl (gi_cons 228 rfl rfl (gi_cons 229 rfl rfl gi_nil))))))))))))
set_option maxRecDepth 20000 in
theorem gX10_count_X9_deepest : GoodIn wsX10_count (wsV RX10 167 RX9 yX9_deepest wsX9_deepest) := goodIn_app (goodIn_of _ (by decide +kernel)) ggX10_count_X9_deepest
set_option maxRecDepth 100000 in
theorem ggX10_count_X10_pathsThere : GoodIn wsX10_count wsX10_pathsThere := (gi_cons 29 rfl rfl (gi_cons 30 rfl rfl (gi_cons 200 rfl rfl (gi_cons 201 rfl rfl (gi_cons 202 rfl rfl (gi_cons 203 rfl rfl (gi_cons 204 rfl rfl (gi_cons 205 rfl rfl (gi_cons 206 rfl rfl (gi_cons 207 rfl rfl (gi_cons 208 rfl rfl (gi_cons 209 rfl rfl (gi_cons 210 rfl rfl (gi_cons 211 rfl rfl (gi_cons 212 rfl rfl (gi_cons 213 rfl rfl (gi_cons 214 rfl rfl (gi_cons 215 rfl rfl (gi_cons 216 rfl rfl (gi_cons 217 rfl rfl gi_nil))))))))))))))))))))
set_option maxRecDepth 20000 in
theorem gX10_count_X10_pathsThere : GoodIn wsX10_count (wsV RX10 171 RX10 yX10_pathsThere wsX10_pathsThere) := goodIn_app (goodIn_of _ (by decide +kernel)) ggX10_count_X10_pathsThere
set_option maxRecDepth 100000 in
theorem ggX10_count_X9_unlike : GoodIn wsX10_count wsX9_unlike := (gi_cons 34 rfl rfl (gi_cons 14 rfl rfl (gi_cons 35 rfl rfl (gi_cons 36 rfl rfl (gi_cons 37 rfl rfl (gi_cons 12 rfl rfl (gi_cons 38 rfl rfl (gi_cons 39 rfl rfl (gi_cons 40 rfl rfl (gi_cons 41 rfl rfl (gi_cons 42 rfl rfl (gi_cons 15 rfl rfl (gi_cons 43 rfl rfl (gi_cons 44 rfl rfl (gi_cons 45 rfl rfl (gi_cons 46 rfl rfl (gi_cons 47 rfl rfl (gi_cons 48 rfl rfl (gi_cons 49 rfl rfl (gi_cons 50 rfl rfl (gi_cons 51 rfl rfl (gi_cons 52 rfl rfl (gi_cons 53 rfl rfl (gi_cons 54 rfl rfl (gi_cons 55 rfl rfl (gi_cons 20 rfl rfl (gi_cons 56 rfl rfl (gi_cons 57 rfl rfl (gi_cons 58 rfl rfl (gi_cons 59 rfl rfl (gi_cons 60 rfl rfl (gi_cons 61 rfl rfl (gi_cons 62 rfl rfl (gi_cons 63 rfl rfl (gi_cons 64 rfl rfl (gi_cons 65 rfl rfl (gi_cons 66 rfl rfl (gi_cons 67 rfl rfl (gi_cons 68 rfl rfl (gi_cons 225 rfl rfl (gi_cons 226 rfl rfl (gi_cons 227 rfl rfl (gi_cons 228 rfl rfl (gi_cons 229 rfl rfl gi_nil))))))))))))))))))))))))))))))))))))))))))))
set_option maxRecDepth 20000 in
theorem gX10_count_X9_unlike : GoodIn wsX10_count (wsV RX10 174 RX9 yX9_unlike wsX9_unlike) := goodIn_app (goodIn_of _ (by decide +kernel)) ggX10_count_X9_unlike
set_option maxRecDepth 100000 in
theorem ggX10_count_X6_refusedOf : GoodIn wsX10_count wsX6_refusedOf := (gi_cons 119 rfl rfl (gi_cons 120 rfl rfl (gi_cons 218 rfl rfl (gi_cons 219 rfl rfl (gi_cons 220 rfl rfl (gi_cons 221 rfl rfl (gi_cons 222 rfl rfl (gi_cons 223 rfl rfl (gi_cons 224 rfl rfl gi_nil)))))))))
set_option maxRecDepth 20000 in
theorem gX10_count_X6_refusedOf : GoodIn wsX10_count (wsV RX10 184 RX6 yX6_refusedOf wsX6_refusedOf) := goodIn_app (goodIn_of _ (by decide +kernel)) ggX10_count_X6_refusedOf
set_option maxRecDepth 100000 in
theorem ggX10_count_X9_sum : GoodIn wsX10_count wsX9_sum := (gi_cons 124 rfl rfl (gi_cons 14 rfl rfl (gi_cons 15 rfl rfl (gi_cons 47 rfl rfl (gi_cons 225 rfl rfl (gi_cons 226 rfl rfl (gi_cons 227 rfl rfl (gi_cons 228 rfl rfl (gi_cons 229 rfl rfl gi_nil)))))))))
set_option maxRecDepth 20000 in
theorem gX10_count_X9_sum : GoodIn wsX10_count (wsV RX10 187 RX9 yX9_sum wsX9_sum) := goodIn_app (goodIn_of _ (by decide +kernel)) ggX10_count_X9_sum
set_option maxRecDepth 100000 in
theorem ggX10_count_X10_pathsThatFit : GoodIn wsX10_count wsX10_pathsThatFit := (gi_cons 128 rfl rfl (gi_cons 30 rfl rfl (gi_cons 3 rfl rfl (gi_cons 129 rfl rfl (gi_cons 130 rfl rfl (gi_cons 131 rfl rfl (gi_cons 132 rfl rfl (gi_cons 28 rfl rfl (gi_cons 133 rfl rfl (gi_cons 134 rfl rfl (gi_cons 135 rfl rfl (gi_cons 136 rfl rfl (gi_cons 137 rfl rfl (gi_cons 138 rfl rfl (gi_cons 139 rfl rfl (gi_cons 140 rfl rfl (gi_cons 141 rfl rfl (gi_cons 142 rfl rfl (gi_cons 143 rfl rfl (gi_cons 144 rfl rfl (gi_cons 145 rfl rfl (gi_cons 146 rfl rfl (gi_cons 66 rfl rfl (gi_cons 67 rfl rfl (gi_cons 12 rfl rfl (gi_cons 68 rfl rfl (gi_cons 14 rfl rfl (gi_cons 15 rfl rfl (gi_cons 20 rfl rfl (gi_cons 64 rfl rfl (gi_cons 147 rfl rfl (gi_cons 148 rfl rfl (gi_cons 149 rfl rfl (gi_cons 150 rfl rfl (gi_cons 151 rfl rfl (gi_cons 152 rfl rfl (gi_cons 153 rfl rfl (gi_cons 154 rfl rfl (gi_cons 155 rfl rfl (gi_cons 156 rfl rfl (gi_cons 53 rfl rfl (gi_cons 54 rfl rfl (gi_cons 55 rfl rfl (gi_cons 157 rfl rfl (gi_cons 158 rfl rfl (gi_cons 159 rfl rfl (gi_cons 160 rfl rfl (gi_cons 161 rfl rfl (gi_cons 162 rfl rfl (gi_cons 163 rfl rfl (gi_cons 164 rfl rfl (gi_cons 165 rfl rfl (gi_cons 166 rfl rfl (gi_cons 167 rfl rfl (gi_cons 168 rfl rfl (gi_cons 169 rfl rfl (gi_cons 40 rfl rfl (gi_cons 41 rfl rfl (gi_cons 42 rfl rfl (gi_cons 170 rfl rfl (gi_cons 57 rfl rfl (gi_cons 58 rfl rfl (gi_cons 59 rfl rfl (gi_cons 171 rfl rfl (gi_cons 172 rfl rfl (gi_cons 173 rfl rfl (gi_cons 174 rfl rfl (gi_cons 175 rfl rfl (gi_cons 22 rfl rfl (gi_cons 23 rfl rfl (gi_cons 24 rfl rfl (gi_cons 176 rfl rfl (gi_cons 177 rfl rfl (gi_cons 178 rfl rfl (gi_cons 179 rfl rfl (gi_cons 180 rfl rfl (gi_cons 181 rfl rfl (gi_cons 182 rfl rfl (gi_cons 183 rfl rfl (gi_cons 184 rfl rfl (gi_cons 185 rfl rfl (gi_cons 186 rfl rfl (gi_cons 187 rfl rfl (gi_cons 188 rfl rfl (gi_cons 189 rfl rfl (gi_cons 44 rfl rfl (gi_cons 45 rfl rfl (gi_cons 46 rfl rfl (gi_cons 47 rfl rfl (gi_cons 190 rfl rfl (gi_cons 191 rfl rfl (gi_cons 192 rfl rfl (gi_cons 118 rfl rfl (gi_cons 193 rfl rfl (gi_cons 194 rfl rfl (gi_cons 195 rfl rfl (gi_cons 196 rfl rfl (gi_cons 197 rfl rfl (gi_cons 198 rfl rfl (gi_cons 199 rfl rfl (gi_cons 200 rfl rfl (gi_cons 201 rfl rfl (gi_cons 202 rfl rfl (gi_cons 203 rfl rfl (gi_cons 204 rfl rfl (gi_cons 205 rfl rfl (gi_cons 206 rfl rfl (gi_cons 207 rfl rfl (gi_cons 208 rfl rfl (gi_cons 209 rfl rfl (gi_cons 210 rfl rfl (gi_cons 211 rfl rfl (gi_cons 212 rfl rfl (gi_cons 213 rfl rfl (gi_cons 214 rfl rfl (gi_cons 215 rfl rfl (gi_cons 216 rfl rfl (gi_cons 217 rfl rfl (gi_cons 218 rfl rfl (gi_cons 219 rfl rfl (gi_cons 220 rfl rfl (gi_cons 221 rfl rfl (gi_cons 222 rfl rfl (gi_cons 223 rfl rfl (gi_cons 224 rfl rfl (gi_cons 235 rfl rfl (gi_cons 236 rfl rfl (gi_cons 237 rfl rfl (gi_cons 238 rfl rfl (gi_cons 239 rfl rfl (gi_cons 240 rfl rfl (gi_cons 241 rfl rfl (gi_cons 242 rfl rfl (gi_cons 243 rfl rfl (gi_cons 244 rfl rfl (gi_cons 245 rfl rfl (gi_cons 246 rfl rfl (gi_cons 247 rfl rfl (gi_cons 248 rfl rfl (gi_cons 225 rfl rfl (gi_cons 226 rfl rfl (gi_cons 227 rfl rfl (gi_cons 228 rfl rfl (gi_cons 229 rfl rfl gi_nil))))))))))))))))))))))))))))))))))))))))))))))))))))))))))))))))))))))))))))))))))))))))))))))))))))))))))))))))))))))))))))))))))))))))))))))))
set_option maxRecDepth 20000 in
theorem gX10_count_X10_pathsThatFit : GoodIn wsX10_count (wsV RX10 190 RX10 yX10_pathsThatFit wsX10_pathsThatFit) := goodIn_app (goodIn_of _ (by decide +kernel)) ggX10_count_X10_pathsThatFit
theorem dX10_count_0 : decode cX10_count 0 = .ok (.iload_n 1, 1) := by decide +kernel
theorem dX10_count_1 : decode cX10_count 1 = .ok (.tableswitch 229 0 17 #[87, 98, 98, 98, 98, 112, 123, 128, 139, 147, 180, 188, 196, 201, 201, 201, 213, 224], 87) := by decide +kernel
theorem dX10_count_88 : decode cX10_count 88 = .ok (.aload_n 0, 1) := by decide +kernel
theorem dX10_count_89 : decode cX10_count 89 = .ok (.getfield 63, 3) := by decide +kernel
theorem dX10_count_92 : decode cX10_count 92 = .ok (.getfield 107, 3) := by decide +kernel
theorem dX10_count_95 : decode cX10_count 95 = .ok (.getfield 161, 3) := by decide +kernel
theorem dX10_count_98 : decode cX10_count 98 = .ok (.ireturn, 1) := by decide +kernel
theorem dX10_count_99 : decode cX10_count 99 = .ok (.aload_n 0, 1) := by decide +kernel
theorem dX10_count_100 : decode cX10_count 100 = .ok (.getfield 63, 3) := by decide +kernel
theorem dX10_count_103 : decode cX10_count 103 = .ok (.getfield 107, 3) := by decide +kernel
theorem dX10_count_106 : decode cX10_count 106 = .ok (.iload_n 1, 1) := by decide +kernel
