set_option maxRecDepth 100000 in
theorem ggX1_read_X8_begin : GoodIn wsX1_read wsX8_begin := (gi_cons 6 rfl rfl (gi_cons 7 rfl rfl (gi_cons 8 rfl rfl (gi_cons 9 rfl rfl (gi_cons 10 rfl rfl (gi_cons 11 rfl rfl (gi_cons 12 rfl rfl (gi_cons 13 rfl rfl (gi_cons 14 rfl rfl (gi_cons 15 rfl rfl (gi_cons 16 rfl rfl (gi_cons 17 rfl rfl (gi_cons 18 rfl rfl (gi_cons 19 rfl rfl (gi_cons 20 rfl rfl (gi_cons 21 rfl rfl (gi_cons 5 rfl rfl (gi_cons 22 rfl rfl (gi_cons 23 rfl rfl (gi_cons 24 rfl rfl (gi_cons 25 rfl rfl (gi_cons 26 rfl rfl (gi_cons 27 rfl rfl (gi_cons 28 rfl rfl (gi_cons 29 rfl rfl (gi_cons 30 rfl rfl (gi_cons 31 rfl rfl (gi_cons 32 rfl rfl (gi_cons 33 rfl rfl (gi_cons 34 rfl rfl (gi_cons 35 rfl rfl (gi_cons 36 rfl rfl (gi_cons 37 rfl rfl (gi_cons 38 rfl rfl (gi_cons 39 rfl rfl (gi_cons 40 rfl rfl (gi_cons 116 rfl rfl (gi_cons 117 rfl rfl (gi_cons 118 rfl rfl (gi_cons 119 rfl rfl (gi_cons 120 rfl rfl (gi_cons 121 rfl rfl (gi_cons 122 rfl rfl (gi_cons 123 rfl rfl (gi_cons 124 rfl rfl gi_nil)))))))))))))))))))))))))))))))))))))))))))))
set_option maxRecDepth 20000 in
theorem gX1_read_X8_begin : GoodIn wsX1_read (wsV RX1 15 RX8 yX8_begin wsX8_begin) := goodIn_app (goodIn_of _ (by decide +kernel)) ggX1_read_X8_begin
set_option maxRecDepth 100000 in
theorem ggX1_read_X9_clear : GoodIn wsX1_read wsX9_clear := (gi_cons 45 rfl rfl (gi_cons 46 rfl rfl (gi_cons 125 rfl rfl (gi_cons 126 rfl rfl (gi_cons 127 rfl rfl (gi_cons 128 rfl rfl (gi_cons 129 rfl rfl gi_nil)))))))
set_option maxRecDepth 20000 in
theorem gX1_read_X9_clear : GoodIn wsX1_read (wsV RX1 21 RX9 yX9_clear wsX9_clear) := goodIn_app (goodIn_of _ (by decide +kernel)) ggX1_read_X9_clear
set_option maxRecDepth 100000 in
theorem ggX1_read_X1_readThing : GoodIn wsX1_read wsX1_readThing := (gi_cons 51 rfl rfl (gi_cons 1 rfl rfl (gi_cons 52 rfl rfl (gi_cons 53 rfl rfl (gi_cons 50 rfl rfl (gi_cons 54 rfl rfl (gi_cons 55 rfl rfl (gi_cons 56 rfl rfl (gi_cons 57 rfl rfl (gi_cons 5 rfl rfl (gi_cons 58 rfl rfl (gi_cons 15 rfl rfl (gi_cons 17 rfl rfl (gi_cons 31 rfl rfl (gi_cons 16 rfl rfl (gi_cons 19 rfl rfl (gi_cons 59 rfl rfl (gi_cons 60 rfl rfl (gi_cons 61 rfl rfl (gi_cons 62 rfl rfl (gi_cons 63 rfl rfl (gi_cons 64 rfl rfl (gi_cons 65 rfl rfl (gi_cons 66 rfl rfl (gi_cons 67 rfl rfl (gi_cons 68 rfl rfl (gi_cons 69 rfl rfl (gi_cons 70 rfl rfl (gi_cons 71 rfl rfl (gi_cons 72 rfl rfl (gi_cons 73 rfl rfl (gi_cons 33 rfl rfl (gi_cons 74 rfl rfl (gi_cons 75 rfl rfl (gi_cons 76 rfl rfl (gi_cons 77 rfl rfl (gi_cons 32 rfl rfl (gi_cons 78 rfl rfl (gi_cons 79 rfl rfl (gi_cons 80 rfl rfl (gi_cons 81 rfl rfl (gi_cons 14 rfl rfl (gi_cons 18 rfl rfl (gi_cons 82 rfl rfl (gi_cons 83 rfl rfl (gi_cons 84 rfl rfl (gi_cons 85 rfl rfl (gi_cons 86 rfl rfl (gi_cons 87 rfl rfl (gi_cons 88 rfl rfl (gi_cons 44 rfl rfl (gi_cons 89 rfl rfl (gi_cons 46 rfl rfl (gi_cons 90 rfl rfl (gi_cons 91 rfl rfl (gi_cons 92 rfl rfl (gi_cons 93 rfl rfl (gi_cons 94 rfl rfl (gi_cons 95 rfl rfl (gi_cons 96 rfl rfl (gi_cons 97 rfl rfl (gi_cons 98 rfl rfl (gi_cons 99 rfl rfl (gi_cons 47 rfl rfl (gi_cons 48 rfl rfl (gi_cons 49 rfl rfl (gi_cons 100 rfl rfl (gi_cons 101 rfl rfl (gi_cons 102 rfl rfl (gi_cons 103 rfl rfl (gi_cons 104 rfl rfl (gi_cons 105 rfl rfl (gi_cons 106 rfl rfl (gi_cons 107 rfl rfl (gi_cons 108 rfl rfl (gi_cons 109 rfl rfl (gi_cons 110 rfl rfl (gi_cons 111 rfl rfl (gi_cons 112 rfl rfl (gi_cons 113 rfl rfl (gi_cons 114 rfl rfl (gi_cons 115 rfl rfl (gi_cons 116 rfl rfl (gi_cons 117 rfl rfl (gi_cons 118 rfl rfl (gi_cons 119 rfl rfl (gi_cons 120 rfl rfl (gi_cons 121 rfl rfl (gi_cons 122 rfl rfl (gi_cons 123 rfl rfl (gi_cons 124 rfl rfl (gi_cons 125 rfl rfl (gi_cons 126 rfl rfl (gi_cons 127 rfl rfl (gi_cons 128 rfl rfl (gi_cons 129 rfl rfl gi_nil))))))))))))))))))))))))))))))))))))))))))))))))))))))))))))))))))))))))))))))))))))))))))))))))
set_option maxRecDepth 20000 in
theorem gX1_read_X1_readThing : GoodIn wsX1_read (wsV RX1 26 RX1 yX1_readThing wsX1_readThing) := goodIn_app (goodIn_of _ (by decide +kernel)) ggX1_read_X1_readThing
set_option maxRecDepth 100000 in
theorem ggX1_read_X8_fail : GoodIn wsX1_read wsX8_fail := (gi_cons 58 rfl rfl (gi_cons 15 rfl rfl (gi_cons 17 rfl rfl (gi_cons 31 rfl rfl (gi_cons 16 rfl rfl (gi_cons 19 rfl rfl (gi_cons 116 rfl rfl (gi_cons 117 rfl rfl (gi_cons 118 rfl rfl (gi_cons 119 rfl rfl (gi_cons 120 rfl rfl (gi_cons 121 rfl rfl (gi_cons 122 rfl rfl (gi_cons 123 rfl rfl (gi_cons 124 rfl rfl gi_nil)))))))))))))))
set_option maxRecDepth 20000 in
theorem gX1_read_X8_fail : GoodIn wsX1_read (wsV RX1 34 RX8 yX8_fail wsX8_fail) := goodIn_app (goodIn_of _ (by decide +kernel)) ggX1_read_X8_fail
theorem dX1_read_0 : decode cX1_read 0 = .ok (.aload_n 0, 1) := by decide +kernel
theorem dX1_read_1 : decode cX1_read 1 = .ok (.getfield 9, 3) := by decide +kernel
theorem dX1_read_4 : decode cX1_read 4 = .ok (.aload_n 1, 1) := by decide +kernel
theorem dX1_read_5 : decode cX1_read 5 = .ok (.iload_n 2, 1) := by decide +kernel
theorem dX1_read_6 : decode cX1_read 6 = .ok (.invokevirtual 15, 3) := by decide +kernel
theorem dX1_read_9 : decode cX1_read 9 = .ok (.aload_n 3, 1) := by decide +kernel
theorem dX1_read_10 : decode cX1_read 10 = .ok (.invokevirtual 21, 3) := by decide +kernel
theorem dX1_read_13 : decode cX1_read 13 = .ok (.aload_n 0, 1) := by decide +kernel
theorem dX1_read_14 : decode cX1_read 14 = .ok (.aload_n 3, 1) := by decide +kernel
theorem dX1_read_15 : decode cX1_read 15 = .ok (.iconst 0, 1) := by decide +kernel
theorem dX1_read_16 : decode cX1_read 16 = .ok (.iconst 0, 1) := by decide +kernel
theorem dX1_read_17 : decode cX1_read 17 = .ok (.invokevirtual 26, 3) := by decide +kernel
theorem dX1_read_20 : decode cX1_read 20 = .ok (.aload_n 0, 1) := by decide +kernel
theorem dX1_read_21 : decode cX1_read 21 = .ok (.getfield 9, 3) := by decide +kernel
theorem dX1_read_24 : decode cX1_read 24 = .ok (.getfield 30, 3) := by decide +kernel
theorem dX1_read_27 : decode cX1_read 27 = .ok (.sipush 259, 3) := by decide +kernel
theorem dX1_read_30 : decode cX1_read 30 = .ok (.if_icmp .eq 11, 3) := by decide +kernel
theorem dX1_read_33 : decode cX1_read 33 = .ok (.aload_n 0, 1) := by decide +kernel
theorem dX1_read_34 : decode cX1_read 34 = .ok (.getfield 9, 3) := by decide +kernel
theorem dX1_read_37 : decode cX1_read 37 = .ok (.iconst 1, 1) := by decide +kernel
theorem dX1_read_38 : decode cX1_read 38 = .ok (.invokevirtual 34, 3) := by decide +kernel
theorem dX1_read_41 : decode cX1_read 41 = .ok (.aload_n 0, 1) := by decide +kernel
theorem dX1_read_42 : decode cX1_read 42 = .ok (.getfield 9, 3) := by decide +kernel
theorem dX1_read_45 : decode cX1_read 45 = .ok (.getfield 38, 3) := by decide +kernel
theorem dX1_read_48 : decode cX1_read 48 = .ok (.ireturn, 1) := by decide +kernel
set_option maxRecDepth 100000 in
theorem ggX1_readThing_X1_canBegin : GoodIn wsX1_readThing wsX1_canBegin := (gi_cons 5 rfl rfl gi_nil)
set_option maxRecDepth 20000 in
theorem gX1_readThing_X1_canBegin : GoodIn wsX1_readThing (va_wsS RX1 41 yX1_canBegin wsX1_canBegin) := goodIn_app (goodIn_of _ (by decide +kernel)) ggX1_readThing_X1_canBegin
set_option maxRecDepth 100000 in
theorem ggX1_readThing_X8_fail : GoodIn wsX1_readThing wsX8_fail := (gi_cons 10 rfl rfl (gi_cons 11 rfl rfl (gi_cons 12 rfl rfl (gi_cons 13 rfl rfl (gi_cons 14 rfl rfl (gi_cons 15 rfl rfl (gi_cons 82 rfl rfl (gi_cons 83 rfl rfl (gi_cons 84 rfl rfl (gi_cons 85 rfl rfl (gi_cons 86 rfl rfl (gi_cons 87 rfl rfl (gi_cons 88 rfl rfl (gi_cons 89 rfl rfl (gi_cons 90 rfl rfl gi_nil)))))))))))))))
set_option maxRecDepth 20000 in
theorem gX1_readThing_X8_fail : GoodIn wsX1_readThing (wsV RX1 34 RX8 yX8_fail wsX8_fail) := goodIn_app (goodIn_of _ (by decide +kernel)) ggX1_readThing_X8_fail
set_option maxRecDepth 100000 in
theorem ggX1_readThing_X1_readList : GoodIn wsX1_readThing wsX1_readList := (gi_cons 61 rfl rfl (gi_cons 1 rfl rfl (gi_cons 47 rfl rfl (gi_cons 48 rfl rfl (gi_cons 49 rfl rfl (gi_cons 50 rfl rfl (gi_cons 51 rfl rfl (gi_cons 52 rfl rfl (gi_cons 53 rfl rfl (gi_cons 54 rfl rfl (gi_cons 55 rfl rfl (gi_cons 56 rfl rfl (gi_cons 62 rfl rfl (gi_cons 38 rfl rfl (gi_cons 39 rfl rfl (gi_cons 9 rfl rfl (gi_cons 40 rfl rfl (gi_cons 11 rfl rfl (gi_cons 12 rfl rfl (gi_cons 41 rfl rfl (gi_cons 42 rfl rfl (gi_cons 15 rfl rfl (gi_cons 63 rfl rfl (gi_cons 64 rfl rfl (gi_cons 65 rfl rfl (gi_cons 4 rfl rfl (gi_cons 66 rfl rfl (gi_cons 67 rfl rfl (gi_cons 68 rfl rfl (gi_cons 69 rfl rfl (gi_cons 37 rfl rfl (gi_cons 26 rfl rfl (gi_cons 7 rfl rfl (gi_cons 8 rfl rfl (gi_cons 10 rfl rfl (gi_cons 13 rfl rfl (gi_cons 14 rfl rfl (gi_cons 70 rfl rfl (gi_cons 71 rfl rfl (gi_cons 72 rfl rfl (gi_cons 73 rfl rfl (gi_cons 74 rfl rfl (gi_cons 75 rfl rfl (gi_cons 28 rfl rfl (gi_cons 29 rfl rfl (gi_cons 30 rfl rfl (gi_cons 31 rfl rfl (gi_cons 76 rfl rfl (gi_cons 33 rfl rfl (gi_cons 34 rfl rfl (gi_cons 35 rfl rfl (gi_cons 36 rfl rfl (gi_cons 77 rfl rfl (gi_cons 78 rfl rfl (gi_cons 79 rfl rfl (gi_cons 80 rfl rfl (gi_cons 6 rfl rfl (gi_cons 22 rfl rfl (gi_cons 23 rfl rfl (gi_cons 24 rfl rfl (gi_cons 25 rfl rfl (gi_cons 27 rfl rfl (gi_cons 32 rfl rfl (gi_cons 0 rfl rfl (gi_cons 2 rfl rfl (gi_cons 3 rfl rfl (gi_cons 5 rfl rfl (gi_cons 16 rfl rfl (gi_cons 17 rfl rfl (gi_cons 18 rfl rfl (gi_cons 19 rfl rfl (gi_cons 20 rfl rfl (gi_cons 21 rfl rfl (gi_cons 43 rfl rfl (gi_cons 44 rfl rfl (gi_cons 45 rfl rfl (gi_cons 46 rfl rfl (gi_cons 57 rfl rfl (gi_cons 58 rfl rfl (gi_cons 59 rfl rfl (gi_cons 60 rfl rfl (gi_cons 81 rfl rfl (gi_cons 82 rfl rfl (gi_cons 83 rfl rfl (gi_cons 84 rfl rfl (gi_cons 85 rfl rfl (gi_cons 86 rfl rfl (gi_cons 87 rfl rfl (gi_cons 88 rfl rfl (gi_cons 89 rfl rfl (gi_cons 90 rfl rfl (gi_cons 91 rfl rfl (gi_cons 92 rfl rfl (gi_cons 93 rfl rfl (gi_cons 94 rfl rfl (gi_cons 95 rfl rfl gi_nil))))))))))))))))))))))))))))))))))))))))))))))))))))))))))))))))))))))))))))))))))))))))))))))))
set_option maxRecDepth 20000 in
theorem gX1_readThing_X1_readList : GoodIn wsX1_readThing (wsV RX1 48 RX1 yX1_readList wsX1_readList) := goodIn_app (goodIn_of _ (by decide +kernel)) ggX1_readThing_X1_readList
set_option maxRecDepth 100000 in
theorem ggX1_readThing_X1_readMap : GoodIn wsX1_readThing wsX1_readMap := (gi_cons 70 rfl rfl (gi_cons 1 rfl rfl (gi_cons 47 rfl rfl (gi_cons 48 rfl rfl (gi_cons 49 rfl rfl (gi_cons 50 rfl rfl (gi_cons 51 rfl rfl (gi_cons 52 rfl rfl (gi_cons 53 rfl rfl (gi_cons 54 rfl rfl (gi_cons 55 rfl rfl (gi_cons 56 rfl rfl (gi_cons 62 rfl rfl (gi_cons 38 rfl rfl (gi_cons 39 rfl rfl (gi_cons 9 rfl rfl (gi_cons 40 rfl rfl (gi_cons 11 rfl rfl (gi_cons 12 rfl rfl (gi_cons 41 rfl rfl (gi_cons 42 rfl rfl (gi_cons 15 rfl rfl (gi_cons 71 rfl rfl (gi_cons 72 rfl rfl (gi_cons 73 rfl rfl (gi_cons 4 rfl rfl (gi_cons 74 rfl rfl (gi_cons 75 rfl rfl (gi_cons 28 rfl rfl (gi_cons 29 rfl rfl (gi_cons 30 rfl rfl (gi_cons 31 rfl rfl (gi_cons 76 rfl rfl (gi_cons 33 rfl rfl (gi_cons 34 rfl rfl (gi_cons 35 rfl rfl (gi_cons 36 rfl rfl (gi_cons 77 rfl rfl (gi_cons 78 rfl rfl (gi_cons 79 rfl rfl (gi_cons 80 rfl rfl (gi_cons 6 rfl rfl (gi_cons 7 rfl rfl (gi_cons 8 rfl rfl (gi_cons 10 rfl rfl (gi_cons 13 rfl rfl (gi_cons 14 rfl rfl (gi_cons 22 rfl rfl (gi_cons 23 rfl rfl (gi_cons 24 rfl rfl (gi_cons 25 rfl rfl (gi_cons 26 rfl rfl (gi_cons 27 rfl rfl (gi_cons 32 rfl rfl (gi_cons 37 rfl rfl (gi_cons 66 rfl rfl (gi_cons 67 rfl rfl (gi_cons 68 rfl rfl (gi_cons 69 rfl rfl (gi_cons 63 rfl rfl (gi_cons 64 rfl rfl (gi_cons 65 rfl rfl (gi_cons 61 rfl rfl (gi_cons 0 rfl rfl (gi_cons 2 rfl rfl (gi_cons 3 rfl rfl (gi_cons 5 rfl rfl (gi_cons 16 rfl rfl (gi_cons 17 rfl rfl (gi_cons 18 rfl rfl (gi_cons 19 rfl rfl (gi_cons 20 rfl rfl (gi_cons 21 rfl rfl (gi_cons 43 rfl rfl (gi_cons 44 rfl rfl (gi_cons 45 rfl rfl (gi_cons 46 rfl rfl (gi_cons 57 rfl rfl (gi_cons 58 rfl rfl (gi_cons 59 rfl rfl (gi_cons 60 rfl rfl (gi_cons 81 rfl rfl (gi_cons 82 rfl rfl (gi_cons 83 rfl rfl (gi_cons 84 rfl rfl (gi_cons 85 rfl rfl (gi_cons 86 rfl rfl (gi_cons 87 rfl rfl (gi_cons 88 rfl rfl (gi_cons 89 rfl rfl (gi_cons 90 rfl rfl (gi_cons 91 rfl rfl (gi_cons 92 rfl rfl (gi_cons 93 rfl rfl (gi_cons 94 rfl rfl (gi_cons 95 rfl rfl gi_nil))))))))))))))))))))))))))))))))))))))))))))))))))))))))))))))))))))))))))))))))))))))))))))))))
set_option maxRecDepth 20000 in
theorem gX1_readThing_X1_readMap : GoodIn wsX1_readThing (wsV RX1 51 RX1 yX1_readMap wsX1_readMap) := goodIn_app (goodIn_of _ (by decide +kernel)) ggX1_readThing_X1_readMap
set_option maxRecDepth 100000 in
theorem ggX1_readThing_X8_takeLetters : GoodIn wsX1_readThing wsX8_takeLetters := (gi_cons 25 rfl rfl (gi_cons 15 rfl rfl (gi_cons 26 rfl rfl (gi_cons 7 rfl rfl (gi_cons 8 rfl rfl (gi_cons 9 rfl rfl (gi_cons 10 rfl rfl (gi_cons 11 rfl rfl (gi_cons 12 rfl rfl (gi_cons 13 rfl rfl (gi_cons 14 rfl rfl (gi_cons 27 rfl rfl (gi_cons 28 rfl rfl (gi_cons 29 rfl rfl (gi_cons 30 rfl rfl (gi_cons 31 rfl rfl (gi_cons 32 rfl rfl (gi_cons 33 rfl rfl (gi_cons 34 rfl rfl (gi_cons 35 rfl rfl (gi_cons 36 rfl rfl (gi_cons 37 rfl rfl (gi_cons 38 rfl rfl (gi_cons 39 rfl rfl (gi_cons 40 rfl rfl (gi_cons 41 rfl rfl (gi_cons 42 rfl rfl (gi_cons 82 rfl rfl (gi_cons 83 rfl rfl (gi_cons 84 rfl rfl (gi_cons 85 rfl rfl (gi_cons 86 rfl rfl (gi_cons 87 rfl rfl (gi_cons 88 rfl rfl (gi_cons 89 rfl rfl (gi_cons 90 rfl rfl gi_nil))))))))))))))))))))))))))))))))))))
set_option maxRecDepth 20000 in
theorem gX1_readThing_X8_takeLetters : GoodIn wsX1_readThing (wsV RX1 54 RX8 yX8_takeLetters wsX8_takeLetters) := goodIn_app (goodIn_of _ (by decide +kernel)) ggX1_readThing_X8_takeLetters
set_option maxRecDepth 100000 in
theorem ggX1_readThing_X10_firstLetterHighest : GoodIn wsX1_readThing wsX10_firstLetterHighest := (gi_cons 45 rfl rfl (gi_cons 46 rfl rfl gi_nil))
set_option maxRecDepth 20000 in
theorem gX1_readThing_X10_firstLetterHighest_n58 : GoodIn wsX1_readThing (wsX10_firstLetterHighest) := ggX1_readThing_X10_firstLetterHighest
set_option maxRecDepth 100000 in
theorem ggX1_readThing_X9_addThing : GoodIn wsX1_readThing wsX9_addThing := (gi_cons 51 rfl rfl (gi_cons 52 rfl rfl (gi_cons 53 rfl rfl (gi_cons 54 rfl rfl (gi_cons 55 rfl rfl (gi_cons 56 rfl rfl (gi_cons 91 rfl rfl (gi_cons 92 rfl rfl (gi_cons 93 rfl rfl (gi_cons 94 rfl rfl (gi_cons 95 rfl rfl gi_nil)))))))))))
set_option maxRecDepth 20000 in
theorem gX1_readThing_X9_addThing : GoodIn wsX1_readThing (wsV RX1 62 RX9 yX9_addThing wsX9_addThing) := goodIn_app (goodIn_of _ (by decide +kernel)) ggX1_readThing_X9_addThing
set_option maxRecDepth 100000 in
theorem ggX1_readThing_X8_takeNumber : GoodIn wsX1_readThing wsX8_takeNumber := (gi_cons 60 rfl rfl (gi_cons 15 rfl rfl (gi_cons 37 rfl rfl (gi_cons 38 rfl rfl (gi_cons 39 rfl rfl (gi_cons 9 rfl rfl (gi_cons 40 rfl rfl (gi_cons 11 rfl rfl (gi_cons 12 rfl rfl (gi_cons 41 rfl rfl (gi_cons 42 rfl rfl (gi_cons 26 rfl rfl (gi_cons 7 rfl rfl (gi_cons 8 rfl rfl (gi_cons 10 rfl rfl (gi_cons 13 rfl rfl (gi_cons 14 rfl rfl (gi_cons 27 rfl rfl (gi_cons 28 rfl rfl (gi_cons 29 rfl rfl (gi_cons 30 rfl rfl (gi_cons 31 rfl rfl (gi_cons 32 rfl rfl (gi_cons 33 rfl rfl (gi_cons 34 rfl rfl (gi_cons 35 rfl rfl (gi_cons 36 rfl rfl (gi_cons 82 rfl rfl (gi_cons 83 rfl rfl (gi_cons 84 rfl rfl (gi_cons 85 rfl rfl (gi_cons 86 rfl rfl (gi_cons 87 rfl rfl (gi_cons 88 rfl rfl (gi_cons 89 rfl rfl (gi_cons 90 rfl rfl gi_nil))))))))))))))))))))))))))))))))))))
set_option maxRecDepth 20000 in
theorem gX1_readThing_X8_takeNumber : GoodIn wsX1_readThing (wsV RX1 66 RX8 yX8_takeNumber wsX8_takeNumber) := goodIn_app (goodIn_of _ (by decide +kernel)) ggX1_readThing_X8_takeNumber
theorem dX1_readThing_0 : decode cX1_readThing 0 = .ok (.aload_n 0, 1) := by decide +kernel
theorem dX1_readThing_1 : decode cX1_readThing 1 = .ok (.getfield 9, 3) := by decide +kernel
theorem dX1_readThing_4 : decode cX1_readThing 4 = .ok (.getfield 30, 3) := by decide +kernel
theorem dX1_readThing_7 : decode cX1_readThing 7 = .ok (.invokestatic 41, 3) := by decide +kernel
theorem dX1_readThing_10 : decode cX1_readThing 10 = .ok (.ifCond .ne 14, 3) := by decide +kernel
theorem dX1_readThing_13 : decode cX1_readThing 13 = .ok (.aload_n 0, 1) := by decide +kernel
theorem dX1_readThing_14 : decode cX1_readThing 14 = .ok (.getfield 9, 3) := by decide +kernel
theorem dX1_readThing_17 : decode cX1_readThing 17 = .ok (.iconst 1, 1) := by decide +kernel
theorem dX1_readThing_18 : decode cX1_readThing 18 = .ok (.invokevirtual 34, 3) := by decide +kernel
theorem dX1_readThing_21 : decode cX1_readThing 21 = .ok (.goto 122, 3) := by decide +kernel
theorem dX1_readThing_24 : decode cX1_readThing 24 = .ok (.aload_n 1, 1) := by decide +kernel
theorem dX1_readThing_25 : decode cX1_readThing 25 = .ok (.getfield 45, 3) := by decide +kernel
theorem dX1_readThing_28 : decode cX1_readThing 28 = .ok (.bipush 60, 2) := by decide +kernel
theorem dX1_readThing_30 : decode cX1_readThing 30 = .ok (.if_icmp .ge 9, 3) := by decide +kernel
theorem dX1_readThing_33 : decode cX1_readThing 33 = .ok (.iload_n 2, 1) := by decide +kernel
theorem dX1_readThing_34 : decode cX1_readThing 34 = .ok (.bipush 7, 2) := by decide +kernel
theorem dX1_readThing_36 : decode cX1_readThing 36 = .ok (.if_icmp .le 14, 3) := by decide +kernel
theorem dX1_readThing_39 : decode cX1_readThing 39 = .ok (.aload_n 0, 1) := by decide +kernel
theorem dX1_readThing_40 : decode cX1_readThing 40 = .ok (.getfield 9, 3) := by decide +kernel
theorem dX1_readThing_43 : decode cX1_readThing 43 = .ok (.iconst 2, 1) := by decide +kernel
theorem dX1_readThing_44 : decode cX1_readThing 44 = .ok (.invokevirtual 34, 3) := by decide +kernel
theorem dX1_readThing_47 : decode cX1_readThing 47 = .ok (.goto 96, 3) := by decide +kernel
theorem dX1_readThing_50 : decode cX1_readThing 50 = .ok (.aload_n 0, 1) := by decide +kernel
theorem dX1_readThing_51 : decode cX1_readThing 51 = .ok (.getfield 9, 3) := by decide +kernel
theorem dX1_readThing_54 : decode cX1_readThing 54 = .ok (.getfield 30, 3) := by decide +kernel
theorem dX1_readThing_57 : decode cX1_readThing 57 = .ok (.bipush 91, 2) := by decide +kernel
theorem dX1_readThing_59 : decode cX1_readThing 59 = .ok (.if_icmp .ne 13, 3) := by decide +kernel
theorem dX1_readThing_62 : decode cX1_readThing 62 = .ok (.aload_n 0, 1) := by decide +kernel
theorem dX1_readThing_63 : decode cX1_readThing 63 = .ok (.aload_n 1, 1) := by decide +kernel
theorem dX1_readThing_64 : decode cX1_readThing 64 = .ok (.iload_n 2, 1) := by decide +kernel
theorem dX1_readThing_65 : decode cX1_readThing 65 = .ok (.iload_n 3, 1) := by decide +kernel
theorem dX1_readThing_66 : decode cX1_readThing 66 = .ok (.invokevirtual 48, 3) := by decide +kernel
theorem dX1_readThing_69 : decode cX1_readThing 69 = .ok (.goto 74, 3) := by decide +kernel
theorem dX1_readThing_72 : decode cX1_readThing 72 = .ok (.aload_n 0, 1) := by decide +kernel
theorem dX1_readThing_73 : decode cX1_readThing 73 = .ok (.getfield 9, 3) := by decide +kernel
theorem dX1_readThing_76 : decode cX1_readThing 76 = .ok (.getfield 30, 3) := by decide +kernel
theorem dX1_readThing_79 : decode cX1_readThing 79 = .ok (.bipush 123, 2) := by decide +kernel
theorem dX1_readThing_81 : decode cX1_readThing 81 = .ok (.if_icmp .ne 13, 3) := by decide +kernel
theorem dX1_readThing_84 : decode cX1_readThing 84 = .ok (.aload_n 0, 1) := by decide +kernel
theorem dX1_readThing_85 : decode cX1_readThing 85 = .ok (.aload_n 1, 1) := by decide +kernel
theorem dX1_readThing_86 : decode cX1_readThing 86 = .ok (.iload_n 2, 1) := by decide +kernel
theorem dX1_readThing_87 : decode cX1_readThing 87 = .ok (.iload_n 3, 1) := by decide +kernel
theorem dX1_readThing_88 : decode cX1_readThing 88 = .ok (.invokevirtual 51, 3) := by decide +kernel
theorem dX1_readThing_91 : decode cX1_readThing 91 = .ok (.goto 52, 3) := by decide +kernel
theorem dX1_readThing_94 : decode cX1_readThing 94 = .ok (.aload_n 0, 1) := by decide +kernel
theorem dX1_readThing_95 : decode cX1_readThing 95 = .ok (.getfield 9, 3) := by decide +kernel
theorem dX1_readThing_98 : decode cX1_readThing 98 = .ok (.getfield 30, 3) := by decide +kernel
theorem dX1_readThing_101 : decode cX1_readThing 101 = .ok (.sipush 256, 3) := by decide +kernel
theorem dX1_readThing_104 : decode cX1_readThing 104 = .ok (.if_icmp .ne 24, 3) := by decide +kernel
theorem dX1_readThing_107 : decode cX1_readThing 107 = .ok (.aload_n 1, 1) := by decide +kernel
theorem dX1_readThing_108 : decode cX1_readThing 108 = .ok (.iconst 1, 1) := by decide +kernel
theorem dX1_readThing_109 : decode cX1_readThing 109 = .ok (.aload_n 0, 1) := by decide +kernel
theorem dX1_readThing_110 : decode cX1_readThing 110 = .ok (.getfield 9, 3) := by decide +kernel
theorem dX1_readThing_113 : decode cX1_readThing 113 = .ok (.invokevirtual 54, 3) := by decide +kernel
theorem dX1_readThing_116 : decode cX1_readThing 116 = .ok (.invokestatic 58, 3) := by decide +kernel
theorem dX1_readThing_119 : decode cX1_readThing 119 = .ok (.iload_n 3, 1) := by decide +kernel
theorem dX1_readThing_120 : decode cX1_readThing 120 = .ok (.iload_n 2, 1) := by decide +kernel
theorem dX1_readThing_121 : decode cX1_readThing 121 = .ok (.invokevirtual 62, 3) := by decide +kernel
theorem dX1_readThing_124 : decode cX1_readThing 124 = .ok (.pop, 1) := by decide +kernel
theorem dX1_readThing_125 : decode cX1_readThing 125 = .ok (.goto 18, 3) := by decide +kernel
theorem dX1_readThing_128 : decode cX1_readThing 128 = .ok (.aload_n 1, 1) := by decide +kernel
theorem dX1_readThing_129 : decode cX1_readThing 129 = .ok (.iconst 0, 1) := by decide +kernel
theorem dX1_readThing_130 : decode cX1_readThing 130 = .ok (.aload_n 0, 1) := by decide +kernel
theorem dX1_readThing_131 : decode cX1_readThing 131 = .ok (.getfield 9, 3) := by decide +kernel
theorem dX1_readThing_134 : decode cX1_readThing 134 = .ok (.invokevirtual 66, 3) := by decide +kernel
theorem dX1_readThing_137 : decode cX1_readThing 137 = .ok (.iload_n 3, 1) := by decide +kernel
theorem dX1_readThing_138 : decode cX1_readThing 138 = .ok (.iload_n 2, 1) := by decide +kernel
theorem dX1_readThing_139 : decode cX1_readThing 139 = .ok (.invokevirtual 62, 3) := by decide +kernel
theorem dX1_readThing_142 : decode cX1_readThing 142 = .ok (.pop, 1) := by decide +kernel
theorem dX1_readThing_143 : decode cX1_readThing 143 = .ok (.return_, 1) := by decide +kernel
theorem dX1_canBegin_0 : decode cX1_canBegin 0 = .ok (.iload_n 0, 1) := by decide +kernel
theorem dX1_canBegin_1 : decode cX1_canBegin 1 = .ok (.bipush 45, 2) := by decide +kernel
theorem dX1_canBegin_3 : decode cX1_canBegin 3 = .ok (.if_icmp .eq 29, 3) := by decide +kernel
theorem dX1_canBegin_6 : decode cX1_canBegin 6 = .ok (.iload_n 0, 1) := by decide +kernel
theorem dX1_canBegin_7 : decode cX1_canBegin 7 = .ok (.sipush 257, 3) := by decide +kernel
theorem dX1_canBegin_10 : decode cX1_canBegin 10 = .ok (.if_icmp .eq 22, 3) := by decide +kernel
theorem dX1_canBegin_13 : decode cX1_canBegin 13 = .ok (.iload_n 0, 1) := by decide +kernel
theorem dX1_canBegin_14 : decode cX1_canBegin 14 = .ok (.sipush 256, 3) := by decide +kernel
theorem dX1_canBegin_17 : decode cX1_canBegin 17 = .ok (.if_icmp .eq 15, 3) := by decide +kernel
theorem dX1_canBegin_20 : decode cX1_canBegin 20 = .ok (.iload_n 0, 1) := by decide +kernel
theorem dX1_canBegin_21 : decode cX1_canBegin 21 = .ok (.bipush 91, 2) := by decide +kernel
theorem dX1_canBegin_23 : decode cX1_canBegin 23 = .ok (.if_icmp .eq 9, 3) := by decide +kernel
theorem dX1_canBegin_26 : decode cX1_canBegin 26 = .ok (.iload_n 0, 1) := by decide +kernel
theorem dX1_canBegin_27 : decode cX1_canBegin 27 = .ok (.bipush 123, 2) := by decide +kernel
theorem dX1_canBegin_29 : decode cX1_canBegin 29 = .ok (.if_icmp .ne 7, 3) := by decide +kernel
theorem dX1_canBegin_32 : decode cX1_canBegin 32 = .ok (.iconst 1, 1) := by decide +kernel
theorem dX1_canBegin_33 : decode cX1_canBegin 33 = .ok (.goto 4, 3) := by decide +kernel
theorem dX1_canBegin_36 : decode cX1_canBegin 36 = .ok (.iconst 0, 1) := by decide +kernel
theorem dX1_canBegin_37 : decode cX1_canBegin 37 = .ok (.ireturn, 1) := by decide +kernel
set_option maxRecDepth 100000 in
theorem ggX1_readList_X9_addThing : GoodIn wsX1_readList wsX9_addThing := (gi_cons 6 rfl rfl (gi_cons 7 rfl rfl (gi_cons 8 rfl rfl (gi_cons 9 rfl rfl (gi_cons 10 rfl rfl (gi_cons 11 rfl rfl (gi_cons 91 rfl rfl (gi_cons 92 rfl rfl (gi_cons 93 rfl rfl (gi_cons 94 rfl rfl (gi_cons 95 rfl rfl gi_nil)))))))))))
set_option maxRecDepth 20000 in
theorem gX1_readList_X9_addThing : GoodIn wsX1_readList (wsV RX1 62 RX9 yX9_addThing wsX9_addThing) := goodIn_app (goodIn_of _ (by decide +kernel)) ggX1_readList_X9_addThing
set_option maxRecDepth 100000 in
theorem ggX1_readList_X8_step : GoodIn wsX1_readList wsX8_step := (gi_cons 16 rfl rfl (gi_cons 17 rfl rfl (gi_cons 18 rfl rfl (gi_cons 19 rfl rfl (gi_cons 20 rfl rfl (gi_cons 21 rfl rfl (gi_cons 82 rfl rfl (gi_cons 83 rfl rfl (gi_cons 84 rfl rfl (gi_cons 85 rfl rfl (gi_cons 86 rfl rfl (gi_cons 87 rfl rfl (gi_cons 88 rfl rfl (gi_cons 89 rfl rfl (gi_cons 90 rfl rfl gi_nil)))))))))))))))
set_option maxRecDepth 20000 in
theorem gX1_readList_X8_step : GoodIn wsX1_readList (wsV RX1 69 RX8 yX8_step wsX8_step) := goodIn_app (goodIn_of _ (by decide +kernel)) ggX1_readList_X8_step
set_option maxRecDepth 100000 in
theorem ggX1_readList_X1_readThing : GoodIn wsX1_readList wsX1_readThing := (gi_cons 63 rfl rfl (gi_cons 1 rfl rfl (gi_cons 64 rfl rfl (gi_cons 65 rfl rfl (gi_cons 25 rfl rfl (gi_cons 66 rfl rfl (gi_cons 56 rfl rfl (gi_cons 32 rfl rfl (gi_cons 33 rfl rfl (gi_cons 15 rfl rfl (gi_cons 34 rfl rfl (gi_cons 17 rfl rfl (gi_cons 18 rfl rfl (gi_cons 35 rfl rfl (gi_cons 36 rfl rfl (gi_cons 21 rfl rfl (gi_cons 67 rfl rfl (gi_cons 68 rfl rfl (gi_cons 69 rfl rfl (gi_cons 70 rfl rfl (gi_cons 71 rfl rfl (gi_cons 72 rfl rfl (gi_cons 57 rfl rfl (gi_cons 58 rfl rfl (gi_cons 59 rfl rfl (gi_cons 60 rfl rfl (gi_cons 31 rfl rfl (gi_cons 61 rfl rfl (gi_cons 43 rfl rfl (gi_cons 44 rfl rfl (gi_cons 45 rfl rfl (gi_cons 46 rfl rfl (gi_cons 62 rfl rfl (gi_cons 48 rfl rfl (gi_cons 49 rfl rfl (gi_cons 50 rfl rfl (gi_cons 51 rfl rfl (gi_cons 30 rfl rfl (gi_cons 13 rfl rfl (gi_cons 14 rfl rfl (gi_cons 16 rfl rfl (gi_cons 19 rfl rfl (gi_cons 20 rfl rfl (gi_cons 73 rfl rfl (gi_cons 74 rfl rfl (gi_cons 75 rfl rfl (gi_cons 76 rfl rfl (gi_cons 2 rfl rfl (gi_cons 3 rfl rfl (gi_cons 4 rfl rfl (gi_cons 5 rfl rfl (gi_cons 6 rfl rfl (gi_cons 7 rfl rfl (gi_cons 8 rfl rfl (gi_cons 9 rfl rfl (gi_cons 10 rfl rfl (gi_cons 11 rfl rfl (gi_cons 77 rfl rfl (gi_cons 78 rfl rfl (gi_cons 79 rfl rfl (gi_cons 80 rfl rfl (gi_cons 0 rfl rfl (gi_cons 12 rfl rfl (gi_cons 22 rfl rfl (gi_cons 23 rfl rfl (gi_cons 24 rfl rfl (gi_cons 26 rfl rfl (gi_cons 27 rfl rfl (gi_cons 28 rfl rfl (gi_cons 29 rfl rfl (gi_cons 37 rfl rfl (gi_cons 38 rfl rfl (gi_cons 39 rfl rfl (gi_cons 40 rfl rfl (gi_cons 41 rfl rfl (gi_cons 42 rfl rfl (gi_cons 47 rfl rfl (gi_cons 52 rfl rfl (gi_cons 53 rfl rfl (gi_cons 54 rfl rfl (gi_cons 55 rfl rfl (gi_cons 81 rfl rfl (gi_cons 82 rfl rfl (gi_cons 83 rfl rfl (gi_cons 84 rfl rfl (gi_cons 85 rfl rfl (gi_cons 86 rfl rfl (gi_cons 87 rfl rfl (gi_cons 88 rfl rfl (gi_cons 89 rfl rfl (gi_cons 90 rfl rfl (gi_cons 91 rfl rfl (gi_cons 92 rfl rfl (gi_cons 93 rfl rfl (gi_cons 94 rfl rfl (gi_cons 95 rfl rfl gi_nil))))))))))))))))))))))))))))))))))))))))))))))))))))))))))))))))))))))))))))))))))))))))))))))))
set_option maxRecDepth 20000 in
theorem gX1_readList_X1_readThing : GoodIn wsX1_readList (wsV RX1 26 RX1 yX1_readThing wsX1_readThing) := goodIn_app (goodIn_of _ (by decide +kernel)) ggX1_readList_X1_readThing
set_option maxRecDepth 100000 in
theorem ggX1_readList_X8_expect : GoodIn wsX1_readList wsX8_expect := (gi_cons 29 rfl rfl (gi_cons 21 rfl rfl (gi_cons 30 rfl rfl (gi_cons 13 rfl rfl (gi_cons 14 rfl rfl (gi_cons 15 rfl rfl (gi_cons 16 rfl rfl (gi_cons 17 rfl rfl (gi_cons 18 rfl rfl (gi_cons 19 rfl rfl (gi_cons 20 rfl rfl (gi_cons 31 rfl rfl (gi_cons 32 rfl rfl (gi_cons 33 rfl rfl (gi_cons 34 rfl rfl (gi_cons 35 rfl rfl (gi_cons 36 rfl rfl (gi_cons 82 rfl rfl (gi_cons 83 rfl rfl (gi_cons 84 rfl rfl (gi_cons 85 rfl rfl (gi_cons 86 rfl rfl (gi_cons 87 rfl rfl (gi_cons 88 rfl rfl (gi_cons 89 rfl rfl (gi_cons 90 rfl rfl gi_nil))))))))))))))))))))))))))
set_option maxRecDepth 20000 in
theorem gX1_readList_X8_expect : GoodIn wsX1_readList (wsV RX1 72 RX8 yX8_expect wsX8_expect) := goodIn_app (goodIn_of _ (by decide +kernel)) ggX1_readList_X8_expect
theorem dX1_readList_0 : decode cX1_readList 0 = .ok (.aload_n 1, 1) := by decide +kernel
theorem dX1_readList_1 : decode cX1_readList 1 = .ok (.iconst 2, 1) := by decide +kernel
theorem dX1_readList_2 : decode cX1_readList 2 = .ok (.iconst 0, 1) := by decide +kernel
theorem dX1_readList_3 : decode cX1_readList 3 = .ok (.iload_n 3, 1) := by decide +kernel
theorem dX1_readList_4 : decode cX1_readList 4 = .ok (.iload_n 2, 1) := by decide +kernel
theorem dX1_readList_5 : decode cX1_readList 5 = .ok (.invokevirtual 62, 3) := by decide +kernel
theorem dX1_readList_8 : decode cX1_readList 8 = .ok (.pop, 1) := by decide +kernel
theorem dX1_readList_9 : decode cX1_readList 9 = .ok (.aload_n 0, 1) := by decide +kernel
theorem dX1_readList_10 : decode cX1_readList 10 = .ok (.getfield 9, 3) := by decide +kernel
theorem dX1_readList_13 : decode cX1_readList 13 = .ok (.invokevirtual 69, 3) := by decide +kernel
theorem dX1_readList_16 : decode cX1_readList 16 = .ok (.aload_n 0, 1) := by decide +kernel
theorem dX1_readList_17 : decode cX1_readList 17 = .ok (.getfield 9, 3) := by decide +kernel
theorem dX1_readList_20 : decode cX1_readList 20 = .ok (.getfield 30, 3) := by decide +kernel
theorem dX1_readList_23 : decode cX1_readList 23 = .ok (.bipush 93, 2) := by decide +kernel
theorem dX1_readList_25 : decode cX1_readList 25 = .ok (.if_icmp .eq 7, 3) := by decide +kernel
theorem dX1_readList_28 : decode cX1_readList 28 = .ok (.iconst 1, 1) := by decide +kernel
theorem dX1_readList_29 : decode cX1_readList 29 = .ok (.goto 4, 3) := by decide +kernel
theorem dX1_readList_32 : decode cX1_readList 32 = .ok (.iconst 0, 1) := by decide +kernel
theorem dX1_readList_33 : decode cX1_readList 33 = .ok (.istore 4, 2) := by decide +kernel
theorem dX1_readList_35 : decode cX1_readList 35 = .ok (.iconst 0, 1) := by decide +kernel
theorem dX1_readList_36 : decode cX1_readList 36 = .ok (.istore 5, 2) := by decide +kernel
theorem dX1_readList_38 : decode cX1_readList 38 = .ok (.iload 4, 2) := by decide +kernel
theorem dX1_readList_40 : decode cX1_readList 40 = .ok (.ifCond .eq 57, 3) := by decide +kernel
theorem dX1_readList_43 : decode cX1_readList 43 = .ok (.iload 5, 2) := by decide +kernel
theorem dX1_readList_45 : decode cX1_readList 45 = .ok (.sipush 400, 3) := by decide +kernel
theorem dX1_readList_48 : decode cX1_readList 48 = .ok (.if_icmp .ge 49, 3) := by decide +kernel
theorem dX1_readList_51 : decode cX1_readList 51 = .ok (.aload_n 0, 1) := by decide +kernel
theorem dX1_readList_52 : decode cX1_readList 52 = .ok (.aload_n 1, 1) := by decide +kernel
theorem dX1_readList_53 : decode cX1_readList 53 = .ok (.iload_n 2, 1) := by decide +kernel
theorem dX1_readList_54 : decode cX1_readList 54 = .ok (.iconst 1, 1) := by decide +kernel
theorem dX1_readList_55 : decode cX1_readList 55 = .ok (.iadd, 1) := by decide +kernel
theorem dX1_readList_56 : decode cX1_readList 56 = .ok (.iconst 0, 1) := by decide +kernel
theorem dX1_readList_57 : decode cX1_readList 57 = .ok (.invokevirtual 26, 3) := by decide +kernel
theorem dX1_readList_60 : decode cX1_readList 60 = .ok (.aload_n 0, 1) := by decide +kernel
theorem dX1_readList_61 : decode cX1_readList 61 = .ok (.getfield 9, 3) := by decide +kernel
theorem dX1_readList_64 : decode cX1_readList 64 = .ok (.getfield 30, 3) := by decide +kernel
theorem dX1_readList_67 : decode cX1_readList 67 = .ok (.bipush 44, 2) := by decide +kernel
theorem dX1_readList_69 : decode cX1_readList 69 = .ok (.if_icmp .ne 7, 3) := by decide +kernel
theorem dX1_readList_72 : decode cX1_readList 72 = .ok (.iconst 1, 1) := by decide +kernel
theorem dX1_readList_73 : decode cX1_readList 73 = .ok (.goto 4, 3) := by decide +kernel
theorem dX1_readList_76 : decode cX1_readList 76 = .ok (.iconst 0, 1) := by decide +kernel
theorem dX1_readList_77 : decode cX1_readList 77 = .ok (.istore 4, 2) := by decide +kernel
theorem dX1_readList_79 : decode cX1_readList 79 = .ok (.iload 4, 2) := by decide +kernel
theorem dX1_readList_81 : decode cX1_readList 81 = .ok (.ifCond .eq 10, 3) := by decide +kernel
theorem dX1_readList_84 : decode cX1_readList 84 = .ok (.aload_n 0, 1) := by decide +kernel
theorem dX1_readList_85 : decode cX1_readList 85 = .ok (.getfield 9, 3) := by decide +kernel
theorem dX1_readList_88 : decode cX1_readList 88 = .ok (.invokevirtual 69, 3) := by decide +kernel
theorem dX1_readList_91 : decode cX1_readList 91 = .ok (.iinc 5 1, 3) := by decide +kernel
theorem dX1_readList_94 : decode cX1_readList 94 = .ok (.goto (-56), 3) := by decide +kernel
theorem dX1_readList_97 : decode cX1_readList 97 = .ok (.aload_n 0, 1) := by decide +kernel
theorem dX1_readList_98 : decode cX1_readList 98 = .ok (.getfield 9, 3) := by decide +kernel
theorem dX1_readList_101 : decode cX1_readList 101 = .ok (.bipush 93, 2) := by decide +kernel
theorem dX1_readList_103 : decode cX1_readList 103 = .ok (.invokevirtual 72, 3) := by decide +kernel
theorem dX1_readList_106 : decode cX1_readList 106 = .ok (.return_, 1) := by decide +kernel
set_option maxRecDepth 100000 in
theorem ggX1_readMap_X9_addThing : GoodIn wsX1_readMap wsX9_addThing := (gi_cons 6 rfl rfl (gi_cons 7 rfl rfl (gi_cons 8 rfl rfl (gi_cons 9 rfl rfl (gi_cons 10 rfl rfl (gi_cons 11 rfl rfl (gi_cons 91 rfl rfl (gi_cons 92 rfl rfl (gi_cons 93 rfl rfl (gi_cons 94 rfl rfl (gi_cons 95 rfl rfl gi_nil)))))))))))
set_option maxRecDepth 20000 in
theorem gX1_readMap_X9_addThing : GoodIn wsX1_readMap (wsV RX1 62 RX9 yX9_addThing wsX9_addThing) := goodIn_app (goodIn_of _ (by decide +kernel)) ggX1_readMap_X9_addThing
set_option maxRecDepth 100000 in
theorem ggX1_readMap_X8_step : GoodIn wsX1_readMap wsX8_step := (gi_cons 16 rfl rfl (gi_cons 17 rfl rfl (gi_cons 18 rfl rfl (gi_cons 19 rfl rfl (gi_cons 20 rfl rfl (gi_cons 21 rfl rfl (gi_cons 82 rfl rfl (gi_cons 83 rfl rfl (gi_cons 84 rfl rfl (gi_cons 85 rfl rfl (gi_cons 86 rfl rfl (gi_cons 87 rfl rfl (gi_cons 88 rfl rfl (gi_cons 89 rfl rfl (gi_cons 90 rfl rfl gi_nil)))))))))))))))
set_option maxRecDepth 20000 in
theorem gX1_readMap_X8_step : GoodIn wsX1_readMap (wsV RX1 69 RX8 yX8_step wsX8_step) := goodIn_app (goodIn_of _ (by decide +kernel)) ggX1_readMap_X8_step
set_option maxRecDepth 100000 in
theorem ggX1_readMap_X1_readKey : GoodIn wsX1_readMap wsX1_readKey := (gi_cons 26 rfl rfl (gi_cons 1 rfl rfl (gi_cons 27 rfl rfl (gi_cons 28 rfl rfl (gi_cons 29 rfl rfl (gi_cons 15 rfl rfl (gi_cons 30 rfl rfl (gi_cons 18 rfl rfl (gi_cons 31 rfl rfl (gi_cons 32 rfl rfl (gi_cons 33 rfl rfl (gi_cons 34 rfl rfl (gi_cons 35 rfl rfl (gi_cons 36 rfl rfl (gi_cons 37 rfl rfl (gi_cons 38 rfl rfl (gi_cons 39 rfl rfl (gi_cons 5 rfl rfl (gi_cons 40 rfl rfl (gi_cons 7 rfl rfl (gi_cons 8 rfl rfl (gi_cons 11 rfl rfl (gi_cons 10 rfl rfl (gi_cons 41 rfl rfl (gi_cons 42 rfl rfl (gi_cons 43 rfl rfl (gi_cons 44 rfl rfl (gi_cons 17 rfl rfl (gi_cons 45 rfl rfl (gi_cons 46 rfl rfl (gi_cons 21 rfl rfl (gi_cons 47 rfl rfl (gi_cons 48 rfl rfl (gi_cons 49 rfl rfl (gi_cons 50 rfl rfl (gi_cons 51 rfl rfl (gi_cons 52 rfl rfl (gi_cons 53 rfl rfl (gi_cons 54 rfl rfl (gi_cons 13 rfl rfl (gi_cons 14 rfl rfl (gi_cons 16 rfl rfl (gi_cons 19 rfl rfl (gi_cons 20 rfl rfl (gi_cons 81 rfl rfl (gi_cons 82 rfl rfl (gi_cons 83 rfl rfl (gi_cons 84 rfl rfl (gi_cons 85 rfl rfl (gi_cons 86 rfl rfl (gi_cons 87 rfl rfl (gi_cons 88 rfl rfl (gi_cons 89 rfl rfl (gi_cons 90 rfl rfl (gi_cons 91 rfl rfl (gi_cons 92 rfl rfl (gi_cons 93 rfl rfl (gi_cons 94 rfl rfl (gi_cons 95 rfl rfl gi_nil)))))))))))))))))))))))))))))))))))))))))))))))))))))))))))
set_option maxRecDepth 20000 in
theorem gX1_readMap_X1_readKey : GoodIn wsX1_readMap (wsV RX1 75 RX1 yX1_readKey wsX1_readKey) := goodIn_app (goodIn_of _ (by decide +kernel)) ggX1_readMap_X1_readKey
set_option maxRecDepth 100000 in
theorem ggX1_readMap_X8_expect : GoodIn wsX1_readMap wsX8_expect := (gi_cons 58 rfl rfl (gi_cons 21 rfl rfl (gi_cons 54 rfl rfl (gi_cons 13 rfl rfl (gi_cons 14 rfl rfl (gi_cons 15 rfl rfl (gi_cons 16 rfl rfl (gi_cons 17 rfl rfl (gi_cons 18 rfl rfl (gi_cons 19 rfl rfl (gi_cons 20 rfl rfl (gi_cons 51 rfl rfl (gi_cons 42 rfl rfl (gi_cons 43 rfl rfl (gi_cons 44 rfl rfl (gi_cons 45 rfl rfl (gi_cons 46 rfl rfl (gi_cons 82 rfl rfl (gi_cons 83 rfl rfl (gi_cons 84 rfl rfl (gi_cons 85 rfl rfl (gi_cons 86 rfl rfl (gi_cons 87 rfl rfl (gi_cons 88 rfl rfl (gi_cons 89 rfl rfl (gi_cons 90 rfl rfl gi_nil))))))))))))))))))))))))))
set_option maxRecDepth 20000 in
theorem gX1_readMap_X8_expect : GoodIn wsX1_readMap (wsV RX1 72 RX8 yX8_expect wsX8_expect) := goodIn_app (goodIn_of _ (by decide +kernel)) ggX1_readMap_X8_expect
set_option maxRecDepth 100000 in
theorem ggX1_readMap_X1_readThing : GoodIn wsX1_readMap wsX1_readThing := (gi_cons 63 rfl rfl (gi_cons 1 rfl rfl (gi_cons 64 rfl rfl (gi_cons 65 rfl rfl (gi_cons 25 rfl rfl (gi_cons 66 rfl rfl (gi_cons 41 rfl rfl (gi_cons 42 rfl rfl (gi_cons 43 rfl rfl (gi_cons 15 rfl rfl (gi_cons 44 rfl rfl (gi_cons 17 rfl rfl (gi_cons 18 rfl rfl (gi_cons 45 rfl rfl (gi_cons 46 rfl rfl (gi_cons 21 rfl rfl (gi_cons 67 rfl rfl (gi_cons 68 rfl rfl (gi_cons 69 rfl rfl (gi_cons 70 rfl rfl (gi_cons 71 rfl rfl (gi_cons 72 rfl rfl (gi_cons 47 rfl rfl (gi_cons 48 rfl rfl (gi_cons 49 rfl rfl (gi_cons 50 rfl rfl (gi_cons 51 rfl rfl (gi_cons 52 rfl rfl (gi_cons 28 rfl rfl (gi_cons 29 rfl rfl (gi_cons 30 rfl rfl (gi_cons 31 rfl rfl (gi_cons 53 rfl rfl (gi_cons 33 rfl rfl (gi_cons 34 rfl rfl (gi_cons 35 rfl rfl (gi_cons 36 rfl rfl (gi_cons 54 rfl rfl (gi_cons 13 rfl rfl (gi_cons 14 rfl rfl (gi_cons 16 rfl rfl (gi_cons 19 rfl rfl (gi_cons 20 rfl rfl (gi_cons 73 rfl rfl (gi_cons 74 rfl rfl (gi_cons 75 rfl rfl (gi_cons 76 rfl rfl (gi_cons 2 rfl rfl (gi_cons 3 rfl rfl (gi_cons 4 rfl rfl (gi_cons 5 rfl rfl (gi_cons 6 rfl rfl (gi_cons 7 rfl rfl (gi_cons 8 rfl rfl (gi_cons 9 rfl rfl (gi_cons 10 rfl rfl (gi_cons 11 rfl rfl (gi_cons 77 rfl rfl (gi_cons 78 rfl rfl (gi_cons 79 rfl rfl (gi_cons 80 rfl rfl (gi_cons 62 rfl rfl (gi_cons 12 rfl rfl (gi_cons 59 rfl rfl (gi_cons 60 rfl rfl (gi_cons 61 rfl rfl (gi_cons 55 rfl rfl (gi_cons 56 rfl rfl (gi_cons 57 rfl rfl (gi_cons 58 rfl rfl (gi_cons 0 rfl rfl (gi_cons 22 rfl rfl (gi_cons 23 rfl rfl (gi_cons 24 rfl rfl (gi_cons 26 rfl rfl (gi_cons 27 rfl rfl (gi_cons 32 rfl rfl (gi_cons 37 rfl rfl (gi_cons 38 rfl rfl (gi_cons 39 rfl rfl (gi_cons 40 rfl rfl (gi_cons 81 rfl rfl (gi_cons 82 rfl rfl (gi_cons 83 rfl rfl (gi_cons 84 rfl rfl (gi_cons 85 rfl rfl (gi_cons 86 rfl rfl (gi_cons 87 rfl rfl (gi_cons 88 rfl rfl (gi_cons 89 rfl rfl (gi_cons 90 rfl rfl (gi_cons 91 rfl rfl (gi_cons 92 rfl rfl (gi_cons 93 rfl rfl (gi_cons 94 rfl rfl (gi_cons 95 rfl rfl gi_nil))))))))))))))))))))))))))))))))))))))))))))))))))))))))))))))))))))))))))))))))))))))))))))))))
set_option maxRecDepth 20000 in
theorem gX1_readMap_X1_readThing : GoodIn wsX1_readMap (wsV RX1 26 RX1 yX1_readThing wsX1_readThing) := goodIn_app (goodIn_of _ (by decide +kernel)) ggX1_readMap_X1_readThing
theorem dX1_readMap_0 : decode cX1_readMap 0 = .ok (.aload_n 1, 1) := by decide +kernel
theorem dX1_readMap_1 : decode cX1_readMap 1 = .ok (.iconst 3, 1) := by decide +kernel
theorem dX1_readMap_2 : decode cX1_readMap 2 = .ok (.iconst 0, 1) := by decide +kernel
theorem dX1_readMap_3 : decode cX1_readMap 3 = .ok (.iload_n 3, 1) := by decide +kernel
theorem dX1_readMap_4 : decode cX1_readMap 4 = .ok (.iload_n 2, 1) := by decide +kernel
theorem dX1_readMap_5 : decode cX1_readMap 5 = .ok (.invokevirtual 62, 3) := by decide +kernel
theorem dX1_readMap_8 : decode cX1_readMap 8 = .ok (.istore 4, 2) := by decide +kernel
theorem dX1_readMap_10 : decode cX1_readMap 10 = .ok (.aload_n 0, 1) := by decide +kernel
theorem dX1_readMap_11 : decode cX1_readMap 11 = .ok (.getfield 9, 3) := by decide +kernel
theorem dX1_readMap_14 : decode cX1_readMap 14 = .ok (.invokevirtual 69, 3) := by decide +kernel
theorem dX1_readMap_17 : decode cX1_readMap 17 = .ok (.aload_n 0, 1) := by decide +kernel
theorem dX1_readMap_18 : decode cX1_readMap 18 = .ok (.getfield 9, 3) := by decide +kernel
theorem dX1_readMap_21 : decode cX1_readMap 21 = .ok (.getfield 30, 3) := by decide +kernel
theorem dX1_readMap_24 : decode cX1_readMap 24 = .ok (.bipush 125, 2) := by decide +kernel
theorem dX1_readMap_26 : decode cX1_readMap 26 = .ok (.if_icmp .eq 7, 3) := by decide +kernel
theorem dX1_readMap_29 : decode cX1_readMap 29 = .ok (.iconst 1, 1) := by decide +kernel
theorem dX1_readMap_30 : decode cX1_readMap 30 = .ok (.goto 4, 3) := by decide +kernel
theorem dX1_readMap_33 : decode cX1_readMap 33 = .ok (.iconst 0, 1) := by decide +kernel
theorem dX1_readMap_34 : decode cX1_readMap 34 = .ok (.istore 5, 2) := by decide +kernel
theorem dX1_readMap_36 : decode cX1_readMap 36 = .ok (.iconst 0, 1) := by decide +kernel
theorem dX1_readMap_37 : decode cX1_readMap 37 = .ok (.istore 6, 2) := by decide +kernel
theorem dX1_readMap_39 : decode cX1_readMap 39 = .ok (.iload 5, 2) := by decide +kernel
theorem dX1_readMap_41 : decode cX1_readMap 41 = .ok (.ifCond .eq 76, 3) := by decide +kernel
theorem dX1_readMap_44 : decode cX1_readMap 44 = .ok (.iload 6, 2) := by decide +kernel
theorem dX1_readMap_46 : decode cX1_readMap 46 = .ok (.sipush 400, 3) := by decide +kernel
theorem dX1_readMap_49 : decode cX1_readMap 49 = .ok (.if_icmp .ge 68, 3) := by decide +kernel
theorem dX1_readMap_52 : decode cX1_readMap 52 = .ok (.aload_n 0, 1) := by decide +kernel
theorem dX1_readMap_53 : decode cX1_readMap 53 = .ok (.aload_n 1, 1) := by decide +kernel
theorem dX1_readMap_54 : decode cX1_readMap 54 = .ok (.iload 4, 2) := by decide +kernel
theorem dX1_readMap_56 : decode cX1_readMap 56 = .ok (.invokevirtual 75, 3) := by decide +kernel
theorem dX1_readMap_59 : decode cX1_readMap 59 = .ok (.istore 7, 2) := by decide +kernel
theorem dX1_readMap_61 : decode cX1_readMap 61 = .ok (.aload_n 0, 1) := by decide +kernel
theorem dX1_readMap_62 : decode cX1_readMap 62 = .ok (.getfield 9, 3) := by decide +kernel
theorem dX1_readMap_65 : decode cX1_readMap 65 = .ok (.bipush 58, 2) := by decide +kernel
theorem dX1_readMap_67 : decode cX1_readMap 67 = .ok (.invokevirtual 72, 3) := by decide +kernel
theorem dX1_readMap_70 : decode cX1_readMap 70 = .ok (.aload_n 0, 1) := by decide +kernel
theorem dX1_readMap_71 : decode cX1_readMap 71 = .ok (.aload_n 1, 1) := by decide +kernel
theorem dX1_readMap_72 : decode cX1_readMap 72 = .ok (.iload_n 2, 1) := by decide +kernel
theorem dX1_readMap_73 : decode cX1_readMap 73 = .ok (.iconst 1, 1) := by decide +kernel
theorem dX1_readMap_74 : decode cX1_readMap 74 = .ok (.iadd, 1) := by decide +kernel
theorem dX1_readMap_75 : decode cX1_readMap 75 = .ok (.iload 7, 2) := by decide +kernel
theorem dX1_readMap_77 : decode cX1_readMap 77 = .ok (.invokevirtual 26, 3) := by decide +kernel
theorem dX1_readMap_80 : decode cX1_readMap 80 = .ok (.aload_n 0, 1) := by decide +kernel
theorem dX1_readMap_81 : decode cX1_readMap 81 = .ok (.getfield 9, 3) := by decide +kernel
theorem dX1_readMap_84 : decode cX1_readMap 84 = .ok (.getfield 30, 3) := by decide +kernel
theorem dX1_readMap_87 : decode cX1_readMap 87 = .ok (.bipush 44, 2) := by decide +kernel
theorem dX1_readMap_89 : decode cX1_readMap 89 = .ok (.if_icmp .ne 7, 3) := by decide +kernel
theorem dX1_readMap_92 : decode cX1_readMap 92 = .ok (.iconst 1, 1) := by decide +kernel
theorem dX1_readMap_93 : decode cX1_readMap 93 = .ok (.goto 4, 3) := by decide +kernel
theorem dX1_readMap_96 : decode cX1_readMap 96 = .ok (.iconst 0, 1) := by decide +kernel
theorem dX1_readMap_97 : decode cX1_readMap 97 = .ok (.istore 5, 2) := by decide +kernel
theorem dX1_readMap_99 : decode cX1_readMap 99 = .ok (.iload 5, 2) := by decide +kernel
theorem dX1_readMap_101 : decode cX1_readMap 101 = .ok (.ifCond .eq 10, 3) := by decide +kernel
theorem dX1_readMap_104 : decode cX1_readMap 104 = .ok (.aload_n 0, 1) := by decide +kernel
theorem dX1_readMap_105 : decode cX1_readMap 105 = .ok (.getfield 9, 3) := by decide +kernel
theorem dX1_readMap_108 : decode cX1_readMap 108 = .ok (.invokevirtual 69, 3) := by decide +kernel
theorem dX1_readMap_111 : decode cX1_readMap 111 = .ok (.iinc 6 1, 3) := by decide +kernel
theorem dX1_readMap_114 : decode cX1_readMap 114 = .ok (.goto (-75), 3) := by decide +kernel
theorem dX1_readMap_117 : decode cX1_readMap 117 = .ok (.aload_n 0, 1) := by decide +kernel
theorem dX1_readMap_118 : decode cX1_readMap 118 = .ok (.getfield 9, 3) := by decide +kernel
theorem dX1_readMap_121 : decode cX1_readMap 121 = .ok (.bipush 125, 2) := by decide +kernel
theorem dX1_readMap_123 : decode cX1_readMap 123 = .ok (.invokevirtual 72, 3) := by decide +kernel
theorem dX1_readMap_126 : decode cX1_readMap 126 = .ok (.return_, 1) := by decide +kernel
set_option maxRecDepth 100000 in
theorem ggX1_readKey_X8_isLongerThan : GoodIn wsX1_readKey wsX8_isLongerThan := (gi_cons 6 rfl rfl (gi_cons 7 rfl rfl (gi_cons 8 rfl rfl (gi_cons 45 rfl rfl (gi_cons 46 rfl rfl (gi_cons 47 rfl rfl (gi_cons 48 rfl rfl (gi_cons 49 rfl rfl (gi_cons 50 rfl rfl (gi_cons 51 rfl rfl (gi_cons 52 rfl rfl (gi_cons 53 rfl rfl gi_nil))))))))))))
set_option maxRecDepth 20000 in
theorem gX1_readKey_X8_isLongerThan : GoodIn wsX1_readKey (wsV RX1 79 RX8 yX8_isLongerThan wsX8_isLongerThan) := goodIn_app (goodIn_of _ (by decide +kernel)) ggX1_readKey_X8_isLongerThan
set_option maxRecDepth 100000 in
theorem ggX1_readKey_X8_value : GoodIn wsX1_readKey wsX8_value := (gi_cons 12 rfl rfl (gi_cons 7 rfl rfl (gi_cons 13 rfl rfl (gi_cons 45 rfl rfl (gi_cons 46 rfl rfl (gi_cons 47 rfl rfl (gi_cons 48 rfl rfl (gi_cons 49 rfl rfl (gi_cons 50 rfl rfl (gi_cons 51 rfl rfl (gi_cons 52 rfl rfl (gi_cons 53 rfl rfl gi_nil))))))))))))
set_option maxRecDepth 20000 in
theorem gX1_readKey_X8_value : GoodIn wsX1_readKey (wsV RX1 82 RX8 yX8_value wsX8_value) := goodIn_app (goodIn_of _ (by decide +kernel)) ggX1_readKey_X8_value
set_option maxRecDepth 100000 in
theorem ggX1_readKey_X9_childBy : GoodIn wsX1_readKey wsX9_childBy := (gi_cons 18 rfl rfl (gi_cons 19 rfl rfl (gi_cons 20 rfl rfl (gi_cons 21 rfl rfl (gi_cons 22 rfl rfl (gi_cons 54 rfl rfl (gi_cons 55 rfl rfl (gi_cons 56 rfl rfl (gi_cons 57 rfl rfl (gi_cons 58 rfl rfl gi_nil))))))))))
set_option maxRecDepth 20000 in
theorem gX1_readKey_X9_childBy : GoodIn wsX1_readKey (wsV RX1 85 RX9 yX9_childBy wsX9_childBy) := goodIn_app (goodIn_of _ (by decide +kernel)) ggX1_readKey_X9_childBy
set_option maxRecDepth 100000 in
theorem ggX1_readKey_X8_fail : GoodIn wsX1_readKey wsX8_fail := (gi_cons 26 rfl rfl (gi_cons 27 rfl rfl (gi_cons 7 rfl rfl (gi_cons 28 rfl rfl (gi_cons 29 rfl rfl (gi_cons 30 rfl rfl (gi_cons 45 rfl rfl (gi_cons 46 rfl rfl (gi_cons 47 rfl rfl (gi_cons 48 rfl rfl (gi_cons 49 rfl rfl (gi_cons 50 rfl rfl (gi_cons 51 rfl rfl (gi_cons 52 rfl rfl (gi_cons 53 rfl rfl gi_nil)))))))))))))))
set_option maxRecDepth 20000 in
theorem gX1_readKey_X8_fail : GoodIn wsX1_readKey (wsV RX1 34 RX8 yX8_fail wsX8_fail) := goodIn_app (goodIn_of _ (by decide +kernel)) ggX1_readKey_X8_fail
set_option maxRecDepth 100000 in
theorem ggX1_readKey_X8_takeLetters : GoodIn wsX1_readKey wsX8_takeLetters := (gi_cons 34 rfl rfl (gi_cons 30 rfl rfl (gi_cons 35 rfl rfl (gi_cons 24 rfl rfl (gi_cons 25 rfl rfl (gi_cons 5 rfl rfl (gi_cons 26 rfl rfl (gi_cons 27 rfl rfl (gi_cons 7 rfl rfl (gi_cons 28 rfl rfl (gi_cons 29 rfl rfl (gi_cons 36 rfl rfl (gi_cons 3 rfl rfl (gi_cons 4 rfl rfl (gi_cons 6 rfl rfl (gi_cons 8 rfl rfl (gi_cons 37 rfl rfl (gi_cons 10 rfl rfl (gi_cons 11 rfl rfl (gi_cons 12 rfl rfl (gi_cons 13 rfl rfl (gi_cons 38 rfl rfl (gi_cons 39 rfl rfl (gi_cons 40 rfl rfl (gi_cons 41 rfl rfl (gi_cons 42 rfl rfl (gi_cons 43 rfl rfl (gi_cons 45 rfl rfl (gi_cons 46 rfl rfl (gi_cons 47 rfl rfl (gi_cons 48 rfl rfl (gi_cons 49 rfl rfl (gi_cons 50 rfl rfl (gi_cons 51 rfl rfl (gi_cons 52 rfl rfl (gi_cons 53 rfl rfl gi_nil))))))))))))))))))))))))))))))))))))
set_option maxRecDepth 20000 in
theorem gX1_readKey_X8_takeLetters : GoodIn wsX1_readKey (wsV RX1 54 RX8 yX8_takeLetters wsX8_takeLetters) := goodIn_app (goodIn_of _ (by decide +kernel)) ggX1_readKey_X8_takeLetters
theorem dX1_readKey_0 : decode cX1_readKey 0 = .ok (.aload_n 0, 1) := by decide +kernel
theorem dX1_readKey_1 : decode cX1_readKey 1 = .ok (.getfield 9, 3) := by decide +kernel
theorem dX1_readKey_4 : decode cX1_readKey 4 = .ok (.getfield 30, 3) := by decide +kernel
theorem dX1_readKey_7 : decode cX1_readKey 7 = .ok (.sipush 256, 3) := by decide +kernel
theorem dX1_readKey_10 : decode cX1_readKey 10 = .ok (.if_icmp .ne 39, 3) := by decide +kernel
theorem dX1_readKey_13 : decode cX1_readKey 13 = .ok (.aload_n 0, 1) := by decide +kernel
theorem dX1_readKey_14 : decode cX1_readKey 14 = .ok (.getfield 9, 3) := by decide +kernel
theorem dX1_readKey_17 : decode cX1_readKey 17 = .ok (.bipush 6, 2) := by decide +kernel
theorem dX1_readKey_19 : decode cX1_readKey 19 = .ok (.invokevirtual 79, 3) := by decide +kernel
theorem dX1_readKey_22 : decode cX1_readKey 22 = .ok (.ifCond .ne 27, 3) := by decide +kernel
theorem dX1_readKey_25 : decode cX1_readKey 25 = .ok (.aload_n 1, 1) := by decide +kernel
theorem dX1_readKey_26 : decode cX1_readKey 26 = .ok (.iload_n 2, 1) := by decide +kernel
theorem dX1_readKey_27 : decode cX1_readKey 27 = .ok (.aload_n 0, 1) := by decide +kernel
theorem dX1_readKey_28 : decode cX1_readKey 28 = .ok (.getfield 9, 3) := by decide +kernel
theorem dX1_readKey_31 : decode cX1_readKey 31 = .ok (.invokevirtual 82, 3) := by decide +kernel
theorem dX1_readKey_34 : decode cX1_readKey 34 = .ok (.invokevirtual 85, 3) := by decide +kernel
theorem dX1_readKey_37 : decode cX1_readKey 37 = .ok (.iconst (-1), 1) := by decide +kernel
theorem dX1_readKey_38 : decode cX1_readKey 38 = .ok (.if_icmp .eq 11, 3) := by decide +kernel
theorem dX1_readKey_41 : decode cX1_readKey 41 = .ok (.aload_n 0, 1) := by decide +kernel
theorem dX1_readKey_42 : decode cX1_readKey 42 = .ok (.getfield 9, 3) := by decide +kernel
theorem dX1_readKey_45 : decode cX1_readKey 45 = .ok (.iconst 3, 1) := by decide +kernel
theorem dX1_readKey_46 : decode cX1_readKey 46 = .ok (.invokevirtual 34, 3) := by decide +kernel
theorem dX1_readKey_49 : decode cX1_readKey 49 = .ok (.aload_n 0, 1) := by decide +kernel
theorem dX1_readKey_50 : decode cX1_readKey 50 = .ok (.getfield 9, 3) := by decide +kernel
theorem dX1_readKey_53 : decode cX1_readKey 53 = .ok (.invokevirtual 54, 3) := by decide +kernel
theorem dX1_readKey_56 : decode cX1_readKey 56 = .ok (.ireturn, 1) := by decide +kernel
theorem dX4_clear_0 : decode cX4_clear 0 = .ok (.aload_n 0, 1) := by decide +kernel
theorem dX4_clear_1 : decode cX4_clear 1 = .ok (.iconst 0, 1) := by decide +kernel
theorem dX4_clear_2 : decode cX4_clear 2 = .ok (.putfield 43, 3) := by decide +kernel
theorem dX4_clear_5 : decode cX4_clear 5 = .ok (.aload_n 0, 1) := by decide +kernel
theorem dX4_clear_6 : decode cX4_clear 6 = .ok (.iconst 0, 1) := by decide +kernel
theorem dX4_clear_7 : decode cX4_clear 7 = .ok (.putfield 47, 3) := by decide +kernel
theorem dX4_clear_10 : decode cX4_clear 10 = .ok (.aload_n 0, 1) := by decide +kernel
theorem dX4_clear_11 : decode cX4_clear 11 = .ok (.iconst 0, 1) := by decide +kernel
theorem dX4_clear_12 : decode cX4_clear 12 = .ok (.putfield 50, 3) := by decide +kernel
theorem dX4_clear_15 : decode cX4_clear 15 = .ok (.aload_n 0, 1) := by decide +kernel
theorem dX4_clear_16 : decode cX4_clear 16 = .ok (.iconst 0, 1) := by decide +kernel
theorem dX4_clear_17 : decode cX4_clear 17 = .ok (.putfield 53, 3) := by decide +kernel
theorem dX4_clear_20 : decode cX4_clear 20 = .ok (.return_, 1) := by decide +kernel
theorem dX4_addStep_0 : decode cX4_addStep 0 = .ok (.aload_n 0, 1) := by decide +kernel
theorem dX4_addStep_1 : decode cX4_addStep 1 = .ok (.getfield 43, 3) := by decide +kernel
theorem dX4_addStep_4 : decode cX4_addStep 4 = .ok (.ifCond .lt 52, 3) := by decide +kernel
theorem dX4_addStep_7 : decode cX4_addStep 7 = .ok (.aload_n 0, 1) := by decide +kernel
theorem dX4_addStep_8 : decode cX4_addStep 8 = .ok (.getfield 43, 3) := by decide +kernel
theorem dX4_addStep_11 : decode cX4_addStep 11 = .ok (.bipush 8, 2) := by decide +kernel
theorem dX4_addStep_13 : decode cX4_addStep 13 = .ok (.if_icmp .ge 43, 3) := by decide +kernel
theorem dX4_addStep_16 : decode cX4_addStep 16 = .ok (.aload_n 0, 1) := by decide +kernel
theorem dX4_addStep_17 : decode cX4_addStep 17 = .ok (.getfield 9, 3) := by decide +kernel
theorem dX4_addStep_20 : decode cX4_addStep 20 = .ok (.aload_n 0, 1) := by decide +kernel
theorem dX4_addStep_21 : decode cX4_addStep 21 = .ok (.getfield 43, 3) := by decide +kernel
theorem dX4_addStep_24 : decode cX4_addStep 24 = .ok (.iload_n 1, 1) := by decide +kernel
theorem dX4_addStep_25 : decode cX4_addStep 25 = .ok (.iastore, 1) := by decide +kernel
theorem dX4_addStep_26 : decode cX4_addStep 26 = .ok (.aload_n 0, 1) := by decide +kernel
theorem dX4_addStep_27 : decode cX4_addStep 27 = .ok (.getfield 15, 3) := by decide +kernel
theorem dX4_addStep_30 : decode cX4_addStep 30 = .ok (.aload_n 0, 1) := by decide +kernel
theorem dX4_addStep_31 : decode cX4_addStep 31 = .ok (.getfield 43, 3) := by decide +kernel
theorem dX4_addStep_34 : decode cX4_addStep 34 = .ok (.iload_n 2, 1) := by decide +kernel
theorem dX4_addStep_35 : decode cX4_addStep 35 = .ok (.iastore, 1) := by decide +kernel
theorem dX4_addStep_36 : decode cX4_addStep 36 = .ok (.aload_n 0, 1) := by decide +kernel
theorem dX4_addStep_37 : decode cX4_addStep 37 = .ok (.getfield 18, 3) := by decide +kernel
theorem dX4_addStep_40 : decode cX4_addStep 40 = .ok (.aload_n 0, 1) := by decide +kernel
theorem dX4_addStep_41 : decode cX4_addStep 41 = .ok (.getfield 43, 3) := by decide +kernel
theorem dX4_addStep_44 : decode cX4_addStep 44 = .ok (.iload_n 3, 1) := by decide +kernel
theorem dX4_addStep_45 : decode cX4_addStep 45 = .ok (.iastore, 1) := by decide +kernel
theorem dX4_addStep_46 : decode cX4_addStep 46 = .ok (.aload_n 0, 1) := by decide +kernel
theorem dX4_addStep_47 : decode cX4_addStep 47 = .ok (.dup, 1) := by decide +kernel
theorem dX4_addStep_48 : decode cX4_addStep 48 = .ok (.getfield 43, 3) := by decide +kernel
theorem dX4_addStep_51 : decode cX4_addStep 51 = .ok (.iconst 1, 1) := by decide +kernel
theorem dX4_addStep_52 : decode cX4_addStep 52 = .ok (.iadd, 1) := by decide +kernel
theorem dX4_addStep_53 : decode cX4_addStep 53 = .ok (.putfield 43, 3) := by decide +kernel
theorem dX4_addStep_56 : decode cX4_addStep 56 = .ok (.return_, 1) := by decide +kernel
theorem dX4_addCode_0 : decode cX4_addCode 0 = .ok (.aload_n 0, 1) := by decide +kernel
theorem dX4_addCode_1 : decode cX4_addCode 1 = .ok (.getfield 47, 3) := by decide +kernel
theorem dX4_addCode_4 : decode cX4_addCode 4 = .ok (.ifCond .lt 33, 3) := by decide +kernel
theorem dX4_addCode_7 : decode cX4_addCode 7 = .ok (.aload_n 0, 1) := by decide +kernel
theorem dX4_addCode_8 : decode cX4_addCode 8 = .ok (.getfield 47, 3) := by decide +kernel
theorem dX4_addCode_11 : decode cX4_addCode 11 = .ok (.sipush 128, 3) := by decide +kernel
theorem dX4_addCode_14 : decode cX4_addCode 14 = .ok (.if_icmp .ge 23, 3) := by decide +kernel
theorem dX4_addCode_17 : decode cX4_addCode 17 = .ok (.aload_n 0, 1) := by decide +kernel
theorem dX4_addCode_18 : decode cX4_addCode 18 = .ok (.getfield 21, 3) := by decide +kernel
theorem dX4_addCode_21 : decode cX4_addCode 21 = .ok (.aload_n 0, 1) := by decide +kernel
theorem dX4_addCode_22 : decode cX4_addCode 22 = .ok (.getfield 47, 3) := by decide +kernel
theorem dX4_addCode_25 : decode cX4_addCode 25 = .ok (.iload_n 1, 1) := by decide +kernel
theorem dX4_addCode_26 : decode cX4_addCode 26 = .ok (.iastore, 1) := by decide +kernel
theorem dX4_addCode_27 : decode cX4_addCode 27 = .ok (.aload_n 0, 1) := by decide +kernel
theorem dX4_addCode_28 : decode cX4_addCode 28 = .ok (.dup, 1) := by decide +kernel
theorem dX4_addCode_29 : decode cX4_addCode 29 = .ok (.getfield 47, 3) := by decide +kernel
theorem dX4_addCode_32 : decode cX4_addCode 32 = .ok (.iconst 1, 1) := by decide +kernel
theorem dX4_addCode_33 : decode cX4_addCode 33 = .ok (.iadd, 1) := by decide +kernel
theorem dX4_addCode_34 : decode cX4_addCode 34 = .ok (.putfield 47, 3) := by decide +kernel
theorem dX4_addCode_37 : decode cX4_addCode 37 = .ok (.return_, 1) := by decide +kernel
theorem dX4_addLittle_0 : decode cX4_addLittle 0 = .ok (.aload_n 0, 1) := by decide +kernel
theorem dX4_addLittle_1 : decode cX4_addLittle 1 = .ok (.getfield 50, 3) := by decide +kernel
theorem dX4_addLittle_4 : decode cX4_addLittle 4 = .ok (.ifCond .lt 43, 3) := by decide +kernel
theorem dX4_addLittle_7 : decode cX4_addLittle 7 = .ok (.aload_n 0, 1) := by decide +kernel
theorem dX4_addLittle_8 : decode cX4_addLittle 8 = .ok (.getfield 50, 3) := by decide +kernel
theorem dX4_addLittle_11 : decode cX4_addLittle 11 = .ok (.sipush 200, 3) := by decide +kernel
theorem dX4_addLittle_14 : decode cX4_addLittle 14 = .ok (.if_icmp .ge 33, 3) := by decide +kernel
theorem dX4_addLittle_17 : decode cX4_addLittle 17 = .ok (.aload_n 0, 1) := by decide +kernel
theorem dX4_addLittle_18 : decode cX4_addLittle 18 = .ok (.getfield 24, 3) := by decide +kernel
theorem dX4_addLittle_21 : decode cX4_addLittle 21 = .ok (.aload_n 0, 1) := by decide +kernel
theorem dX4_addLittle_22 : decode cX4_addLittle 22 = .ok (.getfield 50, 3) := by decide +kernel
theorem dX4_addLittle_25 : decode cX4_addLittle 25 = .ok (.iload_n 1, 1) := by decide +kernel
theorem dX4_addLittle_26 : decode cX4_addLittle 26 = .ok (.bastore, 1) := by decide +kernel
theorem dX4_addLittle_27 : decode cX4_addLittle 27 = .ok (.aload_n 0, 1) := by decide +kernel
theorem dX4_addLittle_28 : decode cX4_addLittle 28 = .ok (.getfield 28, 3) := by decide +kernel
theorem dX4_addLittle_31 : decode cX4_addLittle 31 = .ok (.aload_n 0, 1) := by decide +kernel
theorem dX4_addLittle_32 : decode cX4_addLittle 32 = .ok (.getfield 50, 3) := by decide +kernel
theorem dX4_addLittle_35 : decode cX4_addLittle 35 = .ok (.iload_n 2, 1) := by decide +kernel
theorem dX4_addLittle_36 : decode cX4_addLittle 36 = .ok (.iastore, 1) := by decide +kernel
theorem dX4_addLittle_37 : decode cX4_addLittle 37 = .ok (.aload_n 0, 1) := by decide +kernel
theorem dX4_addLittle_38 : decode cX4_addLittle 38 = .ok (.dup, 1) := by decide +kernel
theorem dX4_addLittle_39 : decode cX4_addLittle 39 = .ok (.getfield 50, 3) := by decide +kernel
theorem dX4_addLittle_42 : decode cX4_addLittle 42 = .ok (.iconst 1, 1) := by decide +kernel
theorem dX4_addLittle_43 : decode cX4_addLittle 43 = .ok (.iadd, 1) := by decide +kernel
theorem dX4_addLittle_44 : decode cX4_addLittle 44 = .ok (.putfield 50, 3) := by decide +kernel
theorem dX4_addLittle_47 : decode cX4_addLittle 47 = .ok (.return_, 1) := by decide +kernel
set_option maxRecDepth 100000 in
theorem ggX4_addTest_X4_addCode : GoodIn wsX4_addTest wsX4_addCode := (gi_cons 11 rfl rfl (gi_cons 12 rfl rfl (gi_cons 13 rfl rfl (gi_cons 14 rfl rfl (gi_cons 15 rfl rfl (gi_cons 16 rfl rfl (gi_cons 17 rfl rfl (gi_cons 18 rfl rfl (gi_cons 19 rfl rfl (gi_cons 20 rfl rfl (gi_cons 21 rfl rfl (gi_cons 22 rfl rfl (gi_cons 23 rfl rfl (gi_cons 24 rfl rfl (gi_cons 25 rfl rfl (gi_cons 26 rfl rfl (gi_cons 27 rfl rfl gi_nil)))))))))))))))))
set_option maxRecDepth 20000 in
theorem gX4_addTest_X4_addCode : GoodIn wsX4_addTest (wsV RX4 56 RX4 yX4_addCode wsX4_addCode) := goodIn_app (goodIn_of _ (by decide +kernel)) ggX4_addTest_X4_addCode
theorem dX4_addTest_0 : decode cX4_addTest 0 = .ok (.aload_n 0, 1) := by decide +kernel
theorem dX4_addTest_1 : decode cX4_addTest 1 = .ok (.getfield 53, 3) := by decide +kernel
theorem dX4_addTest_4 : decode cX4_addTest 4 = .ok (.ifCond .lt 73, 3) := by decide +kernel
theorem dX4_addTest_7 : decode cX4_addTest 7 = .ok (.aload_n 0, 1) := by decide +kernel
theorem dX4_addTest_8 : decode cX4_addTest 8 = .ok (.getfield 53, 3) := by decide +kernel
theorem dX4_addTest_11 : decode cX4_addTest 11 = .ok (.bipush 12, 2) := by decide +kernel
theorem dX4_addTest_13 : decode cX4_addTest 13 = .ok (.if_icmp .ge 64, 3) := by decide +kernel
theorem dX4_addTest_16 : decode cX4_addTest 16 = .ok (.aload_n 0, 1) := by decide +kernel
theorem dX4_addTest_17 : decode cX4_addTest 17 = .ok (.getfield 31, 3) := by decide +kernel
theorem dX4_addTest_20 : decode cX4_addTest 20 = .ok (.aload_n 0, 1) := by decide +kernel
theorem dX4_addTest_21 : decode cX4_addTest 21 = .ok (.getfield 53, 3) := by decide +kernel
theorem dX4_addTest_24 : decode cX4_addTest 24 = .ok (.aload_n 0, 1) := by decide +kernel
theorem dX4_addTest_25 : decode cX4_addTest 25 = .ok (.getfield 50, 3) := by decide +kernel
theorem dX4_addTest_28 : decode cX4_addTest 28 = .ok (.iastore, 1) := by decide +kernel
theorem dX4_addTest_29 : decode cX4_addTest 29 = .ok (.aload_n 0, 1) := by decide +kernel
theorem dX4_addTest_30 : decode cX4_addTest 30 = .ok (.getfield 34, 3) := by decide +kernel
theorem dX4_addTest_33 : decode cX4_addTest 33 = .ok (.aload_n 0, 1) := by decide +kernel
theorem dX4_addTest_34 : decode cX4_addTest 34 = .ok (.getfield 53, 3) := by decide +kernel
theorem dX4_addTest_37 : decode cX4_addTest 37 = .ok (.iload_n 1, 1) := by decide +kernel
theorem dX4_addTest_38 : decode cX4_addTest 38 = .ok (.iastore, 1) := by decide +kernel
theorem dX4_addTest_39 : decode cX4_addTest 39 = .ok (.aload_n 0, 1) := by decide +kernel
theorem dX4_addTest_40 : decode cX4_addTest 40 = .ok (.getfield 37, 3) := by decide +kernel
theorem dX4_addTest_43 : decode cX4_addTest 43 = .ok (.aload_n 0, 1) := by decide +kernel
theorem dX4_addTest_44 : decode cX4_addTest 44 = .ok (.getfield 53, 3) := by decide +kernel
theorem dX4_addTest_47 : decode cX4_addTest 47 = .ok (.iload_n 2, 1) := by decide +kernel
theorem dX4_addTest_48 : decode cX4_addTest 48 = .ok (.iastore, 1) := by decide +kernel
theorem dX4_addTest_49 : decode cX4_addTest 49 = .ok (.aload_n 0, 1) := by decide +kernel
theorem dX4_addTest_50 : decode cX4_addTest 50 = .ok (.getfield 40, 3) := by decide +kernel
theorem dX4_addTest_53 : decode cX4_addTest 53 = .ok (.aload_n 0, 1) := by decide +kernel
theorem dX4_addTest_54 : decode cX4_addTest 54 = .ok (.getfield 53, 3) := by decide +kernel
theorem dX4_addTest_57 : decode cX4_addTest 57 = .ok (.iload_n 3, 1) := by decide +kernel
theorem dX4_addTest_58 : decode cX4_addTest 58 = .ok (.iastore, 1) := by decide +kernel
theorem dX4_addTest_59 : decode cX4_addTest 59 = .ok (.aload_n 0, 1) := by decide +kernel
theorem dX4_addTest_60 : decode cX4_addTest 60 = .ok (.aload_n 0, 1) := by decide +kernel
theorem dX4_addTest_61 : decode cX4_addTest 61 = .ok (.getfield 53, 3) := by decide +kernel
theorem dX4_addTest_64 : decode cX4_addTest 64 = .ok (.invokevirtual 56, 3) := by decide +kernel
theorem dX4_addTest_67 : decode cX4_addTest 67 = .ok (.aload_n 0, 1) := by decide +kernel
theorem dX4_addTest_68 : decode cX4_addTest 68 = .ok (.dup, 1) := by decide +kernel
theorem dX4_addTest_69 : decode cX4_addTest 69 = .ok (.getfield 53, 3) := by decide +kernel
theorem dX4_addTest_72 : decode cX4_addTest 72 = .ok (.iconst 1, 1) := by decide +kernel
theorem dX4_addTest_73 : decode cX4_addTest 73 = .ok (.iadd, 1) := by decide +kernel
theorem dX4_addTest_74 : decode cX4_addTest 74 = .ok (.putfield 53, 3) := by decide +kernel
theorem dX4_addTest_77 : decode cX4_addTest 77 = .ok (.return_, 1) := by decide +kernel
set_option maxRecDepth 100000 in
theorem ggX4_answersIn_X4_reached : GoodIn wsX4_answersIn wsX4_reached := (gi_cons 6 rfl rfl (gi_cons 1 rfl rfl (gi_cons 7 rfl rfl (gi_cons 8 rfl rfl (gi_cons 9 rfl rfl (gi_cons 10 rfl rfl (gi_cons 11 rfl rfl (gi_cons 12 rfl rfl (gi_cons 13 rfl rfl (gi_cons 14 rfl rfl (gi_cons 15 rfl rfl (gi_cons 16 rfl rfl (gi_cons 17 rfl rfl (gi_cons 18 rfl rfl (gi_cons 19 rfl rfl (gi_cons 20 rfl rfl (gi_cons 21 rfl rfl (gi_cons 22 rfl rfl (gi_cons 5 rfl rfl (gi_cons 23 rfl rfl (gi_cons 24 rfl rfl (gi_cons 25 rfl rfl (gi_cons 26 rfl rfl (gi_cons 27 rfl rfl (gi_cons 28 rfl rfl (gi_cons 29 rfl rfl (gi_cons 30 rfl rfl (gi_cons 31 rfl rfl (gi_cons 32 rfl rfl (gi_cons 33 rfl rfl (gi_cons 34 rfl rfl (gi_cons 35 rfl rfl (gi_cons 36 rfl rfl (gi_cons 37 rfl rfl (gi_cons 38 rfl rfl (gi_cons 39 rfl rfl (gi_cons 40 rfl rfl (gi_cons 41 rfl rfl (gi_cons 42 rfl rfl (gi_cons 43 rfl rfl (gi_cons 44 rfl rfl (gi_cons 45 rfl rfl (gi_cons 46 rfl rfl (gi_cons 47 rfl rfl (gi_cons 48 rfl rfl (gi_cons 49 rfl rfl (gi_cons 50 rfl rfl (gi_cons 51 rfl rfl (gi_cons 52 rfl rfl (gi_cons 53 rfl rfl (gi_cons 54 rfl rfl (gi_cons 55 rfl rfl (gi_cons 56 rfl rfl (gi_cons 57 rfl rfl (gi_cons 58 rfl rfl (gi_cons 59 rfl rfl (gi_cons 60 rfl rfl (gi_cons 61 rfl rfl (gi_cons 62 rfl rfl (gi_cons 63 rfl rfl (gi_cons 64 rfl rfl (gi_cons 65 rfl rfl (gi_cons 66 rfl rfl (gi_cons 67 rfl rfl (gi_cons 68 rfl rfl (gi_cons 69 rfl rfl (gi_cons 70 rfl rfl (gi_cons 71 rfl rfl (gi_cons 72 rfl rfl (gi_cons 73 rfl rfl (gi_cons 74 rfl rfl (gi_cons 75 rfl rfl (gi_cons 76 rfl rfl (gi_cons 77 rfl rfl (gi_cons 78 rfl rfl (gi_cons 79 rfl rfl (gi_cons 80 rfl rfl (gi_cons 81 rfl rfl (gi_cons 82 rfl rfl (gi_cons 83 rfl rfl (gi_cons 84 rfl rfl (gi_cons 85 rfl rfl (gi_cons 86 rfl rfl (gi_cons 87 rfl rfl (gi_cons 88 rfl rfl (gi_cons 89 rfl rfl (gi_cons 90 rfl rfl (gi_cons 91 rfl rfl (gi_cons 92 rfl rfl (gi_cons 93 rfl rfl (gi_cons 94 rfl rfl (gi_cons 95 rfl rfl (gi_cons 96 rfl rfl gi_nil)))))))))))))))))))))))))))))))))))))))))))))))))))))))))))))))))))))))))))))))))))))))))))))
set_option maxRecDepth 20000 in
theorem gX4_answersIn_X4_reached : GoodIn wsX4_answersIn (wsV RX4 65 RX4 yX4_reached wsX4_reached) := goodIn_app (goodIn_of _ (by decide +kernel)) ggX4_answersIn_X4_reached
theorem dX4_answersIn_0 : decode cX4_answersIn 0 = .ok (.lconst 1, 1) := by decide +kernel
theorem dX4_answersIn_1 : decode cX4_answersIn 1 = .ok (.lstore_n 3, 1) := by decide +kernel
theorem dX4_answersIn_2 : decode cX4_answersIn 2 = .ok (.iconst 0, 1) := by decide +kernel
theorem dX4_answersIn_3 : decode cX4_answersIn 3 = .ok (.istore 5, 2) := by decide +kernel
theorem dX4_answersIn_5 : decode cX4_answersIn 5 = .ok (.iload 5, 2) := by decide +kernel
theorem dX4_answersIn_7 : decode cX4_answersIn 7 = .ok (.iload_n 2, 1) := by decide +kernel
theorem dX4_answersIn_8 : decode cX4_answersIn 8 = .ok (.if_icmp .ge 72, 3) := by decide +kernel
theorem dX4_answersIn_11 : decode cX4_answersIn 11 = .ok (.iload 5, 2) := by decide +kernel
theorem dX4_answersIn_13 : decode cX4_answersIn 13 = .ok (.aload_n 0, 1) := by decide +kernel
theorem dX4_answersIn_14 : decode cX4_answersIn 14 = .ok (.getfield 43, 3) := by decide +kernel
theorem dX4_answersIn_17 : decode cX4_answersIn 17 = .ok (.if_icmp .ge 63, 3) := by decide +kernel
theorem dX4_answersIn_20 : decode cX4_answersIn 20 = .ok (.lload_n 3, 1) := by decide +kernel
theorem dX4_answersIn_21 : decode cX4_answersIn 21 = .ok (.lstore 6, 2) := by decide +kernel
theorem dX4_answersIn_23 : decode cX4_answersIn 23 = .ok (.lconst 0, 1) := by decide +kernel
theorem dX4_answersIn_24 : decode cX4_answersIn 24 = .ok (.lstore_n 3, 1) := by decide +kernel
theorem dX4_answersIn_25 : decode cX4_answersIn 25 = .ok (.iconst 0, 1) := by decide +kernel
theorem dX4_answersIn_26 : decode cX4_answersIn 26 = .ok (.istore 8, 2) := by decide +kernel
theorem dX4_answersIn_28 : decode cX4_answersIn 28 = .ok (.iload 8, 2) := by decide +kernel
theorem dX4_answersIn_30 : decode cX4_answersIn 30 = .ok (.aload_n 1, 1) := by decide +kernel
theorem dX4_answersIn_31 : decode cX4_answersIn 31 = .ok (.getfield 60, 3) := by decide +kernel
theorem dX4_answersIn_34 : decode cX4_answersIn 34 = .ok (.if_icmp .ge 40, 3) := by decide +kernel
theorem dX4_answersIn_37 : decode cX4_answersIn 37 = .ok (.iload 8, 2) := by decide +kernel
theorem dX4_answersIn_39 : decode cX4_answersIn 39 = .ok (.bipush 60, 2) := by decide +kernel
theorem dX4_answersIn_41 : decode cX4_answersIn 41 = .ok (.if_icmp .ge 27, 3) := by decide +kernel
theorem dX4_answersIn_44 : decode cX4_answersIn 44 = .ok (.lload 6, 2) := by decide +kernel
theorem dX4_answersIn_46 : decode cX4_answersIn 46 = .ok (.iload 8, 2) := by decide +kernel
theorem dX4_answersIn_48 : decode cX4_answersIn 48 = .ok (.lushr, 1) := by decide +kernel
theorem dX4_answersIn_49 : decode cX4_answersIn 49 = .ok (.lconst 1, 1) := by decide +kernel
theorem dX4_answersIn_50 : decode cX4_answersIn 50 = .ok (.land, 1) := by decide +kernel
theorem dX4_answersIn_51 : decode cX4_answersIn 51 = .ok (.lconst 0, 1) := by decide +kernel
theorem dX4_answersIn_52 : decode cX4_answersIn 52 = .ok (.lcmp, 1) := by decide +kernel
theorem dX4_answersIn_53 : decode cX4_answersIn 53 = .ok (.ifCond .eq 15, 3) := by decide +kernel
theorem dX4_answersIn_56 : decode cX4_answersIn 56 = .ok (.lload_n 3, 1) := by decide +kernel
theorem dX4_answersIn_57 : decode cX4_answersIn 57 = .ok (.aload_n 0, 1) := by decide +kernel
theorem dX4_answersIn_58 : decode cX4_answersIn 58 = .ok (.aload_n 1, 1) := by decide +kernel
theorem dX4_answersIn_59 : decode cX4_answersIn 59 = .ok (.iload 5, 2) := by decide +kernel
theorem dX4_answersIn_61 : decode cX4_answersIn 61 = .ok (.iload 8, 2) := by decide +kernel
theorem dX4_answersIn_63 : decode cX4_answersIn 63 = .ok (.invokevirtual 65, 3) := by decide +kernel
theorem dX4_answersIn_66 : decode cX4_answersIn 66 = .ok (.lor, 1) := by decide +kernel
theorem dX4_answersIn_67 : decode cX4_answersIn 67 = .ok (.lstore_n 3, 1) := by decide +kernel
theorem dX4_answersIn_68 : decode cX4_answersIn 68 = .ok (.iinc 8 1, 3) := by decide +kernel
theorem dX4_answersIn_71 : decode cX4_answersIn 71 = .ok (.goto (-43), 3) := by decide +kernel
theorem dX4_answersIn_74 : decode cX4_answersIn 74 = .ok (.iinc 5 1, 3) := by decide +kernel
theorem dX4_answersIn_77 : decode cX4_answersIn 77 = .ok (.goto (-72), 3) := by decide +kernel
theorem dX4_answersIn_80 : decode cX4_answersIn 80 = .ok (.lload_n 3, 1) := by decide +kernel
theorem dX4_answersIn_81 : decode cX4_answersIn 81 = .ok (.lreturn, 1) := by decide +kernel
set_option maxRecDepth 100000 in
theorem ggX4_reached_X9_childBy : GoodIn wsX4_reached wsX9_childBy := (gi_cons 8 rfl rfl (gi_cons 9 rfl rfl (gi_cons 10 rfl rfl (gi_cons 11 rfl rfl (gi_cons 12 rfl rfl (gi_cons 88 rfl rfl (gi_cons 89 rfl rfl (gi_cons 90 rfl rfl (gi_cons 91 rfl rfl (gi_cons 92 rfl rfl gi_nil))))))))))
set_option maxRecDepth 20000 in
theorem gX4_reached_X9_childBy : GoodIn wsX4_reached (wsV RX4 69 RX9 yX9_childBy wsX9_childBy) := goodIn_app (goodIn_of _ (by decide +kernel)) ggX4_reached_X9_childBy
set_option maxRecDepth 100000 in
theorem ggX4_reached_X10_bit : GoodIn wsX4_reached wsX10_bit := (gi_cons 15 rfl rfl gi_nil)
set_option maxRecDepth 20000 in
theorem gX4_reached_X10_bit_n73 : GoodIn wsX4_reached (wsX10_bit) := ggX4_reached_X10_bit
set_option maxRecDepth 100000 in
theorem ggX4_reached_X4_children : GoodIn wsX4_reached wsX4_children := (gi_cons 19 rfl rfl (gi_cons 20 rfl rfl (gi_cons 21 rfl rfl (gi_cons 22 rfl rfl (gi_cons 7 rfl rfl (gi_cons 23 rfl rfl (gi_cons 9 rfl rfl (gi_cons 11 rfl rfl (gi_cons 24 rfl rfl (gi_cons 25 rfl rfl (gi_cons 26 rfl rfl (gi_cons 27 rfl rfl (gi_cons 13 rfl rfl (gi_cons 14 rfl rfl (gi_cons 15 rfl rfl (gi_cons 88 rfl rfl (gi_cons 89 rfl rfl (gi_cons 90 rfl rfl (gi_cons 91 rfl rfl (gi_cons 92 rfl rfl gi_nil))))))))))))))))))))
set_option maxRecDepth 20000 in
theorem gX4_reached_X4_children : GoodIn wsX4_reached (va_wsS RX4 77 yX4_children wsX4_children) := goodIn_app (goodIn_of _ (by decide +kernel)) ggX4_reached_X4_children
set_option maxRecDepth 100000 in
theorem ggX4_reached_X4_allWithin : GoodIn wsX4_reached wsX4_allWithin := (gi_cons 30 rfl rfl (gi_cons 24 rfl rfl (gi_cons 25 rfl rfl (gi_cons 26 rfl rfl (gi_cons 7 rfl rfl (gi_cons 27 rfl rfl (gi_cons 9 rfl rfl (gi_cons 11 rfl rfl (gi_cons 13 rfl rfl (gi_cons 14 rfl rfl (gi_cons 15 rfl rfl (gi_cons 88 rfl rfl (gi_cons 89 rfl rfl (gi_cons 90 rfl rfl (gi_cons 91 rfl rfl (gi_cons 92 rfl rfl gi_nil))))))))))))))))
set_option maxRecDepth 20000 in
theorem gX4_reached_X4_allWithin : GoodIn wsX4_reached (va_wsS RX4 81 yX4_allWithin wsX4_allWithin) := goodIn_app (goodIn_of _ (by decide +kernel)) ggX4_reached_X4_allWithin
set_option maxRecDepth 100000 in
theorem ggX4_reached_X9_listed : GoodIn wsX4_reached wsX9_listed := (gi_cons 34 rfl rfl (gi_cons 9 rfl rfl (gi_cons 10 rfl rfl (gi_cons 11 rfl rfl (gi_cons 88 rfl rfl (gi_cons 89 rfl rfl (gi_cons 90 rfl rfl (gi_cons 91 rfl rfl (gi_cons 92 rfl rfl gi_nil)))))))))
set_option maxRecDepth 20000 in
theorem gX4_reached_X9_listed : GoodIn wsX4_reached (wsV RX4 85 RX9 yX9_listed wsX9_listed) := goodIn_app (goodIn_of _ (by decide +kernel)) ggX4_reached_X9_listed
set_option maxRecDepth 100000 in
theorem ggX4_reached_X4_stretch : GoodIn wsX4_reached wsX4_stretch := (gi_cons 38 rfl rfl (gi_cons 1 rfl rfl (gi_cons 3 rfl rfl (gi_cons 39 rfl rfl (gi_cons 40 rfl rfl (gi_cons 41 rfl rfl (gi_cons 42 rfl rfl (gi_cons 7 rfl rfl (gi_cons 43 rfl rfl (gi_cons 9 rfl rfl (gi_cons 10 rfl rfl (gi_cons 44 rfl rfl (gi_cons 45 rfl rfl (gi_cons 46 rfl rfl (gi_cons 47 rfl rfl (gi_cons 11 rfl rfl (gi_cons 16 rfl rfl (gi_cons 17 rfl rfl (gi_cons 18 rfl rfl (gi_cons 19 rfl rfl (gi_cons 20 rfl rfl (gi_cons 21 rfl rfl (gi_cons 22 rfl rfl (gi_cons 23 rfl rfl (gi_cons 24 rfl rfl (gi_cons 25 rfl rfl (gi_cons 26 rfl rfl (gi_cons 27 rfl rfl (gi_cons 13 rfl rfl (gi_cons 14 rfl rfl (gi_cons 15 rfl rfl (gi_cons 74 rfl rfl (gi_cons 75 rfl rfl (gi_cons 76 rfl rfl (gi_cons 77 rfl rfl (gi_cons 78 rfl rfl (gi_cons 79 rfl rfl (gi_cons 80 rfl rfl (gi_cons 81 rfl rfl (gi_cons 82 rfl rfl (gi_cons 83 rfl rfl (gi_cons 84 rfl rfl (gi_cons 85 rfl rfl (gi_cons 86 rfl rfl (gi_cons 87 rfl rfl (gi_cons 88 rfl rfl (gi_cons 89 rfl rfl (gi_cons 90 rfl rfl (gi_cons 91 rfl rfl (gi_cons 92 rfl rfl gi_nil))))))))))))))))))))))))))))))))))))))))))))))))))
set_option maxRecDepth 20000 in
theorem gX4_reached_X4_stretch : GoodIn wsX4_reached (wsV RX4 88 RX4 yX4_stretch wsX4_stretch) := goodIn_app (goodIn_of _ (by decide +kernel)) ggX4_reached_X4_stretch
set_option maxRecDepth 100000 in
theorem ggX4_reached_X4_holds : GoodIn wsX4_reached wsX4_holds := (gi_cons 51 rfl rfl (gi_cons 52 rfl rfl (gi_cons 53 rfl rfl (gi_cons 54 rfl rfl (gi_cons 55 rfl rfl (gi_cons 56 rfl rfl (gi_cons 57 rfl rfl (gi_cons 58 rfl rfl (gi_cons 59 rfl rfl (gi_cons 60 rfl rfl (gi_cons 18 rfl rfl (gi_cons 61 rfl rfl (gi_cons 62 rfl rfl (gi_cons 63 rfl rfl (gi_cons 64 rfl rfl (gi_cons 65 rfl rfl (gi_cons 66 rfl rfl (gi_cons 67 rfl rfl (gi_cons 68 rfl rfl (gi_cons 4 rfl rfl (gi_cons 5 rfl rfl (gi_cons 6 rfl rfl (gi_cons 7 rfl rfl (gi_cons 8 rfl rfl (gi_cons 9 rfl rfl (gi_cons 10 rfl rfl (gi_cons 11 rfl rfl (gi_cons 12 rfl rfl (gi_cons 31 rfl rfl (gi_cons 32 rfl rfl (gi_cons 33 rfl rfl (gi_cons 34 rfl rfl (gi_cons 40 rfl rfl (gi_cons 41 rfl rfl (gi_cons 42 rfl rfl (gi_cons 43 rfl rfl (gi_cons 69 rfl rfl (gi_cons 70 rfl rfl (gi_cons 71 rfl rfl (gi_cons 72 rfl rfl (gi_cons 73 rfl rfl (gi_cons 74 rfl rfl (gi_cons 75 rfl rfl (gi_cons 76 rfl rfl (gi_cons 77 rfl rfl (gi_cons 78 rfl rfl (gi_cons 79 rfl rfl (gi_cons 80 rfl rfl (gi_cons 81 rfl rfl (gi_cons 82 rfl rfl (gi_cons 83 rfl rfl (gi_cons 84 rfl rfl (gi_cons 85 rfl rfl (gi_cons 86 rfl rfl (gi_cons 87 rfl rfl (gi_cons 88 rfl rfl (gi_cons 89 rfl rfl (gi_cons 90 rfl rfl (gi_cons 91 rfl rfl (gi_cons 92 rfl rfl gi_nil))))))))))))))))))))))))))))))))))))))))))))))))))))))))))))
set_option maxRecDepth 20000 in
theorem gX4_reached_X4_holds : GoodIn wsX4_reached (wsV RX4 91 RX4 yX4_holds wsX4_holds) := goodIn_app (goodIn_of _ (by decide +kernel)) ggX4_reached_X4_holds
theorem dX4_reached_0 : decode cX4_reached 0 = .ok (.iload_n 2, 1) := by decide +kernel
theorem dX4_reached_1 : decode cX4_reached 1 = .ok (.ifCond .lt 11, 3) := by decide +kernel
theorem dX4_reached_4 : decode cX4_reached 4 = .ok (.iload_n 2, 1) := by decide +kernel
theorem dX4_reached_5 : decode cX4_reached 5 = .ok (.aload_n 0, 1) := by decide +kernel
theorem dX4_reached_6 : decode cX4_reached 6 = .ok (.getfield 43, 3) := by decide +kernel
theorem dX4_reached_9 : decode cX4_reached 9 = .ok (.if_icmp .lt 5, 3) := by decide +kernel
theorem dX4_reached_12 : decode cX4_reached 12 = .ok (.lconst 0, 1) := by decide +kernel
theorem dX4_reached_13 : decode cX4_reached 13 = .ok (.lreturn, 1) := by decide +kernel
theorem dX4_reached_14 : decode cX4_reached 14 = .ok (.aload_n 0, 1) := by decide +kernel
theorem dX4_reached_15 : decode cX4_reached 15 = .ok (.getfield 9, 3) := by decide +kernel
theorem dX4_reached_18 : decode cX4_reached 18 = .ok (.iload_n 2, 1) := by decide +kernel
theorem dX4_reached_19 : decode cX4_reached 19 = .ok (.iaload, 1) := by decide +kernel
theorem dX4_reached_20 : decode cX4_reached 20 = .ok (.tableswitch 117 0 5 #[40, 55, 64, 70, 85, 93], 40) := by decide +kernel
theorem dX4_reached_60 : decode cX4_reached 60 = .ok (.aload_n 1, 1) := by decide +kernel
theorem dX4_reached_61 : decode cX4_reached 61 = .ok (.iload_n 3, 1) := by decide +kernel
theorem dX4_reached_62 : decode cX4_reached 62 = .ok (.aload_n 0, 1) := by decide +kernel
theorem dX4_reached_63 : decode cX4_reached 63 = .ok (.getfield 15, 3) := by decide +kernel
theorem dX4_reached_66 : decode cX4_reached 66 = .ok (.iload_n 2, 1) := by decide +kernel
theorem dX4_reached_67 : decode cX4_reached 67 = .ok (.iaload, 1) := by decide +kernel
theorem dX4_reached_68 : decode cX4_reached 68 = .ok (.invokevirtual 69, 3) := by decide +kernel
theorem dX4_reached_71 : decode cX4_reached 71 = .ok (.invokestatic 73, 3) := by decide +kernel
theorem dX4_reached_74 : decode cX4_reached 74 = .ok (.lreturn, 1) := by decide +kernel
theorem dX4_reached_75 : decode cX4_reached 75 = .ok (.aload_n 1, 1) := by decide +kernel
theorem dX4_reached_76 : decode cX4_reached 76 = .ok (.iload_n 3, 1) := by decide +kernel
theorem dX4_reached_77 : decode cX4_reached 77 = .ok (.iconst 0, 1) := by decide +kernel
theorem dX4_reached_78 : decode cX4_reached 78 = .ok (.bipush 60, 2) := by decide +kernel
theorem dX4_reached_80 : decode cX4_reached 80 = .ok (.invokestatic 77, 3) := by decide +kernel
theorem dX4_reached_83 : decode cX4_reached 83 = .ok (.lreturn, 1) := by decide +kernel
theorem dX4_reached_84 : decode cX4_reached 84 = .ok (.aload_n 1, 1) := by decide +kernel
theorem dX4_reached_85 : decode cX4_reached 85 = .ok (.iload_n 3, 1) := by decide +kernel
theorem dX4_reached_86 : decode cX4_reached 86 = .ok (.invokestatic 81, 3) := by decide +kernel
theorem dX4_reached_89 : decode cX4_reached 89 = .ok (.lreturn, 1) := by decide +kernel
theorem dX4_reached_90 : decode cX4_reached 90 = .ok (.aload_n 1, 1) := by decide +kernel
theorem dX4_reached_91 : decode cX4_reached 91 = .ok (.iload_n 3, 1) := by decide +kernel
theorem dX4_reached_92 : decode cX4_reached 92 = .ok (.aload_n 0, 1) := by decide +kernel
theorem dX4_reached_93 : decode cX4_reached 93 = .ok (.getfield 15, 3) := by decide +kernel
theorem dX4_reached_96 : decode cX4_reached 96 = .ok (.iload_n 2, 1) := by decide +kernel
theorem dX4_reached_97 : decode cX4_reached 97 = .ok (.iaload, 1) := by decide +kernel
theorem dX4_reached_98 : decode cX4_reached 98 = .ok (.invokevirtual 85, 3) := by decide +kernel
theorem dX4_reached_101 : decode cX4_reached 101 = .ok (.invokestatic 73, 3) := by decide +kernel
theorem dX4_reached_104 : decode cX4_reached 104 = .ok (.lreturn, 1) := by decide +kernel
theorem dX4_reached_105 : decode cX4_reached 105 = .ok (.aload_n 0, 1) := by decide +kernel
theorem dX4_reached_106 : decode cX4_reached 106 = .ok (.aload_n 1, 1) := by decide +kernel
theorem dX4_reached_107 : decode cX4_reached 107 = .ok (.iload_n 2, 1) := by decide +kernel
theorem dX4_reached_108 : decode cX4_reached 108 = .ok (.iload_n 3, 1) := by decide +kernel
theorem dX4_reached_109 : decode cX4_reached 109 = .ok (.invokevirtual 88, 3) := by decide +kernel
theorem dX4_reached_112 : decode cX4_reached 112 = .ok (.lreturn, 1) := by decide +kernel
theorem dX4_reached_113 : decode cX4_reached 113 = .ok (.aload_n 0, 1) := by decide +kernel
theorem dX4_reached_114 : decode cX4_reached 114 = .ok (.aload_n 1, 1) := by decide +kernel
theorem dX4_reached_115 : decode cX4_reached 115 = .ok (.aload_n 0, 1) := by decide +kernel
theorem dX4_reached_116 : decode cX4_reached 116 = .ok (.getfield 15, 3) := by decide +kernel
theorem dX4_reached_119 : decode cX4_reached 119 = .ok (.iload_n 2, 1) := by decide +kernel
theorem dX4_reached_120 : decode cX4_reached 120 = .ok (.iaload, 1) := by decide +kernel
theorem dX4_reached_121 : decode cX4_reached 121 = .ok (.iload_n 3, 1) := by decide +kernel
theorem dX4_reached_122 : decode cX4_reached 122 = .ok (.invokevirtual 91, 3) := by decide +kernel
theorem dX4_reached_125 : decode cX4_reached 125 = .ok (.ifCond .eq 10, 3) := by decide +kernel
theorem dX4_reached_128 : decode cX4_reached 128 = .ok (.iload_n 3, 1) := by decide +kernel
theorem dX4_reached_129 : decode cX4_reached 129 = .ok (.invokestatic 73, 3) := by decide +kernel
theorem dX4_reached_132 : decode cX4_reached 132 = .ok (.goto 4, 3) := by decide +kernel
theorem dX4_reached_135 : decode cX4_reached 135 = .ok (.lconst 0, 1) := by decide +kernel
theorem dX4_reached_136 : decode cX4_reached 136 = .ok (.lreturn, 1) := by decide +kernel
theorem dX4_reached_137 : decode cX4_reached 137 = .ok (.lconst 0, 1) := by decide +kernel
theorem dX4_reached_138 : decode cX4_reached 138 = .ok (.lreturn, 1) := by decide +kernel
set_option maxRecDepth 100000 in
theorem ggX4_allWithin_X9_end : GoodIn wsX4_allWithin wsX9_end := (gi_cons 5 rfl rfl (gi_cons 6 rfl rfl (gi_cons 7 rfl rfl (gi_cons 11 rfl rfl (gi_cons 12 rfl rfl (gi_cons 13 rfl rfl (gi_cons 14 rfl rfl (gi_cons 15 rfl rfl gi_nil))))))))
set_option maxRecDepth 20000 in
theorem gX4_allWithin_X9_end : GoodIn wsX4_allWithin (wsV RX4 95 RX9 yX9_end wsX9_end) := goodIn_app (goodIn_of _ (by decide +kernel)) ggX4_allWithin_X9_end
set_option maxRecDepth 100000 in
theorem ggX4_allWithin_X10_bit : GoodIn wsX4_allWithin wsX10_bit := (gi_cons 10 rfl rfl gi_nil)
set_option maxRecDepth 20000 in
theorem gX4_allWithin_X10_bit_n73 : GoodIn wsX4_allWithin (wsX10_bit) := ggX4_allWithin_X10_bit
theorem dX4_allWithin_0 : decode cX4_allWithin 0 = .ok (.lconst 0, 1) := by decide +kernel
theorem dX4_allWithin_1 : decode cX4_allWithin 1 = .ok (.lstore_n 2, 1) := by decide +kernel
theorem dX4_allWithin_2 : decode cX4_allWithin 2 = .ok (.aload_n 0, 1) := by decide +kernel
theorem dX4_allWithin_3 : decode cX4_allWithin 3 = .ok (.iload_n 1, 1) := by decide +kernel
theorem dX4_allWithin_4 : decode cX4_allWithin 4 = .ok (.invokevirtual 95, 3) := by decide +kernel
theorem dX4_allWithin_7 : decode cX4_allWithin 7 = .ok (.istore 4, 2) := by decide +kernel
theorem dX4_allWithin_9 : decode cX4_allWithin 9 = .ok (.iload_n 1, 1) := by decide +kernel
theorem dX4_allWithin_10 : decode cX4_allWithin 10 = .ok (.istore 5, 2) := by decide +kernel
theorem dX4_allWithin_12 : decode cX4_allWithin 12 = .ok (.iload 5, 2) := by decide +kernel
theorem dX4_allWithin_14 : decode cX4_allWithin 14 = .ok (.iload 4, 2) := by decide +kernel
theorem dX4_allWithin_16 : decode cX4_allWithin 16 = .ok (.if_icmp .gt 17, 3) := by decide +kernel
theorem dX4_allWithin_19 : decode cX4_allWithin 19 = .ok (.lload_n 2, 1) := by decide +kernel
theorem dX4_allWithin_20 : decode cX4_allWithin 20 = .ok (.iload 5, 2) := by decide +kernel
theorem dX4_allWithin_22 : decode cX4_allWithin 22 = .ok (.invokestatic 73, 3) := by decide +kernel
theorem dX4_allWithin_25 : decode cX4_allWithin 25 = .ok (.lor, 1) := by decide +kernel
theorem dX4_allWithin_26 : decode cX4_allWithin 26 = .ok (.lstore_n 2, 1) := by decide +kernel
theorem dX4_allWithin_27 : decode cX4_allWithin 27 = .ok (.iinc 5 1, 3) := by decide +kernel
theorem dX4_allWithin_30 : decode cX4_allWithin 30 = .ok (.goto (-18), 3) := by decide +kernel
theorem dX4_allWithin_33 : decode cX4_allWithin 33 = .ok (.lload_n 2, 1) := by decide +kernel
theorem dX4_allWithin_34 : decode cX4_allWithin 34 = .ok (.lreturn, 1) := by decide +kernel
set_option maxRecDepth 100000 in
theorem ggX4_children_X9_depthAt : GoodIn wsX4_children wsX9_depthAt := (gi_cons 5 rfl rfl (gi_cons 6 rfl rfl (gi_cons 7 rfl rfl (gi_cons 15 rfl rfl (gi_cons 16 rfl rfl (gi_cons 17 rfl rfl (gi_cons 18 rfl rfl (gi_cons 19 rfl rfl gi_nil))))))))
set_option maxRecDepth 20000 in
theorem gX4_children_X9_depthAt : GoodIn wsX4_children (wsV RX4 99 RX9 yX9_depthAt wsX9_depthAt) := goodIn_app (goodIn_of _ (by decide +kernel)) ggX4_children_X9_depthAt
set_option maxRecDepth 100000 in
theorem ggX4_children_X9_end : GoodIn wsX4_children wsX9_end := (gi_cons 11 rfl rfl (gi_cons 6 rfl rfl (gi_cons 7 rfl rfl (gi_cons 15 rfl rfl (gi_cons 16 rfl rfl (gi_cons 17 rfl rfl (gi_cons 18 rfl rfl (gi_cons 19 rfl rfl gi_nil))))))))
set_option maxRecDepth 20000 in
theorem gX4_children_X9_end : GoodIn wsX4_children (wsV RX4 95 RX9 yX9_end wsX9_end) := goodIn_app (goodIn_of _ (by decide +kernel)) ggX4_children_X9_end
set_option maxRecDepth 100000 in
theorem ggX4_children_X10_bit : GoodIn wsX4_children wsX10_bit := (gi_cons 14 rfl rfl gi_nil)
set_option maxRecDepth 20000 in
theorem gX4_children_X10_bit_n73 : GoodIn wsX4_children (wsX10_bit) := ggX4_children_X10_bit
theorem dX4_children_0 : decode cX4_children 0 = .ok (.lconst 0, 1) := by decide +kernel
theorem dX4_children_1 : decode cX4_children 1 = .ok (.lstore 4, 2) := by decide +kernel
theorem dX4_children_3 : decode cX4_children 3 = .ok (.aload_n 0, 1) := by decide +kernel
theorem dX4_children_4 : decode cX4_children 4 = .ok (.iload_n 1, 1) := by decide +kernel
theorem dX4_children_5 : decode cX4_children 5 = .ok (.invokevirtual 99, 3) := by decide +kernel
theorem dX4_children_8 : decode cX4_children 8 = .ok (.iconst 1, 1) := by decide +kernel
theorem dX4_children_9 : decode cX4_children 9 = .ok (.iadd, 1) := by decide +kernel
theorem dX4_children_10 : decode cX4_children 10 = .ok (.istore 6, 2) := by decide +kernel
theorem dX4_children_12 : decode cX4_children 12 = .ok (.aload_n 0, 1) := by decide +kernel
theorem dX4_children_13 : decode cX4_children 13 = .ok (.iload_n 1, 1) := by decide +kernel
theorem dX4_children_14 : decode cX4_children 14 = .ok (.invokevirtual 95, 3) := by decide +kernel
theorem dX4_children_17 : decode cX4_children 17 = .ok (.istore 7, 2) := by decide +kernel
theorem dX4_children_19 : decode cX4_children 19 = .ok (.iconst 0, 1) := by decide +kernel
theorem dX4_children_20 : decode cX4_children 20 = .ok (.istore 8, 2) := by decide +kernel
theorem dX4_children_22 : decode cX4_children 22 = .ok (.iload_n 1, 1) := by decide +kernel
theorem dX4_children_23 : decode cX4_children 23 = .ok (.iconst 1, 1) := by decide +kernel
theorem dX4_children_24 : decode cX4_children 24 = .ok (.iadd, 1) := by decide +kernel
theorem dX4_children_25 : decode cX4_children 25 = .ok (.istore 9, 2) := by decide +kernel
theorem dX4_children_27 : decode cX4_children 27 = .ok (.iload 9, 2) := by decide +kernel
theorem dX4_children_29 : decode cX4_children 29 = .ok (.iload 7, 2) := by decide +kernel
theorem dX4_children_31 : decode cX4_children 31 = .ok (.if_icmp .gt 45, 3) := by decide +kernel
theorem dX4_children_34 : decode cX4_children 34 = .ok (.aload_n 0, 1) := by decide +kernel
theorem dX4_children_35 : decode cX4_children 35 = .ok (.iload 9, 2) := by decide +kernel
theorem dX4_children_37 : decode cX4_children 37 = .ok (.invokevirtual 99, 3) := by decide +kernel
theorem dX4_children_40 : decode cX4_children 40 = .ok (.iload 6, 2) := by decide +kernel
theorem dX4_children_42 : decode cX4_children 42 = .ok (.if_icmp .ne 28, 3) := by decide +kernel
theorem dX4_children_45 : decode cX4_children 45 = .ok (.iload 8, 2) := by decide +kernel
theorem dX4_children_47 : decode cX4_children 47 = .ok (.iload_n 2, 1) := by decide +kernel
theorem dX4_children_48 : decode cX4_children 48 = .ok (.if_icmp .lt 19, 3) := by decide +kernel
theorem dX4_children_51 : decode cX4_children 51 = .ok (.iload 8, 2) := by decide +kernel
theorem dX4_children_53 : decode cX4_children 53 = .ok (.iload_n 3, 1) := by decide +kernel
theorem dX4_children_54 : decode cX4_children 54 = .ok (.if_icmp .ge 13, 3) := by decide +kernel
theorem dX4_children_57 : decode cX4_children 57 = .ok (.lload 4, 2) := by decide +kernel
theorem dX4_children_59 : decode cX4_children 59 = .ok (.iload 9, 2) := by decide +kernel
theorem dX4_children_61 : decode cX4_children 61 = .ok (.invokestatic 73, 3) := by decide +kernel
theorem dX4_children_64 : decode cX4_children 64 = .ok (.lor, 1) := by decide +kernel
theorem dX4_children_65 : decode cX4_children 65 = .ok (.lstore 4, 2) := by decide +kernel
theorem dX4_children_67 : decode cX4_children 67 = .ok (.iinc 8 1, 3) := by decide +kernel
theorem dX4_children_70 : decode cX4_children 70 = .ok (.iinc 9 1, 3) := by decide +kernel
theorem dX4_children_73 : decode cX4_children 73 = .ok (.goto (-46), 3) := by decide +kernel
theorem dX4_children_76 : decode cX4_children 76 = .ok (.lload 4, 2) := by decide +kernel
theorem dX4_children_78 : decode cX4_children 78 = .ok (.lreturn, 1) := by decide +kernel
set_option maxRecDepth 100000 in
theorem ggX4_stretch_X9_kindAt : GoodIn wsX4_stretch wsX9_kindAt := (gi_cons 8 rfl rfl (gi_cons 9 rfl rfl (gi_cons 10 rfl rfl (gi_cons 45 rfl rfl (gi_cons 46 rfl rfl (gi_cons 47 rfl rfl (gi_cons 48 rfl rfl (gi_cons 49 rfl rfl gi_nil))))))))
set_option maxRecDepth 20000 in
theorem gX4_stretch_X9_kindAt : GoodIn wsX4_stretch (wsV RX4 102 RX9 yX9_kindAt wsX9_kindAt) := goodIn_app (goodIn_of _ (by decide +kernel)) ggX4_stretch_X9_kindAt
set_option maxRecDepth 100000 in
theorem ggX4_stretch_X9_childCount : GoodIn wsX4_stretch wsX9_childCount := (gi_cons 14 rfl rfl (gi_cons 9 rfl rfl (gi_cons 15 rfl rfl (gi_cons 45 rfl rfl (gi_cons 46 rfl rfl (gi_cons 47 rfl rfl (gi_cons 48 rfl rfl (gi_cons 49 rfl rfl gi_nil))))))))
set_option maxRecDepth 20000 in
theorem gX4_stretch_X9_childCount : GoodIn wsX4_stretch (wsV RX4 105 RX9 yX9_childCount wsX9_childCount) := goodIn_app (goodIn_of _ (by decide +kernel)) ggX4_stretch_X9_childCount
set_option maxRecDepth 100000 in
theorem ggX4_stretch_X4_children : GoodIn wsX4_stretch wsX4_children := (gi_cons 19 rfl rfl (gi_cons 20 rfl rfl (gi_cons 21 rfl rfl (gi_cons 22 rfl rfl (gi_cons 7 rfl rfl (gi_cons 23 rfl rfl (gi_cons 9 rfl rfl (gi_cons 15 rfl rfl (gi_cons 24 rfl rfl (gi_cons 25 rfl rfl (gi_cons 26 rfl rfl (gi_cons 27 rfl rfl (gi_cons 28 rfl rfl (gi_cons 29 rfl rfl (gi_cons 30 rfl rfl (gi_cons 45 rfl rfl (gi_cons 46 rfl rfl (gi_cons 47 rfl rfl (gi_cons 48 rfl rfl (gi_cons 49 rfl rfl gi_nil))))))))))))))))))))
set_option maxRecDepth 20000 in
theorem gX4_stretch_X4_children : GoodIn wsX4_stretch (va_wsS RX4 77 yX4_children wsX4_children) := goodIn_app (goodIn_of _ (by decide +kernel)) ggX4_stretch_X4_children
theorem dX4_stretch_0 : decode cX4_stretch 0 = .ok (.iload_n 2, 1) := by decide +kernel
theorem dX4_stretch_1 : decode cX4_stretch 1 = .ok (.ifCond .lt 20, 3) := by decide +kernel
theorem dX4_stretch_4 : decode cX4_stretch 4 = .ok (.iload_n 2, 1) := by decide +kernel
theorem dX4_stretch_5 : decode cX4_stretch 5 = .ok (.aload_n 0, 1) := by decide +kernel
theorem dX4_stretch_6 : decode cX4_stretch 6 = .ok (.getfield 43, 3) := by decide +kernel
theorem dX4_stretch_9 : decode cX4_stretch 9 = .ok (.if_icmp .ge 12, 3) := by decide +kernel
theorem dX4_stretch_12 : decode cX4_stretch 12 = .ok (.aload_n 1, 1) := by decide +kernel
theorem dX4_stretch_13 : decode cX4_stretch 13 = .ok (.iload_n 3, 1) := by decide +kernel
theorem dX4_stretch_14 : decode cX4_stretch 14 = .ok (.invokevirtual 102, 3) := by decide +kernel
theorem dX4_stretch_17 : decode cX4_stretch 17 = .ok (.iconst 2, 1) := by decide +kernel
theorem dX4_stretch_18 : decode cX4_stretch 18 = .ok (.if_icmp .eq 5, 3) := by decide +kernel
theorem dX4_stretch_21 : decode cX4_stretch 21 = .ok (.lconst 0, 1) := by decide +kernel
theorem dX4_stretch_22 : decode cX4_stretch 22 = .ok (.lreturn, 1) := by decide +kernel
theorem dX4_stretch_23 : decode cX4_stretch 23 = .ok (.aload_n 1, 1) := by decide +kernel
theorem dX4_stretch_24 : decode cX4_stretch 24 = .ok (.iload_n 3, 1) := by decide +kernel
theorem dX4_stretch_25 : decode cX4_stretch 25 = .ok (.invokevirtual 105, 3) := by decide +kernel
theorem dX4_stretch_28 : decode cX4_stretch 28 = .ok (.istore 4, 2) := by decide +kernel
theorem dX4_stretch_30 : decode cX4_stretch 30 = .ok (.aload_n 0, 1) := by decide +kernel
theorem dX4_stretch_31 : decode cX4_stretch 31 = .ok (.getfield 15, 3) := by decide +kernel
theorem dX4_stretch_34 : decode cX4_stretch 34 = .ok (.iload_n 2, 1) := by decide +kernel
theorem dX4_stretch_35 : decode cX4_stretch 35 = .ok (.iaload, 1) := by decide +kernel
theorem dX4_stretch_36 : decode cX4_stretch 36 = .ok (.ifCond .ge 15, 3) := by decide +kernel
theorem dX4_stretch_39 : decode cX4_stretch 39 = .ok (.aload_n 0, 1) := by decide +kernel
theorem dX4_stretch_40 : decode cX4_stretch 40 = .ok (.getfield 15, 3) := by decide +kernel
theorem dX4_stretch_43 : decode cX4_stretch 43 = .ok (.iload_n 2, 1) := by decide +kernel
theorem dX4_stretch_44 : decode cX4_stretch 44 = .ok (.iaload, 1) := by decide +kernel
theorem dX4_stretch_45 : decode cX4_stretch 45 = .ok (.iload 4, 2) := by decide +kernel
theorem dX4_stretch_47 : decode cX4_stretch 47 = .ok (.iadd, 1) := by decide +kernel
theorem dX4_stretch_48 : decode cX4_stretch 48 = .ok (.goto 9, 3) := by decide +kernel
theorem dX4_stretch_51 : decode cX4_stretch 51 = .ok (.aload_n 0, 1) := by decide +kernel
theorem dX4_stretch_52 : decode cX4_stretch 52 = .ok (.getfield 15, 3) := by decide +kernel
theorem dX4_stretch_55 : decode cX4_stretch 55 = .ok (.iload_n 2, 1) := by decide +kernel
theorem dX4_stretch_56 : decode cX4_stretch 56 = .ok (.iaload, 1) := by decide +kernel
theorem dX4_stretch_57 : decode cX4_stretch 57 = .ok (.istore 5, 2) := by decide +kernel
theorem dX4_stretch_59 : decode cX4_stretch 59 = .ok (.aload_n 0, 1) := by decide +kernel
theorem dX4_stretch_60 : decode cX4_stretch 60 = .ok (.getfield 18, 3) := by decide +kernel
theorem dX4_stretch_63 : decode cX4_stretch 63 = .ok (.iload_n 2, 1) := by decide +kernel
theorem dX4_stretch_64 : decode cX4_stretch 64 = .ok (.iaload, 1) := by decide +kernel
theorem dX4_stretch_65 : decode cX4_stretch 65 = .ok (.ifCond .ge 15, 3) := by decide +kernel
theorem dX4_stretch_68 : decode cX4_stretch 68 = .ok (.aload_n 0, 1) := by decide +kernel
theorem dX4_stretch_69 : decode cX4_stretch 69 = .ok (.getfield 18, 3) := by decide +kernel
theorem dX4_stretch_72 : decode cX4_stretch 72 = .ok (.iload_n 2, 1) := by decide +kernel
theorem dX4_stretch_73 : decode cX4_stretch 73 = .ok (.iaload, 1) := by decide +kernel
theorem dX4_stretch_74 : decode cX4_stretch 74 = .ok (.iload 4, 2) := by decide +kernel
theorem dX4_stretch_76 : decode cX4_stretch 76 = .ok (.iadd, 1) := by decide +kernel
theorem dX4_stretch_77 : decode cX4_stretch 77 = .ok (.goto 9, 3) := by decide +kernel
theorem dX4_stretch_80 : decode cX4_stretch 80 = .ok (.aload_n 0, 1) := by decide +kernel
theorem dX4_stretch_81 : decode cX4_stretch 81 = .ok (.getfield 18, 3) := by decide +kernel
theorem dX4_stretch_84 : decode cX4_stretch 84 = .ok (.iload_n 2, 1) := by decide +kernel
theorem dX4_stretch_85 : decode cX4_stretch 85 = .ok (.iaload, 1) := by decide +kernel
theorem dX4_stretch_86 : decode cX4_stretch 86 = .ok (.istore 6, 2) := by decide +kernel
theorem dX4_stretch_88 : decode cX4_stretch 88 = .ok (.aload_n 1, 1) := by decide +kernel
theorem dX4_stretch_89 : decode cX4_stretch 89 = .ok (.iload_n 3, 1) := by decide +kernel
theorem dX4_stretch_90 : decode cX4_stretch 90 = .ok (.iload 5, 2) := by decide +kernel
theorem dX4_stretch_92 : decode cX4_stretch 92 = .ok (.iload 6, 2) := by decide +kernel
theorem dX4_stretch_94 : decode cX4_stretch 94 = .ok (.invokestatic 77, 3) := by decide +kernel
theorem dX4_stretch_97 : decode cX4_stretch 97 = .ok (.lreturn, 1) := by decide +kernel
set_option maxRecDepth 100000 in
theorem ggX4_holds_X4_testHolds : GoodIn wsX4_holds wsX4_testHolds := (gi_cons 11 rfl rfl (gi_cons 12 rfl rfl (gi_cons 13 rfl rfl (gi_cons 1 rfl rfl (gi_cons 2 rfl rfl (gi_cons 3 rfl rfl (gi_cons 4 rfl rfl (gi_cons 14 rfl rfl (gi_cons 15 rfl rfl (gi_cons 16 rfl rfl (gi_cons 17 rfl rfl (gi_cons 18 rfl rfl (gi_cons 19 rfl rfl (gi_cons 20 rfl rfl (gi_cons 21 rfl rfl (gi_cons 22 rfl rfl (gi_cons 23 rfl rfl (gi_cons 24 rfl rfl (gi_cons 25 rfl rfl (gi_cons 26 rfl rfl (gi_cons 27 rfl rfl (gi_cons 28 rfl rfl (gi_cons 29 rfl rfl (gi_cons 30 rfl rfl (gi_cons 31 rfl rfl (gi_cons 32 rfl rfl (gi_cons 33 rfl rfl (gi_cons 34 rfl rfl (gi_cons 35 rfl rfl (gi_cons 36 rfl rfl (gi_cons 37 rfl rfl (gi_cons 38 rfl rfl (gi_cons 39 rfl rfl (gi_cons 40 rfl rfl (gi_cons 41 rfl rfl (gi_cons 42 rfl rfl (gi_cons 43 rfl rfl (gi_cons 44 rfl rfl (gi_cons 45 rfl rfl (gi_cons 46 rfl rfl (gi_cons 47 rfl rfl (gi_cons 48 rfl rfl (gi_cons 49 rfl rfl (gi_cons 50 rfl rfl (gi_cons 51 rfl rfl (gi_cons 52 rfl rfl (gi_cons 53 rfl rfl (gi_cons 54 rfl rfl (gi_cons 55 rfl rfl (gi_cons 56 rfl rfl (gi_cons 57 rfl rfl (gi_cons 58 rfl rfl (gi_cons 59 rfl rfl gi_nil)))))))))))))))))))))))))))))))))))))))))))))))))))))
set_option maxRecDepth 20000 in
theorem gX4_holds_X4_testHolds : GoodIn wsX4_holds (wsV RX4 113 RX4 yX4_testHolds wsX4_testHolds) := goodIn_app (goodIn_of _ (by decide +kernel)) ggX4_holds_X4_testHolds
theorem dX4_holds_0 : decode cX4_holds 0 = .ok (.iconst 0, 1) := by decide +kernel
theorem dX4_holds_1 : decode cX4_holds 1 = .ok (.istore 4, 2) := by decide +kernel
theorem dX4_holds_3 : decode cX4_holds 3 = .ok (.iconst 0, 1) := by decide +kernel
theorem dX4_holds_4 : decode cX4_holds 4 = .ok (.iload_n 2, 1) := by decide +kernel
theorem dX4_holds_5 : decode cX4_holds 5 = .ok (.invokestatic 108, 3) := by decide +kernel
theorem dX4_holds_8 : decode cX4_holds 8 = .ok (.istore 5, 2) := by decide +kernel
theorem dX4_holds_10 : decode cX4_holds 10 = .ok (.iload 5, 2) := by decide +kernel
theorem dX4_holds_12 : decode cX4_holds 12 = .ok (.aload_n 0, 1) := by decide +kernel
theorem dX4_holds_13 : decode cX4_holds 13 = .ok (.getfield 47, 3) := by decide +kernel
theorem dX4_holds_16 : decode cX4_holds 16 = .ok (.if_icmp .ge 118, 3) := by decide +kernel
theorem dX4_holds_19 : decode cX4_holds 19 = .ok (.iload 5, 2) := by decide +kernel
theorem dX4_holds_21 : decode cX4_holds 21 = .ok (.sipush 128, 3) := by decide +kernel
theorem dX4_holds_24 : decode cX4_holds 24 = .ok (.if_icmp .ge 110, 3) := by decide +kernel
theorem dX4_holds_27 : decode cX4_holds 27 = .ok (.aload_n 0, 1) := by decide +kernel
theorem dX4_holds_28 : decode cX4_holds 28 = .ok (.getfield 21, 3) := by decide +kernel
theorem dX4_holds_31 : decode cX4_holds 31 = .ok (.iload 5, 2) := by decide +kernel
theorem dX4_holds_33 : decode cX4_holds 33 = .ok (.iaload, 1) := by decide +kernel
theorem dX4_holds_34 : decode cX4_holds 34 = .ok (.istore 6, 2) := by decide +kernel
theorem dX4_holds_36 : decode cX4_holds 36 = .ok (.iload 6, 2) := by decide +kernel
theorem dX4_holds_38 : decode cX4_holds 38 = .ok (.bipush (-5), 2) := by decide +kernel
theorem dX4_holds_40 : decode cX4_holds 40 = .ok (.if_icmp .ne 6, 3) := by decide +kernel
theorem dX4_holds_43 : decode cX4_holds 43 = .ok (.goto 91, 3) := by decide +kernel
theorem dX4_holds_46 : decode cX4_holds 46 = .ok (.iload 6, 2) := by decide +kernel
theorem dX4_holds_48 : decode cX4_holds 48 = .ok (.bipush (-4), 2) := by decide +kernel
theorem dX4_holds_50 : decode cX4_holds 50 = .ok (.if_icmp .ne 12, 3) := by decide +kernel
theorem dX4_holds_53 : decode cX4_holds 53 = .ok (.iload 4, 2) := by decide +kernel
theorem dX4_holds_55 : decode cX4_holds 55 = .ok (.iconst 1, 1) := by decide +kernel
theorem dX4_holds_56 : decode cX4_holds 56 = .ok (.ixor, 1) := by decide +kernel
theorem dX4_holds_57 : decode cX4_holds 57 = .ok (.istore 4, 2) := by decide +kernel
theorem dX4_holds_59 : decode cX4_holds 59 = .ok (.goto 69, 3) := by decide +kernel
theorem dX4_holds_62 : decode cX4_holds 62 = .ok (.iload 6, 2) := by decide +kernel
theorem dX4_holds_64 : decode cX4_holds 64 = .ok (.bipush (-2), 2) := by decide +kernel
theorem dX4_holds_66 : decode cX4_holds 66 = .ok (.if_icmp .ne 18, 3) := by decide +kernel
theorem dX4_holds_69 : decode cX4_holds 69 = .ok (.iload 4, 2) := by decide +kernel
theorem dX4_holds_71 : decode cX4_holds 71 = .ok (.iconst 1, 1) := by decide +kernel
theorem dX4_holds_72 : decode cX4_holds 72 = .ok (.iushr, 1) := by decide +kernel
theorem dX4_holds_73 : decode cX4_holds 73 = .ok (.iload 4, 2) := by decide +kernel
theorem dX4_holds_75 : decode cX4_holds 75 = .ok (.bipush (-2), 2) := by decide +kernel
theorem dX4_holds_77 : decode cX4_holds 77 = .ok (.ior, 1) := by decide +kernel
theorem dX4_holds_78 : decode cX4_holds 78 = .ok (.iand, 1) := by decide +kernel
theorem dX4_holds_79 : decode cX4_holds 79 = .ok (.istore 4, 2) := by decide +kernel
theorem dX4_holds_81 : decode cX4_holds 81 = .ok (.goto 47, 3) := by decide +kernel
theorem dX4_holds_84 : decode cX4_holds 84 = .ok (.iload 6, 2) := by decide +kernel
theorem dX4_holds_86 : decode cX4_holds 86 = .ok (.bipush (-3), 2) := by decide +kernel
theorem dX4_holds_88 : decode cX4_holds 88 = .ok (.if_icmp .ne 17, 3) := by decide +kernel
theorem dX4_holds_91 : decode cX4_holds 91 = .ok (.iload 4, 2) := by decide +kernel
theorem dX4_holds_93 : decode cX4_holds 93 = .ok (.iconst 1, 1) := by decide +kernel
theorem dX4_holds_94 : decode cX4_holds 94 = .ok (.iushr, 1) := by decide +kernel
theorem dX4_holds_95 : decode cX4_holds 95 = .ok (.iload 4, 2) := by decide +kernel
theorem dX4_holds_97 : decode cX4_holds 97 = .ok (.iconst 1, 1) := by decide +kernel
theorem dX4_holds_98 : decode cX4_holds 98 = .ok (.iand, 1) := by decide +kernel
theorem dX4_holds_99 : decode cX4_holds 99 = .ok (.ior, 1) := by decide +kernel
theorem dX4_holds_100 : decode cX4_holds 100 = .ok (.istore 4, 2) := by decide +kernel
theorem dX4_holds_102 : decode cX4_holds 102 = .ok (.goto 26, 3) := by decide +kernel
theorem dX4_holds_105 : decode cX4_holds 105 = .ok (.iload 4, 2) := by decide +kernel
theorem dX4_holds_107 : decode cX4_holds 107 = .ok (.iconst 1, 1) := by decide +kernel
theorem dX4_holds_108 : decode cX4_holds 108 = .ok (.ishl, 1) := by decide +kernel
theorem dX4_holds_109 : decode cX4_holds 109 = .ok (.aload_n 0, 1) := by decide +kernel
theorem dX4_holds_110 : decode cX4_holds 110 = .ok (.aload_n 1, 1) := by decide +kernel
theorem dX4_holds_111 : decode cX4_holds 111 = .ok (.iload 6, 2) := by decide +kernel
theorem dX4_holds_113 : decode cX4_holds 113 = .ok (.iload_n 3, 1) := by decide +kernel
theorem dX4_holds_114 : decode cX4_holds 114 = .ok (.invokevirtual 113, 3) := by decide +kernel
theorem dX4_holds_117 : decode cX4_holds 117 = .ok (.ifCond .eq 7, 3) := by decide +kernel
theorem dX4_holds_120 : decode cX4_holds 120 = .ok (.iconst 1, 1) := by decide +kernel
theorem dX4_holds_121 : decode cX4_holds 121 = .ok (.goto 4, 3) := by decide +kernel
theorem dX4_holds_124 : decode cX4_holds 124 = .ok (.iconst 0, 1) := by decide +kernel
theorem dX4_holds_125 : decode cX4_holds 125 = .ok (.ior, 1) := by decide +kernel
theorem dX4_holds_126 : decode cX4_holds 126 = .ok (.istore 4, 2) := by decide +kernel
theorem dX4_holds_128 : decode cX4_holds 128 = .ok (.iinc 5 1, 3) := by decide +kernel
theorem dX4_holds_131 : decode cX4_holds 131 = .ok (.goto (-121), 3) := by decide +kernel
theorem dX4_holds_134 : decode cX4_holds 134 = .ok (.iload 4, 2) := by decide +kernel
theorem dX4_holds_136 : decode cX4_holds 136 = .ok (.iconst 1, 1) := by decide +kernel
theorem dX4_holds_137 : decode cX4_holds 137 = .ok (.iand, 1) := by decide +kernel
theorem dX4_holds_138 : decode cX4_holds 138 = .ok (.ifCond .eq 7, 3) := by decide +kernel
theorem dX4_holds_141 : decode cX4_holds 141 = .ok (.iconst 1, 1) := by decide +kernel
theorem dX4_holds_142 : decode cX4_holds 142 = .ok (.goto 4, 3) := by decide +kernel
theorem dX4_holds_145 : decode cX4_holds 145 = .ok (.iconst 0, 1) := by decide +kernel
theorem dX4_holds_146 : decode cX4_holds 146 = .ok (.ireturn, 1) := by decide +kernel
set_option maxRecDepth 100000 in
theorem ggX4_testHolds_X9_childBy : GoodIn wsX4_testHolds wsX9_childBy := (gi_cons 16 rfl rfl (gi_cons 17 rfl rfl (gi_cons 18 rfl rfl (gi_cons 19 rfl rfl (gi_cons 20 rfl rfl (gi_cons 48 rfl rfl (gi_cons 49 rfl rfl (gi_cons 50 rfl rfl (gi_cons 51 rfl rfl (gi_cons 52 rfl rfl gi_nil))))))))))
set_option maxRecDepth 20000 in
theorem gX4_testHolds_X9_childBy : GoodIn wsX4_testHolds (wsV RX4 69 RX9 yX9_childBy wsX9_childBy) := goodIn_app (goodIn_of _ (by decide +kernel)) ggX4_testHolds_X9_childBy
set_option maxRecDepth 100000 in
theorem ggX4_testHolds_X9_listed : GoodIn wsX4_testHolds wsX9_listed := (gi_cons 24 rfl rfl (gi_cons 17 rfl rfl (gi_cons 18 rfl rfl (gi_cons 19 rfl rfl (gi_cons 48 rfl rfl (gi_cons 49 rfl rfl (gi_cons 50 rfl rfl (gi_cons 51 rfl rfl (gi_cons 52 rfl rfl gi_nil)))))))))
set_option maxRecDepth 20000 in
theorem gX4_testHolds_X9_listed : GoodIn wsX4_testHolds (wsV RX4 85 RX9 yX9_listed wsX9_listed) := goodIn_app (goodIn_of _ (by decide +kernel)) ggX4_testHolds_X9_listed
set_option maxRecDepth 100000 in
theorem ggX4_testHolds_X9_kindAt : GoodIn wsX4_testHolds wsX9_kindAt := (gi_cons 28 rfl rfl (gi_cons 17 rfl rfl (gi_cons 18 rfl rfl (gi_cons 48 rfl rfl (gi_cons 49 rfl rfl (gi_cons 50 rfl rfl (gi_cons 51 rfl rfl (gi_cons 52 rfl rfl gi_nil))))))))
set_option maxRecDepth 20000 in
theorem gX4_testHolds_X9_kindAt : GoodIn wsX4_testHolds (wsV RX4 102 RX9 yX9_kindAt wsX9_kindAt) := goodIn_app (goodIn_of _ (by decide +kernel)) ggX4_testHolds_X9_kindAt
set_option maxRecDepth 100000 in
theorem ggX4_testHolds_X9_valueAt : GoodIn wsX4_testHolds wsX9_valueAt := (gi_cons 32 rfl rfl (gi_cons 17 rfl rfl (gi_cons 33 rfl rfl (gi_cons 48 rfl rfl (gi_cons 49 rfl rfl (gi_cons 50 rfl rfl (gi_cons 51 rfl rfl (gi_cons 52 rfl rfl gi_nil))))))))
set_option maxRecDepth 20000 in
theorem gX4_testHolds_X9_valueAt : GoodIn wsX4_testHolds (wsV RX4 116 RX9 yX9_valueAt wsX9_valueAt) := goodIn_app (goodIn_of _ (by decide +kernel)) ggX4_testHolds_X9_valueAt
theorem dX4_testHolds_0 : decode cX4_testHolds 0 = .ok (.iload_n 2, 1) := by decide +kernel
theorem dX4_testHolds_1 : decode cX4_testHolds 1 = .ok (.ifCond .lt 11, 3) := by decide +kernel
theorem dX4_testHolds_4 : decode cX4_testHolds 4 = .ok (.iload_n 2, 1) := by decide +kernel
theorem dX4_testHolds_5 : decode cX4_testHolds 5 = .ok (.aload_n 0, 1) := by decide +kernel
theorem dX4_testHolds_6 : decode cX4_testHolds 6 = .ok (.getfield 53, 3) := by decide +kernel
theorem dX4_testHolds_9 : decode cX4_testHolds 9 = .ok (.if_icmp .lt 5, 3) := by decide +kernel
theorem dX4_testHolds_12 : decode cX4_testHolds 12 = .ok (.iconst 0, 1) := by decide +kernel
theorem dX4_testHolds_13 : decode cX4_testHolds 13 = .ok (.ireturn, 1) := by decide +kernel
theorem dX4_testHolds_14 : decode cX4_testHolds 14 = .ok (.iload_n 3, 1) := by decide +kernel
theorem dX4_testHolds_15 : decode cX4_testHolds 15 = .ok (.istore 4, 2) := by decide +kernel
theorem dX4_testHolds_17 : decode cX4_testHolds 17 = .ok (.iload_n 2, 1) := by decide +kernel
theorem dX4_testHolds_18 : decode cX4_testHolds 18 = .ok (.ifCond .ne 7, 3) := by decide +kernel
theorem dX4_testHolds_21 : decode cX4_testHolds 21 = .ok (.iconst 0, 1) := by decide +kernel
theorem dX4_testHolds_22 : decode cX4_testHolds 22 = .ok (.goto 11, 3) := by decide +kernel
theorem dX4_testHolds_25 : decode cX4_testHolds 25 = .ok (.aload_n 0, 1) := by decide +kernel
theorem dX4_testHolds_26 : decode cX4_testHolds 26 = .ok (.getfield 31, 3) := by decide +kernel
theorem dX4_testHolds_29 : decode cX4_testHolds 29 = .ok (.iload_n 2, 1) := by decide +kernel
theorem dX4_testHolds_30 : decode cX4_testHolds 30 = .ok (.iconst 1, 1) := by decide +kernel
theorem dX4_testHolds_31 : decode cX4_testHolds 31 = .ok (.isub, 1) := by decide +kernel
theorem dX4_testHolds_32 : decode cX4_testHolds 32 = .ok (.iaload, 1) := by decide +kernel
theorem dX4_testHolds_33 : decode cX4_testHolds 33 = .ok (.istore 5, 2) := by decide +kernel
theorem dX4_testHolds_35 : decode cX4_testHolds 35 = .ok (.iconst 0, 1) := by decide +kernel
theorem dX4_testHolds_36 : decode cX4_testHolds 36 = .ok (.iload 5, 2) := by decide +kernel
theorem dX4_testHolds_38 : decode cX4_testHolds 38 = .ok (.invokestatic 108, 3) := by decide +kernel
theorem dX4_testHolds_41 : decode cX4_testHolds 41 = .ok (.istore 6, 2) := by decide +kernel
theorem dX4_testHolds_43 : decode cX4_testHolds 43 = .ok (.iload 6, 2) := by decide +kernel
theorem dX4_testHolds_45 : decode cX4_testHolds 45 = .ok (.aload_n 0, 1) := by decide +kernel
theorem dX4_testHolds_46 : decode cX4_testHolds 46 = .ok (.getfield 31, 3) := by decide +kernel
theorem dX4_testHolds_49 : decode cX4_testHolds 49 = .ok (.iload_n 2, 1) := by decide +kernel
theorem dX4_testHolds_50 : decode cX4_testHolds 50 = .ok (.iaload, 1) := by decide +kernel
theorem dX4_testHolds_51 : decode cX4_testHolds 51 = .ok (.if_icmp .ge 58, 3) := by decide +kernel
theorem dX4_testHolds_54 : decode cX4_testHolds 54 = .ok (.iload 6, 2) := by decide +kernel
theorem dX4_testHolds_56 : decode cX4_testHolds 56 = .ok (.sipush 200, 3) := by decide +kernel
theorem dX4_testHolds_59 : decode cX4_testHolds 59 = .ok (.if_icmp .ge 50, 3) := by decide +kernel
theorem dX4_testHolds_62 : decode cX4_testHolds 62 = .ok (.aload_n 0, 1) := by decide +kernel
theorem dX4_testHolds_63 : decode cX4_testHolds 63 = .ok (.getfield 24, 3) := by decide +kernel
theorem dX4_testHolds_66 : decode cX4_testHolds 66 = .ok (.iload 6, 2) := by decide +kernel
theorem dX4_testHolds_68 : decode cX4_testHolds 68 = .ok (.baload, 1) := by decide +kernel
theorem dX4_testHolds_69 : decode cX4_testHolds 69 = .ok (.ifCond .eq 19, 3) := by decide +kernel
theorem dX4_testHolds_72 : decode cX4_testHolds 72 = .ok (.aload_n 1, 1) := by decide +kernel
theorem dX4_testHolds_73 : decode cX4_testHolds 73 = .ok (.iload 4, 2) := by decide +kernel
theorem dX4_testHolds_75 : decode cX4_testHolds 75 = .ok (.aload_n 0, 1) := by decide +kernel
theorem dX4_testHolds_76 : decode cX4_testHolds 76 = .ok (.getfield 28, 3) := by decide +kernel
theorem dX4_testHolds_79 : decode cX4_testHolds 79 = .ok (.iload 6, 2) := by decide +kernel
theorem dX4_testHolds_81 : decode cX4_testHolds 81 = .ok (.iaload, 1) := by decide +kernel
theorem dX4_testHolds_82 : decode cX4_testHolds 82 = .ok (.invokevirtual 69, 3) := by decide +kernel
theorem dX4_testHolds_85 : decode cX4_testHolds 85 = .ok (.goto 16, 3) := by decide +kernel
theorem dX4_testHolds_88 : decode cX4_testHolds 88 = .ok (.aload_n 1, 1) := by decide +kernel
theorem dX4_testHolds_89 : decode cX4_testHolds 89 = .ok (.iload 4, 2) := by decide +kernel
theorem dX4_testHolds_91 : decode cX4_testHolds 91 = .ok (.aload_n 0, 1) := by decide +kernel
theorem dX4_testHolds_92 : decode cX4_testHolds 92 = .ok (.getfield 28, 3) := by decide +kernel
theorem dX4_testHolds_95 : decode cX4_testHolds 95 = .ok (.iload 6, 2) := by decide +kernel
theorem dX4_testHolds_97 : decode cX4_testHolds 97 = .ok (.iaload, 1) := by decide +kernel
theorem dX4_testHolds_98 : decode cX4_testHolds 98 = .ok (.invokevirtual 85, 3) := by decide +kernel
theorem dX4_testHolds_101 : decode cX4_testHolds 101 = .ok (.istore 4, 2) := by decide +kernel
theorem dX4_testHolds_103 : decode cX4_testHolds 103 = .ok (.iinc 6 1, 3) := by decide +kernel
theorem dX4_testHolds_106 : decode cX4_testHolds 106 = .ok (.goto (-63), 3) := by decide +kernel
theorem dX4_testHolds_109 : decode cX4_testHolds 109 = .ok (.iload 4, 2) := by decide +kernel
theorem dX4_testHolds_111 : decode cX4_testHolds 111 = .ok (.iconst (-1), 1) := by decide +kernel
theorem dX4_testHolds_112 : decode cX4_testHolds 112 = .ok (.if_icmp .eq 12, 3) := by decide +kernel
theorem dX4_testHolds_115 : decode cX4_testHolds 115 = .ok (.aload_n 0, 1) := by decide +kernel
theorem dX4_testHolds_116 : decode cX4_testHolds 116 = .ok (.getfield 34, 3) := by decide +kernel
theorem dX4_testHolds_119 : decode cX4_testHolds 119 = .ok (.iload_n 2, 1) := by decide +kernel
theorem dX4_testHolds_120 : decode cX4_testHolds 120 = .ok (.iaload, 1) := by decide +kernel
theorem dX4_testHolds_121 : decode cX4_testHolds 121 = .ok (.ifCond .ne 15, 3) := by decide +kernel
theorem dX4_testHolds_124 : decode cX4_testHolds 124 = .ok (.iload 4, 2) := by decide +kernel
theorem dX4_testHolds_126 : decode cX4_testHolds 126 = .ok (.iconst (-1), 1) := by decide +kernel
theorem dX4_testHolds_127 : decode cX4_testHolds 127 = .ok (.if_icmp .eq 7, 3) := by decide +kernel
theorem dX4_testHolds_130 : decode cX4_testHolds 130 = .ok (.iconst 1, 1) := by decide +kernel
theorem dX4_testHolds_131 : decode cX4_testHolds 131 = .ok (.goto 4, 3) := by decide +kernel
theorem dX4_testHolds_134 : decode cX4_testHolds 134 = .ok (.iconst 0, 1) := by decide +kernel
theorem dX4_testHolds_135 : decode cX4_testHolds 135 = .ok (.ireturn, 1) := by decide +kernel
theorem dX4_testHolds_136 : decode cX4_testHolds 136 = .ok (.aload_n 1, 1) := by decide +kernel
theorem dX4_testHolds_137 : decode cX4_testHolds 137 = .ok (.iload 4, 2) := by decide +kernel
theorem dX4_testHolds_139 : decode cX4_testHolds 139 = .ok (.invokevirtual 102, 3) := by decide +kernel
theorem dX4_testHolds_142 : decode cX4_testHolds 142 = .ok (.aload_n 0, 1) := by decide +kernel
theorem dX4_testHolds_143 : decode cX4_testHolds 143 = .ok (.getfield 37, 3) := by decide +kernel
theorem dX4_testHolds_146 : decode cX4_testHolds 146 = .ok (.iload_n 2, 1) := by decide +kernel
theorem dX4_testHolds_147 : decode cX4_testHolds 147 = .ok (.iaload, 1) := by decide +kernel
theorem dX4_testHolds_148 : decode cX4_testHolds 148 = .ok (.if_icmp .eq 5, 3) := by decide +kernel
theorem dX4_testHolds_151 : decode cX4_testHolds 151 = .ok (.iconst 0, 1) := by decide +kernel
theorem dX4_testHolds_152 : decode cX4_testHolds 152 = .ok (.ireturn, 1) := by decide +kernel
theorem dX4_testHolds_153 : decode cX4_testHolds 153 = .ok (.aload_n 1, 1) := by decide +kernel
theorem dX4_testHolds_154 : decode cX4_testHolds 154 = .ok (.iload 4, 2) := by decide +kernel
theorem dX4_testHolds_156 : decode cX4_testHolds 156 = .ok (.invokevirtual 116, 3) := by decide +kernel
theorem dX4_testHolds_159 : decode cX4_testHolds 159 = .ok (.istore 6, 2) := by decide +kernel
theorem dX4_testHolds_161 : decode cX4_testHolds 161 = .ok (.aload_n 0, 1) := by decide +kernel
theorem dX4_testHolds_162 : decode cX4_testHolds 162 = .ok (.getfield 34, 3) := by decide +kernel
theorem dX4_testHolds_165 : decode cX4_testHolds 165 = .ok (.iload_n 2, 1) := by decide +kernel
theorem dX4_testHolds_166 : decode cX4_testHolds 166 = .ok (.iaload, 1) := by decide +kernel
theorem dX4_testHolds_167 : decode cX4_testHolds 167 = .ok (.bipush 61, 2) := by decide +kernel
theorem dX4_testHolds_169 : decode cX4_testHolds 169 = .ok (.if_icmp .ne 20, 3) := by decide +kernel
theorem dX4_testHolds_172 : decode cX4_testHolds 172 = .ok (.iload 6, 2) := by decide +kernel
theorem dX4_testHolds_174 : decode cX4_testHolds 174 = .ok (.aload_n 0, 1) := by decide +kernel
theorem dX4_testHolds_175 : decode cX4_testHolds 175 = .ok (.getfield 40, 3) := by decide +kernel
theorem dX4_testHolds_178 : decode cX4_testHolds 178 = .ok (.iload_n 2, 1) := by decide +kernel
theorem dX4_testHolds_179 : decode cX4_testHolds 179 = .ok (.iaload, 1) := by decide +kernel
theorem dX4_testHolds_180 : decode cX4_testHolds 180 = .ok (.if_icmp .ne 7, 3) := by decide +kernel
theorem dX4_testHolds_183 : decode cX4_testHolds 183 = .ok (.iconst 1, 1) := by decide +kernel
theorem dX4_testHolds_184 : decode cX4_testHolds 184 = .ok (.goto 4, 3) := by decide +kernel
theorem dX4_testHolds_187 : decode cX4_testHolds 187 = .ok (.iconst 0, 1) := by decide +kernel
theorem dX4_testHolds_188 : decode cX4_testHolds 188 = .ok (.ireturn, 1) := by decide +kernel
theorem dX4_testHolds_189 : decode cX4_testHolds 189 = .ok (.aload_n 0, 1) := by decide +kernel
theorem dX4_testHolds_190 : decode cX4_testHolds 190 = .ok (.getfield 34, 3) := by decide +kernel
theorem dX4_testHolds_193 : decode cX4_testHolds 193 = .ok (.iload_n 2, 1) := by decide +kernel
theorem dX4_testHolds_194 : decode cX4_testHolds 194 = .ok (.iaload, 1) := by decide +kernel
theorem dX4_testHolds_195 : decode cX4_testHolds 195 = .ok (.bipush 60, 2) := by decide +kernel
theorem dX4_testHolds_197 : decode cX4_testHolds 197 = .ok (.if_icmp .ne 22, 3) := by decide +kernel
theorem dX4_testHolds_200 : decode cX4_testHolds 200 = .ok (.iload 6, 2) := by decide +kernel
theorem dX4_testHolds_202 : decode cX4_testHolds 202 = .ok (.aload_n 0, 1) := by decide +kernel
theorem dX4_testHolds_203 : decode cX4_testHolds 203 = .ok (.getfield 40, 3) := by decide +kernel
theorem dX4_testHolds_206 : decode cX4_testHolds 206 = .ok (.iload_n 2, 1) := by decide +kernel
theorem dX4_testHolds_207 : decode cX4_testHolds 207 = .ok (.iaload, 1) := by decide +kernel
theorem dX4_testHolds_208 : decode cX4_testHolds 208 = .ok (.if_icmp .ge 7, 3) := by decide +kernel
theorem dX4_testHolds_211 : decode cX4_testHolds 211 = .ok (.iconst 1, 1) := by decide +kernel
theorem dX4_testHolds_212 : decode cX4_testHolds 212 = .ok (.goto 23, 3) := by decide +kernel
theorem dX4_testHolds_215 : decode cX4_testHolds 215 = .ok (.iconst 0, 1) := by decide +kernel
theorem dX4_testHolds_216 : decode cX4_testHolds 216 = .ok (.goto 19, 3) := by decide +kernel
theorem dX4_testHolds_219 : decode cX4_testHolds 219 = .ok (.iload 6, 2) := by decide +kernel
theorem dX4_testHolds_221 : decode cX4_testHolds 221 = .ok (.aload_n 0, 1) := by decide +kernel
theorem dX4_testHolds_222 : decode cX4_testHolds 222 = .ok (.getfield 40, 3) := by decide +kernel
theorem dX4_testHolds_225 : decode cX4_testHolds 225 = .ok (.iload_n 2, 1) := by decide +kernel
theorem dX4_testHolds_226 : decode cX4_testHolds 226 = .ok (.iaload, 1) := by decide +kernel
theorem dX4_testHolds_227 : decode cX4_testHolds 227 = .ok (.if_icmp .le 7, 3) := by decide +kernel
theorem dX4_testHolds_230 : decode cX4_testHolds 230 = .ok (.iconst 1, 1) := by decide +kernel
theorem dX4_testHolds_231 : decode cX4_testHolds 231 = .ok (.goto 4, 3) := by decide +kernel
theorem dX4_testHolds_234 : decode cX4_testHolds 234 = .ok (.iconst 0, 1) := by decide +kernel
theorem dX4_testHolds_235 : decode cX4_testHolds 235 = .ok (.ireturn, 1) := by decide +kernel
set_option maxRecDepth 100000 in
theorem ggX5_read_X8_begin : GoodIn wsX5_read wsX8_begin := (gi_cons 6 rfl rfl (gi_cons 7 rfl rfl (gi_cons 8 rfl rfl (gi_cons 9 rfl rfl (gi_cons 10 rfl rfl (gi_cons 11 rfl rfl (gi_cons 12 rfl rfl (gi_cons 13 rfl rfl (gi_cons 14 rfl rfl (gi_cons 15 rfl rfl (gi_cons 16 rfl rfl (gi_cons 17 rfl rfl (gi_cons 18 rfl rfl (gi_cons 19 rfl rfl (gi_cons 20 rfl rfl (gi_cons 21 rfl rfl (gi_cons 5 rfl rfl (gi_cons 22 rfl rfl (gi_cons 23 rfl rfl (gi_cons 24 rfl rfl (gi_cons 25 rfl rfl (gi_cons 26 rfl rfl (gi_cons 27 rfl rfl (gi_cons 28 rfl rfl (gi_cons 29 rfl rfl (gi_cons 30 rfl rfl (gi_cons 31 rfl rfl (gi_cons 32 rfl rfl (gi_cons 33 rfl rfl (gi_cons 34 rfl rfl (gi_cons 35 rfl rfl (gi_cons 36 rfl rfl (gi_cons 37 rfl rfl (gi_cons 38 rfl rfl (gi_cons 39 rfl rfl (gi_cons 40 rfl rfl (gi_cons 145 rfl rfl (gi_cons 146 rfl rfl (gi_cons 147 rfl rfl (gi_cons 148 rfl rfl (gi_cons 149 rfl rfl (gi_cons 150 rfl rfl (gi_cons 151 rfl rfl (gi_cons 152 rfl rfl (gi_cons 153 rfl rfl gi_nil)))))))))))))))))))))))))))))))))))))))))))))
set_option maxRecDepth 20000 in
theorem gX5_read_X8_begin : GoodIn wsX5_read (wsV RX5 15 RX8 yX8_begin wsX8_begin) := goodIn_app (goodIn_of _ (by decide +kernel)) ggX5_read_X8_begin
set_option maxRecDepth 100000 in
theorem ggX5_read_X4_clear : GoodIn wsX5_read wsX4_clear := (gi_cons 45 rfl rfl (gi_cons 46 rfl rfl (gi_cons 47 rfl rfl (gi_cons 48 rfl rfl (gi_cons 49 rfl rfl (gi_cons 154 rfl rfl (gi_cons 155 rfl rfl (gi_cons 156 rfl rfl (gi_cons 157 rfl rfl (gi_cons 158 rfl rfl (gi_cons 159 rfl rfl (gi_cons 160 rfl rfl (gi_cons 161 rfl rfl (gi_cons 162 rfl rfl (gi_cons 163 rfl rfl (gi_cons 164 rfl rfl (gi_cons 165 rfl rfl (gi_cons 166 rfl rfl (gi_cons 167 rfl rfl gi_nil)))))))))))))))))))
set_option maxRecDepth 20000 in
theorem gX5_read_X4_clear : GoodIn wsX5_read (wsV RX5 21 RX4 yX4_clear wsX4_clear) := goodIn_app (goodIn_of _ (by decide +kernel)) ggX5_read_X4_clear
set_option maxRecDepth 100000 in
theorem ggX5_read_X5_readStep : GoodIn wsX5_read wsX5_readStep := (gi_cons 54 rfl rfl (gi_cons 1 rfl rfl (gi_cons 55 rfl rfl (gi_cons 56 rfl rfl (gi_cons 57 rfl rfl (gi_cons 5 rfl rfl (gi_cons 58 rfl rfl (gi_cons 15 rfl rfl (gi_cons 17 rfl rfl (gi_cons 31 rfl rfl (gi_cons 16 rfl rfl (gi_cons 19 rfl rfl (gi_cons 59 rfl rfl (gi_cons 60 rfl rfl (gi_cons 61 rfl rfl (gi_cons 62 rfl rfl (gi_cons 14 rfl rfl (gi_cons 18 rfl rfl (gi_cons 63 rfl rfl (gi_cons 64 rfl rfl (gi_cons 65 rfl rfl (gi_cons 53 rfl rfl (gi_cons 66 rfl rfl (gi_cons 67 rfl rfl (gi_cons 68 rfl rfl (gi_cons 69 rfl rfl (gi_cons 44 rfl rfl (gi_cons 70 rfl rfl (gi_cons 46 rfl rfl (gi_cons 71 rfl rfl (gi_cons 72 rfl rfl (gi_cons 73 rfl rfl (gi_cons 74 rfl rfl (gi_cons 75 rfl rfl (gi_cons 76 rfl rfl (gi_cons 77 rfl rfl (gi_cons 78 rfl rfl (gi_cons 79 rfl rfl (gi_cons 80 rfl rfl (gi_cons 81 rfl rfl (gi_cons 82 rfl rfl (gi_cons 33 rfl rfl (gi_cons 83 rfl rfl (gi_cons 84 rfl rfl (gi_cons 85 rfl rfl (gi_cons 86 rfl rfl (gi_cons 32 rfl rfl (gi_cons 87 rfl rfl (gi_cons 88 rfl rfl (gi_cons 89 rfl rfl (gi_cons 90 rfl rfl (gi_cons 91 rfl rfl (gi_cons 92 rfl rfl (gi_cons 93 rfl rfl (gi_cons 94 rfl rfl (gi_cons 95 rfl rfl (gi_cons 96 rfl rfl (gi_cons 97 rfl rfl (gi_cons 98 rfl rfl (gi_cons 99 rfl rfl (gi_cons 100 rfl rfl (gi_cons 101 rfl rfl (gi_cons 102 rfl rfl (gi_cons 103 rfl rfl (gi_cons 104 rfl rfl (gi_cons 105 rfl rfl (gi_cons 106 rfl rfl (gi_cons 107 rfl rfl (gi_cons 108 rfl rfl (gi_cons 109 rfl rfl (gi_cons 110 rfl rfl (gi_cons 111 rfl rfl (gi_cons 112 rfl rfl (gi_cons 113 rfl rfl (gi_cons 114 rfl rfl (gi_cons 47 rfl rfl (gi_cons 115 rfl rfl (gi_cons 116 rfl rfl (gi_cons 117 rfl rfl (gi_cons 118 rfl rfl (gi_cons 119 rfl rfl (gi_cons 120 rfl rfl (gi_cons 121 rfl rfl (gi_cons 122 rfl rfl (gi_cons 123 rfl rfl (gi_cons 124 rfl rfl (gi_cons 125 rfl rfl (gi_cons 126 rfl rfl (gi_cons 127 rfl rfl (gi_cons 128 rfl rfl (gi_cons 48 rfl rfl (gi_cons 129 rfl rfl (gi_cons 130 rfl rfl (gi_cons 131 rfl rfl (gi_cons 132 rfl rfl (gi_cons 133 rfl rfl (gi_cons 134 rfl rfl (gi_cons 49 rfl rfl (gi_cons 135 rfl rfl (gi_cons 136 rfl rfl (gi_cons 137 rfl rfl (gi_cons 138 rfl rfl (gi_cons 139 rfl rfl (gi_cons 140 rfl rfl (gi_cons 141 rfl rfl (gi_cons 142 rfl rfl (gi_cons 143 rfl rfl (gi_cons 144 rfl rfl (gi_cons 145 rfl rfl (gi_cons 146 rfl rfl (gi_cons 147 rfl rfl (gi_cons 148 rfl rfl (gi_cons 149 rfl rfl (gi_cons 150 rfl rfl (gi_cons 151 rfl rfl (gi_cons 152 rfl rfl (gi_cons 153 rfl rfl (gi_cons 154 rfl rfl (gi_cons 155 rfl rfl (gi_cons 156 rfl rfl (gi_cons 157 rfl rfl (gi_cons 158 rfl rfl (gi_cons 159 rfl rfl (gi_cons 160 rfl rfl (gi_cons 161 rfl rfl (gi_cons 162 rfl rfl (gi_cons 163 rfl rfl (gi_cons 164 rfl rfl (gi_cons 165 rfl rfl (gi_cons 166 rfl rfl (gi_cons 167 rfl rfl gi_nil)))))))))))))))))))))))))))))))))))))))))))))))))))))))))))))))))))))))))))))))))))))))))))))))))))))))))))))))))))))))))))))))))))
set_option maxRecDepth 20000 in
theorem gX5_read_X5_readStep : GoodIn wsX5_read (wsV RX5 33 RX5 yX5_readStep wsX5_readStep) := goodIn_app (goodIn_of _ (by decide +kernel)) ggX5_read_X5_readStep
theorem dX5_read_0 : decode cX5_read 0 = .ok (.aload_n 0, 1) := by decide +kernel
theorem dX5_read_1 : decode cX5_read 1 = .ok (.getfield 9, 3) := by decide +kernel
theorem dX5_read_4 : decode cX5_read 4 = .ok (.aload_n 1, 1) := by decide +kernel
theorem dX5_read_5 : decode cX5_read 5 = .ok (.iload_n 2, 1) := by decide +kernel
theorem dX5_read_6 : decode cX5_read 6 = .ok (.invokevirtual 15, 3) := by decide +kernel
theorem dX5_read_9 : decode cX5_read 9 = .ok (.aload_n 3, 1) := by decide +kernel
theorem dX5_read_10 : decode cX5_read 10 = .ok (.invokevirtual 21, 3) := by decide +kernel
theorem dX5_read_13 : decode cX5_read 13 = .ok (.iconst 0, 1) := by decide +kernel
theorem dX5_read_14 : decode cX5_read 14 = .ok (.istore 4, 2) := by decide +kernel
theorem dX5_read_16 : decode cX5_read 16 = .ok (.aload_n 0, 1) := by decide +kernel
theorem dX5_read_17 : decode cX5_read 17 = .ok (.getfield 9, 3) := by decide +kernel
theorem dX5_read_20 : decode cX5_read 20 = .ok (.getfield 26, 3) := by decide +kernel
theorem dX5_read_23 : decode cX5_read 23 = .ok (.ifCond .ne 35, 3) := by decide +kernel
theorem dX5_read_26 : decode cX5_read 26 = .ok (.aload_n 0, 1) := by decide +kernel
theorem dX5_read_27 : decode cX5_read 27 = .ok (.getfield 9, 3) := by decide +kernel
theorem dX5_read_30 : decode cX5_read 30 = .ok (.getfield 30, 3) := by decide +kernel
theorem dX5_read_33 : decode cX5_read 33 = .ok (.sipush 259, 3) := by decide +kernel
theorem dX5_read_36 : decode cX5_read 36 = .ok (.if_icmp .eq 22, 3) := by decide +kernel
theorem dX5_read_39 : decode cX5_read 39 = .ok (.iload 4, 2) := by decide +kernel
theorem dX5_read_41 : decode cX5_read 41 = .ok (.sipush 400, 3) := by decide +kernel
theorem dX5_read_44 : decode cX5_read 44 = .ok (.if_icmp .ge 14, 3) := by decide +kernel
theorem dX5_read_47 : decode cX5_read 47 = .ok (.aload_n 0, 1) := by decide +kernel
theorem dX5_read_48 : decode cX5_read 48 = .ok (.aload_n 3, 1) := by decide +kernel
theorem dX5_read_49 : decode cX5_read 49 = .ok (.invokevirtual 33, 3) := by decide +kernel
theorem dX5_read_52 : decode cX5_read 52 = .ok (.iinc 4 1, 3) := by decide +kernel
theorem dX5_read_55 : decode cX5_read 55 = .ok (.goto (-39), 3) := by decide +kernel
theorem dX5_read_58 : decode cX5_read 58 = .ok (.aload_n 0, 1) := by decide +kernel
theorem dX5_read_59 : decode cX5_read 59 = .ok (.getfield 9, 3) := by decide +kernel
theorem dX5_read_62 : decode cX5_read 62 = .ok (.getfield 26, 3) := by decide +kernel
theorem dX5_read_65 : decode cX5_read 65 = .ok (.ireturn, 1) := by decide +kernel
set_option maxRecDepth 100000 in
theorem ggX5_readStep_X8_fail : GoodIn wsX5_readStep wsX8_fail := (gi_cons 6 rfl rfl (gi_cons 7 rfl rfl (gi_cons 8 rfl rfl (gi_cons 9 rfl rfl (gi_cons 10 rfl rfl (gi_cons 11 rfl rfl (gi_cons 108 rfl rfl (gi_cons 109 rfl rfl (gi_cons 110 rfl rfl (gi_cons 111 rfl rfl (gi_cons 112 rfl rfl (gi_cons 113 rfl rfl (gi_cons 114 rfl rfl (gi_cons 115 rfl rfl (gi_cons 116 rfl rfl gi_nil)))))))))))))))
set_option maxRecDepth 20000 in
theorem gX5_readStep_X8_fail : GoodIn wsX5_readStep (wsV RX5 37 RX8 yX8_fail wsX8_fail) := goodIn_app (goodIn_of _ (by decide +kernel)) ggX5_readStep_X8_fail
set_option maxRecDepth 100000 in
theorem ggX5_readStep_X8_step : GoodIn wsX5_readStep wsX8_step := (gi_cons 15 rfl rfl (gi_cons 7 rfl rfl (gi_cons 8 rfl rfl (gi_cons 16 rfl rfl (gi_cons 17 rfl rfl (gi_cons 11 rfl rfl (gi_cons 108 rfl rfl (gi_cons 109 rfl rfl (gi_cons 110 rfl rfl (gi_cons 111 rfl rfl (gi_cons 112 rfl rfl (gi_cons 113 rfl rfl (gi_cons 114 rfl rfl (gi_cons 115 rfl rfl (gi_cons 116 rfl rfl gi_nil)))))))))))))))
set_option maxRecDepth 20000 in
theorem gX5_readStep_X8_step : GoodIn wsX5_readStep (wsV RX5 44 RX8 yX8_step wsX8_step) := goodIn_app (goodIn_of _ (by decide +kernel)) ggX5_readStep_X8_step
set_option maxRecDepth 100000 in
theorem ggX5_readStep_X5_readName : GoodIn wsX5_readStep wsX5_readName := (gi_cons 22 rfl rfl (gi_cons 1 rfl rfl (gi_cons 12 rfl rfl (gi_cons 13 rfl rfl (gi_cons 14 rfl rfl (gi_cons 5 rfl rfl (gi_cons 15 rfl rfl (gi_cons 7 rfl rfl (gi_cons 8 rfl rfl (gi_cons 16 rfl rfl (gi_cons 17 rfl rfl (gi_cons 11 rfl rfl (gi_cons 23 rfl rfl (gi_cons 24 rfl rfl (gi_cons 25 rfl rfl (gi_cons 26 rfl rfl (gi_cons 27 rfl rfl (gi_cons 28 rfl rfl (gi_cons 29 rfl rfl (gi_cons 30 rfl rfl (gi_cons 31 rfl rfl (gi_cons 32 rfl rfl (gi_cons 33 rfl rfl (gi_cons 34 rfl rfl (gi_cons 35 rfl rfl (gi_cons 36 rfl rfl (gi_cons 3 rfl rfl (gi_cons 4 rfl rfl (gi_cons 6 rfl rfl (gi_cons 9 rfl rfl (gi_cons 10 rfl rfl (gi_cons 37 rfl rfl (gi_cons 38 rfl rfl (gi_cons 39 rfl rfl (gi_cons 40 rfl rfl (gi_cons 41 rfl rfl (gi_cons 42 rfl rfl (gi_cons 43 rfl rfl (gi_cons 44 rfl rfl (gi_cons 45 rfl rfl (gi_cons 46 rfl rfl (gi_cons 47 rfl rfl (gi_cons 107 rfl rfl (gi_cons 108 rfl rfl (gi_cons 109 rfl rfl (gi_cons 110 rfl rfl (gi_cons 111 rfl rfl (gi_cons 112 rfl rfl (gi_cons 113 rfl rfl (gi_cons 114 rfl rfl (gi_cons 115 rfl rfl (gi_cons 116 rfl rfl (gi_cons 117 rfl rfl (gi_cons 118 rfl rfl (gi_cons 119 rfl rfl (gi_cons 120 rfl rfl (gi_cons 121 rfl rfl (gi_cons 122 rfl rfl (gi_cons 123 rfl rfl (gi_cons 124 rfl rfl (gi_cons 125 rfl rfl (gi_cons 126 rfl rfl (gi_cons 127 rfl rfl (gi_cons 128 rfl rfl (gi_cons 129 rfl rfl (gi_cons 130 rfl rfl gi_nil))))))))))))))))))))))))))))))))))))))))))))))))))))))))))))))))))
set_option maxRecDepth 20000 in
theorem gX5_readStep_X5_readName : GoodIn wsX5_readStep (wsV RX5 47 RX5 yX5_readName wsX5_readName) := goodIn_app (goodIn_of _ (by decide +kernel)) ggX5_readStep_X5_readName
set_option maxRecDepth 100000 in
theorem ggX5_readStep_X4_addStep : GoodIn wsX5_readStep wsX4_addStep := (gi_cons 27 rfl rfl (gi_cons 28 rfl rfl (gi_cons 29 rfl rfl (gi_cons 30 rfl rfl (gi_cons 31 rfl rfl (gi_cons 117 rfl rfl (gi_cons 118 rfl rfl (gi_cons 119 rfl rfl (gi_cons 120 rfl rfl (gi_cons 121 rfl rfl (gi_cons 122 rfl rfl (gi_cons 123 rfl rfl (gi_cons 124 rfl rfl (gi_cons 125 rfl rfl (gi_cons 126 rfl rfl (gi_cons 127 rfl rfl (gi_cons 128 rfl rfl (gi_cons 129 rfl rfl (gi_cons 130 rfl rfl gi_nil)))))))))))))))))))
set_option maxRecDepth 20000 in
theorem gX5_readStep_X4_addStep : GoodIn wsX5_readStep (wsV RX5 50 RX4 yX4_addStep wsX4_addStep) := goodIn_app (goodIn_of _ (by decide +kernel)) ggX5_readStep_X4_addStep
set_option maxRecDepth 100000 in
theorem ggX5_readStep_X5_readPlaces : GoodIn wsX5_readStep wsX5_readPlaces := (gi_cons 51 rfl rfl (gi_cons 1 rfl rfl (gi_cons 52 rfl rfl (gi_cons 53 rfl rfl (gi_cons 54 rfl rfl (gi_cons 5 rfl rfl (gi_cons 55 rfl rfl (gi_cons 11 rfl rfl (gi_cons 47 rfl rfl (gi_cons 13 rfl rfl (gi_cons 14 rfl rfl (gi_cons 15 rfl rfl (gi_cons 7 rfl rfl (gi_cons 8 rfl rfl (gi_cons 16 rfl rfl (gi_cons 17 rfl rfl (gi_cons 36 rfl rfl (gi_cons 3 rfl rfl (gi_cons 4 rfl rfl (gi_cons 6 rfl rfl (gi_cons 9 rfl rfl (gi_cons 10 rfl rfl (gi_cons 37 rfl rfl (gi_cons 38 rfl rfl (gi_cons 39 rfl rfl (gi_cons 40 rfl rfl (gi_cons 41 rfl rfl (gi_cons 42 rfl rfl (gi_cons 43 rfl rfl (gi_cons 44 rfl rfl (gi_cons 45 rfl rfl (gi_cons 46 rfl rfl (gi_cons 12 rfl rfl (gi_cons 23 rfl rfl (gi_cons 24 rfl rfl (gi_cons 25 rfl rfl (gi_cons 26 rfl rfl (gi_cons 27 rfl rfl (gi_cons 28 rfl rfl (gi_cons 29 rfl rfl (gi_cons 30 rfl rfl (gi_cons 31 rfl rfl (gi_cons 56 rfl rfl (gi_cons 57 rfl rfl (gi_cons 58 rfl rfl (gi_cons 59 rfl rfl (gi_cons 107 rfl rfl (gi_cons 108 rfl rfl (gi_cons 109 rfl rfl (gi_cons 110 rfl rfl (gi_cons 111 rfl rfl (gi_cons 112 rfl rfl (gi_cons 113 rfl rfl (gi_cons 114 rfl rfl (gi_cons 115 rfl rfl (gi_cons 116 rfl rfl (gi_cons 117 rfl rfl (gi_cons 118 rfl rfl (gi_cons 119 rfl rfl (gi_cons 120 rfl rfl (gi_cons 121 rfl rfl (gi_cons 122 rfl rfl (gi_cons 123 rfl rfl (gi_cons 124 rfl rfl (gi_cons 125 rfl rfl (gi_cons 126 rfl rfl (gi_cons 127 rfl rfl (gi_cons 128 rfl rfl (gi_cons 129 rfl rfl (gi_cons 130 rfl rfl gi_nil))))))))))))))))))))))))))))))))))))))))))))))))))))))))))))))))))))))
set_option maxRecDepth 20000 in
theorem gX5_readStep_X5_readPlaces : GoodIn wsX5_readStep (wsV RX5 54 RX5 yX5_readPlaces wsX5_readPlaces) := goodIn_app (goodIn_of _ (by decide +kernel)) ggX5_readStep_X5_readPlaces
set_option maxRecDepth 100000 in
theorem ggX5_readStep_X5_readFilter : GoodIn wsX5_readStep wsX5_readFilter := (gi_cons 63 rfl rfl (gi_cons 1 rfl rfl (gi_cons 56 rfl rfl (gi_cons 57 rfl rfl (gi_cons 58 rfl rfl (gi_cons 5 rfl rfl (gi_cons 59 rfl rfl (gi_cons 11 rfl rfl (gi_cons 47 rfl rfl (gi_cons 13 rfl rfl (gi_cons 14 rfl rfl (gi_cons 15 rfl rfl (gi_cons 7 rfl rfl (gi_cons 8 rfl rfl (gi_cons 16 rfl rfl (gi_cons 17 rfl rfl (gi_cons 36 rfl rfl (gi_cons 3 rfl rfl (gi_cons 4 rfl rfl (gi_cons 6 rfl rfl (gi_cons 9 rfl rfl (gi_cons 10 rfl rfl (gi_cons 64 rfl rfl (gi_cons 65 rfl rfl (gi_cons 66 rfl rfl (gi_cons 21 rfl rfl (gi_cons 67 rfl rfl (gi_cons 68 rfl rfl (gi_cons 69 rfl rfl (gi_cons 70 rfl rfl (gi_cons 12 rfl rfl (gi_cons 71 rfl rfl (gi_cons 72 rfl rfl (gi_cons 73 rfl rfl (gi_cons 26 rfl rfl (gi_cons 74 rfl rfl (gi_cons 75 rfl rfl (gi_cons 76 rfl rfl (gi_cons 77 rfl rfl (gi_cons 78 rfl rfl (gi_cons 79 rfl rfl (gi_cons 80 rfl rfl (gi_cons 81 rfl rfl (gi_cons 2 rfl rfl (gi_cons 82 rfl rfl (gi_cons 83 rfl rfl (gi_cons 84 rfl rfl (gi_cons 85 rfl rfl (gi_cons 32 rfl rfl (gi_cons 33 rfl rfl (gi_cons 34 rfl rfl (gi_cons 35 rfl rfl (gi_cons 37 rfl rfl (gi_cons 38 rfl rfl (gi_cons 39 rfl rfl (gi_cons 40 rfl rfl (gi_cons 41 rfl rfl (gi_cons 42 rfl rfl (gi_cons 43 rfl rfl (gi_cons 44 rfl rfl (gi_cons 45 rfl rfl (gi_cons 46 rfl rfl (gi_cons 86 rfl rfl (gi_cons 87 rfl rfl (gi_cons 88 rfl rfl (gi_cons 89 rfl rfl (gi_cons 90 rfl rfl (gi_cons 91 rfl rfl (gi_cons 92 rfl rfl (gi_cons 52 rfl rfl (gi_cons 53 rfl rfl (gi_cons 54 rfl rfl (gi_cons 55 rfl rfl (gi_cons 93 rfl rfl (gi_cons 94 rfl rfl (gi_cons 95 rfl rfl (gi_cons 96 rfl rfl (gi_cons 97 rfl rfl (gi_cons 98 rfl rfl (gi_cons 99 rfl rfl (gi_cons 100 rfl rfl (gi_cons 101 rfl rfl (gi_cons 102 rfl rfl (gi_cons 103 rfl rfl (gi_cons 104 rfl rfl (gi_cons 105 rfl rfl (gi_cons 106 rfl rfl (gi_cons 23 rfl rfl (gi_cons 24 rfl rfl (gi_cons 25 rfl rfl (gi_cons 27 rfl rfl (gi_cons 28 rfl rfl (gi_cons 29 rfl rfl (gi_cons 30 rfl rfl (gi_cons 31 rfl rfl (gi_cons 117 rfl rfl (gi_cons 118 rfl rfl (gi_cons 119 rfl rfl (gi_cons 120 rfl rfl (gi_cons 121 rfl rfl (gi_cons 122 rfl rfl (gi_cons 123 rfl rfl (gi_cons 124 rfl rfl (gi_cons 125 rfl rfl (gi_cons 126 rfl rfl (gi_cons 127 rfl rfl (gi_cons 128 rfl rfl (gi_cons 129 rfl rfl (gi_cons 130 rfl rfl (gi_cons 107 rfl rfl (gi_cons 108 rfl rfl (gi_cons 109 rfl rfl (gi_cons 110 rfl rfl (gi_cons 111 rfl rfl (gi_cons 112 rfl rfl (gi_cons 113 rfl rfl (gi_cons 114 rfl rfl (gi_cons 115 rfl rfl (gi_cons 116 rfl rfl gi_nil)))))))))))))))))))))))))))))))))))))))))))))))))))))))))))))))))))))))))))))))))))))))))))))))))))))))))))))))))))))))
set_option maxRecDepth 20000 in
theorem gX5_readStep_X5_readFilter : GoodIn wsX5_readStep (wsV RX5 57 RX5 yX5_readFilter wsX5_readFilter) := goodIn_app (goodIn_of _ (by decide +kernel)) ggX5_readStep_X5_readFilter
theorem dX5_readStep_0 : decode cX5_readStep 0 = .ok (.aload_n 0, 1) := by decide +kernel
theorem dX5_readStep_1 : decode cX5_readStep 1 = .ok (.getfield 9, 3) := by decide +kernel
theorem dX5_readStep_4 : decode cX5_readStep 4 = .ok (.getfield 30, 3) := by decide +kernel
theorem dX5_readStep_7 : decode cX5_readStep 7 = .ok (.istore_n 2, 1) := by decide +kernel
theorem dX5_readStep_8 : decode cX5_readStep 8 = .ok (.iload_n 2, 1) := by decide +kernel
theorem dX5_readStep_9 : decode cX5_readStep 9 = .ok (.bipush 46, 2) := by decide +kernel
theorem dX5_readStep_11 : decode cX5_readStep 11 = .ok (.if_icmp .eq 33, 3) := by decide +kernel
theorem dX5_readStep_14 : decode cX5_readStep 14 = .ok (.iload_n 2, 1) := by decide +kernel
theorem dX5_readStep_15 : decode cX5_readStep 15 = .ok (.sipush 258, 3) := by decide +kernel
theorem dX5_readStep_18 : decode cX5_readStep 18 = .ok (.if_icmp .eq 26, 3) := by decide +kernel
theorem dX5_readStep_21 : decode cX5_readStep 21 = .ok (.iload_n 2, 1) := by decide +kernel
theorem dX5_readStep_22 : decode cX5_readStep 22 = .ok (.bipush 91, 2) := by decide +kernel
theorem dX5_readStep_24 : decode cX5_readStep 24 = .ok (.if_icmp .eq 20, 3) := by decide +kernel
theorem dX5_readStep_27 : decode cX5_readStep 27 = .ok (.iload_n 2, 1) := by decide +kernel
theorem dX5_readStep_28 : decode cX5_readStep 28 = .ok (.bipush 63, 2) := by decide +kernel
theorem dX5_readStep_30 : decode cX5_readStep 30 = .ok (.if_icmp .eq 14, 3) := by decide +kernel
theorem dX5_readStep_33 : decode cX5_readStep 33 = .ok (.aload_n 0, 1) := by decide +kernel
theorem dX5_readStep_34 : decode cX5_readStep 34 = .ok (.getfield 9, 3) := by decide +kernel
theorem dX5_readStep_37 : decode cX5_readStep 37 = .ok (.iconst 1, 1) := by decide +kernel
theorem dX5_readStep_38 : decode cX5_readStep 38 = .ok (.invokevirtual 37, 3) := by decide +kernel
theorem dX5_readStep_41 : decode cX5_readStep 41 = .ok (.goto 80, 3) := by decide +kernel
theorem dX5_readStep_44 : decode cX5_readStep 44 = .ok (.aload_n 1, 1) := by decide +kernel
theorem dX5_readStep_45 : decode cX5_readStep 45 = .ok (.getfield 41, 3) := by decide +kernel
theorem dX5_readStep_48 : decode cX5_readStep 48 = .ok (.bipush 8, 2) := by decide +kernel
theorem dX5_readStep_50 : decode cX5_readStep 50 = .ok (.if_icmp .lt 14, 3) := by decide +kernel
theorem dX5_readStep_53 : decode cX5_readStep 53 = .ok (.aload_n 0, 1) := by decide +kernel
theorem dX5_readStep_54 : decode cX5_readStep 54 = .ok (.getfield 9, 3) := by decide +kernel
theorem dX5_readStep_57 : decode cX5_readStep 57 = .ok (.iconst 2, 1) := by decide +kernel
theorem dX5_readStep_58 : decode cX5_readStep 58 = .ok (.invokevirtual 37, 3) := by decide +kernel
theorem dX5_readStep_61 : decode cX5_readStep 61 = .ok (.goto 60, 3) := by decide +kernel
theorem dX5_readStep_64 : decode cX5_readStep 64 = .ok (.aload_n 0, 1) := by decide +kernel
theorem dX5_readStep_65 : decode cX5_readStep 65 = .ok (.getfield 9, 3) := by decide +kernel
theorem dX5_readStep_68 : decode cX5_readStep 68 = .ok (.invokevirtual 44, 3) := by decide +kernel
theorem dX5_readStep_71 : decode cX5_readStep 71 = .ok (.iload_n 2, 1) := by decide +kernel
theorem dX5_readStep_72 : decode cX5_readStep 72 = .ok (.bipush 46, 2) := by decide +kernel
theorem dX5_readStep_74 : decode cX5_readStep 74 = .ok (.if_icmp .ne 11, 3) := by decide +kernel
theorem dX5_readStep_77 : decode cX5_readStep 77 = .ok (.aload_n 0, 1) := by decide +kernel
theorem dX5_readStep_78 : decode cX5_readStep 78 = .ok (.aload_n 1, 1) := by decide +kernel
theorem dX5_readStep_79 : decode cX5_readStep 79 = .ok (.invokevirtual 47, 3) := by decide +kernel
theorem dX5_readStep_82 : decode cX5_readStep 82 = .ok (.goto 39, 3) := by decide +kernel
theorem dX5_readStep_85 : decode cX5_readStep 85 = .ok (.iload_n 2, 1) := by decide +kernel
theorem dX5_readStep_86 : decode cX5_readStep 86 = .ok (.sipush 258, 3) := by decide +kernel
theorem dX5_readStep_89 : decode cX5_readStep 89 = .ok (.if_icmp .ne 13, 3) := by decide +kernel
theorem dX5_readStep_92 : decode cX5_readStep 92 = .ok (.aload_n 1, 1) := by decide +kernel
theorem dX5_readStep_93 : decode cX5_readStep 93 = .ok (.iconst 2, 1) := by decide +kernel
theorem dX5_readStep_94 : decode cX5_readStep 94 = .ok (.iconst 0, 1) := by decide +kernel
theorem dX5_readStep_95 : decode cX5_readStep 95 = .ok (.iconst 0, 1) := by decide +kernel
theorem dX5_readStep_96 : decode cX5_readStep 96 = .ok (.invokevirtual 50, 3) := by decide +kernel
theorem dX5_readStep_99 : decode cX5_readStep 99 = .ok (.goto 22, 3) := by decide +kernel
theorem dX5_readStep_102 : decode cX5_readStep 102 = .ok (.iload_n 2, 1) := by decide +kernel
theorem dX5_readStep_103 : decode cX5_readStep 103 = .ok (.bipush 91, 2) := by decide +kernel
theorem dX5_readStep_105 : decode cX5_readStep 105 = .ok (.if_icmp .ne 11, 3) := by decide +kernel
theorem dX5_readStep_108 : decode cX5_readStep 108 = .ok (.aload_n 0, 1) := by decide +kernel
theorem dX5_readStep_109 : decode cX5_readStep 109 = .ok (.aload_n 1, 1) := by decide +kernel
theorem dX5_readStep_110 : decode cX5_readStep 110 = .ok (.invokevirtual 54, 3) := by decide +kernel
theorem dX5_readStep_113 : decode cX5_readStep 113 = .ok (.goto 8, 3) := by decide +kernel
theorem dX5_readStep_116 : decode cX5_readStep 116 = .ok (.aload_n 0, 1) := by decide +kernel
theorem dX5_readStep_117 : decode cX5_readStep 117 = .ok (.aload_n 1, 1) := by decide +kernel
theorem dX5_readStep_118 : decode cX5_readStep 118 = .ok (.invokevirtual 57, 3) := by decide +kernel
theorem dX5_readStep_121 : decode cX5_readStep 121 = .ok (.return_, 1) := by decide +kernel
set_option maxRecDepth 100000 in
theorem ggX5_readName_X8_step : GoodIn wsX5_readName wsX8_step := (gi_cons 6 rfl rfl (gi_cons 7 rfl rfl (gi_cons 8 rfl rfl (gi_cons 9 rfl rfl (gi_cons 10 rfl rfl (gi_cons 11 rfl rfl (gi_cons 43 rfl rfl (gi_cons 44 rfl rfl (gi_cons 45 rfl rfl (gi_cons 46 rfl rfl (gi_cons 47 rfl rfl (gi_cons 48 rfl rfl (gi_cons 49 rfl rfl (gi_cons 50 rfl rfl (gi_cons 51 rfl rfl gi_nil)))))))))))))))
set_option maxRecDepth 20000 in
theorem gX5_readName_X8_step : GoodIn wsX5_readName (wsV RX5 44 RX8 yX8_step wsX8_step) := goodIn_app (goodIn_of _ (by decide +kernel)) ggX5_readName_X8_step
set_option maxRecDepth 100000 in
theorem ggX5_readName_X4_addStep : GoodIn wsX5_readName wsX4_addStep := (gi_cons 16 rfl rfl (gi_cons 17 rfl rfl (gi_cons 18 rfl rfl (gi_cons 19 rfl rfl (gi_cons 20 rfl rfl (gi_cons 52 rfl rfl (gi_cons 53 rfl rfl (gi_cons 54 rfl rfl (gi_cons 55 rfl rfl (gi_cons 56 rfl rfl (gi_cons 57 rfl rfl (gi_cons 58 rfl rfl (gi_cons 59 rfl rfl (gi_cons 60 rfl rfl (gi_cons 61 rfl rfl (gi_cons 62 rfl rfl (gi_cons 63 rfl rfl (gi_cons 64 rfl rfl (gi_cons 65 rfl rfl gi_nil)))))))))))))))))))
set_option maxRecDepth 20000 in
theorem gX5_readName_X4_addStep : GoodIn wsX5_readName (wsV RX5 50 RX4 yX4_addStep wsX4_addStep) := goodIn_app (goodIn_of _ (by decide +kernel)) ggX5_readName_X4_addStep
set_option maxRecDepth 100000 in
theorem ggX5_readName_X8_takeLetters : GoodIn wsX5_readName wsX8_takeLetters := (gi_cons 24 rfl rfl (gi_cons 11 rfl rfl (gi_cons 25 rfl rfl (gi_cons 26 rfl rfl (gi_cons 27 rfl rfl (gi_cons 5 rfl rfl (gi_cons 28 rfl rfl (gi_cons 7 rfl rfl (gi_cons 8 rfl rfl (gi_cons 29 rfl rfl (gi_cons 30 rfl rfl (gi_cons 31 rfl rfl (gi_cons 32 rfl rfl (gi_cons 33 rfl rfl (gi_cons 34 rfl rfl (gi_cons 35 rfl rfl (gi_cons 36 rfl rfl (gi_cons 37 rfl rfl (gi_cons 38 rfl rfl (gi_cons 39 rfl rfl (gi_cons 40 rfl rfl (gi_cons 41 rfl rfl (gi_cons 3 rfl rfl (gi_cons 4 rfl rfl (gi_cons 6 rfl rfl (gi_cons 9 rfl rfl (gi_cons 10 rfl rfl (gi_cons 43 rfl rfl (gi_cons 44 rfl rfl (gi_cons 45 rfl rfl (gi_cons 46 rfl rfl (gi_cons 47 rfl rfl (gi_cons 48 rfl rfl (gi_cons 49 rfl rfl (gi_cons 50 rfl rfl (gi_cons 51 rfl rfl gi_nil))))))))))))))))))))))))))))))))))))
set_option maxRecDepth 20000 in
theorem gX5_readName_X8_takeLetters : GoodIn wsX5_readName (wsV RX5 60 RX8 yX8_takeLetters wsX8_takeLetters) := goodIn_app (goodIn_of _ (by decide +kernel)) ggX5_readName_X8_takeLetters
theorem dX5_readName_0 : decode cX5_readName 0 = .ok (.aload_n 0, 1) := by decide +kernel
theorem dX5_readName_1 : decode cX5_readName 1 = .ok (.getfield 9, 3) := by decide +kernel
theorem dX5_readName_4 : decode cX5_readName 4 = .ok (.getfield 30, 3) := by decide +kernel
theorem dX5_readName_7 : decode cX5_readName 7 = .ok (.bipush 42, 2) := by decide +kernel
theorem dX5_readName_9 : decode cX5_readName 9 = .ok (.if_icmp .ne 20, 3) := by decide +kernel
theorem dX5_readName_12 : decode cX5_readName 12 = .ok (.aload_n 0, 1) := by decide +kernel
theorem dX5_readName_13 : decode cX5_readName 13 = .ok (.getfield 9, 3) := by decide +kernel
theorem dX5_readName_16 : decode cX5_readName 16 = .ok (.invokevirtual 44, 3) := by decide +kernel
theorem dX5_readName_19 : decode cX5_readName 19 = .ok (.aload_n 1, 1) := by decide +kernel
theorem dX5_readName_20 : decode cX5_readName 20 = .ok (.iconst 1, 1) := by decide +kernel
theorem dX5_readName_21 : decode cX5_readName 21 = .ok (.iconst 0, 1) := by decide +kernel
theorem dX5_readName_22 : decode cX5_readName 22 = .ok (.iconst 0, 1) := by decide +kernel
theorem dX5_readName_23 : decode cX5_readName 23 = .ok (.invokevirtual 50, 3) := by decide +kernel
theorem dX5_readName_26 : decode cX5_readName 26 = .ok (.goto 16, 3) := by decide +kernel
theorem dX5_readName_29 : decode cX5_readName 29 = .ok (.aload_n 1, 1) := by decide +kernel
theorem dX5_readName_30 : decode cX5_readName 30 = .ok (.iconst 0, 1) := by decide +kernel
theorem dX5_readName_31 : decode cX5_readName 31 = .ok (.aload_n 0, 1) := by decide +kernel
theorem dX5_readName_32 : decode cX5_readName 32 = .ok (.getfield 9, 3) := by decide +kernel
theorem dX5_readName_35 : decode cX5_readName 35 = .ok (.invokevirtual 60, 3) := by decide +kernel
theorem dX5_readName_38 : decode cX5_readName 38 = .ok (.iconst 0, 1) := by decide +kernel
theorem dX5_readName_39 : decode cX5_readName 39 = .ok (.invokevirtual 50, 3) := by decide +kernel
theorem dX5_readName_42 : decode cX5_readName 42 = .ok (.return_, 1) := by decide +kernel
set_option maxRecDepth 100000 in
theorem ggX5_readPlaces_X8_takeNumber : GoodIn wsX5_readPlaces wsX8_takeNumber := (gi_cons 6 rfl rfl (gi_cons 7 rfl rfl (gi_cons 8 rfl rfl (gi_cons 9 rfl rfl (gi_cons 10 rfl rfl (gi_cons 5 rfl rfl (gi_cons 11 rfl rfl (gi_cons 12 rfl rfl (gi_cons 13 rfl rfl (gi_cons 14 rfl rfl (gi_cons 15 rfl rfl (gi_cons 16 rfl rfl (gi_cons 17 rfl rfl (gi_cons 18 rfl rfl (gi_cons 19 rfl rfl (gi_cons 20 rfl rfl (gi_cons 21 rfl rfl (gi_cons 22 rfl rfl (gi_cons 23 rfl rfl (gi_cons 24 rfl rfl (gi_cons 25 rfl rfl (gi_cons 26 rfl rfl (gi_cons 27 rfl rfl (gi_cons 28 rfl rfl (gi_cons 29 rfl rfl (gi_cons 30 rfl rfl (gi_cons 31 rfl rfl (gi_cons 47 rfl rfl (gi_cons 48 rfl rfl (gi_cons 49 rfl rfl (gi_cons 50 rfl rfl (gi_cons 51 rfl rfl (gi_cons 52 rfl rfl (gi_cons 53 rfl rfl (gi_cons 54 rfl rfl (gi_cons 55 rfl rfl gi_nil))))))))))))))))))))))))))))))))))))
set_option maxRecDepth 20000 in
theorem gX5_readPlaces_X8_takeNumber : GoodIn wsX5_readPlaces (wsV RX5 64 RX8 yX8_takeNumber wsX8_takeNumber) := goodIn_app (goodIn_of _ (by decide +kernel)) ggX5_readPlaces_X8_takeNumber
set_option maxRecDepth 100000 in
theorem ggX5_readPlaces_X8_step : GoodIn wsX5_readPlaces wsX8_step := (gi_cons 11 rfl rfl (gi_cons 12 rfl rfl (gi_cons 13 rfl rfl (gi_cons 14 rfl rfl (gi_cons 15 rfl rfl (gi_cons 7 rfl rfl (gi_cons 47 rfl rfl (gi_cons 48 rfl rfl (gi_cons 49 rfl rfl (gi_cons 50 rfl rfl (gi_cons 51 rfl rfl (gi_cons 52 rfl rfl (gi_cons 53 rfl rfl (gi_cons 54 rfl rfl (gi_cons 55 rfl rfl gi_nil)))))))))))))))
set_option maxRecDepth 20000 in
theorem gX5_readPlaces_X8_step : GoodIn wsX5_readPlaces (wsV RX5 44 RX8 yX8_step wsX8_step) := goodIn_app (goodIn_of _ (by decide +kernel)) ggX5_readPlaces_X8_step
set_option maxRecDepth 100000 in
theorem ggX5_readPlaces_X4_addStep : GoodIn wsX5_readPlaces wsX4_addStep := (gi_cons 37 rfl rfl (gi_cons 38 rfl rfl (gi_cons 39 rfl rfl (gi_cons 40 rfl rfl (gi_cons 41 rfl rfl (gi_cons 56 rfl rfl (gi_cons 57 rfl rfl (gi_cons 58 rfl rfl (gi_cons 59 rfl rfl (gi_cons 60 rfl rfl (gi_cons 61 rfl rfl (gi_cons 62 rfl rfl (gi_cons 63 rfl rfl (gi_cons 64 rfl rfl (gi_cons 65 rfl rfl (gi_cons 66 rfl rfl (gi_cons 67 rfl rfl (gi_cons 68 rfl rfl (gi_cons 69 rfl rfl gi_nil)))))))))))))))))))
set_option maxRecDepth 20000 in
theorem gX5_readPlaces_X4_addStep : GoodIn wsX5_readPlaces (wsV RX5 50 RX4 yX4_addStep wsX4_addStep) := goodIn_app (goodIn_of _ (by decide +kernel)) ggX5_readPlaces_X4_addStep
set_option maxRecDepth 100000 in
theorem ggX5_readPlaces_X8_expect : GoodIn wsX5_readPlaces wsX8_expect := (gi_cons 45 rfl rfl (gi_cons 7 rfl rfl (gi_cons 8 rfl rfl (gi_cons 9 rfl rfl (gi_cons 10 rfl rfl (gi_cons 5 rfl rfl (gi_cons 11 rfl rfl (gi_cons 12 rfl rfl (gi_cons 13 rfl rfl (gi_cons 14 rfl rfl (gi_cons 15 rfl rfl (gi_cons 16 rfl rfl (gi_cons 17 rfl rfl (gi_cons 18 rfl rfl (gi_cons 19 rfl rfl (gi_cons 20 rfl rfl (gi_cons 21 rfl rfl (gi_cons 47 rfl rfl (gi_cons 48 rfl rfl (gi_cons 49 rfl rfl (gi_cons 50 rfl rfl (gi_cons 51 rfl rfl (gi_cons 52 rfl rfl (gi_cons 53 rfl rfl (gi_cons 54 rfl rfl (gi_cons 55 rfl rfl gi_nil))))))))))))))))))))))))))
set_option maxRecDepth 20000 in
theorem gX5_readPlaces_X8_expect : GoodIn wsX5_readPlaces (wsV RX5 67 RX8 yX8_expect wsX8_expect) := goodIn_app (goodIn_of _ (by decide +kernel)) ggX5_readPlaces_X8_expect
theorem dX5_readPlaces_0 : decode cX5_readPlaces 0 = .ok (.aload_n 0, 1) := by decide +kernel
theorem dX5_readPlaces_1 : decode cX5_readPlaces 1 = .ok (.getfield 9, 3) := by decide +kernel
theorem dX5_readPlaces_4 : decode cX5_readPlaces 4 = .ok (.getfield 30, 3) := by decide +kernel
theorem dX5_readPlaces_7 : decode cX5_readPlaces 7 = .ok (.bipush 58, 2) := by decide +kernel
theorem dX5_readPlaces_9 : decode cX5_readPlaces 9 = .ok (.if_icmp .ne 7, 3) := by decide +kernel
theorem dX5_readPlaces_12 : decode cX5_readPlaces 12 = .ok (.iconst 0, 1) := by decide +kernel
theorem dX5_readPlaces_13 : decode cX5_readPlaces 13 = .ok (.goto 10, 3) := by decide +kernel
theorem dX5_readPlaces_16 : decode cX5_readPlaces 16 = .ok (.aload_n 0, 1) := by decide +kernel
theorem dX5_readPlaces_17 : decode cX5_readPlaces 17 = .ok (.getfield 9, 3) := by decide +kernel
theorem dX5_readPlaces_20 : decode cX5_readPlaces 20 = .ok (.invokevirtual 64, 3) := by decide +kernel
theorem dX5_readPlaces_23 : decode cX5_readPlaces 23 = .ok (.istore_n 2, 1) := by decide +kernel
theorem dX5_readPlaces_24 : decode cX5_readPlaces 24 = .ok (.aload_n 0, 1) := by decide +kernel
theorem dX5_readPlaces_25 : decode cX5_readPlaces 25 = .ok (.getfield 9, 3) := by decide +kernel
theorem dX5_readPlaces_28 : decode cX5_readPlaces 28 = .ok (.getfield 30, 3) := by decide +kernel
theorem dX5_readPlaces_31 : decode cX5_readPlaces 31 = .ok (.bipush 93, 2) := by decide +kernel
theorem dX5_readPlaces_33 : decode cX5_readPlaces 33 = .ok (.if_icmp .ne 20, 3) := by decide +kernel
theorem dX5_readPlaces_36 : decode cX5_readPlaces 36 = .ok (.aload_n 0, 1) := by decide +kernel
theorem dX5_readPlaces_37 : decode cX5_readPlaces 37 = .ok (.getfield 9, 3) := by decide +kernel
theorem dX5_readPlaces_40 : decode cX5_readPlaces 40 = .ok (.invokevirtual 44, 3) := by decide +kernel
theorem dX5_readPlaces_43 : decode cX5_readPlaces 43 = .ok (.aload_n 1, 1) := by decide +kernel
theorem dX5_readPlaces_44 : decode cX5_readPlaces 44 = .ok (.iconst 3, 1) := by decide +kernel
theorem dX5_readPlaces_45 : decode cX5_readPlaces 45 = .ok (.iload_n 2, 1) := by decide +kernel
theorem dX5_readPlaces_46 : decode cX5_readPlaces 46 = .ok (.iconst 0, 1) := by decide +kernel
theorem dX5_readPlaces_47 : decode cX5_readPlaces 47 = .ok (.invokevirtual 50, 3) := by decide +kernel
theorem dX5_readPlaces_50 : decode cX5_readPlaces 50 = .ok (.goto 54, 3) := by decide +kernel
theorem dX5_readPlaces_53 : decode cX5_readPlaces 53 = .ok (.aload_n 0, 1) := by decide +kernel
theorem dX5_readPlaces_54 : decode cX5_readPlaces 54 = .ok (.getfield 9, 3) := by decide +kernel
theorem dX5_readPlaces_57 : decode cX5_readPlaces 57 = .ok (.bipush 58, 2) := by decide +kernel
theorem dX5_readPlaces_59 : decode cX5_readPlaces 59 = .ok (.invokevirtual 67, 3) := by decide +kernel
theorem dX5_readPlaces_62 : decode cX5_readPlaces 62 = .ok (.aload_n 0, 1) := by decide +kernel
theorem dX5_readPlaces_63 : decode cX5_readPlaces 63 = .ok (.getfield 9, 3) := by decide +kernel
theorem dX5_readPlaces_66 : decode cX5_readPlaces 66 = .ok (.getfield 30, 3) := by decide +kernel
theorem dX5_readPlaces_69 : decode cX5_readPlaces 69 = .ok (.bipush 93, 2) := by decide +kernel
theorem dX5_readPlaces_71 : decode cX5_readPlaces 71 = .ok (.if_icmp .ne 9, 3) := by decide +kernel
theorem dX5_readPlaces_74 : decode cX5_readPlaces 74 = .ok (.sipush 1000, 3) := by decide +kernel
theorem dX5_readPlaces_77 : decode cX5_readPlaces 77 = .ok (.goto 10, 3) := by decide +kernel
theorem dX5_readPlaces_80 : decode cX5_readPlaces 80 = .ok (.aload_n 0, 1) := by decide +kernel
theorem dX5_readPlaces_81 : decode cX5_readPlaces 81 = .ok (.getfield 9, 3) := by decide +kernel
theorem dX5_readPlaces_84 : decode cX5_readPlaces 84 = .ok (.invokevirtual 64, 3) := by decide +kernel
theorem dX5_readPlaces_87 : decode cX5_readPlaces 87 = .ok (.istore_n 3, 1) := by decide +kernel
theorem dX5_readPlaces_88 : decode cX5_readPlaces 88 = .ok (.aload_n 0, 1) := by decide +kernel
theorem dX5_readPlaces_89 : decode cX5_readPlaces 89 = .ok (.getfield 9, 3) := by decide +kernel
theorem dX5_readPlaces_92 : decode cX5_readPlaces 92 = .ok (.bipush 93, 2) := by decide +kernel
theorem dX5_readPlaces_94 : decode cX5_readPlaces 94 = .ok (.invokevirtual 67, 3) := by decide +kernel
theorem dX5_readPlaces_97 : decode cX5_readPlaces 97 = .ok (.aload_n 1, 1) := by decide +kernel
theorem dX5_readPlaces_98 : decode cX5_readPlaces 98 = .ok (.iconst 4, 1) := by decide +kernel
theorem dX5_readPlaces_99 : decode cX5_readPlaces 99 = .ok (.iload_n 2, 1) := by decide +kernel
theorem dX5_readPlaces_100 : decode cX5_readPlaces 100 = .ok (.iload_n 3, 1) := by decide +kernel
theorem dX5_readPlaces_101 : decode cX5_readPlaces 101 = .ok (.invokevirtual 50, 3) := by decide +kernel
theorem dX5_readPlaces_104 : decode cX5_readPlaces 104 = .ok (.return_, 1) := by decide +kernel
set_option maxRecDepth 100000 in
theorem ggX5_readFilter_X8_expect : GoodIn wsX5_readFilter wsX8_expect := (gi_cons 6 rfl rfl (gi_cons 7 rfl rfl (gi_cons 8 rfl rfl (gi_cons 9 rfl rfl (gi_cons 10 rfl rfl (gi_cons 5 rfl rfl (gi_cons 11 rfl rfl (gi_cons 12 rfl rfl (gi_cons 13 rfl rfl (gi_cons 14 rfl rfl (gi_cons 15 rfl rfl (gi_cons 16 rfl rfl (gi_cons 17 rfl rfl (gi_cons 18 rfl rfl (gi_cons 19 rfl rfl (gi_cons 20 rfl rfl (gi_cons 21 rfl rfl (gi_cons 110 rfl rfl (gi_cons 111 rfl rfl (gi_cons 112 rfl rfl (gi_cons 113 rfl rfl (gi_cons 114 rfl rfl (gi_cons 115 rfl rfl (gi_cons 116 rfl rfl (gi_cons 117 rfl rfl (gi_cons 118 rfl rfl gi_nil))))))))))))))))))))))))))
set_option maxRecDepth 20000 in
theorem gX5_readFilter_X8_expect : GoodIn wsX5_readFilter (wsV RX5 67 RX8 yX8_expect wsX8_expect) := goodIn_app (goodIn_of _ (by decide +kernel)) ggX5_readFilter_X8_expect
set_option maxRecDepth 100000 in
theorem ggX5_readFilter_X5_readCond : GoodIn wsX5_readFilter wsX5_readCond := (gi_cons 26 rfl rfl (gi_cons 1 rfl rfl (gi_cons 27 rfl rfl (gi_cons 28 rfl rfl (gi_cons 29 rfl rfl (gi_cons 25 rfl rfl (gi_cons 30 rfl rfl (gi_cons 9 rfl rfl (gi_cons 10 rfl rfl (gi_cons 5 rfl rfl (gi_cons 11 rfl rfl (gi_cons 12 rfl rfl (gi_cons 13 rfl rfl (gi_cons 14 rfl rfl (gi_cons 15 rfl rfl (gi_cons 7 rfl rfl (gi_cons 31 rfl rfl (gi_cons 32 rfl rfl (gi_cons 33 rfl rfl (gi_cons 34 rfl rfl (gi_cons 35 rfl rfl (gi_cons 36 rfl rfl (gi_cons 37 rfl rfl (gi_cons 38 rfl rfl (gi_cons 39 rfl rfl (gi_cons 40 rfl rfl (gi_cons 41 rfl rfl (gi_cons 42 rfl rfl (gi_cons 43 rfl rfl (gi_cons 17 rfl rfl (gi_cons 18 rfl rfl (gi_cons 19 rfl rfl (gi_cons 20 rfl rfl (gi_cons 21 rfl rfl (gi_cons 44 rfl rfl (gi_cons 45 rfl rfl (gi_cons 46 rfl rfl (gi_cons 47 rfl rfl (gi_cons 48 rfl rfl (gi_cons 49 rfl rfl (gi_cons 50 rfl rfl (gi_cons 51 rfl rfl (gi_cons 16 rfl rfl (gi_cons 52 rfl rfl (gi_cons 53 rfl rfl (gi_cons 54 rfl rfl (gi_cons 55 rfl rfl (gi_cons 56 rfl rfl (gi_cons 57 rfl rfl (gi_cons 58 rfl rfl (gi_cons 59 rfl rfl (gi_cons 60 rfl rfl (gi_cons 61 rfl rfl (gi_cons 8 rfl rfl (gi_cons 62 rfl rfl (gi_cons 63 rfl rfl (gi_cons 64 rfl rfl (gi_cons 65 rfl rfl (gi_cons 66 rfl rfl (gi_cons 67 rfl rfl (gi_cons 68 rfl rfl (gi_cons 69 rfl rfl (gi_cons 70 rfl rfl (gi_cons 71 rfl rfl (gi_cons 72 rfl rfl (gi_cons 2 rfl rfl (gi_cons 3 rfl rfl (gi_cons 4 rfl rfl (gi_cons 6 rfl rfl (gi_cons 73 rfl rfl (gi_cons 74 rfl rfl (gi_cons 75 rfl rfl (gi_cons 76 rfl rfl (gi_cons 77 rfl rfl (gi_cons 78 rfl rfl (gi_cons 79 rfl rfl (gi_cons 80 rfl rfl (gi_cons 81 rfl rfl (gi_cons 82 rfl rfl (gi_cons 83 rfl rfl (gi_cons 84 rfl rfl (gi_cons 85 rfl rfl (gi_cons 86 rfl rfl (gi_cons 22 rfl rfl (gi_cons 23 rfl rfl (gi_cons 24 rfl rfl (gi_cons 109 rfl rfl (gi_cons 110 rfl rfl (gi_cons 111 rfl rfl (gi_cons 112 rfl rfl (gi_cons 113 rfl rfl (gi_cons 114 rfl rfl (gi_cons 115 rfl rfl (gi_cons 116 rfl rfl (gi_cons 117 rfl rfl (gi_cons 118 rfl rfl (gi_cons 95 rfl rfl (gi_cons 96 rfl rfl (gi_cons 97 rfl rfl (gi_cons 98 rfl rfl (gi_cons 99 rfl rfl (gi_cons 100 rfl rfl (gi_cons 101 rfl rfl (gi_cons 102 rfl rfl (gi_cons 103 rfl rfl (gi_cons 104 rfl rfl (gi_cons 105 rfl rfl (gi_cons 106 rfl rfl (gi_cons 107 rfl rfl (gi_cons 108 rfl rfl gi_nil))))))))))))))))))))))))))))))))))))))))))))))))))))))))))))))))))))))))))))))))))))))))))))))))))))))))))))))
set_option maxRecDepth 20000 in
theorem gX5_readFilter_X5_readCond : GoodIn wsX5_readFilter (wsV RX5 73 RX5 yX5_readCond wsX5_readCond) := goodIn_app (goodIn_of _ (by decide +kernel)) ggX5_readFilter_X5_readCond
set_option maxRecDepth 100000 in
theorem ggX5_readFilter_X4_addCode : GoodIn wsX5_readFilter wsX4_addCode := (gi_cons 35 rfl rfl (gi_cons 36 rfl rfl (gi_cons 37 rfl rfl (gi_cons 95 rfl rfl (gi_cons 96 rfl rfl (gi_cons 97 rfl rfl (gi_cons 98 rfl rfl (gi_cons 99 rfl rfl (gi_cons 100 rfl rfl (gi_cons 101 rfl rfl (gi_cons 102 rfl rfl (gi_cons 103 rfl rfl (gi_cons 104 rfl rfl (gi_cons 105 rfl rfl (gi_cons 106 rfl rfl (gi_cons 107 rfl rfl (gi_cons 108 rfl rfl gi_nil)))))))))))))))))
set_option maxRecDepth 20000 in
theorem gX5_readFilter_X4_addCode : GoodIn wsX5_readFilter (wsV RX5 77 RX4 yX4_addCode wsX4_addCode) := goodIn_app (goodIn_of _ (by decide +kernel)) ggX5_readFilter_X4_addCode
set_option maxRecDepth 100000 in
theorem ggX5_readFilter_X4_addStep : GoodIn wsX5_readFilter wsX4_addStep := (gi_cons 90 rfl rfl (gi_cons 91 rfl rfl (gi_cons 92 rfl rfl (gi_cons 93 rfl rfl (gi_cons 94 rfl rfl (gi_cons 95 rfl rfl (gi_cons 96 rfl rfl (gi_cons 97 rfl rfl (gi_cons 98 rfl rfl (gi_cons 99 rfl rfl (gi_cons 100 rfl rfl (gi_cons 101 rfl rfl (gi_cons 102 rfl rfl (gi_cons 103 rfl rfl (gi_cons 104 rfl rfl (gi_cons 105 rfl rfl (gi_cons 106 rfl rfl (gi_cons 107 rfl rfl (gi_cons 108 rfl rfl gi_nil)))))))))))))))))))
set_option maxRecDepth 20000 in
theorem gX5_readFilter_X4_addStep : GoodIn wsX5_readFilter (wsV RX5 50 RX4 yX4_addStep wsX4_addStep) := goodIn_app (goodIn_of _ (by decide +kernel)) ggX5_readFilter_X4_addStep
theorem dX5_readFilter_0 : decode cX5_readFilter 0 = .ok (.aload_n 1, 1) := by decide +kernel
theorem dX5_readFilter_1 : decode cX5_readFilter 1 = .ok (.getfield 70, 3) := by decide +kernel
theorem dX5_readFilter_4 : decode cX5_readFilter 4 = .ok (.istore_n 2, 1) := by decide +kernel
theorem dX5_readFilter_5 : decode cX5_readFilter 5 = .ok (.aload_n 0, 1) := by decide +kernel
theorem dX5_readFilter_6 : decode cX5_readFilter 6 = .ok (.getfield 9, 3) := by decide +kernel
theorem dX5_readFilter_9 : decode cX5_readFilter 9 = .ok (.bipush 40, 2) := by decide +kernel
theorem dX5_readFilter_11 : decode cX5_readFilter 11 = .ok (.invokevirtual 67, 3) := by decide +kernel
theorem dX5_readFilter_14 : decode cX5_readFilter 14 = .ok (.aload_n 0, 1) := by decide +kernel
theorem dX5_readFilter_15 : decode cX5_readFilter 15 = .ok (.aload_n 1, 1) := by decide +kernel
theorem dX5_readFilter_16 : decode cX5_readFilter 16 = .ok (.iconst 0, 1) := by decide +kernel
theorem dX5_readFilter_17 : decode cX5_readFilter 17 = .ok (.invokevirtual 73, 3) := by decide +kernel
theorem dX5_readFilter_20 : decode cX5_readFilter 20 = .ok (.aload_n 0, 1) := by decide +kernel
theorem dX5_readFilter_21 : decode cX5_readFilter 21 = .ok (.getfield 9, 3) := by decide +kernel
theorem dX5_readFilter_24 : decode cX5_readFilter 24 = .ok (.bipush 41, 2) := by decide +kernel
theorem dX5_readFilter_26 : decode cX5_readFilter 26 = .ok (.invokevirtual 67, 3) := by decide +kernel
theorem dX5_readFilter_29 : decode cX5_readFilter 29 = .ok (.aload_n 1, 1) := by decide +kernel
theorem dX5_readFilter_30 : decode cX5_readFilter 30 = .ok (.bipush (-5), 2) := by decide +kernel
theorem dX5_readFilter_32 : decode cX5_readFilter 32 = .ok (.invokevirtual 77, 3) := by decide +kernel
theorem dX5_readFilter_35 : decode cX5_readFilter 35 = .ok (.aload_n 1, 1) := by decide +kernel
theorem dX5_readFilter_36 : decode cX5_readFilter 36 = .ok (.iconst 5, 1) := by decide +kernel
theorem dX5_readFilter_37 : decode cX5_readFilter 37 = .ok (.iload_n 2, 1) := by decide +kernel
theorem dX5_readFilter_38 : decode cX5_readFilter 38 = .ok (.iconst 0, 1) := by decide +kernel
theorem dX5_readFilter_39 : decode cX5_readFilter 39 = .ok (.invokevirtual 50, 3) := by decide +kernel
theorem dX5_readFilter_42 : decode cX5_readFilter 42 = .ok (.return_, 1) := by decide +kernel
set_option maxRecDepth 100000 in
theorem ggX5_readCond_X5_readAll : GoodIn wsX5_readCond wsX5_readAll := (gi_cons 23 rfl rfl (gi_cons 1 rfl rfl (gi_cons 24 rfl rfl (gi_cons 25 rfl rfl (gi_cons 26 rfl rfl (gi_cons 5 rfl rfl (gi_cons 6 rfl rfl (gi_cons 7 rfl rfl (gi_cons 8 rfl rfl (gi_cons 9 rfl rfl (gi_cons 10 rfl rfl (gi_cons 11 rfl rfl (gi_cons 12 rfl rfl (gi_cons 13 rfl rfl (gi_cons 14 rfl rfl (gi_cons 15 rfl rfl (gi_cons 16 rfl rfl (gi_cons 17 rfl rfl (gi_cons 18 rfl rfl (gi_cons 19 rfl rfl (gi_cons 20 rfl rfl (gi_cons 21 rfl rfl (gi_cons 22 rfl rfl (gi_cons 27 rfl rfl (gi_cons 28 rfl rfl (gi_cons 29 rfl rfl (gi_cons 30 rfl rfl (gi_cons 31 rfl rfl (gi_cons 32 rfl rfl (gi_cons 33 rfl rfl (gi_cons 34 rfl rfl (gi_cons 35 rfl rfl (gi_cons 36 rfl rfl (gi_cons 37 rfl rfl (gi_cons 38 rfl rfl (gi_cons 39 rfl rfl (gi_cons 40 rfl rfl (gi_cons 41 rfl rfl (gi_cons 42 rfl rfl (gi_cons 43 rfl rfl (gi_cons 44 rfl rfl (gi_cons 45 rfl rfl (gi_cons 46 rfl rfl (gi_cons 47 rfl rfl (gi_cons 48 rfl rfl (gi_cons 49 rfl rfl (gi_cons 50 rfl rfl (gi_cons 51 rfl rfl (gi_cons 52 rfl rfl (gi_cons 53 rfl rfl (gi_cons 54 rfl rfl (gi_cons 55 rfl rfl (gi_cons 56 rfl rfl (gi_cons 57 rfl rfl (gi_cons 58 rfl rfl (gi_cons 59 rfl rfl (gi_cons 60 rfl rfl (gi_cons 61 rfl rfl (gi_cons 62 rfl rfl (gi_cons 63 rfl rfl (gi_cons 64 rfl rfl (gi_cons 65 rfl rfl (gi_cons 66 rfl rfl (gi_cons 67 rfl rfl (gi_cons 68 rfl rfl (gi_cons 69 rfl rfl (gi_cons 70 rfl rfl (gi_cons 71 rfl rfl (gi_cons 72 rfl rfl (gi_cons 73 rfl rfl (gi_cons 74 rfl rfl (gi_cons 75 rfl rfl (gi_cons 76 rfl rfl (gi_cons 77 rfl rfl (gi_cons 78 rfl rfl (gi_cons 79 rfl rfl (gi_cons 80 rfl rfl (gi_cons 81 rfl rfl (gi_cons 82 rfl rfl (gi_cons 83 rfl rfl (gi_cons 84 rfl rfl (gi_cons 85 rfl rfl (gi_cons 0 rfl rfl (gi_cons 2 rfl rfl (gi_cons 3 rfl rfl (gi_cons 4 rfl rfl (gi_cons 86 rfl rfl (gi_cons 87 rfl rfl (gi_cons 88 rfl rfl (gi_cons 89 rfl rfl (gi_cons 90 rfl rfl (gi_cons 91 rfl rfl (gi_cons 92 rfl rfl (gi_cons 93 rfl rfl (gi_cons 94 rfl rfl (gi_cons 95 rfl rfl (gi_cons 96 rfl rfl (gi_cons 97 rfl rfl (gi_cons 98 rfl rfl (gi_cons 99 rfl rfl (gi_cons 100 rfl rfl (gi_cons 101 rfl rfl (gi_cons 102 rfl rfl (gi_cons 103 rfl rfl (gi_cons 104 rfl rfl (gi_cons 105 rfl rfl (gi_cons 106 rfl rfl (gi_cons 107 rfl rfl (gi_cons 108 rfl rfl (gi_cons 109 rfl rfl gi_nil))))))))))))))))))))))))))))))))))))))))))))))))))))))))))))))))))))))))))))))))))))))))))))))))))))))))))))))
set_option maxRecDepth 20000 in
theorem gX5_readCond_X5_readAll : GoodIn wsX5_readCond (wsV RX5 80 RX5 yX5_readAll wsX5_readAll) := goodIn_app (goodIn_of _ (by decide +kernel)) ggX5_readCond_X5_readAll
set_option maxRecDepth 100000 in
theorem ggX5_readCond_X8_step : GoodIn wsX5_readCond wsX8_step := (gi_cons 10 rfl rfl (gi_cons 11 rfl rfl (gi_cons 12 rfl rfl (gi_cons 13 rfl rfl (gi_cons 14 rfl rfl (gi_cons 15 rfl rfl (gi_cons 87 rfl rfl (gi_cons 88 rfl rfl (gi_cons 89 rfl rfl (gi_cons 90 rfl rfl (gi_cons 91 rfl rfl (gi_cons 92 rfl rfl (gi_cons 93 rfl rfl (gi_cons 94 rfl rfl (gi_cons 95 rfl rfl gi_nil)))))))))))))))
set_option maxRecDepth 20000 in
theorem gX5_readCond_X8_step : GoodIn wsX5_readCond (wsV RX5 44 RX8 yX8_step wsX8_step) := goodIn_app (goodIn_of _ (by decide +kernel)) ggX5_readCond_X8_step
set_option maxRecDepth 100000 in
theorem ggX5_readCond_X4_addCode : GoodIn wsX5_readCond wsX4_addCode := (gi_cons 20 rfl rfl (gi_cons 21 rfl rfl (gi_cons 22 rfl rfl (gi_cons 96 rfl rfl (gi_cons 97 rfl rfl (gi_cons 98 rfl rfl (gi_cons 99 rfl rfl (gi_cons 100 rfl rfl (gi_cons 101 rfl rfl (gi_cons 102 rfl rfl (gi_cons 103 rfl rfl (gi_cons 104 rfl rfl (gi_cons 105 rfl rfl (gi_cons 106 rfl rfl (gi_cons 107 rfl rfl (gi_cons 108 rfl rfl (gi_cons 109 rfl rfl gi_nil)))))))))))))))))
set_option maxRecDepth 20000 in
theorem gX5_readCond_X4_addCode : GoodIn wsX5_readCond (wsV RX5 77 RX4 yX4_addCode wsX4_addCode) := goodIn_app (goodIn_of _ (by decide +kernel)) ggX5_readCond_X4_addCode
theorem dX5_readCond_0 : decode cX5_readCond 0 = .ok (.aload_n 0, 1) := by decide +kernel
theorem dX5_readCond_1 : decode cX5_readCond 1 = .ok (.aload_n 1, 1) := by decide +kernel
theorem dX5_readCond_2 : decode cX5_readCond 2 = .ok (.iload_n 2, 1) := by decide +kernel
theorem dX5_readCond_3 : decode cX5_readCond 3 = .ok (.invokevirtual 80, 3) := by decide +kernel
theorem dX5_readCond_6 : decode cX5_readCond 6 = .ok (.iconst 0, 1) := by decide +kernel
theorem dX5_readCond_7 : decode cX5_readCond 7 = .ok (.istore_n 3, 1) := by decide +kernel
theorem dX5_readCond_8 : decode cX5_readCond 8 = .ok (.aload_n 0, 1) := by decide +kernel
theorem dX5_readCond_9 : decode cX5_readCond 9 = .ok (.getfield 9, 3) := by decide +kernel
theorem dX5_readCond_12 : decode cX5_readCond 12 = .ok (.getfield 30, 3) := by decide +kernel
theorem dX5_readCond_15 : decode cX5_readCond 15 = .ok (.bipush 124, 2) := by decide +kernel
theorem dX5_readCond_17 : decode cX5_readCond 17 = .ok (.if_icmp .ne 35, 3) := by decide +kernel
theorem dX5_readCond_20 : decode cX5_readCond 20 = .ok (.iload_n 3, 1) := by decide +kernel
theorem dX5_readCond_21 : decode cX5_readCond 21 = .ok (.sipush 400, 3) := by decide +kernel
theorem dX5_readCond_24 : decode cX5_readCond 24 = .ok (.if_icmp .ge 28, 3) := by decide +kernel
theorem dX5_readCond_27 : decode cX5_readCond 27 = .ok (.aload_n 0, 1) := by decide +kernel
theorem dX5_readCond_28 : decode cX5_readCond 28 = .ok (.getfield 9, 3) := by decide +kernel
theorem dX5_readCond_31 : decode cX5_readCond 31 = .ok (.invokevirtual 44, 3) := by decide +kernel
theorem dX5_readCond_34 : decode cX5_readCond 34 = .ok (.aload_n 0, 1) := by decide +kernel
theorem dX5_readCond_35 : decode cX5_readCond 35 = .ok (.aload_n 1, 1) := by decide +kernel
theorem dX5_readCond_36 : decode cX5_readCond 36 = .ok (.iload_n 2, 1) := by decide +kernel
theorem dX5_readCond_37 : decode cX5_readCond 37 = .ok (.invokevirtual 80, 3) := by decide +kernel
theorem dX5_readCond_40 : decode cX5_readCond 40 = .ok (.aload_n 1, 1) := by decide +kernel
theorem dX5_readCond_41 : decode cX5_readCond 41 = .ok (.bipush (-3), 2) := by decide +kernel
theorem dX5_readCond_43 : decode cX5_readCond 43 = .ok (.invokevirtual 77, 3) := by decide +kernel
theorem dX5_readCond_46 : decode cX5_readCond 46 = .ok (.iinc 3 1, 3) := by decide +kernel
theorem dX5_readCond_49 : decode cX5_readCond 49 = .ok (.goto (-41), 3) := by decide +kernel
theorem dX5_readCond_52 : decode cX5_readCond 52 = .ok (.return_, 1) := by decide +kernel
set_option maxRecDepth 100000 in
theorem ggX5_readAll_X5_readAtom : GoodIn wsX5_readAll wsX5_readAtom := (gi_cons 23 rfl rfl (gi_cons 1 rfl rfl (gi_cons 24 rfl rfl (gi_cons 25 rfl rfl (gi_cons 26 rfl rfl (gi_cons 9 rfl rfl (gi_cons 27 rfl rfl (gi_cons 11 rfl rfl (gi_cons 12 rfl rfl (gi_cons 28 rfl rfl (gi_cons 29 rfl rfl (gi_cons 15 rfl rfl (gi_cons 6 rfl rfl (gi_cons 7 rfl rfl (gi_cons 8 rfl rfl (gi_cons 10 rfl rfl (gi_cons 13 rfl rfl (gi_cons 14 rfl rfl (gi_cons 30 rfl rfl (gi_cons 31 rfl rfl (gi_cons 32 rfl rfl (gi_cons 5 rfl rfl (gi_cons 33 rfl rfl (gi_cons 34 rfl rfl (gi_cons 35 rfl rfl (gi_cons 36 rfl rfl (gi_cons 37 rfl rfl (gi_cons 38 rfl rfl (gi_cons 39 rfl rfl (gi_cons 40 rfl rfl (gi_cons 41 rfl rfl (gi_cons 42 rfl rfl (gi_cons 43 rfl rfl (gi_cons 44 rfl rfl (gi_cons 45 rfl rfl (gi_cons 46 rfl rfl (gi_cons 47 rfl rfl (gi_cons 48 rfl rfl (gi_cons 49 rfl rfl (gi_cons 50 rfl rfl (gi_cons 51 rfl rfl (gi_cons 52 rfl rfl (gi_cons 19 rfl rfl (gi_cons 53 rfl rfl (gi_cons 54 rfl rfl (gi_cons 55 rfl rfl (gi_cons 56 rfl rfl (gi_cons 57 rfl rfl (gi_cons 58 rfl rfl (gi_cons 59 rfl rfl (gi_cons 60 rfl rfl (gi_cons 61 rfl rfl (gi_cons 62 rfl rfl (gi_cons 63 rfl rfl (gi_cons 64 rfl rfl (gi_cons 65 rfl rfl (gi_cons 66 rfl rfl (gi_cons 67 rfl rfl (gi_cons 68 rfl rfl (gi_cons 69 rfl rfl (gi_cons 70 rfl rfl (gi_cons 71 rfl rfl (gi_cons 72 rfl rfl (gi_cons 73 rfl rfl (gi_cons 74 rfl rfl (gi_cons 17 rfl rfl (gi_cons 18 rfl rfl (gi_cons 20 rfl rfl (gi_cons 21 rfl rfl (gi_cons 22 rfl rfl (gi_cons 75 rfl rfl (gi_cons 76 rfl rfl (gi_cons 77 rfl rfl (gi_cons 78 rfl rfl (gi_cons 2 rfl rfl (gi_cons 3 rfl rfl (gi_cons 4 rfl rfl (gi_cons 16 rfl rfl (gi_cons 79 rfl rfl (gi_cons 80 rfl rfl (gi_cons 81 rfl rfl (gi_cons 0 rfl rfl (gi_cons 82 rfl rfl (gi_cons 83 rfl rfl (gi_cons 84 rfl rfl (gi_cons 85 rfl rfl (gi_cons 86 rfl rfl (gi_cons 87 rfl rfl (gi_cons 88 rfl rfl (gi_cons 89 rfl rfl (gi_cons 90 rfl rfl (gi_cons 91 rfl rfl (gi_cons 92 rfl rfl (gi_cons 93 rfl rfl (gi_cons 94 rfl rfl (gi_cons 95 rfl rfl (gi_cons 96 rfl rfl (gi_cons 97 rfl rfl (gi_cons 98 rfl rfl (gi_cons 99 rfl rfl (gi_cons 100 rfl rfl (gi_cons 101 rfl rfl (gi_cons 102 rfl rfl (gi_cons 103 rfl rfl (gi_cons 104 rfl rfl (gi_cons 105 rfl rfl (gi_cons 106 rfl rfl (gi_cons 107 rfl rfl (gi_cons 108 rfl rfl (gi_cons 109 rfl rfl gi_nil))))))))))))))))))))))))))))))))))))))))))))))))))))))))))))))))))))))))))))))))))))))))))))))))))))))))))))))
set_option maxRecDepth 20000 in
theorem gX5_readAll_X5_readAtom : GoodIn wsX5_readAll (wsV RX5 83 RX5 yX5_readAtom wsX5_readAtom) := goodIn_app (goodIn_of _ (by decide +kernel)) ggX5_readAll_X5_readAtom
set_option maxRecDepth 100000 in
theorem ggX5_readAll_X8_step : GoodIn wsX5_readAll wsX8_step := (gi_cons 10 rfl rfl (gi_cons 11 rfl rfl (gi_cons 12 rfl rfl (gi_cons 13 rfl rfl (gi_cons 14 rfl rfl (gi_cons 15 rfl rfl (gi_cons 87 rfl rfl (gi_cons 88 rfl rfl (gi_cons 89 rfl rfl (gi_cons 90 rfl rfl (gi_cons 91 rfl rfl (gi_cons 92 rfl rfl (gi_cons 93 rfl rfl (gi_cons 94 rfl rfl (gi_cons 95 rfl rfl gi_nil)))))))))))))))
set_option maxRecDepth 20000 in
theorem gX5_readAll_X8_step : GoodIn wsX5_readAll (wsV RX5 44 RX8 yX8_step wsX8_step) := goodIn_app (goodIn_of _ (by decide +kernel)) ggX5_readAll_X8_step
set_option maxRecDepth 100000 in
theorem ggX5_readAll_X4_addCode : GoodIn wsX5_readAll wsX4_addCode := (gi_cons 20 rfl rfl (gi_cons 21 rfl rfl (gi_cons 22 rfl rfl (gi_cons 96 rfl rfl (gi_cons 97 rfl rfl (gi_cons 98 rfl rfl (gi_cons 99 rfl rfl (gi_cons 100 rfl rfl (gi_cons 101 rfl rfl (gi_cons 102 rfl rfl (gi_cons 103 rfl rfl (gi_cons 104 rfl rfl (gi_cons 105 rfl rfl (gi_cons 106 rfl rfl (gi_cons 107 rfl rfl (gi_cons 108 rfl rfl (gi_cons 109 rfl rfl gi_nil)))))))))))))))))
set_option maxRecDepth 20000 in
theorem gX5_readAll_X4_addCode : GoodIn wsX5_readAll (wsV RX5 77 RX4 yX4_addCode wsX4_addCode) := goodIn_app (goodIn_of _ (by decide +kernel)) ggX5_readAll_X4_addCode
theorem dX5_readAll_0 : decode cX5_readAll 0 = .ok (.aload_n 0, 1) := by decide +kernel
theorem dX5_readAll_1 : decode cX5_readAll 1 = .ok (.aload_n 1, 1) := by decide +kernel
theorem dX5_readAll_2 : decode cX5_readAll 2 = .ok (.iload_n 2, 1) := by decide +kernel
theorem dX5_readAll_3 : decode cX5_readAll 3 = .ok (.invokevirtual 83, 3) := by decide +kernel
theorem dX5_readAll_6 : decode cX5_readAll 6 = .ok (.iconst 0, 1) := by decide +kernel
theorem dX5_readAll_7 : decode cX5_readAll 7 = .ok (.istore_n 3, 1) := by decide +kernel
theorem dX5_readAll_8 : decode cX5_readAll 8 = .ok (.aload_n 0, 1) := by decide +kernel
theorem dX5_readAll_9 : decode cX5_readAll 9 = .ok (.getfield 9, 3) := by decide +kernel
theorem dX5_readAll_12 : decode cX5_readAll 12 = .ok (.getfield 30, 3) := by decide +kernel
theorem dX5_readAll_15 : decode cX5_readAll 15 = .ok (.bipush 38, 2) := by decide +kernel
theorem dX5_readAll_17 : decode cX5_readAll 17 = .ok (.if_icmp .ne 35, 3) := by decide +kernel
theorem dX5_readAll_20 : decode cX5_readAll 20 = .ok (.iload_n 3, 1) := by decide +kernel
theorem dX5_readAll_21 : decode cX5_readAll 21 = .ok (.sipush 400, 3) := by decide +kernel
theorem dX5_readAll_24 : decode cX5_readAll 24 = .ok (.if_icmp .ge 28, 3) := by decide +kernel
theorem dX5_readAll_27 : decode cX5_readAll 27 = .ok (.aload_n 0, 1) := by decide +kernel
theorem dX5_readAll_28 : decode cX5_readAll 28 = .ok (.getfield 9, 3) := by decide +kernel
theorem dX5_readAll_31 : decode cX5_readAll 31 = .ok (.invokevirtual 44, 3) := by decide +kernel
theorem dX5_readAll_34 : decode cX5_readAll 34 = .ok (.aload_n 0, 1) := by decide +kernel
theorem dX5_readAll_35 : decode cX5_readAll 35 = .ok (.aload_n 1, 1) := by decide +kernel
theorem dX5_readAll_36 : decode cX5_readAll 36 = .ok (.iload_n 2, 1) := by decide +kernel
theorem dX5_readAll_37 : decode cX5_readAll 37 = .ok (.invokevirtual 83, 3) := by decide +kernel
theorem dX5_readAll_40 : decode cX5_readAll 40 = .ok (.aload_n 1, 1) := by decide +kernel
theorem dX5_readAll_41 : decode cX5_readAll 41 = .ok (.bipush (-2), 2) := by decide +kernel
theorem dX5_readAll_43 : decode cX5_readAll 43 = .ok (.invokevirtual 77, 3) := by decide +kernel
theorem dX5_readAll_46 : decode cX5_readAll 46 = .ok (.iinc 3 1, 3) := by decide +kernel
theorem dX5_readAll_49 : decode cX5_readAll 49 = .ok (.goto (-41), 3) := by decide +kernel
theorem dX5_readAll_52 : decode cX5_readAll 52 = .ok (.return_, 1) := by decide +kernel
set_option maxRecDepth 100000 in
theorem ggX5_readAtom_X8_fail : GoodIn wsX5_readAtom wsX8_fail := (gi_cons 6 rfl rfl (gi_cons 7 rfl rfl (gi_cons 8 rfl rfl (gi_cons 9 rfl rfl (gi_cons 10 rfl rfl (gi_cons 11 rfl rfl (gi_cons 87 rfl rfl (gi_cons 88 rfl rfl (gi_cons 89 rfl rfl (gi_cons 90 rfl rfl (gi_cons 91 rfl rfl (gi_cons 92 rfl rfl (gi_cons 93 rfl rfl (gi_cons 94 rfl rfl (gi_cons 95 rfl rfl gi_nil)))))))))))))))
set_option maxRecDepth 20000 in
theorem gX5_readAtom_X8_fail : GoodIn wsX5_readAtom (wsV RX5 37 RX8 yX8_fail wsX8_fail) := goodIn_app (goodIn_of _ (by decide +kernel)) ggX5_readAtom_X8_fail
set_option maxRecDepth 100000 in
theorem ggX5_readAtom_X8_step : GoodIn wsX5_readAtom wsX8_step := (gi_cons 15 rfl rfl (gi_cons 7 rfl rfl (gi_cons 8 rfl rfl (gi_cons 16 rfl rfl (gi_cons 17 rfl rfl (gi_cons 11 rfl rfl (gi_cons 87 rfl rfl (gi_cons 88 rfl rfl (gi_cons 89 rfl rfl (gi_cons 90 rfl rfl (gi_cons 91 rfl rfl (gi_cons 92 rfl rfl (gi_cons 93 rfl rfl (gi_cons 94 rfl rfl (gi_cons 95 rfl rfl gi_nil)))))))))))))))
set_option maxRecDepth 20000 in
theorem gX5_readAtom_X8_step : GoodIn wsX5_readAtom (wsV RX5 44 RX8 yX8_step wsX8_step) := goodIn_app (goodIn_of _ (by decide +kernel)) ggX5_readAtom_X8_step
set_option maxRecDepth 100000 in
theorem ggX5_readAtom_X5_readTest : GoodIn wsX5_readAtom wsX5_readTest := (gi_cons 22 rfl rfl (gi_cons 1 rfl rfl (gi_cons 12 rfl rfl (gi_cons 13 rfl rfl (gi_cons 14 rfl rfl (gi_cons 5 rfl rfl (gi_cons 15 rfl rfl (gi_cons 7 rfl rfl (gi_cons 8 rfl rfl (gi_cons 16 rfl rfl (gi_cons 17 rfl rfl (gi_cons 11 rfl rfl (gi_cons 23 rfl rfl (gi_cons 24 rfl rfl (gi_cons 25 rfl rfl (gi_cons 26 rfl rfl (gi_cons 27 rfl rfl (gi_cons 3 rfl rfl (gi_cons 4 rfl rfl (gi_cons 6 rfl rfl (gi_cons 9 rfl rfl (gi_cons 10 rfl rfl (gi_cons 28 rfl rfl (gi_cons 29 rfl rfl (gi_cons 30 rfl rfl (gi_cons 31 rfl rfl (gi_cons 32 rfl rfl (gi_cons 33 rfl rfl (gi_cons 34 rfl rfl (gi_cons 35 rfl rfl (gi_cons 36 rfl rfl (gi_cons 37 rfl rfl (gi_cons 38 rfl rfl (gi_cons 39 rfl rfl (gi_cons 40 rfl rfl (gi_cons 41 rfl rfl (gi_cons 42 rfl rfl (gi_cons 43 rfl rfl (gi_cons 44 rfl rfl (gi_cons 45 rfl rfl (gi_cons 46 rfl rfl (gi_cons 47 rfl rfl (gi_cons 48 rfl rfl (gi_cons 49 rfl rfl (gi_cons 50 rfl rfl (gi_cons 51 rfl rfl (gi_cons 52 rfl rfl (gi_cons 53 rfl rfl (gi_cons 54 rfl rfl (gi_cons 55 rfl rfl (gi_cons 56 rfl rfl (gi_cons 57 rfl rfl (gi_cons 58 rfl rfl (gi_cons 59 rfl rfl (gi_cons 60 rfl rfl (gi_cons 61 rfl rfl (gi_cons 62 rfl rfl (gi_cons 63 rfl rfl (gi_cons 64 rfl rfl (gi_cons 65 rfl rfl (gi_cons 66 rfl rfl (gi_cons 67 rfl rfl (gi_cons 68 rfl rfl (gi_cons 69 rfl rfl (gi_cons 70 rfl rfl (gi_cons 71 rfl rfl (gi_cons 72 rfl rfl (gi_cons 73 rfl rfl (gi_cons 86 rfl rfl (gi_cons 87 rfl rfl (gi_cons 88 rfl rfl (gi_cons 89 rfl rfl (gi_cons 90 rfl rfl (gi_cons 91 rfl rfl (gi_cons 92 rfl rfl (gi_cons 93 rfl rfl (gi_cons 94 rfl rfl (gi_cons 95 rfl rfl (gi_cons 96 rfl rfl (gi_cons 97 rfl rfl (gi_cons 98 rfl rfl (gi_cons 99 rfl rfl (gi_cons 100 rfl rfl (gi_cons 101 rfl rfl (gi_cons 102 rfl rfl (gi_cons 103 rfl rfl (gi_cons 104 rfl rfl (gi_cons 105 rfl rfl (gi_cons 106 rfl rfl (gi_cons 107 rfl rfl (gi_cons 108 rfl rfl (gi_cons 109 rfl rfl gi_nil))))))))))))))))))))))))))))))))))))))))))))))))))))))))))))))))))))))))))))))))))))))))))))
set_option maxRecDepth 20000 in
theorem gX5_readAtom_X5_readTest : GoodIn wsX5_readAtom (wsV RX5 89 RX5 yX5_readTest wsX5_readTest) := goodIn_app (goodIn_of _ (by decide +kernel)) ggX5_readAtom_X5_readTest
set_option maxRecDepth 100000 in
theorem ggX5_readAtom_X5_readAtom : GoodIn wsX5_readAtom wsX5_readAtom := (gi_cons 0 rfl rfl (gi_cons 1 rfl rfl (gi_cons 2 rfl rfl (gi_cons 3 rfl rfl (gi_cons 4 rfl rfl (gi_cons 5 rfl rfl (gi_cons 6 rfl rfl (gi_cons 7 rfl rfl (gi_cons 8 rfl rfl (gi_cons 9 rfl rfl (gi_cons 10 rfl rfl (gi_cons 11 rfl rfl (gi_cons 12 rfl rfl (gi_cons 13 rfl rfl (gi_cons 14 rfl rfl (gi_cons 15 rfl rfl (gi_cons 16 rfl rfl (gi_cons 17 rfl rfl (gi_cons 18 rfl rfl (gi_cons 19 rfl rfl (gi_cons 20 rfl rfl (gi_cons 21 rfl rfl (gi_cons 22 rfl rfl (gi_cons 23 rfl rfl (gi_cons 24 rfl rfl (gi_cons 25 rfl rfl (gi_cons 26 rfl rfl (gi_cons 27 rfl rfl (gi_cons 28 rfl rfl (gi_cons 29 rfl rfl (gi_cons 30 rfl rfl (gi_cons 31 rfl rfl (gi_cons 32 rfl rfl (gi_cons 33 rfl rfl (gi_cons 34 rfl rfl (gi_cons 35 rfl rfl (gi_cons 36 rfl rfl (gi_cons 37 rfl rfl (gi_cons 38 rfl rfl (gi_cons 39 rfl rfl (gi_cons 40 rfl rfl (gi_cons 41 rfl rfl (gi_cons 42 rfl rfl (gi_cons 43 rfl rfl (gi_cons 44 rfl rfl (gi_cons 45 rfl rfl (gi_cons 46 rfl rfl (gi_cons 47 rfl rfl (gi_cons 48 rfl rfl (gi_cons 49 rfl rfl (gi_cons 50 rfl rfl (gi_cons 51 rfl rfl (gi_cons 52 rfl rfl (gi_cons 53 rfl rfl (gi_cons 54 rfl rfl (gi_cons 55 rfl rfl (gi_cons 56 rfl rfl (gi_cons 57 rfl rfl (gi_cons 58 rfl rfl (gi_cons 59 rfl rfl (gi_cons 60 rfl rfl (gi_cons 61 rfl rfl (gi_cons 62 rfl rfl (gi_cons 63 rfl rfl (gi_cons 64 rfl rfl (gi_cons 65 rfl rfl (gi_cons 66 rfl rfl (gi_cons 67 rfl rfl (gi_cons 68 rfl rfl (gi_cons 69 rfl rfl (gi_cons 70 rfl rfl (gi_cons 71 rfl rfl (gi_cons 72 rfl rfl (gi_cons 73 rfl rfl (gi_cons 74 rfl rfl (gi_cons 75 rfl rfl (gi_cons 76 rfl rfl (gi_cons 77 rfl rfl (gi_cons 78 rfl rfl (gi_cons 79 rfl rfl (gi_cons 80 rfl rfl (gi_cons 81 rfl rfl (gi_cons 82 rfl rfl (gi_cons 83 rfl rfl (gi_cons 84 rfl rfl (gi_cons 85 rfl rfl (gi_cons 86 rfl rfl (gi_cons 87 rfl rfl (gi_cons 88 rfl rfl (gi_cons 89 rfl rfl (gi_cons 90 rfl rfl (gi_cons 91 rfl rfl (gi_cons 92 rfl rfl (gi_cons 93 rfl rfl (gi_cons 94 rfl rfl (gi_cons 95 rfl rfl (gi_cons 96 rfl rfl (gi_cons 97 rfl rfl (gi_cons 98 rfl rfl (gi_cons 99 rfl rfl (gi_cons 100 rfl rfl (gi_cons 101 rfl rfl (gi_cons 102 rfl rfl (gi_cons 103 rfl rfl (gi_cons 104 rfl rfl (gi_cons 105 rfl rfl (gi_cons 106 rfl rfl (gi_cons 107 rfl rfl (gi_cons 108 rfl rfl (gi_cons 109 rfl rfl gi_nil))))))))))))))))))))))))))))))))))))))))))))))))))))))))))))))))))))))))))))))))))))))))))))))))))))))))))))))
set_option maxRecDepth 20000 in
theorem gX5_readAtom_X5_readAtom : GoodIn wsX5_readAtom (wsV RX5 83 RX5 yX5_readAtom wsX5_readAtom) := goodIn_app (goodIn_of _ (by decide +kernel)) ggX5_readAtom_X5_readAtom
set_option maxRecDepth 100000 in
theorem ggX5_readAtom_X4_addCode : GoodIn wsX5_readAtom wsX4_addCode := (gi_cons 67 rfl rfl (gi_cons 68 rfl rfl (gi_cons 69 rfl rfl (gi_cons 96 rfl rfl (gi_cons 97 rfl rfl (gi_cons 98 rfl rfl (gi_cons 99 rfl rfl (gi_cons 100 rfl rfl (gi_cons 101 rfl rfl (gi_cons 102 rfl rfl (gi_cons 103 rfl rfl (gi_cons 104 rfl rfl (gi_cons 105 rfl rfl (gi_cons 106 rfl rfl (gi_cons 107 rfl rfl (gi_cons 108 rfl rfl (gi_cons 109 rfl rfl gi_nil)))))))))))))))))
set_option maxRecDepth 20000 in
theorem gX5_readAtom_X4_addCode : GoodIn wsX5_readAtom (wsV RX5 77 RX4 yX4_addCode wsX4_addCode) := goodIn_app (goodIn_of _ (by decide +kernel)) ggX5_readAtom_X4_addCode
set_option maxRecDepth 100000 in
theorem ggX5_readAtom_X5_readCond : GoodIn wsX5_readAtom wsX5_readCond := (gi_cons 82 rfl rfl (gi_cons 1 rfl rfl (gi_cons 83 rfl rfl (gi_cons 84 rfl rfl (gi_cons 85 rfl rfl (gi_cons 21 rfl rfl (gi_cons 12 rfl rfl (gi_cons 13 rfl rfl (gi_cons 14 rfl rfl (gi_cons 5 rfl rfl (gi_cons 15 rfl rfl (gi_cons 7 rfl rfl (gi_cons 8 rfl rfl (gi_cons 16 rfl rfl (gi_cons 17 rfl rfl (gi_cons 11 rfl rfl (gi_cons 77 rfl rfl (gi_cons 65 rfl rfl (gi_cons 66 rfl rfl (gi_cons 42 rfl rfl (gi_cons 67 rfl rfl (gi_cons 68 rfl rfl (gi_cons 69 rfl rfl (gi_cons 81 rfl rfl (gi_cons 74 rfl rfl (gi_cons 75 rfl rfl (gi_cons 76 rfl rfl (gi_cons 0 rfl rfl (gi_cons 2 rfl rfl (gi_cons 3 rfl rfl (gi_cons 4 rfl rfl (gi_cons 6 rfl rfl (gi_cons 9 rfl rfl (gi_cons 10 rfl rfl (gi_cons 18 rfl rfl (gi_cons 19 rfl rfl (gi_cons 20 rfl rfl (gi_cons 22 rfl rfl (gi_cons 23 rfl rfl (gi_cons 24 rfl rfl (gi_cons 25 rfl rfl (gi_cons 26 rfl rfl (gi_cons 27 rfl rfl (gi_cons 28 rfl rfl (gi_cons 29 rfl rfl (gi_cons 30 rfl rfl (gi_cons 31 rfl rfl (gi_cons 32 rfl rfl (gi_cons 33 rfl rfl (gi_cons 34 rfl rfl (gi_cons 35 rfl rfl (gi_cons 36 rfl rfl (gi_cons 37 rfl rfl (gi_cons 38 rfl rfl (gi_cons 39 rfl rfl (gi_cons 40 rfl rfl (gi_cons 41 rfl rfl (gi_cons 43 rfl rfl (gi_cons 44 rfl rfl (gi_cons 45 rfl rfl (gi_cons 46 rfl rfl (gi_cons 47 rfl rfl (gi_cons 48 rfl rfl (gi_cons 49 rfl rfl (gi_cons 50 rfl rfl (gi_cons 51 rfl rfl (gi_cons 52 rfl rfl (gi_cons 53 rfl rfl (gi_cons 54 rfl rfl (gi_cons 55 rfl rfl (gi_cons 56 rfl rfl (gi_cons 57 rfl rfl (gi_cons 58 rfl rfl (gi_cons 59 rfl rfl (gi_cons 60 rfl rfl (gi_cons 61 rfl rfl (gi_cons 62 rfl rfl (gi_cons 63 rfl rfl (gi_cons 64 rfl rfl (gi_cons 70 rfl rfl (gi_cons 71 rfl rfl (gi_cons 72 rfl rfl (gi_cons 73 rfl rfl (gi_cons 78 rfl rfl (gi_cons 79 rfl rfl (gi_cons 80 rfl rfl (gi_cons 86 rfl rfl (gi_cons 87 rfl rfl (gi_cons 88 rfl rfl (gi_cons 89 rfl rfl (gi_cons 90 rfl rfl (gi_cons 91 rfl rfl (gi_cons 92 rfl rfl (gi_cons 93 rfl rfl (gi_cons 94 rfl rfl (gi_cons 95 rfl rfl (gi_cons 96 rfl rfl (gi_cons 97 rfl rfl (gi_cons 98 rfl rfl (gi_cons 99 rfl rfl (gi_cons 100 rfl rfl (gi_cons 101 rfl rfl (gi_cons 102 rfl rfl (gi_cons 103 rfl rfl (gi_cons 104 rfl rfl (gi_cons 105 rfl rfl (gi_cons 106 rfl rfl (gi_cons 107 rfl rfl (gi_cons 108 rfl rfl (gi_cons 109 rfl rfl gi_nil))))))))))))))))))))))))))))))))))))))))))))))))))))))))))))))))))))))))))))))))))))))))))))))))))))))))))))))
set_option maxRecDepth 20000 in
theorem gX5_readAtom_X5_readCond : GoodIn wsX5_readAtom (wsV RX5 73 RX5 yX5_readCond wsX5_readCond) := goodIn_app (goodIn_of _ (by decide +kernel)) ggX5_readAtom_X5_readCond
set_option maxRecDepth 100000 in
theorem ggX5_readAtom_X8_expect : GoodIn wsX5_readAtom wsX8_expect := (gi_cons 54 rfl rfl (gi_cons 11 rfl rfl (gi_cons 38 rfl rfl (gi_cons 13 rfl rfl (gi_cons 14 rfl rfl (gi_cons 5 rfl rfl (gi_cons 15 rfl rfl (gi_cons 7 rfl rfl (gi_cons 8 rfl rfl (gi_cons 16 rfl rfl (gi_cons 17 rfl rfl (gi_cons 27 rfl rfl (gi_cons 3 rfl rfl (gi_cons 4 rfl rfl (gi_cons 6 rfl rfl (gi_cons 9 rfl rfl (gi_cons 10 rfl rfl (gi_cons 87 rfl rfl (gi_cons 88 rfl rfl (gi_cons 89 rfl rfl (gi_cons 90 rfl rfl (gi_cons 91 rfl rfl (gi_cons 92 rfl rfl (gi_cons 93 rfl rfl (gi_cons 94 rfl rfl (gi_cons 95 rfl rfl gi_nil))))))))))))))))))))))))))
set_option maxRecDepth 20000 in
theorem gX5_readAtom_X8_expect : GoodIn wsX5_readAtom (wsV RX5 67 RX8 yX8_expect wsX8_expect) := goodIn_app (goodIn_of _ (by decide +kernel)) ggX5_readAtom_X8_expect
theorem dX5_readAtom_0 : decode cX5_readAtom 0 = .ok (.aload_n 0, 1) := by decide +kernel
theorem dX5_readAtom_1 : decode cX5_readAtom 1 = .ok (.getfield 9, 3) := by decide +kernel
theorem dX5_readAtom_4 : decode cX5_readAtom 4 = .ok (.getfield 30, 3) := by decide +kernel
theorem dX5_readAtom_7 : decode cX5_readAtom 7 = .ok (.istore_n 3, 1) := by decide +kernel
theorem dX5_readAtom_8 : decode cX5_readAtom 8 = .ok (.iload_n 3, 1) := by decide +kernel
theorem dX5_readAtom_9 : decode cX5_readAtom 9 = .ok (.bipush 33, 2) := by decide +kernel
theorem dX5_readAtom_11 : decode cX5_readAtom 11 = .ok (.if_icmp .eq 26, 3) := by decide +kernel
theorem dX5_readAtom_14 : decode cX5_readAtom 14 = .ok (.iload_n 3, 1) := by decide +kernel
theorem dX5_readAtom_15 : decode cX5_readAtom 15 = .ok (.bipush 40, 2) := by decide +kernel
theorem dX5_readAtom_17 : decode cX5_readAtom 17 = .ok (.if_icmp .eq 20, 3) := by decide +kernel
theorem dX5_readAtom_20 : decode cX5_readAtom 20 = .ok (.iload_n 3, 1) := by decide +kernel
theorem dX5_readAtom_21 : decode cX5_readAtom 21 = .ok (.bipush 64, 2) := by decide +kernel
theorem dX5_readAtom_23 : decode cX5_readAtom 23 = .ok (.if_icmp .eq 14, 3) := by decide +kernel
theorem dX5_readAtom_26 : decode cX5_readAtom 26 = .ok (.aload_n 0, 1) := by decide +kernel
theorem dX5_readAtom_27 : decode cX5_readAtom 27 = .ok (.getfield 9, 3) := by decide +kernel
theorem dX5_readAtom_30 : decode cX5_readAtom 30 = .ok (.iconst 1, 1) := by decide +kernel
theorem dX5_readAtom_31 : decode cX5_readAtom 31 = .ok (.invokevirtual 37, 3) := by decide +kernel
theorem dX5_readAtom_34 : decode cX5_readAtom 34 = .ok (.goto 98, 3) := by decide +kernel
theorem dX5_readAtom_37 : decode cX5_readAtom 37 = .ok (.iload_n 3, 1) := by decide +kernel
theorem dX5_readAtom_38 : decode cX5_readAtom 38 = .ok (.bipush 64, 2) := by decide +kernel
theorem dX5_readAtom_40 : decode cX5_readAtom 40 = .ok (.if_icmp .ne 15, 3) := by decide +kernel
theorem dX5_readAtom_43 : decode cX5_readAtom 43 = .ok (.aload_n 1, 1) := by decide +kernel
theorem dX5_readAtom_44 : decode cX5_readAtom 44 = .ok (.getfield 86, 3) := by decide +kernel
theorem dX5_readAtom_47 : decode cX5_readAtom 47 = .ok (.bipush 12, 2) := by decide +kernel
theorem dX5_readAtom_49 : decode cX5_readAtom 49 = .ok (.if_icmp .lt 22, 3) := by decide +kernel
theorem dX5_readAtom_52 : decode cX5_readAtom 52 = .ok (.goto 8, 3) := by decide +kernel
theorem dX5_readAtom_55 : decode cX5_readAtom 55 = .ok (.iload_n 2, 1) := by decide +kernel
theorem dX5_readAtom_56 : decode cX5_readAtom 56 = .ok (.iconst 5, 1) := by decide +kernel
theorem dX5_readAtom_57 : decode cX5_readAtom 57 = .ok (.if_icmp .lt 14, 3) := by decide +kernel
theorem dX5_readAtom_60 : decode cX5_readAtom 60 = .ok (.aload_n 0, 1) := by decide +kernel
theorem dX5_readAtom_61 : decode cX5_readAtom 61 = .ok (.getfield 9, 3) := by decide +kernel
theorem dX5_readAtom_64 : decode cX5_readAtom 64 = .ok (.iconst 2, 1) := by decide +kernel
theorem dX5_readAtom_65 : decode cX5_readAtom 65 = .ok (.invokevirtual 37, 3) := by decide +kernel
theorem dX5_readAtom_68 : decode cX5_readAtom 68 = .ok (.goto 64, 3) := by decide +kernel
theorem dX5_readAtom_71 : decode cX5_readAtom 71 = .ok (.aload_n 0, 1) := by decide +kernel
theorem dX5_readAtom_72 : decode cX5_readAtom 72 = .ok (.getfield 9, 3) := by decide +kernel
theorem dX5_readAtom_75 : decode cX5_readAtom 75 = .ok (.invokevirtual 44, 3) := by decide +kernel
theorem dX5_readAtom_78 : decode cX5_readAtom 78 = .ok (.iload_n 3, 1) := by decide +kernel
theorem dX5_readAtom_79 : decode cX5_readAtom 79 = .ok (.bipush 64, 2) := by decide +kernel
theorem dX5_readAtom_81 : decode cX5_readAtom 81 = .ok (.if_icmp .ne 11, 3) := by decide +kernel
theorem dX5_readAtom_84 : decode cX5_readAtom 84 = .ok (.aload_n 0, 1) := by decide +kernel
theorem dX5_readAtom_85 : decode cX5_readAtom 85 = .ok (.aload_n 1, 1) := by decide +kernel
theorem dX5_readAtom_86 : decode cX5_readAtom 86 = .ok (.invokevirtual 89, 3) := by decide +kernel
theorem dX5_readAtom_89 : decode cX5_readAtom 89 = .ok (.goto 43, 3) := by decide +kernel
theorem dX5_readAtom_92 : decode cX5_readAtom 92 = .ok (.iload_n 3, 1) := by decide +kernel
theorem dX5_readAtom_93 : decode cX5_readAtom 93 = .ok (.bipush 33, 2) := by decide +kernel
theorem dX5_readAtom_95 : decode cX5_readAtom 95 = .ok (.if_icmp .ne 20, 3) := by decide +kernel
theorem dX5_readAtom_98 : decode cX5_readAtom 98 = .ok (.aload_n 0, 1) := by decide +kernel
theorem dX5_readAtom_99 : decode cX5_readAtom 99 = .ok (.aload_n 1, 1) := by decide +kernel
theorem dX5_readAtom_100 : decode cX5_readAtom 100 = .ok (.iload_n 2, 1) := by decide +kernel
theorem dX5_readAtom_101 : decode cX5_readAtom 101 = .ok (.iconst 1, 1) := by decide +kernel
theorem dX5_readAtom_102 : decode cX5_readAtom 102 = .ok (.iadd, 1) := by decide +kernel
theorem dX5_readAtom_103 : decode cX5_readAtom 103 = .ok (.invokevirtual 83, 3) := by decide +kernel
theorem dX5_readAtom_106 : decode cX5_readAtom 106 = .ok (.aload_n 1, 1) := by decide +kernel
theorem dX5_readAtom_107 : decode cX5_readAtom 107 = .ok (.bipush (-4), 2) := by decide +kernel
theorem dX5_readAtom_109 : decode cX5_readAtom 109 = .ok (.invokevirtual 77, 3) := by decide +kernel
theorem dX5_readAtom_112 : decode cX5_readAtom 112 = .ok (.goto 20, 3) := by decide +kernel
theorem dX5_readAtom_115 : decode cX5_readAtom 115 = .ok (.aload_n 0, 1) := by decide +kernel
theorem dX5_readAtom_116 : decode cX5_readAtom 116 = .ok (.aload_n 1, 1) := by decide +kernel
theorem dX5_readAtom_117 : decode cX5_readAtom 117 = .ok (.iload_n 2, 1) := by decide +kernel
theorem dX5_readAtom_118 : decode cX5_readAtom 118 = .ok (.iconst 1, 1) := by decide +kernel
theorem dX5_readAtom_119 : decode cX5_readAtom 119 = .ok (.iadd, 1) := by decide +kernel
theorem dX5_readAtom_120 : decode cX5_readAtom 120 = .ok (.invokevirtual 73, 3) := by decide +kernel
theorem dX5_readAtom_123 : decode cX5_readAtom 123 = .ok (.aload_n 0, 1) := by decide +kernel
theorem dX5_readAtom_124 : decode cX5_readAtom 124 = .ok (.getfield 9, 3) := by decide +kernel
theorem dX5_readAtom_127 : decode cX5_readAtom 127 = .ok (.bipush 41, 2) := by decide +kernel
theorem dX5_readAtom_129 : decode cX5_readAtom 129 = .ok (.invokevirtual 67, 3) := by decide +kernel
theorem dX5_readAtom_132 : decode cX5_readAtom 132 = .ok (.return_, 1) := by decide +kernel
set_option maxRecDepth 100000 in
theorem ggX5_readTest_X8_step : GoodIn wsX5_readTest wsX8_step := (gi_cons 6 rfl rfl (gi_cons 7 rfl rfl (gi_cons 8 rfl rfl (gi_cons 9 rfl rfl (gi_cons 10 rfl rfl (gi_cons 11 rfl rfl (gi_cons 69 rfl rfl (gi_cons 70 rfl rfl (gi_cons 71 rfl rfl (gi_cons 72 rfl rfl (gi_cons 73 rfl rfl (gi_cons 74 rfl rfl (gi_cons 75 rfl rfl (gi_cons 76 rfl rfl (gi_cons 77 rfl rfl gi_nil)))))))))))))))
set_option maxRecDepth 20000 in
theorem gX5_readTest_X8_step : GoodIn wsX5_readTest (wsV RX5 44 RX8 yX8_step wsX8_step) := goodIn_app (goodIn_of _ (by decide +kernel)) ggX5_readTest_X8_step
set_option maxRecDepth 100000 in
theorem ggX5_readTest_X8_takeLetters : GoodIn wsX5_readTest wsX8_takeLetters := (gi_cons 15 rfl rfl (gi_cons 11 rfl rfl (gi_cons 16 rfl rfl (gi_cons 17 rfl rfl (gi_cons 18 rfl rfl (gi_cons 5 rfl rfl (gi_cons 19 rfl rfl (gi_cons 7 rfl rfl (gi_cons 8 rfl rfl (gi_cons 20 rfl rfl (gi_cons 21 rfl rfl (gi_cons 22 rfl rfl (gi_cons 23 rfl rfl (gi_cons 24 rfl rfl (gi_cons 25 rfl rfl (gi_cons 26 rfl rfl (gi_cons 27 rfl rfl (gi_cons 28 rfl rfl (gi_cons 29 rfl rfl (gi_cons 30 rfl rfl (gi_cons 31 rfl rfl (gi_cons 32 rfl rfl (gi_cons 3 rfl rfl (gi_cons 4 rfl rfl (gi_cons 6 rfl rfl (gi_cons 9 rfl rfl (gi_cons 10 rfl rfl (gi_cons 69 rfl rfl (gi_cons 70 rfl rfl (gi_cons 71 rfl rfl (gi_cons 72 rfl rfl (gi_cons 73 rfl rfl (gi_cons 74 rfl rfl (gi_cons 75 rfl rfl (gi_cons 76 rfl rfl (gi_cons 77 rfl rfl gi_nil))))))))))))))))))))))))))))))))))))
set_option maxRecDepth 20000 in
theorem gX5_readTest_X8_takeLetters : GoodIn wsX5_readTest (wsV RX5 60 RX8 yX8_takeLetters wsX8_takeLetters) := goodIn_app (goodIn_of _ (by decide +kernel)) ggX5_readTest_X8_takeLetters
set_option maxRecDepth 100000 in
theorem ggX5_readTest_X4_addLittle : GoodIn wsX5_readTest wsX4_addLittle := (gi_cons 37 rfl rfl (gi_cons 38 rfl rfl (gi_cons 39 rfl rfl (gi_cons 40 rfl rfl (gi_cons 78 rfl rfl (gi_cons 79 rfl rfl (gi_cons 80 rfl rfl (gi_cons 81 rfl rfl (gi_cons 82 rfl rfl (gi_cons 83 rfl rfl (gi_cons 84 rfl rfl (gi_cons 85 rfl rfl (gi_cons 86 rfl rfl (gi_cons 87 rfl rfl (gi_cons 88 rfl rfl (gi_cons 89 rfl rfl (gi_cons 90 rfl rfl (gi_cons 91 rfl rfl gi_nil))))))))))))))))))
set_option maxRecDepth 20000 in
theorem gX5_readTest_X4_addLittle : GoodIn wsX5_readTest (wsV RX5 92 RX4 yX4_addLittle wsX4_addLittle) := goodIn_app (goodIn_of _ (by decide +kernel)) ggX5_readTest_X4_addLittle
set_option maxRecDepth 100000 in
theorem ggX5_readTest_X8_takeNumber : GoodIn wsX5_readTest wsX8_takeNumber := (gi_cons 44 rfl rfl (gi_cons 11 rfl rfl (gi_cons 32 rfl rfl (gi_cons 3 rfl rfl (gi_cons 4 rfl rfl (gi_cons 5 rfl rfl (gi_cons 6 rfl rfl (gi_cons 7 rfl rfl (gi_cons 8 rfl rfl (gi_cons 9 rfl rfl (gi_cons 10 rfl rfl (gi_cons 16 rfl rfl (gi_cons 17 rfl rfl (gi_cons 18 rfl rfl (gi_cons 19 rfl rfl (gi_cons 20 rfl rfl (gi_cons 21 rfl rfl (gi_cons 22 rfl rfl (gi_cons 23 rfl rfl (gi_cons 24 rfl rfl (gi_cons 25 rfl rfl (gi_cons 26 rfl rfl (gi_cons 27 rfl rfl (gi_cons 28 rfl rfl (gi_cons 29 rfl rfl (gi_cons 30 rfl rfl (gi_cons 31 rfl rfl (gi_cons 69 rfl rfl (gi_cons 70 rfl rfl (gi_cons 71 rfl rfl (gi_cons 72 rfl rfl (gi_cons 73 rfl rfl (gi_cons 74 rfl rfl (gi_cons 75 rfl rfl (gi_cons 76 rfl rfl (gi_cons 77 rfl rfl gi_nil))))))))))))))))))))))))))))))))))))
set_option maxRecDepth 20000 in
theorem gX5_readTest_X8_takeNumber : GoodIn wsX5_readTest (wsV RX5 64 RX8 yX8_takeNumber wsX8_takeNumber) := goodIn_app (goodIn_of _ (by decide +kernel)) ggX5_readTest_X8_takeNumber
set_option maxRecDepth 100000 in
theorem ggX5_readTest_X8_expect : GoodIn wsX5_readTest wsX8_expect := (gi_cons 48 rfl rfl (gi_cons 11 rfl rfl (gi_cons 32 rfl rfl (gi_cons 3 rfl rfl (gi_cons 4 rfl rfl (gi_cons 5 rfl rfl (gi_cons 6 rfl rfl (gi_cons 7 rfl rfl (gi_cons 8 rfl rfl (gi_cons 9 rfl rfl (gi_cons 10 rfl rfl (gi_cons 16 rfl rfl (gi_cons 17 rfl rfl (gi_cons 18 rfl rfl (gi_cons 19 rfl rfl (gi_cons 20 rfl rfl (gi_cons 21 rfl rfl (gi_cons 69 rfl rfl (gi_cons 70 rfl rfl (gi_cons 71 rfl rfl (gi_cons 72 rfl rfl (gi_cons 73 rfl rfl (gi_cons 74 rfl rfl (gi_cons 75 rfl rfl (gi_cons 76 rfl rfl (gi_cons 77 rfl rfl gi_nil))))))))))))))))))))))))))
set_option maxRecDepth 20000 in
theorem gX5_readTest_X8_expect : GoodIn wsX5_readTest (wsV RX5 67 RX8 yX8_expect wsX8_expect) := goodIn_app (goodIn_of _ (by decide +kernel)) ggX5_readTest_X8_expect
set_option maxRecDepth 100000 in
theorem ggX5_readTest_X4_addTest : GoodIn wsX5_readTest wsX4_addTest := (gi_cons 52 rfl rfl (gi_cons 53 rfl rfl (gi_cons 54 rfl rfl (gi_cons 38 rfl rfl (gi_cons 55 rfl rfl (gi_cons 56 rfl rfl (gi_cons 57 rfl rfl (gi_cons 58 rfl rfl (gi_cons 59 rfl rfl (gi_cons 60 rfl rfl (gi_cons 36 rfl rfl (gi_cons 61 rfl rfl (gi_cons 62 rfl rfl (gi_cons 63 rfl rfl (gi_cons 78 rfl rfl (gi_cons 79 rfl rfl (gi_cons 80 rfl rfl (gi_cons 81 rfl rfl (gi_cons 82 rfl rfl (gi_cons 83 rfl rfl (gi_cons 84 rfl rfl (gi_cons 85 rfl rfl (gi_cons 86 rfl rfl (gi_cons 87 rfl rfl (gi_cons 88 rfl rfl (gi_cons 89 rfl rfl (gi_cons 90 rfl rfl (gi_cons 91 rfl rfl gi_nil))))))))))))))))))))))))))))
set_option maxRecDepth 20000 in
theorem gX5_readTest_X4_addTest : GoodIn wsX5_readTest (wsV RX5 96 RX4 yX4_addTest wsX4_addTest) := goodIn_app (goodIn_of _ (by decide +kernel)) ggX5_readTest_X4_addTest
set_option maxRecDepth 100000 in
theorem ggX5_readTest_X10_firstLetterHighest : GoodIn wsX5_readTest wsX10_firstLetterHighest := (gi_cons 66 rfl rfl (gi_cons 67 rfl rfl gi_nil))
set_option maxRecDepth 20000 in
theorem gX5_readTest_X10_firstLetterHighest_n99 : GoodIn wsX5_readTest (wsX10_firstLetterHighest) := ggX5_readTest_X10_firstLetterHighest
theorem dX5_readTest_0 : decode cX5_readTest 0 = .ok (.iconst 0, 1) := by decide +kernel
theorem dX5_readTest_1 : decode cX5_readTest 1 = .ok (.istore_n 2, 1) := by decide +kernel
theorem dX5_readTest_2 : decode cX5_readTest 2 = .ok (.aload_n 0, 1) := by decide +kernel
theorem dX5_readTest_3 : decode cX5_readTest 3 = .ok (.getfield 9, 3) := by decide +kernel
theorem dX5_readTest_6 : decode cX5_readTest 6 = .ok (.getfield 30, 3) := by decide +kernel
theorem dX5_readTest_9 : decode cX5_readTest 9 = .ok (.bipush 46, 2) := by decide +kernel
theorem dX5_readTest_11 : decode cX5_readTest 11 = .ok (.if_icmp .eq 15, 3) := by decide +kernel
theorem dX5_readTest_14 : decode cX5_readTest 14 = .ok (.aload_n 0, 1) := by decide +kernel
theorem dX5_readTest_15 : decode cX5_readTest 15 = .ok (.getfield 9, 3) := by decide +kernel
theorem dX5_readTest_18 : decode cX5_readTest 18 = .ok (.getfield 30, 3) := by decide +kernel
theorem dX5_readTest_21 : decode cX5_readTest 21 = .ok (.bipush 91, 2) := by decide +kernel
theorem dX5_readTest_23 : decode cX5_readTest 23 = .ok (.if_icmp .ne 81, 3) := by decide +kernel
theorem dX5_readTest_26 : decode cX5_readTest 26 = .ok (.iload_n 2, 1) := by decide +kernel
theorem dX5_readTest_27 : decode cX5_readTest 27 = .ok (.sipush 400, 3) := by decide +kernel
theorem dX5_readTest_30 : decode cX5_readTest 30 = .ok (.if_icmp .ge 74, 3) := by decide +kernel
theorem dX5_readTest_33 : decode cX5_readTest 33 = .ok (.aload_n 0, 1) := by decide +kernel
theorem dX5_readTest_34 : decode cX5_readTest 34 = .ok (.getfield 9, 3) := by decide +kernel
theorem dX5_readTest_37 : decode cX5_readTest 37 = .ok (.getfield 30, 3) := by decide +kernel
theorem dX5_readTest_40 : decode cX5_readTest 40 = .ok (.bipush 46, 2) := by decide +kernel
theorem dX5_readTest_42 : decode cX5_readTest 42 = .ok (.if_icmp .ne 7, 3) := by decide +kernel
theorem dX5_readTest_45 : decode cX5_readTest 45 = .ok (.iconst 1, 1) := by decide +kernel
theorem dX5_readTest_46 : decode cX5_readTest 46 = .ok (.goto 4, 3) := by decide +kernel
theorem dX5_readTest_49 : decode cX5_readTest 49 = .ok (.iconst 0, 1) := by decide +kernel
theorem dX5_readTest_50 : decode cX5_readTest 50 = .ok (.istore_n 3, 1) := by decide +kernel
theorem dX5_readTest_51 : decode cX5_readTest 51 = .ok (.aload_n 0, 1) := by decide +kernel
theorem dX5_readTest_52 : decode cX5_readTest 52 = .ok (.getfield 9, 3) := by decide +kernel
theorem dX5_readTest_55 : decode cX5_readTest 55 = .ok (.invokevirtual 44, 3) := by decide +kernel
theorem dX5_readTest_58 : decode cX5_readTest 58 = .ok (.iload_n 3, 1) := by decide +kernel
theorem dX5_readTest_59 : decode cX5_readTest 59 = .ok (.ifCond .eq 18, 3) := by decide +kernel
theorem dX5_readTest_62 : decode cX5_readTest 62 = .ok (.aload_n 1, 1) := by decide +kernel
theorem dX5_readTest_63 : decode cX5_readTest 63 = .ok (.iconst 1, 1) := by decide +kernel
theorem dX5_readTest_64 : decode cX5_readTest 64 = .ok (.aload_n 0, 1) := by decide +kernel
theorem dX5_readTest_65 : decode cX5_readTest 65 = .ok (.getfield 9, 3) := by decide +kernel
theorem dX5_readTest_68 : decode cX5_readTest 68 = .ok (.invokevirtual 60, 3) := by decide +kernel
theorem dX5_readTest_71 : decode cX5_readTest 71 = .ok (.invokevirtual 92, 3) := by decide +kernel
theorem dX5_readTest_74 : decode cX5_readTest 74 = .ok (.goto 24, 3) := by decide +kernel
theorem dX5_readTest_77 : decode cX5_readTest 77 = .ok (.aload_n 1, 1) := by decide +kernel
theorem dX5_readTest_78 : decode cX5_readTest 78 = .ok (.iconst 0, 1) := by decide +kernel
theorem dX5_readTest_79 : decode cX5_readTest 79 = .ok (.aload_n 0, 1) := by decide +kernel
theorem dX5_readTest_80 : decode cX5_readTest 80 = .ok (.getfield 9, 3) := by decide +kernel
theorem dX5_readTest_83 : decode cX5_readTest 83 = .ok (.invokevirtual 64, 3) := by decide +kernel
theorem dX5_readTest_86 : decode cX5_readTest 86 = .ok (.invokevirtual 92, 3) := by decide +kernel
theorem dX5_readTest_89 : decode cX5_readTest 89 = .ok (.aload_n 0, 1) := by decide +kernel
theorem dX5_readTest_90 : decode cX5_readTest 90 = .ok (.getfield 9, 3) := by decide +kernel
theorem dX5_readTest_93 : decode cX5_readTest 93 = .ok (.bipush 93, 2) := by decide +kernel
theorem dX5_readTest_95 : decode cX5_readTest 95 = .ok (.invokevirtual 67, 3) := by decide +kernel
theorem dX5_readTest_98 : decode cX5_readTest 98 = .ok (.iinc 2 1, 3) := by decide +kernel
theorem dX5_readTest_101 : decode cX5_readTest 101 = .ok (.goto (-99), 3) := by decide +kernel
theorem dX5_readTest_104 : decode cX5_readTest 104 = .ok (.aload_n 0, 1) := by decide +kernel
theorem dX5_readTest_105 : decode cX5_readTest 105 = .ok (.getfield 9, 3) := by decide +kernel
theorem dX5_readTest_108 : decode cX5_readTest 108 = .ok (.getfield 30, 3) := by decide +kernel
theorem dX5_readTest_111 : decode cX5_readTest 111 = .ok (.istore_n 2, 1) := by decide +kernel
theorem dX5_readTest_112 : decode cX5_readTest 112 = .ok (.iload_n 2, 1) := by decide +kernel
theorem dX5_readTest_113 : decode cX5_readTest 113 = .ok (.bipush 61, 2) := by decide +kernel
theorem dX5_readTest_115 : decode cX5_readTest 115 = .ok (.if_icmp .eq 23, 3) := by decide +kernel
theorem dX5_readTest_118 : decode cX5_readTest 118 = .ok (.iload_n 2, 1) := by decide +kernel
theorem dX5_readTest_119 : decode cX5_readTest 119 = .ok (.bipush 60, 2) := by decide +kernel
theorem dX5_readTest_121 : decode cX5_readTest 121 = .ok (.if_icmp .eq 17, 3) := by decide +kernel
theorem dX5_readTest_124 : decode cX5_readTest 124 = .ok (.iload_n 2, 1) := by decide +kernel
theorem dX5_readTest_125 : decode cX5_readTest 125 = .ok (.bipush 62, 2) := by decide +kernel
theorem dX5_readTest_127 : decode cX5_readTest 127 = .ok (.if_icmp .eq 11, 3) := by decide +kernel
theorem dX5_readTest_130 : decode cX5_readTest 130 = .ok (.aload_n 1, 1) := by decide +kernel
theorem dX5_readTest_131 : decode cX5_readTest 131 = .ok (.iconst 0, 1) := by decide +kernel
theorem dX5_readTest_132 : decode cX5_readTest 132 = .ok (.iconst (-1), 1) := by decide +kernel
theorem dX5_readTest_133 : decode cX5_readTest 133 = .ok (.iconst 0, 1) := by decide +kernel
theorem dX5_readTest_134 : decode cX5_readTest 134 = .ok (.invokevirtual 96, 3) := by decide +kernel
theorem dX5_readTest_137 : decode cX5_readTest 137 = .ok (.return_, 1) := by decide +kernel
theorem dX5_readTest_138 : decode cX5_readTest 138 = .ok (.aload_n 0, 1) := by decide +kernel
theorem dX5_readTest_139 : decode cX5_readTest 139 = .ok (.getfield 9, 3) := by decide +kernel
theorem dX5_readTest_142 : decode cX5_readTest 142 = .ok (.invokevirtual 44, 3) := by decide +kernel
theorem dX5_readTest_145 : decode cX5_readTest 145 = .ok (.aload_n 0, 1) := by decide +kernel
theorem dX5_readTest_146 : decode cX5_readTest 146 = .ok (.getfield 9, 3) := by decide +kernel
theorem dX5_readTest_149 : decode cX5_readTest 149 = .ok (.getfield 30, 3) := by decide +kernel
theorem dX5_readTest_152 : decode cX5_readTest 152 = .ok (.sipush 256, 3) := by decide +kernel
theorem dX5_readTest_155 : decode cX5_readTest 155 = .ok (.if_icmp .ne 22, 3) := by decide +kernel
theorem dX5_readTest_158 : decode cX5_readTest 158 = .ok (.aload_n 1, 1) := by decide +kernel
theorem dX5_readTest_159 : decode cX5_readTest 159 = .ok (.iload_n 2, 1) := by decide +kernel
theorem dX5_readTest_160 : decode cX5_readTest 160 = .ok (.iconst 1, 1) := by decide +kernel
theorem dX5_readTest_161 : decode cX5_readTest 161 = .ok (.aload_n 0, 1) := by decide +kernel
theorem dX5_readTest_162 : decode cX5_readTest 162 = .ok (.getfield 9, 3) := by decide +kernel
theorem dX5_readTest_165 : decode cX5_readTest 165 = .ok (.invokevirtual 60, 3) := by decide +kernel
theorem dX5_readTest_168 : decode cX5_readTest 168 = .ok (.invokestatic 99, 3) := by decide +kernel
theorem dX5_readTest_171 : decode cX5_readTest 171 = .ok (.invokevirtual 96, 3) := by decide +kernel
theorem dX5_readTest_174 : decode cX5_readTest 174 = .ok (.goto 16, 3) := by decide +kernel
theorem dX5_readTest_177 : decode cX5_readTest 177 = .ok (.aload_n 1, 1) := by decide +kernel
theorem dX5_readTest_178 : decode cX5_readTest 178 = .ok (.iload_n 2, 1) := by decide +kernel
theorem dX5_readTest_179 : decode cX5_readTest 179 = .ok (.iconst 0, 1) := by decide +kernel
theorem dX5_readTest_180 : decode cX5_readTest 180 = .ok (.aload_n 0, 1) := by decide +kernel
theorem dX5_readTest_181 : decode cX5_readTest 181 = .ok (.getfield 9, 3) := by decide +kernel
theorem dX5_readTest_184 : decode cX5_readTest 184 = .ok (.invokevirtual 64, 3) := by decide +kernel
theorem dX5_readTest_187 : decode cX5_readTest 187 = .ok (.invokevirtual 96, 3) := by decide +kernel
theorem dX5_readTest_190 : decode cX5_readTest 190 = .ok (.return_, 1) := by decide +kernel
