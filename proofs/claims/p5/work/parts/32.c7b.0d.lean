set_option maxRecDepth 100000 in
theorem ggX11_moves_X11_isThing : GoodIn wsX11_moves wsX11_isThing := (gi_cons 7 rfl rfl (gi_cons 8 rfl rfl (gi_cons 9 rfl rfl (gi_cons 10 rfl rfl (gi_cons 6 rfl rfl (gi_cons 11 rfl rfl (gi_cons 1 rfl rfl (gi_cons 12 rfl rfl (gi_cons 13 rfl rfl (gi_cons 14 rfl rfl (gi_cons 73 rfl rfl (gi_cons 74 rfl rfl (gi_cons 75 rfl rfl (gi_cons 76 rfl rfl (gi_cons 77 rfl rfl (gi_cons 78 rfl rfl (gi_cons 79 rfl rfl (gi_cons 80 rfl rfl (gi_cons 81 rfl rfl (gi_cons 82 rfl rfl (gi_cons 83 rfl rfl (gi_cons 84 rfl rfl (gi_cons 85 rfl rfl (gi_cons 86 rfl rfl (gi_cons 87 rfl rfl (gi_cons 88 rfl rfl (gi_cons 89 rfl rfl (gi_cons 90 rfl rfl (gi_cons 91 rfl rfl (gi_cons 92 rfl rfl (gi_cons 93 rfl rfl (gi_cons 94 rfl rfl (gi_cons 95 rfl rfl (gi_cons 96 rfl rfl (gi_cons 97 rfl rfl (gi_cons 98 rfl rfl (gi_cons 99 rfl rfl (gi_cons 100 rfl rfl (gi_cons 101 rfl rfl (gi_cons 102 rfl rfl (gi_cons 103 rfl rfl (gi_cons 104 rfl rfl (gi_cons 105 rfl rfl (gi_cons 106 rfl rfl (gi_cons 107 rfl rfl (gi_cons 108 rfl rfl (gi_cons 109 rfl rfl (gi_cons 110 rfl rfl (gi_cons 111 rfl rfl (gi_cons 112 rfl rfl (gi_cons 113 rfl rfl (gi_cons 114 rfl rfl (gi_cons 115 rfl rfl (gi_cons 116 rfl rfl (gi_cons 117 rfl rfl (gi_cons 118 rfl rfl (gi_cons 119 rfl rfl (gi_cons 120 rfl rfl (gi_cons 121 rfl rfl (gi_cons 122 rfl rfl (gi_cons 123 rfl rfl (gi_cons 124 rfl rfl (gi_cons 125 rfl rfl (gi_cons 126 rfl rfl (gi_cons 127 rfl rfl (gi_cons 128 rfl rfl (gi_cons 129 rfl rfl (gi_cons 130 rfl rfl (gi_cons 131 rfl rfl (gi_cons 132 rfl rfl (gi_cons 133 rfl rfl (gi_cons 134 rfl rfl (gi_cons 135 rfl rfl (gi_cons 136 rfl rfl (gi_cons 137 rfl rfl (gi_cons 138 rfl rfl gi_nil))))))))))))))))))))))))))))))))))))))))))))))))))))))))))))))))))))))))))))
set_option maxRecDepth 20000 in
theorem gX11_moves_X11_isThing : GoodIn wsX11_moves (wsV RX11 420 RX11 yX11_isThing wsX11_isThing) := goodIn_app (goodIn_of _ (by decide +kernel)) ggX11_moves_X11_isThing
set_option maxRecDepth 100000 in
theorem ggX11_moves_X11_size : GoodIn wsX11_moves wsX11_size := (gi_cons 17 rfl rfl gi_nil)
set_option maxRecDepth 20000 in
theorem gX11_moves_X11_size : GoodIn wsX11_moves (va_wsS RX11 242 yX11_size wsX11_size) := goodIn_app (goodIn_of _ (by decide +kernel)) ggX11_moves_X11_size
set_option maxRecDepth 100000 in
theorem ggX11_moves_X11_holds : GoodIn wsX11_moves wsX11_holds := (gi_cons 20 rfl rfl gi_nil)
set_option maxRecDepth 20000 in
theorem gX11_moves_X11_holds : GoodIn wsX11_moves (va_wsS RX11 256 yX11_holds wsX11_holds) := goodIn_app (goodIn_of _ (by decide +kernel)) ggX11_moves_X11_holds
set_option maxRecDepth 100000 in
theorem ggX11_moves_X11_kind : GoodIn wsX11_moves wsX11_kind := (gi_cons 23 rfl rfl gi_nil)
set_option maxRecDepth 20000 in
theorem gX11_moves_X11_kind : GoodIn wsX11_moves (va_wsS RX11 253 yX11_kind wsX11_kind) := goodIn_app (goodIn_of _ (by decide +kernel)) ggX11_moves_X11_kind
set_option maxRecDepth 100000 in
theorem ggX11_moves_X11_isKey : GoodIn wsX11_moves wsX11_isKey := (gi_cons 26 rfl rfl (gi_cons 27 rfl rfl (gi_cons 28 rfl rfl (gi_cons 6 rfl rfl (gi_cons 29 rfl rfl (gi_cons 12 rfl rfl (gi_cons 13 rfl rfl (gi_cons 14 rfl rfl gi_nil))))))))
set_option maxRecDepth 20000 in
theorem gX11_moves_X11_isKey : GoodIn wsX11_moves (va_wsS RX11 406 yX11_isKey wsX11_isKey) := goodIn_app (goodIn_of _ (by decide +kernel)) ggX11_moves_X11_isKey
set_option maxRecDepth 100000 in
theorem ggX11_moves_X11_byKey : GoodIn wsX11_moves wsX11_byKey := (gi_cons 32 rfl rfl (gi_cons 15 rfl rfl (gi_cons 16 rfl rfl (gi_cons 6 rfl rfl (gi_cons 17 rfl rfl gi_nil)))))
set_option maxRecDepth 20000 in
theorem gX11_moves_X11_byKey : GoodIn wsX11_moves (va_wsS RX11 260 yX11_byKey wsX11_byKey) := goodIn_app (goodIn_of _ (by decide +kernel)) ggX11_moves_X11_byKey
set_option maxRecDepth 100000 in
theorem ggX11_moves_X11_takeTree : GoodIn wsX11_moves wsX11_takeTree := (gi_cons 36 rfl rfl (gi_cons 37 rfl rfl (gi_cons 1 rfl rfl (gi_cons 38 rfl rfl (gi_cons 39 rfl rfl (gi_cons 40 rfl rfl (gi_cons 6 rfl rfl (gi_cons 41 rfl rfl (gi_cons 2 rfl rfl (gi_cons 15 rfl rfl (gi_cons 16 rfl rfl (gi_cons 17 rfl rfl (gi_cons 73 rfl rfl (gi_cons 74 rfl rfl (gi_cons 75 rfl rfl (gi_cons 76 rfl rfl (gi_cons 77 rfl rfl (gi_cons 78 rfl rfl (gi_cons 79 rfl rfl (gi_cons 80 rfl rfl (gi_cons 81 rfl rfl (gi_cons 82 rfl rfl (gi_cons 83 rfl rfl (gi_cons 84 rfl rfl (gi_cons 85 rfl rfl (gi_cons 86 rfl rfl (gi_cons 87 rfl rfl (gi_cons 88 rfl rfl (gi_cons 89 rfl rfl (gi_cons 90 rfl rfl (gi_cons 91 rfl rfl (gi_cons 92 rfl rfl (gi_cons 93 rfl rfl (gi_cons 94 rfl rfl (gi_cons 95 rfl rfl (gi_cons 96 rfl rfl (gi_cons 97 rfl rfl (gi_cons 98 rfl rfl (gi_cons 99 rfl rfl (gi_cons 100 rfl rfl (gi_cons 101 rfl rfl (gi_cons 102 rfl rfl (gi_cons 103 rfl rfl (gi_cons 104 rfl rfl (gi_cons 105 rfl rfl (gi_cons 106 rfl rfl (gi_cons 107 rfl rfl (gi_cons 108 rfl rfl (gi_cons 109 rfl rfl (gi_cons 110 rfl rfl (gi_cons 111 rfl rfl (gi_cons 112 rfl rfl (gi_cons 113 rfl rfl (gi_cons 114 rfl rfl (gi_cons 115 rfl rfl (gi_cons 116 rfl rfl (gi_cons 117 rfl rfl (gi_cons 118 rfl rfl (gi_cons 119 rfl rfl (gi_cons 120 rfl rfl (gi_cons 121 rfl rfl (gi_cons 122 rfl rfl (gi_cons 123 rfl rfl (gi_cons 124 rfl rfl (gi_cons 125 rfl rfl (gi_cons 126 rfl rfl (gi_cons 127 rfl rfl (gi_cons 128 rfl rfl (gi_cons 129 rfl rfl (gi_cons 130 rfl rfl (gi_cons 131 rfl rfl (gi_cons 132 rfl rfl (gi_cons 133 rfl rfl (gi_cons 134 rfl rfl (gi_cons 135 rfl rfl (gi_cons 136 rfl rfl (gi_cons 137 rfl rfl (gi_cons 138 rfl rfl gi_nil))))))))))))))))))))))))))))))))))))))))))))))))))))))))))))))))))))))))))))))
set_option maxRecDepth 20000 in
theorem gX11_moves_X11_takeTree : GoodIn wsX11_moves (wsV RX11 423 RX11 yX11_takeTree wsX11_takeTree) := goodIn_app (goodIn_of _ (by decide +kernel)) ggX11_moves_X11_takeTree
set_option maxRecDepth 100000 in
theorem ggX11_moves_X11_lift : GoodIn wsX11_moves wsX11_lift := (gi_cons 45 rfl rfl (gi_cons 46 rfl rfl (gi_cons 15 rfl rfl (gi_cons 16 rfl rfl (gi_cons 6 rfl rfl (gi_cons 17 rfl rfl (gi_cons 73 rfl rfl (gi_cons 74 rfl rfl (gi_cons 75 rfl rfl (gi_cons 76 rfl rfl (gi_cons 77 rfl rfl (gi_cons 78 rfl rfl (gi_cons 79 rfl rfl (gi_cons 80 rfl rfl (gi_cons 81 rfl rfl (gi_cons 82 rfl rfl (gi_cons 83 rfl rfl (gi_cons 84 rfl rfl (gi_cons 85 rfl rfl (gi_cons 86 rfl rfl (gi_cons 87 rfl rfl (gi_cons 88 rfl rfl (gi_cons 89 rfl rfl (gi_cons 90 rfl rfl (gi_cons 91 rfl rfl (gi_cons 92 rfl rfl (gi_cons 93 rfl rfl (gi_cons 94 rfl rfl (gi_cons 95 rfl rfl (gi_cons 96 rfl rfl (gi_cons 97 rfl rfl (gi_cons 98 rfl rfl (gi_cons 99 rfl rfl (gi_cons 100 rfl rfl (gi_cons 101 rfl rfl (gi_cons 102 rfl rfl (gi_cons 103 rfl rfl (gi_cons 104 rfl rfl (gi_cons 105 rfl rfl (gi_cons 106 rfl rfl (gi_cons 107 rfl rfl (gi_cons 108 rfl rfl (gi_cons 109 rfl rfl (gi_cons 110 rfl rfl (gi_cons 111 rfl rfl (gi_cons 112 rfl rfl (gi_cons 113 rfl rfl (gi_cons 114 rfl rfl (gi_cons 115 rfl rfl (gi_cons 116 rfl rfl (gi_cons 117 rfl rfl (gi_cons 118 rfl rfl (gi_cons 119 rfl rfl (gi_cons 120 rfl rfl (gi_cons 121 rfl rfl (gi_cons 122 rfl rfl (gi_cons 123 rfl rfl (gi_cons 124 rfl rfl (gi_cons 125 rfl rfl (gi_cons 126 rfl rfl (gi_cons 127 rfl rfl (gi_cons 128 rfl rfl (gi_cons 129 rfl rfl (gi_cons 130 rfl rfl (gi_cons 131 rfl rfl (gi_cons 132 rfl rfl (gi_cons 133 rfl rfl (gi_cons 134 rfl rfl (gi_cons 135 rfl rfl (gi_cons 136 rfl rfl (gi_cons 137 rfl rfl (gi_cons 138 rfl rfl gi_nil))))))))))))))))))))))))))))))))))))))))))))))))))))))))))))))))))))))))
set_option maxRecDepth 20000 in
theorem gX11_moves_X11_lift : GoodIn wsX11_moves (wsV RX11 426 RX11 yX11_lift wsX11_lift) := goodIn_app (goodIn_of _ (by decide +kernel)) ggX11_moves_X11_lift
set_option maxRecDepth 100000 in
theorem ggX11_moves_X11_cut : GoodIn wsX11_moves wsX11_cut := (gi_cons 50 rfl rfl (gi_cons 2 rfl rfl (gi_cons 37 rfl rfl (gi_cons 15 rfl rfl (gi_cons 16 rfl rfl (gi_cons 6 rfl rfl (gi_cons 17 rfl rfl (gi_cons 73 rfl rfl (gi_cons 74 rfl rfl (gi_cons 75 rfl rfl (gi_cons 76 rfl rfl (gi_cons 77 rfl rfl (gi_cons 78 rfl rfl (gi_cons 79 rfl rfl (gi_cons 80 rfl rfl (gi_cons 81 rfl rfl (gi_cons 82 rfl rfl (gi_cons 83 rfl rfl (gi_cons 84 rfl rfl (gi_cons 85 rfl rfl (gi_cons 86 rfl rfl (gi_cons 87 rfl rfl (gi_cons 88 rfl rfl (gi_cons 89 rfl rfl (gi_cons 90 rfl rfl (gi_cons 91 rfl rfl (gi_cons 92 rfl rfl (gi_cons 93 rfl rfl (gi_cons 94 rfl rfl (gi_cons 95 rfl rfl (gi_cons 96 rfl rfl (gi_cons 97 rfl rfl (gi_cons 98 rfl rfl (gi_cons 99 rfl rfl (gi_cons 100 rfl rfl (gi_cons 101 rfl rfl (gi_cons 102 rfl rfl (gi_cons 103 rfl rfl (gi_cons 104 rfl rfl (gi_cons 105 rfl rfl (gi_cons 106 rfl rfl (gi_cons 107 rfl rfl (gi_cons 108 rfl rfl (gi_cons 109 rfl rfl (gi_cons 110 rfl rfl (gi_cons 111 rfl rfl (gi_cons 112 rfl rfl (gi_cons 113 rfl rfl (gi_cons 114 rfl rfl (gi_cons 115 rfl rfl (gi_cons 116 rfl rfl (gi_cons 117 rfl rfl (gi_cons 118 rfl rfl (gi_cons 119 rfl rfl (gi_cons 120 rfl rfl (gi_cons 121 rfl rfl (gi_cons 122 rfl rfl (gi_cons 123 rfl rfl (gi_cons 124 rfl rfl (gi_cons 125 rfl rfl (gi_cons 126 rfl rfl (gi_cons 127 rfl rfl (gi_cons 128 rfl rfl (gi_cons 129 rfl rfl (gi_cons 130 rfl rfl (gi_cons 131 rfl rfl (gi_cons 132 rfl rfl (gi_cons 133 rfl rfl (gi_cons 134 rfl rfl (gi_cons 135 rfl rfl (gi_cons 136 rfl rfl (gi_cons 137 rfl rfl (gi_cons 138 rfl rfl gi_nil)))))))))))))))))))))))))))))))))))))))))))))))))))))))))))))))))))))))))
set_option maxRecDepth 20000 in
theorem gX11_moves_X11_cut : GoodIn wsX11_moves (wsV RX11 429 RX11 yX11_cut wsX11_cut) := goodIn_app (goodIn_of _ (by decide +kernel)) ggX11_moves_X11_cut
set_option maxRecDepth 100000 in
theorem ggX11_moves_X11_layInto : GoodIn wsX11_moves wsX11_layInto := (gi_cons 54 rfl rfl (gi_cons 46 rfl rfl (gi_cons 37 rfl rfl (gi_cons 2 rfl rfl (gi_cons 15 rfl rfl (gi_cons 16 rfl rfl (gi_cons 6 rfl rfl (gi_cons 17 rfl rfl (gi_cons 73 rfl rfl (gi_cons 74 rfl rfl (gi_cons 75 rfl rfl (gi_cons 76 rfl rfl (gi_cons 77 rfl rfl (gi_cons 78 rfl rfl (gi_cons 79 rfl rfl (gi_cons 80 rfl rfl (gi_cons 81 rfl rfl (gi_cons 82 rfl rfl (gi_cons 83 rfl rfl (gi_cons 84 rfl rfl (gi_cons 85 rfl rfl (gi_cons 86 rfl rfl (gi_cons 87 rfl rfl (gi_cons 88 rfl rfl (gi_cons 89 rfl rfl (gi_cons 90 rfl rfl (gi_cons 91 rfl rfl (gi_cons 92 rfl rfl (gi_cons 93 rfl rfl (gi_cons 94 rfl rfl (gi_cons 95 rfl rfl (gi_cons 96 rfl rfl (gi_cons 97 rfl rfl (gi_cons 98 rfl rfl (gi_cons 99 rfl rfl (gi_cons 100 rfl rfl (gi_cons 101 rfl rfl (gi_cons 102 rfl rfl (gi_cons 103 rfl rfl (gi_cons 104 rfl rfl (gi_cons 105 rfl rfl (gi_cons 106 rfl rfl (gi_cons 107 rfl rfl (gi_cons 108 rfl rfl (gi_cons 109 rfl rfl (gi_cons 110 rfl rfl (gi_cons 111 rfl rfl (gi_cons 112 rfl rfl (gi_cons 113 rfl rfl (gi_cons 114 rfl rfl (gi_cons 115 rfl rfl (gi_cons 116 rfl rfl (gi_cons 117 rfl rfl (gi_cons 118 rfl rfl (gi_cons 119 rfl rfl (gi_cons 120 rfl rfl (gi_cons 121 rfl rfl (gi_cons 122 rfl rfl (gi_cons 123 rfl rfl (gi_cons 124 rfl rfl (gi_cons 125 rfl rfl (gi_cons 126 rfl rfl (gi_cons 127 rfl rfl (gi_cons 128 rfl rfl (gi_cons 129 rfl rfl (gi_cons 130 rfl rfl (gi_cons 131 rfl rfl (gi_cons 132 rfl rfl (gi_cons 133 rfl rfl (gi_cons 134 rfl rfl (gi_cons 135 rfl rfl (gi_cons 136 rfl rfl (gi_cons 137 rfl rfl (gi_cons 138 rfl rfl gi_nil))))))))))))))))))))))))))))))))))))))))))))))))))))))))))))))))))))))))))
set_option maxRecDepth 20000 in
theorem gX11_moves_X11_layInto : GoodIn wsX11_moves (wsV RX11 432 RX11 yX11_layInto wsX11_layInto) := goodIn_app (goodIn_of _ (by decide +kernel)) ggX11_moves_X11_layInto
set_option maxRecDepth 100000 in
theorem ggX11_moves_X11_becomesTree : GoodIn wsX11_moves wsX11_becomesTree := (gi_cons 58 rfl rfl (gi_cons 37 rfl rfl (gi_cons 1 rfl rfl (gi_cons 2 rfl rfl (gi_cons 59 rfl rfl (gi_cons 60 rfl rfl (gi_cons 61 rfl rfl (gi_cons 6 rfl rfl (gi_cons 62 rfl rfl (gi_cons 63 rfl rfl (gi_cons 64 rfl rfl (gi_cons 65 rfl rfl (gi_cons 15 rfl rfl (gi_cons 16 rfl rfl (gi_cons 17 rfl rfl (gi_cons 66 rfl rfl (gi_cons 67 rfl rfl (gi_cons 68 rfl rfl (gi_cons 69 rfl rfl (gi_cons 70 rfl rfl (gi_cons 71 rfl rfl (gi_cons 72 rfl rfl (gi_cons 73 rfl rfl (gi_cons 74 rfl rfl (gi_cons 75 rfl rfl (gi_cons 76 rfl rfl (gi_cons 77 rfl rfl (gi_cons 78 rfl rfl (gi_cons 79 rfl rfl (gi_cons 80 rfl rfl (gi_cons 81 rfl rfl (gi_cons 82 rfl rfl (gi_cons 83 rfl rfl (gi_cons 84 rfl rfl (gi_cons 85 rfl rfl (gi_cons 86 rfl rfl (gi_cons 87 rfl rfl (gi_cons 88 rfl rfl (gi_cons 89 rfl rfl (gi_cons 90 rfl rfl (gi_cons 91 rfl rfl (gi_cons 92 rfl rfl (gi_cons 93 rfl rfl (gi_cons 94 rfl rfl (gi_cons 95 rfl rfl (gi_cons 96 rfl rfl (gi_cons 97 rfl rfl (gi_cons 98 rfl rfl (gi_cons 99 rfl rfl (gi_cons 100 rfl rfl (gi_cons 101 rfl rfl (gi_cons 102 rfl rfl (gi_cons 103 rfl rfl (gi_cons 104 rfl rfl (gi_cons 105 rfl rfl (gi_cons 106 rfl rfl (gi_cons 107 rfl rfl (gi_cons 108 rfl rfl (gi_cons 109 rfl rfl (gi_cons 110 rfl rfl (gi_cons 111 rfl rfl (gi_cons 112 rfl rfl (gi_cons 113 rfl rfl (gi_cons 114 rfl rfl (gi_cons 115 rfl rfl (gi_cons 116 rfl rfl (gi_cons 117 rfl rfl (gi_cons 118 rfl rfl (gi_cons 119 rfl rfl (gi_cons 120 rfl rfl (gi_cons 121 rfl rfl (gi_cons 122 rfl rfl (gi_cons 123 rfl rfl (gi_cons 124 rfl rfl (gi_cons 125 rfl rfl (gi_cons 126 rfl rfl (gi_cons 127 rfl rfl (gi_cons 128 rfl rfl (gi_cons 129 rfl rfl (gi_cons 130 rfl rfl (gi_cons 131 rfl rfl (gi_cons 132 rfl rfl (gi_cons 133 rfl rfl (gi_cons 134 rfl rfl (gi_cons 135 rfl rfl (gi_cons 136 rfl rfl (gi_cons 137 rfl rfl (gi_cons 138 rfl rfl gi_nil))))))))))))))))))))))))))))))))))))))))))))))))))))))))))))))))))))))))))))))))))))))))
set_option maxRecDepth 20000 in
theorem gX11_moves_X11_becomesTree : GoodIn wsX11_moves (wsV RX11 400 RX11 yX11_becomesTree wsX11_becomesTree) := goodIn_app (goodIn_of _ (by decide +kernel)) ggX11_moves_X11_becomesTree
theorem dX11_moves_0 : decode cX11_moves 0 = .ok (.aload_n 0, 1) := by decide +kernel
theorem dX11_moves_1 : decode cX11_moves 1 = .ok (.iload_n 1, 1) := by decide +kernel
theorem dX11_moves_2 : decode cX11_moves 2 = .ok (.invokevirtual 420, 3) := by decide +kernel
theorem dX11_moves_5 : decode cX11_moves 5 = .ok (.ifCond .eq 38, 3) := by decide +kernel
theorem dX11_moves_8 : decode cX11_moves 8 = .ok (.aload_n 0, 1) := by decide +kernel
theorem dX11_moves_9 : decode cX11_moves 9 = .ok (.iload_n 2, 1) := by decide +kernel
theorem dX11_moves_10 : decode cX11_moves 10 = .ok (.invokevirtual 420, 3) := by decide +kernel
theorem dX11_moves_13 : decode cX11_moves 13 = .ok (.ifCond .eq 30, 3) := by decide +kernel
theorem dX11_moves_16 : decode cX11_moves 16 = .ok (.iload_n 1, 1) := by decide +kernel
theorem dX11_moves_17 : decode cX11_moves 17 = .ok (.ifCond .le 26, 3) := by decide +kernel
theorem dX11_moves_20 : decode cX11_moves 20 = .ok (.iload_n 2, 1) := by decide +kernel
theorem dX11_moves_21 : decode cX11_moves 21 = .ok (.iload_n 1, 1) := by decide +kernel
theorem dX11_moves_22 : decode cX11_moves 22 = .ok (.if_icmp .lt 17, 3) := by decide +kernel
theorem dX11_moves_25 : decode cX11_moves 25 = .ok (.iload_n 2, 1) := by decide +kernel
theorem dX11_moves_26 : decode cX11_moves 26 = .ok (.iload_n 1, 1) := by decide +kernel
theorem dX11_moves_27 : decode cX11_moves 27 = .ok (.aload_n 0, 1) := by decide +kernel
theorem dX11_moves_28 : decode cX11_moves 28 = .ok (.getfield 9, 3) := by decide +kernel
theorem dX11_moves_31 : decode cX11_moves 31 = .ok (.iload_n 1, 1) := by decide +kernel
theorem dX11_moves_32 : decode cX11_moves 32 = .ok (.invokestatic 242, 3) := by decide +kernel
theorem dX11_moves_35 : decode cX11_moves 35 = .ok (.iadd, 1) := by decide +kernel
theorem dX11_moves_36 : decode cX11_moves 36 = .ok (.if_icmp .lt 7, 3) := by decide +kernel
theorem dX11_moves_39 : decode cX11_moves 39 = .ok (.iconst 1, 1) := by decide +kernel
theorem dX11_moves_40 : decode cX11_moves 40 = .ok (.goto 4, 3) := by decide +kernel
theorem dX11_moves_43 : decode cX11_moves 43 = .ok (.iconst 0, 1) := by decide +kernel
theorem dX11_moves_44 : decode cX11_moves 44 = .ok (.istore 4, 2) := by decide +kernel
theorem dX11_moves_46 : decode cX11_moves 46 = .ok (.iload 4, 2) := by decide +kernel
theorem dX11_moves_48 : decode cX11_moves 48 = .ok (.ifCond .eq 14, 3) := by decide +kernel
theorem dX11_moves_51 : decode cX11_moves 51 = .ok (.aload_n 0, 1) := by decide +kernel
theorem dX11_moves_52 : decode cX11_moves 52 = .ok (.getfield 9, 3) := by decide +kernel
theorem dX11_moves_55 : decode cX11_moves 55 = .ok (.iload_n 2, 1) := by decide +kernel
theorem dX11_moves_56 : decode cX11_moves 56 = .ok (.invokestatic 256, 3) := by decide +kernel
theorem dX11_moves_59 : decode cX11_moves 59 = .ok (.ifCond .ne 5, 3) := by decide +kernel
theorem dX11_moves_62 : decode cX11_moves 62 = .ok (.iconst (-1), 1) := by decide +kernel
theorem dX11_moves_63 : decode cX11_moves 63 = .ok (.ireturn, 1) := by decide +kernel
theorem dX11_moves_64 : decode cX11_moves 64 = .ok (.aload_n 0, 1) := by decide +kernel
theorem dX11_moves_65 : decode cX11_moves 65 = .ok (.getfield 9, 3) := by decide +kernel
theorem dX11_moves_68 : decode cX11_moves 68 = .ok (.iload_n 2, 1) := by decide +kernel
theorem dX11_moves_69 : decode cX11_moves 69 = .ok (.invokestatic 253, 3) := by decide +kernel
theorem dX11_moves_72 : decode cX11_moves 72 = .ok (.iconst 2, 1) := by decide +kernel
theorem dX11_moves_73 : decode cX11_moves 73 = .ok (.if_icmp .ne 15, 3) := by decide +kernel
theorem dX11_moves_76 : decode cX11_moves 76 = .ok (.iload_n 3, 1) := by decide +kernel
theorem dX11_moves_77 : decode cX11_moves 77 = .ok (.ifCond .ne 7, 3) := by decide +kernel
theorem dX11_moves_80 : decode cX11_moves 80 = .ok (.iconst 1, 1) := by decide +kernel
theorem dX11_moves_81 : decode cX11_moves 81 = .ok (.goto 32, 3) := by decide +kernel
theorem dX11_moves_84 : decode cX11_moves 84 = .ok (.iconst 0, 1) := by decide +kernel
theorem dX11_moves_85 : decode cX11_moves 85 = .ok (.goto 28, 3) := by decide +kernel
theorem dX11_moves_88 : decode cX11_moves 88 = .ok (.iload_n 3, 1) := by decide +kernel
theorem dX11_moves_89 : decode cX11_moves 89 = .ok (.invokestatic 406, 3) := by decide +kernel
theorem dX11_moves_92 : decode cX11_moves 92 = .ok (.ifCond .eq 20, 3) := by decide +kernel
theorem dX11_moves_95 : decode cX11_moves 95 = .ok (.aload_n 0, 1) := by decide +kernel
theorem dX11_moves_96 : decode cX11_moves 96 = .ok (.getfield 9, 3) := by decide +kernel
theorem dX11_moves_99 : decode cX11_moves 99 = .ok (.iload_n 2, 1) := by decide +kernel
theorem dX11_moves_100 : decode cX11_moves 100 = .ok (.iload_n 3, 1) := by decide +kernel
theorem dX11_moves_101 : decode cX11_moves 101 = .ok (.invokestatic 260, 3) := by decide +kernel
theorem dX11_moves_104 : decode cX11_moves 104 = .ok (.iconst (-1), 1) := by decide +kernel
theorem dX11_moves_105 : decode cX11_moves 105 = .ok (.if_icmp .ne 7, 3) := by decide +kernel
theorem dX11_moves_108 : decode cX11_moves 108 = .ok (.iconst 1, 1) := by decide +kernel
theorem dX11_moves_109 : decode cX11_moves 109 = .ok (.goto 4, 3) := by decide +kernel
theorem dX11_moves_112 : decode cX11_moves 112 = .ok (.iconst 0, 1) := by decide +kernel
theorem dX11_moves_113 : decode cX11_moves 113 = .ok (.istore 5, 2) := by decide +kernel
theorem dX11_moves_115 : decode cX11_moves 115 = .ok (.iload 5, 2) := by decide +kernel
theorem dX11_moves_117 : decode cX11_moves 117 = .ok (.ifCond .ne 5, 3) := by decide +kernel
theorem dX11_moves_120 : decode cX11_moves 120 = .ok (.iconst (-1), 1) := by decide +kernel
theorem dX11_moves_121 : decode cX11_moves 121 = .ok (.ireturn, 1) := by decide +kernel
theorem dX11_moves_122 : decode cX11_moves 122 = .ok (.aload_n 0, 1) := by decide +kernel
theorem dX11_moves_123 : decode cX11_moves 123 = .ok (.invokevirtual 423, 3) := by decide +kernel
theorem dX11_moves_126 : decode cX11_moves 126 = .ok (.aload_n 0, 1) := by decide +kernel
theorem dX11_moves_127 : decode cX11_moves 127 = .ok (.getfield 9, 3) := by decide +kernel
theorem dX11_moves_130 : decode cX11_moves 130 = .ok (.iload_n 1, 1) := by decide +kernel
theorem dX11_moves_131 : decode cX11_moves 131 = .ok (.invokestatic 242, 3) := by decide +kernel
theorem dX11_moves_134 : decode cX11_moves 134 = .ok (.istore 6, 2) := by decide +kernel
theorem dX11_moves_136 : decode cX11_moves 136 = .ok (.aload_n 0, 1) := by decide +kernel
theorem dX11_moves_137 : decode cX11_moves 137 = .ok (.aload_n 0, 1) := by decide +kernel
theorem dX11_moves_138 : decode cX11_moves 138 = .ok (.getfield 9, 3) := by decide +kernel
theorem dX11_moves_141 : decode cX11_moves 141 = .ok (.iload_n 1, 1) := by decide +kernel
theorem dX11_moves_142 : decode cX11_moves 142 = .ok (.invokevirtual 426, 3) := by decide +kernel
theorem dX11_moves_145 : decode cX11_moves 145 = .ok (.aload_n 0, 1) := by decide +kernel
theorem dX11_moves_146 : decode cX11_moves 146 = .ok (.iload_n 1, 1) := by decide +kernel
theorem dX11_moves_147 : decode cX11_moves 147 = .ok (.invokevirtual 429, 3) := by decide +kernel
theorem dX11_moves_150 : decode cX11_moves 150 = .ok (.iload_n 2, 1) := by decide +kernel
theorem dX11_moves_151 : decode cX11_moves 151 = .ok (.iload_n 1, 1) := by decide +kernel
theorem dX11_moves_152 : decode cX11_moves 152 = .ok (.if_icmp .le 10, 3) := by decide +kernel
theorem dX11_moves_155 : decode cX11_moves 155 = .ok (.iload_n 2, 1) := by decide +kernel
theorem dX11_moves_156 : decode cX11_moves 156 = .ok (.iload 6, 2) := by decide +kernel
theorem dX11_moves_158 : decode cX11_moves 158 = .ok (.isub, 1) := by decide +kernel
theorem dX11_moves_159 : decode cX11_moves 159 = .ok (.goto 4, 3) := by decide +kernel
theorem dX11_moves_162 : decode cX11_moves 162 = .ok (.iload_n 2, 1) := by decide +kernel
theorem dX11_moves_163 : decode cX11_moves 163 = .ok (.istore 7, 2) := by decide +kernel
theorem dX11_moves_165 : decode cX11_moves 165 = .ok (.iload 7, 2) := by decide +kernel
theorem dX11_moves_167 : decode cX11_moves 167 = .ok (.aload_n 0, 1) := by decide +kernel
theorem dX11_moves_168 : decode cX11_moves 168 = .ok (.getfield 16, 3) := by decide +kernel
theorem dX11_moves_171 : decode cX11_moves 171 = .ok (.iload 7, 2) := by decide +kernel
theorem dX11_moves_173 : decode cX11_moves 173 = .ok (.invokestatic 242, 3) := by decide +kernel
theorem dX11_moves_176 : decode cX11_moves 176 = .ok (.iadd, 1) := by decide +kernel
theorem dX11_moves_177 : decode cX11_moves 177 = .ok (.istore 8, 2) := by decide +kernel
theorem dX11_moves_179 : decode cX11_moves 179 = .ok (.aload_n 0, 1) := by decide +kernel
theorem dX11_moves_180 : decode cX11_moves 180 = .ok (.iload 7, 2) := by decide +kernel
theorem dX11_moves_182 : decode cX11_moves 182 = .ok (.iload 8, 2) := by decide +kernel
theorem dX11_moves_184 : decode cX11_moves 184 = .ok (.iload_n 3, 1) := by decide +kernel
theorem dX11_moves_185 : decode cX11_moves 185 = .ok (.invokevirtual 432, 3) := by decide +kernel
theorem dX11_moves_188 : decode cX11_moves 188 = .ok (.aload_n 0, 1) := by decide +kernel
theorem dX11_moves_189 : decode cX11_moves 189 = .ok (.invokevirtual 400, 3) := by decide +kernel
theorem dX11_moves_192 : decode cX11_moves 192 = .ok (.ifCond .eq 8, 3) := by decide +kernel
theorem dX11_moves_195 : decode cX11_moves 195 = .ok (.iload 8, 2) := by decide +kernel
theorem dX11_moves_197 : decode cX11_moves 197 = .ok (.goto 4, 3) := by decide +kernel
theorem dX11_moves_200 : decode cX11_moves 200 = .ok (.iconst (-1), 1) := by decide +kernel
theorem dX11_moves_201 : decode cX11_moves 201 = .ok (.ireturn, 1) := by decide +kernel
