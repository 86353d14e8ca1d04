set_option maxRecDepth 100000 in
theorem ggX11_tellListRows_X11_many : GoodIn wsX11_tellListRows wsX11_many := (gi_cons 5 rfl rfl (gi_cons 6 rfl rfl (gi_cons 7 rfl rfl (gi_cons 4 rfl rfl (gi_cons 8 rfl rfl gi_nil)))))
set_option maxRecDepth 20000 in
theorem gX11_tellListRows_X11_many : GoodIn wsX11_tellListRows (va_wsS RX11 246 yX11_many wsX11_many) := goodIn_app (goodIn_of _ (by decide +kernel)) ggX11_tellListRows_X11_many
set_option maxRecDepth 100000 in
theorem ggX11_tellListRows_X11_stepOf : GoodIn wsX11_tellListRows wsX11_stepOf := (gi_cons 11 rfl rfl gi_nil)
set_option maxRecDepth 20000 in
theorem gX11_tellListRows_X11_stepOf : GoodIn wsX11_tellListRows (va_wsS RX11 455 yX11_stepOf wsX11_stepOf) := goodIn_app (goodIn_of _ (by decide +kernel)) ggX11_tellListRows_X11_stepOf
set_option maxRecDepth 100000 in
theorem ggX11_tellListRows_X11_nth : GoodIn wsX11_tellListRows wsX11_nth := (gi_cons 14 rfl rfl (gi_cons 6 rfl rfl (gi_cons 7 rfl rfl (gi_cons 4 rfl rfl (gi_cons 8 rfl rfl gi_nil)))))
set_option maxRecDepth 20000 in
theorem gX11_tellListRows_X11_nth : GoodIn wsX11_tellListRows (va_wsS RX11 249 yX11_nth wsX11_nth) := goodIn_app (goodIn_of _ (by decide +kernel)) ggX11_tellListRows_X11_nth
set_option maxRecDepth 100000 in
theorem ggX11_tellListRows_X11_tellRows : GoodIn wsX11_tellListRows wsX11_tellRows := (gi_cons 35 rfl rfl (gi_cons 1 rfl rfl (gi_cons 36 rfl rfl (gi_cons 37 rfl rfl (gi_cons 4 rfl rfl (gi_cons 38 rfl rfl (gi_cons 39 rfl rfl (gi_cons 40 rfl rfl (gi_cons 41 rfl rfl (gi_cons 6 rfl rfl (gi_cons 7 rfl rfl (gi_cons 8 rfl rfl (gi_cons 42 rfl rfl (gi_cons 43 rfl rfl (gi_cons 44 rfl rfl (gi_cons 2 rfl rfl (gi_cons 3 rfl rfl (gi_cons 5 rfl rfl (gi_cons 45 rfl rfl (gi_cons 46 rfl rfl (gi_cons 47 rfl rfl (gi_cons 12 rfl rfl (gi_cons 13 rfl rfl (gi_cons 14 rfl rfl (gi_cons 18 rfl rfl (gi_cons 19 rfl rfl (gi_cons 20 rfl rfl (gi_cons 21 rfl rfl (gi_cons 22 rfl rfl (gi_cons 23 rfl rfl (gi_cons 24 rfl rfl (gi_cons 25 rfl rfl (gi_cons 26 rfl rfl (gi_cons 27 rfl rfl (gi_cons 28 rfl rfl (gi_cons 29 rfl rfl (gi_cons 30 rfl rfl (gi_cons 31 rfl rfl (gi_cons 32 rfl rfl (gi_cons 33 rfl rfl (gi_cons 34 rfl rfl (gi_cons 15 rfl rfl (gi_cons 16 rfl rfl (gi_cons 17 rfl rfl (gi_cons 48 rfl rfl (gi_cons 49 rfl rfl (gi_cons 50 rfl rfl (gi_cons 0 rfl rfl (gi_cons 9 rfl rfl (gi_cons 10 rfl rfl (gi_cons 11 rfl rfl (gi_cons 51 rfl rfl (gi_cons 52 rfl rfl (gi_cons 53 rfl rfl (gi_cons 54 rfl rfl (gi_cons 55 rfl rfl (gi_cons 56 rfl rfl (gi_cons 57 rfl rfl (gi_cons 58 rfl rfl (gi_cons 59 rfl rfl (gi_cons 60 rfl rfl (gi_cons 61 rfl rfl (gi_cons 62 rfl rfl (gi_cons 63 rfl rfl (gi_cons 64 rfl rfl (gi_cons 65 rfl rfl (gi_cons 66 rfl rfl (gi_cons 67 rfl rfl (gi_cons 68 rfl rfl (gi_cons 69 rfl rfl (gi_cons 70 rfl rfl (gi_cons 71 rfl rfl (gi_cons 72 rfl rfl (gi_cons 73 rfl rfl (gi_cons 74 rfl rfl (gi_cons 75 rfl rfl (gi_cons 76 rfl rfl (gi_cons 77 rfl rfl (gi_cons 78 rfl rfl (gi_cons 79 rfl rfl (gi_cons 80 rfl rfl (gi_cons 81 rfl rfl (gi_cons 82 rfl rfl (gi_cons 83 rfl rfl (gi_cons 84 rfl rfl (gi_cons 85 rfl rfl (gi_cons 86 rfl rfl (gi_cons 87 rfl rfl (gi_cons 88 rfl rfl (gi_cons 89 rfl rfl (gi_cons 90 rfl rfl (gi_cons 91 rfl rfl (gi_cons 92 rfl rfl (gi_cons 93 rfl rfl (gi_cons 94 rfl rfl (gi_cons 95 rfl rfl (gi_cons 96 rfl rfl (gi_cons 97 rfl rfl (gi_cons 98 rfl rfl (gi_cons 99 rfl rfl (gi_cons 100 rfl rfl (gi_cons 101 rfl rfl (gi_cons 102 rfl rfl (gi_cons 103 rfl rfl (gi_cons 104 rfl rfl (gi_cons 105 rfl rfl (gi_cons 106 rfl rfl (gi_cons 107 rfl rfl (gi_cons 108 rfl rfl (gi_cons 109 rfl rfl (gi_cons 110 rfl rfl (gi_cons 111 rfl rfl (gi_cons 112 rfl rfl (gi_cons 113 rfl rfl (gi_cons 114 rfl rfl (gi_cons 115 rfl rfl (gi_cons 116 rfl rfl gi_nil)))))))))))))))))))))))))))))))))))))))))))))))))))))))))))))))))))))))))))))))))))))))))))))))))))))))))))))))))))))
set_option maxRecDepth 20000 in
theorem gX11_tellListRows_X11_tellRows : GoodIn wsX11_tellListRows (wsV RX11 448 RX11 yX11_tellRows wsX11_tellRows) := goodIn_app (goodIn_of _ (by decide +kernel)) ggX11_tellListRows_X11_tellRows
set_option maxRecDepth 100000 in
theorem ggX11_tellListRows_X11_addRow : GoodIn wsX11_tellListRows wsX11_addRow := (gi_cons 21 rfl rfl (gi_cons 22 rfl rfl (gi_cons 23 rfl rfl (gi_cons 24 rfl rfl (gi_cons 25 rfl rfl (gi_cons 26 rfl rfl (gi_cons 1 rfl rfl (gi_cons 27 rfl rfl (gi_cons 28 rfl rfl (gi_cons 29 rfl rfl (gi_cons 30 rfl rfl (gi_cons 31 rfl rfl (gi_cons 4 rfl rfl (gi_cons 32 rfl rfl (gi_cons 33 rfl rfl (gi_cons 34 rfl rfl (gi_cons 6 rfl rfl (gi_cons 7 rfl rfl (gi_cons 8 rfl rfl (gi_cons 51 rfl rfl (gi_cons 52 rfl rfl (gi_cons 53 rfl rfl (gi_cons 54 rfl rfl (gi_cons 55 rfl rfl (gi_cons 56 rfl rfl (gi_cons 57 rfl rfl (gi_cons 58 rfl rfl (gi_cons 59 rfl rfl (gi_cons 60 rfl rfl (gi_cons 61 rfl rfl (gi_cons 62 rfl rfl (gi_cons 63 rfl rfl (gi_cons 64 rfl rfl (gi_cons 65 rfl rfl (gi_cons 66 rfl rfl (gi_cons 67 rfl rfl (gi_cons 68 rfl rfl (gi_cons 69 rfl rfl (gi_cons 70 rfl rfl (gi_cons 71 rfl rfl (gi_cons 72 rfl rfl (gi_cons 73 rfl rfl (gi_cons 74 rfl rfl (gi_cons 75 rfl rfl (gi_cons 76 rfl rfl (gi_cons 77 rfl rfl (gi_cons 78 rfl rfl (gi_cons 79 rfl rfl (gi_cons 80 rfl rfl (gi_cons 81 rfl rfl (gi_cons 82 rfl rfl (gi_cons 83 rfl rfl (gi_cons 84 rfl rfl (gi_cons 85 rfl rfl (gi_cons 86 rfl rfl (gi_cons 87 rfl rfl (gi_cons 88 rfl rfl (gi_cons 89 rfl rfl (gi_cons 90 rfl rfl (gi_cons 91 rfl rfl (gi_cons 92 rfl rfl (gi_cons 93 rfl rfl (gi_cons 94 rfl rfl (gi_cons 95 rfl rfl (gi_cons 96 rfl rfl (gi_cons 97 rfl rfl (gi_cons 98 rfl rfl (gi_cons 99 rfl rfl (gi_cons 100 rfl rfl (gi_cons 101 rfl rfl (gi_cons 102 rfl rfl (gi_cons 103 rfl rfl (gi_cons 104 rfl rfl (gi_cons 105 rfl rfl (gi_cons 106 rfl rfl (gi_cons 107 rfl rfl (gi_cons 108 rfl rfl (gi_cons 109 rfl rfl (gi_cons 110 rfl rfl (gi_cons 111 rfl rfl (gi_cons 112 rfl rfl (gi_cons 113 rfl rfl (gi_cons 114 rfl rfl (gi_cons 115 rfl rfl (gi_cons 116 rfl rfl gi_nil)))))))))))))))))))))))))))))))))))))))))))))))))))))))))))))))))))))))))))))))))))))
set_option maxRecDepth 20000 in
theorem gX11_tellListRows_X11_addRow : GoodIn wsX11_tellListRows (wsV RX11 444 RX11 yX11_addRow wsX11_addRow) := goodIn_app (goodIn_of _ (by decide +kernel)) ggX11_tellListRows_X11_addRow
theorem dX11_tellListRows_0 : decode cX11_tellListRows 0 = .ok (.aload_n 1, 1) := by decide +kernel
theorem dX11_tellListRows_1 : decode cX11_tellListRows 1 = .ok (.iload_n 2, 1) := by decide +kernel
theorem dX11_tellListRows_2 : decode cX11_tellListRows 2 = .ok (.invokestatic 246, 3) := by decide +kernel
theorem dX11_tellListRows_5 : decode cX11_tellListRows 5 = .ok (.istore 6, 2) := by decide +kernel
theorem dX11_tellListRows_7 : decode cX11_tellListRows 7 = .ok (.aload_n 3, 1) := by decide +kernel
theorem dX11_tellListRows_8 : decode cX11_tellListRows 8 = .ok (.iload 4, 2) := by decide +kernel
theorem dX11_tellListRows_10 : decode cX11_tellListRows 10 = .ok (.invokestatic 246, 3) := by decide +kernel
theorem dX11_tellListRows_13 : decode cX11_tellListRows 13 = .ok (.istore 7, 2) := by decide +kernel
theorem dX11_tellListRows_15 : decode cX11_tellListRows 15 = .ok (.iconst 0, 1) := by decide +kernel
theorem dX11_tellListRows_16 : decode cX11_tellListRows 16 = .ok (.istore 8, 2) := by decide +kernel
theorem dX11_tellListRows_18 : decode cX11_tellListRows 18 = .ok (.iload 8, 2) := by decide +kernel
theorem dX11_tellListRows_20 : decode cX11_tellListRows 20 = .ok (.iload 6, 2) := by decide +kernel
theorem dX11_tellListRows_22 : decode cX11_tellListRows 22 = .ok (.if_icmp .ge 53, 3) := by decide +kernel
theorem dX11_tellListRows_25 : decode cX11_tellListRows 25 = .ok (.iload 8, 2) := by decide +kernel
theorem dX11_tellListRows_27 : decode cX11_tellListRows 27 = .ok (.iload 7, 2) := by decide +kernel
theorem dX11_tellListRows_29 : decode cX11_tellListRows 29 = .ok (.if_icmp .ge 46, 3) := by decide +kernel
theorem dX11_tellListRows_32 : decode cX11_tellListRows 32 = .ok (.aload_n 0, 1) := by decide +kernel
theorem dX11_tellListRows_33 : decode cX11_tellListRows 33 = .ok (.getfield 75, 3) := by decide +kernel
theorem dX11_tellListRows_36 : decode cX11_tellListRows 36 = .ok (.iload 5, 2) := by decide +kernel
theorem dX11_tellListRows_38 : decode cX11_tellListRows 38 = .ok (.iload 8, 2) := by decide +kernel
theorem dX11_tellListRows_40 : decode cX11_tellListRows 40 = .ok (.invokestatic 455, 3) := by decide +kernel
theorem dX11_tellListRows_43 : decode cX11_tellListRows 43 = .ok (.iastore, 1) := by decide +kernel
theorem dX11_tellListRows_44 : decode cX11_tellListRows 44 = .ok (.aload_n 0, 1) := by decide +kernel
theorem dX11_tellListRows_45 : decode cX11_tellListRows 45 = .ok (.aload_n 1, 1) := by decide +kernel
theorem dX11_tellListRows_46 : decode cX11_tellListRows 46 = .ok (.aload_n 1, 1) := by decide +kernel
theorem dX11_tellListRows_47 : decode cX11_tellListRows 47 = .ok (.iload_n 2, 1) := by decide +kernel
theorem dX11_tellListRows_48 : decode cX11_tellListRows 48 = .ok (.iload 8, 2) := by decide +kernel
theorem dX11_tellListRows_50 : decode cX11_tellListRows 50 = .ok (.invokestatic 249, 3) := by decide +kernel
theorem dX11_tellListRows_53 : decode cX11_tellListRows 53 = .ok (.aload_n 3, 1) := by decide +kernel
theorem dX11_tellListRows_54 : decode cX11_tellListRows 54 = .ok (.aload_n 3, 1) := by decide +kernel
theorem dX11_tellListRows_55 : decode cX11_tellListRows 55 = .ok (.iload 4, 2) := by decide +kernel
theorem dX11_tellListRows_57 : decode cX11_tellListRows 57 = .ok (.iload 8, 2) := by decide +kernel
theorem dX11_tellListRows_59 : decode cX11_tellListRows 59 = .ok (.invokestatic 249, 3) := by decide +kernel
theorem dX11_tellListRows_62 : decode cX11_tellListRows 62 = .ok (.iload 5, 2) := by decide +kernel
theorem dX11_tellListRows_64 : decode cX11_tellListRows 64 = .ok (.iconst 1, 1) := by decide +kernel
theorem dX11_tellListRows_65 : decode cX11_tellListRows 65 = .ok (.iadd, 1) := by decide +kernel
theorem dX11_tellListRows_66 : decode cX11_tellListRows 66 = .ok (.invokevirtual 448, 3) := by decide +kernel
theorem dX11_tellListRows_69 : decode cX11_tellListRows 69 = .ok (.iinc 8 1, 3) := by decide +kernel
theorem dX11_tellListRows_72 : decode cX11_tellListRows 72 = .ok (.goto (-54), 3) := by decide +kernel
theorem dX11_tellListRows_75 : decode cX11_tellListRows 75 = .ok (.iload 6, 2) := by decide +kernel
theorem dX11_tellListRows_77 : decode cX11_tellListRows 77 = .ok (.istore 8, 2) := by decide +kernel
theorem dX11_tellListRows_79 : decode cX11_tellListRows 79 = .ok (.iload 8, 2) := by decide +kernel
theorem dX11_tellListRows_81 : decode cX11_tellListRows 81 = .ok (.iload 7, 2) := by decide +kernel
theorem dX11_tellListRows_83 : decode cX11_tellListRows 83 = .ok (.if_icmp .ge 41, 3) := by decide +kernel
theorem dX11_tellListRows_86 : decode cX11_tellListRows 86 = .ok (.aload_n 0, 1) := by decide +kernel
theorem dX11_tellListRows_87 : decode cX11_tellListRows 87 = .ok (.getfield 75, 3) := by decide +kernel
theorem dX11_tellListRows_90 : decode cX11_tellListRows 90 = .ok (.iload 5, 2) := by decide +kernel
theorem dX11_tellListRows_92 : decode cX11_tellListRows 92 = .ok (.iload 8, 2) := by decide +kernel
theorem dX11_tellListRows_94 : decode cX11_tellListRows 94 = .ok (.invokestatic 455, 3) := by decide +kernel
theorem dX11_tellListRows_97 : decode cX11_tellListRows 97 = .ok (.iastore, 1) := by decide +kernel
theorem dX11_tellListRows_98 : decode cX11_tellListRows 98 = .ok (.aload_n 0, 1) := by decide +kernel
theorem dX11_tellListRows_99 : decode cX11_tellListRows 99 = .ok (.iconst 1, 1) := by decide +kernel
theorem dX11_tellListRows_100 : decode cX11_tellListRows 100 = .ok (.iload 5, 2) := by decide +kernel
theorem dX11_tellListRows_102 : decode cX11_tellListRows 102 = .ok (.iconst 1, 1) := by decide +kernel
theorem dX11_tellListRows_103 : decode cX11_tellListRows 103 = .ok (.iadd, 1) := by decide +kernel
theorem dX11_tellListRows_104 : decode cX11_tellListRows 104 = .ok (.aload_n 1, 1) := by decide +kernel
theorem dX11_tellListRows_105 : decode cX11_tellListRows 105 = .ok (.iconst (-1), 1) := by decide +kernel
theorem dX11_tellListRows_106 : decode cX11_tellListRows 106 = .ok (.aload_n 3, 1) := by decide +kernel
theorem dX11_tellListRows_107 : decode cX11_tellListRows 107 = .ok (.aload_n 3, 1) := by decide +kernel
theorem dX11_tellListRows_108 : decode cX11_tellListRows 108 = .ok (.iload 4, 2) := by decide +kernel
theorem dX11_tellListRows_110 : decode cX11_tellListRows 110 = .ok (.iload 8, 2) := by decide +kernel
theorem dX11_tellListRows_112 : decode cX11_tellListRows 112 = .ok (.invokestatic 249, 3) := by decide +kernel
theorem dX11_tellListRows_115 : decode cX11_tellListRows 115 = .ok (.invokevirtual 444, 3) := by decide +kernel
theorem dX11_tellListRows_118 : decode cX11_tellListRows 118 = .ok (.iinc 8 1, 3) := by decide +kernel
theorem dX11_tellListRows_121 : decode cX11_tellListRows 121 = .ok (.goto (-42), 3) := by decide +kernel
theorem dX11_tellListRows_124 : decode cX11_tellListRows 124 = .ok (.iload 6, 2) := by decide +kernel
theorem dX11_tellListRows_126 : decode cX11_tellListRows 126 = .ok (.iconst 1, 1) := by decide +kernel
theorem dX11_tellListRows_127 : decode cX11_tellListRows 127 = .ok (.isub, 1) := by decide +kernel
theorem dX11_tellListRows_128 : decode cX11_tellListRows 128 = .ok (.istore 8, 2) := by decide +kernel
theorem dX11_tellListRows_130 : decode cX11_tellListRows 130 = .ok (.iload 8, 2) := by decide +kernel
theorem dX11_tellListRows_132 : decode cX11_tellListRows 132 = .ok (.iload 7, 2) := by decide +kernel
theorem dX11_tellListRows_134 : decode cX11_tellListRows 134 = .ok (.if_icmp .lt 40, 3) := by decide +kernel
theorem dX11_tellListRows_137 : decode cX11_tellListRows 137 = .ok (.aload_n 0, 1) := by decide +kernel
theorem dX11_tellListRows_138 : decode cX11_tellListRows 138 = .ok (.getfield 75, 3) := by decide +kernel
theorem dX11_tellListRows_141 : decode cX11_tellListRows 141 = .ok (.iload 5, 2) := by decide +kernel
theorem dX11_tellListRows_143 : decode cX11_tellListRows 143 = .ok (.iload 8, 2) := by decide +kernel
theorem dX11_tellListRows_145 : decode cX11_tellListRows 145 = .ok (.invokestatic 455, 3) := by decide +kernel
theorem dX11_tellListRows_148 : decode cX11_tellListRows 148 = .ok (.iastore, 1) := by decide +kernel
theorem dX11_tellListRows_149 : decode cX11_tellListRows 149 = .ok (.aload_n 0, 1) := by decide +kernel
theorem dX11_tellListRows_150 : decode cX11_tellListRows 150 = .ok (.iconst 2, 1) := by decide +kernel
theorem dX11_tellListRows_151 : decode cX11_tellListRows 151 = .ok (.iload 5, 2) := by decide +kernel
theorem dX11_tellListRows_153 : decode cX11_tellListRows 153 = .ok (.iconst 1, 1) := by decide +kernel
theorem dX11_tellListRows_154 : decode cX11_tellListRows 154 = .ok (.iadd, 1) := by decide +kernel
theorem dX11_tellListRows_155 : decode cX11_tellListRows 155 = .ok (.aload_n 1, 1) := by decide +kernel
theorem dX11_tellListRows_156 : decode cX11_tellListRows 156 = .ok (.aload_n 1, 1) := by decide +kernel
theorem dX11_tellListRows_157 : decode cX11_tellListRows 157 = .ok (.iload_n 2, 1) := by decide +kernel
theorem dX11_tellListRows_158 : decode cX11_tellListRows 158 = .ok (.iload 8, 2) := by decide +kernel
theorem dX11_tellListRows_160 : decode cX11_tellListRows 160 = .ok (.invokestatic 249, 3) := by decide +kernel
theorem dX11_tellListRows_163 : decode cX11_tellListRows 163 = .ok (.aload_n 3, 1) := by decide +kernel
theorem dX11_tellListRows_164 : decode cX11_tellListRows 164 = .ok (.iconst (-1), 1) := by decide +kernel
theorem dX11_tellListRows_165 : decode cX11_tellListRows 165 = .ok (.invokevirtual 444, 3) := by decide +kernel
theorem dX11_tellListRows_168 : decode cX11_tellListRows 168 = .ok (.iinc 8 (-1), 3) := by decide +kernel
theorem dX11_tellListRows_171 : decode cX11_tellListRows 171 = .ok (.goto (-41), 3) := by decide +kernel
theorem dX11_tellListRows_174 : decode cX11_tellListRows 174 = .ok (.return_, 1) := by decide +kernel
