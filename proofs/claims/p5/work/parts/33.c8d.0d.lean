set_option maxRecDepth 100000 in
theorem ggX11_tellRows_X11_areLike : GoodIn wsX11_tellRows wsX11_areLike := (gi_cons 5 rfl rfl (gi_cons 6 rfl rfl (gi_cons 7 rfl rfl (gi_cons 4 rfl rfl (gi_cons 8 rfl rfl (gi_cons 9 rfl rfl (gi_cons 10 rfl rfl (gi_cons 11 rfl rfl (gi_cons 12 rfl rfl (gi_cons 13 rfl rfl (gi_cons 14 rfl rfl (gi_cons 15 rfl rfl (gi_cons 16 rfl rfl (gi_cons 17 rfl rfl (gi_cons 18 rfl rfl (gi_cons 19 rfl rfl (gi_cons 20 rfl rfl (gi_cons 21 rfl rfl (gi_cons 22 rfl rfl (gi_cons 23 rfl rfl (gi_cons 2 rfl rfl (gi_cons 3 rfl rfl gi_nil))))))))))))))))))))))
set_option maxRecDepth 20000 in
theorem gX11_tellRows_X11_areLike : GoodIn wsX11_tellRows (va_wsS RX11 263 yX11_areLike wsX11_areLike) := goodIn_app (goodIn_of _ (by decide +kernel)) ggX11_tellRows_X11_areLike
set_option maxRecDepth 100000 in
theorem ggX11_tellRows_X11_kind : GoodIn wsX11_tellRows wsX11_kind := (gi_cons 8 rfl rfl gi_nil)
set_option maxRecDepth 20000 in
theorem gX11_tellRows_X11_kind : GoodIn wsX11_tellRows (va_wsS RX11 253 yX11_kind wsX11_kind) := goodIn_app (goodIn_of _ (by decide +kernel)) ggX11_tellRows_X11_kind
set_option maxRecDepth 100000 in
theorem ggX11_tellRows_X11_size : GoodIn wsX11_tellRows wsX11_size := (gi_cons 11 rfl rfl gi_nil)
set_option maxRecDepth 20000 in
theorem gX11_tellRows_X11_size : GoodIn wsX11_tellRows (va_wsS RX11 242 yX11_size wsX11_size) := goodIn_app (goodIn_of _ (by decide +kernel)) ggX11_tellRows_X11_size
set_option maxRecDepth 100000 in
theorem ggX11_tellRows_X11_byKey : GoodIn wsX11_tellRows wsX11_byKey := (gi_cons 20 rfl rfl (gi_cons 9 rfl rfl (gi_cons 10 rfl rfl (gi_cons 4 rfl rfl (gi_cons 11 rfl rfl gi_nil)))))
set_option maxRecDepth 20000 in
theorem gX11_tellRows_X11_byKey : GoodIn wsX11_tellRows (va_wsS RX11 260 yX11_byKey wsX11_byKey) := goodIn_app (goodIn_of _ (by decide +kernel)) ggX11_tellRows_X11_byKey
set_option maxRecDepth 100000 in
theorem ggX11_tellRows_X11_addRow : GoodIn wsX11_tellRows wsX11_addRow := (gi_cons 27 rfl rfl (gi_cons 28 rfl rfl (gi_cons 29 rfl rfl (gi_cons 30 rfl rfl (gi_cons 31 rfl rfl (gi_cons 32 rfl rfl (gi_cons 1 rfl rfl (gi_cons 33 rfl rfl (gi_cons 34 rfl rfl (gi_cons 35 rfl rfl (gi_cons 36 rfl rfl (gi_cons 37 rfl rfl (gi_cons 4 rfl rfl (gi_cons 38 rfl rfl (gi_cons 39 rfl rfl (gi_cons 40 rfl rfl (gi_cons 9 rfl rfl (gi_cons 10 rfl rfl (gi_cons 11 rfl rfl (gi_cons 51 rfl rfl (gi_cons 52 rfl rfl (gi_cons 53 rfl rfl (gi_cons 54 rfl rfl (gi_cons 55 rfl rfl (gi_cons 56 rfl rfl (gi_cons 57 rfl rfl (gi_cons 58 rfl rfl (gi_cons 59 rfl rfl (gi_cons 60 rfl rfl (gi_cons 61 rfl rfl (gi_cons 62 rfl rfl (gi_cons 63 rfl rfl (gi_cons 64 rfl rfl (gi_cons 65 rfl rfl (gi_cons 66 rfl rfl (gi_cons 67 rfl rfl (gi_cons 68 rfl rfl (gi_cons 69 rfl rfl (gi_cons 70 rfl rfl (gi_cons 71 rfl rfl (gi_cons 72 rfl rfl (gi_cons 73 rfl rfl (gi_cons 74 rfl rfl (gi_cons 75 rfl rfl (gi_cons 76 rfl rfl (gi_cons 77 rfl rfl (gi_cons 78 rfl rfl (gi_cons 79 rfl rfl (gi_cons 80 rfl rfl (gi_cons 81 rfl rfl (gi_cons 82 rfl rfl (gi_cons 83 rfl rfl (gi_cons 84 rfl rfl (gi_cons 85 rfl rfl (gi_cons 86 rfl rfl (gi_cons 87 rfl rfl (gi_cons 88 rfl rfl (gi_cons 89 rfl rfl (gi_cons 90 rfl rfl (gi_cons 91 rfl rfl (gi_cons 92 rfl rfl (gi_cons 93 rfl rfl (gi_cons 94 rfl rfl (gi_cons 95 rfl rfl (gi_cons 96 rfl rfl (gi_cons 97 rfl rfl (gi_cons 98 rfl rfl (gi_cons 99 rfl rfl (gi_cons 100 rfl rfl (gi_cons 101 rfl rfl (gi_cons 102 rfl rfl (gi_cons 103 rfl rfl (gi_cons 104 rfl rfl (gi_cons 105 rfl rfl (gi_cons 106 rfl rfl (gi_cons 107 rfl rfl (gi_cons 108 rfl rfl (gi_cons 109 rfl rfl (gi_cons 110 rfl rfl (gi_cons 111 rfl rfl (gi_cons 112 rfl rfl (gi_cons 113 rfl rfl (gi_cons 114 rfl rfl (gi_cons 115 rfl rfl (gi_cons 116 rfl rfl gi_nil)))))))))))))))))))))))))))))))))))))))))))))))))))))))))))))))))))))))))))))))))))))
set_option maxRecDepth 20000 in
theorem gX11_tellRows_X11_addRow : GoodIn wsX11_tellRows (wsV RX11 444 RX11 yX11_addRow wsX11_addRow) := goodIn_app (goodIn_of _ (by decide +kernel)) ggX11_tellRows_X11_addRow
set_option maxRecDepth 100000 in
theorem ggX11_tellRows_X11_tellRows : GoodIn wsX11_tellRows wsX11_tellRows := (gi_cons 0 rfl rfl (gi_cons 1 rfl rfl (gi_cons 2 rfl rfl (gi_cons 3 rfl rfl (gi_cons 4 rfl rfl (gi_cons 5 rfl rfl (gi_cons 6 rfl rfl (gi_cons 7 rfl rfl (gi_cons 8 rfl rfl (gi_cons 9 rfl rfl (gi_cons 10 rfl rfl (gi_cons 11 rfl rfl (gi_cons 12 rfl rfl (gi_cons 13 rfl rfl (gi_cons 14 rfl rfl (gi_cons 15 rfl rfl (gi_cons 16 rfl rfl (gi_cons 17 rfl rfl (gi_cons 18 rfl rfl (gi_cons 19 rfl rfl (gi_cons 20 rfl rfl (gi_cons 21 rfl rfl (gi_cons 22 rfl rfl (gi_cons 23 rfl rfl (gi_cons 24 rfl rfl (gi_cons 25 rfl rfl (gi_cons 26 rfl rfl (gi_cons 27 rfl rfl (gi_cons 28 rfl rfl (gi_cons 29 rfl rfl (gi_cons 30 rfl rfl (gi_cons 31 rfl rfl (gi_cons 32 rfl rfl (gi_cons 33 rfl rfl (gi_cons 34 rfl rfl (gi_cons 35 rfl rfl (gi_cons 36 rfl rfl (gi_cons 37 rfl rfl (gi_cons 38 rfl rfl (gi_cons 39 rfl rfl (gi_cons 40 rfl rfl (gi_cons 41 rfl rfl (gi_cons 42 rfl rfl (gi_cons 43 rfl rfl (gi_cons 44 rfl rfl (gi_cons 45 rfl rfl (gi_cons 46 rfl rfl (gi_cons 47 rfl rfl (gi_cons 48 rfl rfl (gi_cons 49 rfl rfl (gi_cons 50 rfl rfl (gi_cons 51 rfl rfl (gi_cons 52 rfl rfl (gi_cons 53 rfl rfl (gi_cons 54 rfl rfl (gi_cons 55 rfl rfl (gi_cons 56 rfl rfl (gi_cons 57 rfl rfl (gi_cons 58 rfl rfl (gi_cons 59 rfl rfl (gi_cons 60 rfl rfl (gi_cons 61 rfl rfl (gi_cons 62 rfl rfl (gi_cons 63 rfl rfl (gi_cons 64 rfl rfl (gi_cons 65 rfl rfl (gi_cons 66 rfl rfl (gi_cons 67 rfl rfl (gi_cons 68 rfl rfl (gi_cons 69 rfl rfl (gi_cons 70 rfl rfl (gi_cons 71 rfl rfl (gi_cons 72 rfl rfl (gi_cons 73 rfl rfl (gi_cons 74 rfl rfl (gi_cons 75 rfl rfl (gi_cons 76 rfl rfl (gi_cons 77 rfl rfl (gi_cons 78 rfl rfl (gi_cons 79 rfl rfl (gi_cons 80 rfl rfl (gi_cons 81 rfl rfl (gi_cons 82 rfl rfl (gi_cons 83 rfl rfl (gi_cons 84 rfl rfl (gi_cons 85 rfl rfl (gi_cons 86 rfl rfl (gi_cons 87 rfl rfl (gi_cons 88 rfl rfl (gi_cons 89 rfl rfl (gi_cons 90 rfl rfl (gi_cons 91 rfl rfl (gi_cons 92 rfl rfl (gi_cons 93 rfl rfl (gi_cons 94 rfl rfl (gi_cons 95 rfl rfl (gi_cons 96 rfl rfl (gi_cons 97 rfl rfl (gi_cons 98 rfl rfl (gi_cons 99 rfl rfl (gi_cons 100 rfl rfl (gi_cons 101 rfl rfl (gi_cons 102 rfl rfl (gi_cons 103 rfl rfl (gi_cons 104 rfl rfl (gi_cons 105 rfl rfl (gi_cons 106 rfl rfl (gi_cons 107 rfl rfl (gi_cons 108 rfl rfl (gi_cons 109 rfl rfl (gi_cons 110 rfl rfl (gi_cons 111 rfl rfl (gi_cons 112 rfl rfl (gi_cons 113 rfl rfl (gi_cons 114 rfl rfl (gi_cons 115 rfl rfl (gi_cons 116 rfl rfl gi_nil)))))))))))))))))))))))))))))))))))))))))))))))))))))))))))))))))))))))))))))))))))))))))))))))))))))))))))))))))))))
set_option maxRecDepth 20000 in
theorem gX11_tellRows_X11_tellRows : GoodIn wsX11_tellRows (wsV RX11 448 RX11 yX11_tellRows wsX11_tellRows) := goodIn_app (goodIn_of _ (by decide +kernel)) ggX11_tellRows_X11_tellRows
set_option maxRecDepth 100000 in
theorem ggX11_tellRows_X11_tellListRows : GoodIn wsX11_tellRows wsX11_tellListRows := (gi_cons 47 rfl rfl (gi_cons 1 rfl rfl (gi_cons 15 rfl rfl (gi_cons 16 rfl rfl (gi_cons 4 rfl rfl (gi_cons 17 rfl rfl (gi_cons 9 rfl rfl (gi_cons 10 rfl rfl (gi_cons 11 rfl rfl (gi_cons 48 rfl rfl (gi_cons 49 rfl rfl (gi_cons 50 rfl rfl (gi_cons 21 rfl rfl (gi_cons 22 rfl rfl (gi_cons 23 rfl rfl (gi_cons 41 rfl rfl (gi_cons 42 rfl rfl (gi_cons 43 rfl rfl (gi_cons 24 rfl rfl (gi_cons 25 rfl rfl (gi_cons 26 rfl rfl (gi_cons 27 rfl rfl (gi_cons 28 rfl rfl (gi_cons 29 rfl rfl (gi_cons 30 rfl rfl (gi_cons 31 rfl rfl (gi_cons 32 rfl rfl (gi_cons 33 rfl rfl (gi_cons 34 rfl rfl (gi_cons 35 rfl rfl (gi_cons 36 rfl rfl (gi_cons 37 rfl rfl (gi_cons 38 rfl rfl (gi_cons 39 rfl rfl (gi_cons 40 rfl rfl (gi_cons 0 rfl rfl (gi_cons 2 rfl rfl (gi_cons 3 rfl rfl (gi_cons 5 rfl rfl (gi_cons 6 rfl rfl (gi_cons 7 rfl rfl (gi_cons 8 rfl rfl (gi_cons 12 rfl rfl (gi_cons 13 rfl rfl (gi_cons 14 rfl rfl (gi_cons 18 rfl rfl (gi_cons 19 rfl rfl (gi_cons 20 rfl rfl (gi_cons 44 rfl rfl (gi_cons 45 rfl rfl (gi_cons 46 rfl rfl (gi_cons 51 rfl rfl (gi_cons 52 rfl rfl (gi_cons 53 rfl rfl (gi_cons 54 rfl rfl (gi_cons 55 rfl rfl (gi_cons 56 rfl rfl (gi_cons 57 rfl rfl (gi_cons 58 rfl rfl (gi_cons 59 rfl rfl (gi_cons 60 rfl rfl (gi_cons 61 rfl rfl (gi_cons 62 rfl rfl (gi_cons 63 rfl rfl (gi_cons 64 rfl rfl (gi_cons 65 rfl rfl (gi_cons 66 rfl rfl (gi_cons 67 rfl rfl (gi_cons 68 rfl rfl (gi_cons 69 rfl rfl (gi_cons 70 rfl rfl (gi_cons 71 rfl rfl (gi_cons 72 rfl rfl (gi_cons 73 rfl rfl (gi_cons 74 rfl rfl (gi_cons 75 rfl rfl (gi_cons 76 rfl rfl (gi_cons 77 rfl rfl (gi_cons 78 rfl rfl (gi_cons 79 rfl rfl (gi_cons 80 rfl rfl (gi_cons 81 rfl rfl (gi_cons 82 rfl rfl (gi_cons 83 rfl rfl (gi_cons 84 rfl rfl (gi_cons 85 rfl rfl (gi_cons 86 rfl rfl (gi_cons 87 rfl rfl (gi_cons 88 rfl rfl (gi_cons 89 rfl rfl (gi_cons 90 rfl rfl (gi_cons 91 rfl rfl (gi_cons 92 rfl rfl (gi_cons 93 rfl rfl (gi_cons 94 rfl rfl (gi_cons 95 rfl rfl (gi_cons 96 rfl rfl (gi_cons 97 rfl rfl (gi_cons 98 rfl rfl (gi_cons 99 rfl rfl (gi_cons 100 rfl rfl (gi_cons 101 rfl rfl (gi_cons 102 rfl rfl (gi_cons 103 rfl rfl (gi_cons 104 rfl rfl (gi_cons 105 rfl rfl (gi_cons 106 rfl rfl (gi_cons 107 rfl rfl (gi_cons 108 rfl rfl (gi_cons 109 rfl rfl (gi_cons 110 rfl rfl (gi_cons 111 rfl rfl (gi_cons 112 rfl rfl (gi_cons 113 rfl rfl (gi_cons 114 rfl rfl (gi_cons 115 rfl rfl (gi_cons 116 rfl rfl gi_nil)))))))))))))))))))))))))))))))))))))))))))))))))))))))))))))))))))))))))))))))))))))))))))))))))))))))))))))))))))))
set_option maxRecDepth 20000 in
theorem gX11_tellRows_X11_tellListRows : GoodIn wsX11_tellRows (wsV RX11 452 RX11 yX11_tellListRows wsX11_tellListRows) := goodIn_app (goodIn_of _ (by decide +kernel)) ggX11_tellRows_X11_tellListRows
theorem dX11_tellRows_0 : decode cX11_tellRows 0 = .ok (.aload_n 1, 1) := by decide +kernel
theorem dX11_tellRows_1 : decode cX11_tellRows 1 = .ok (.iload_n 2, 1) := by decide +kernel
theorem dX11_tellRows_2 : decode cX11_tellRows 2 = .ok (.aload_n 3, 1) := by decide +kernel
theorem dX11_tellRows_3 : decode cX11_tellRows 3 = .ok (.iload 4, 2) := by decide +kernel
theorem dX11_tellRows_5 : decode cX11_tellRows 5 = .ok (.invokestatic 263, 3) := by decide +kernel
theorem dX11_tellRows_8 : decode cX11_tellRows 8 = .ok (.ifCond .eq 4, 3) := by decide +kernel
theorem dX11_tellRows_11 : decode cX11_tellRows 11 = .ok (.return_, 1) := by decide +kernel
theorem dX11_tellRows_12 : decode cX11_tellRows 12 = .ok (.aload_n 1, 1) := by decide +kernel
theorem dX11_tellRows_13 : decode cX11_tellRows 13 = .ok (.iload_n 2, 1) := by decide +kernel
theorem dX11_tellRows_14 : decode cX11_tellRows 14 = .ok (.invokestatic 253, 3) := by decide +kernel
theorem dX11_tellRows_17 : decode cX11_tellRows 17 = .ok (.iconst 3, 1) := by decide +kernel
theorem dX11_tellRows_18 : decode cX11_tellRows 18 = .ok (.if_icmp .ne 195, 3) := by decide +kernel
theorem dX11_tellRows_21 : decode cX11_tellRows 21 = .ok (.aload_n 3, 1) := by decide +kernel
theorem dX11_tellRows_22 : decode cX11_tellRows 22 = .ok (.iload 4, 2) := by decide +kernel
theorem dX11_tellRows_24 : decode cX11_tellRows 24 = .ok (.invokestatic 253, 3) := by decide +kernel
theorem dX11_tellRows_27 : decode cX11_tellRows 27 = .ok (.iconst 3, 1) := by decide +kernel
theorem dX11_tellRows_28 : decode cX11_tellRows 28 = .ok (.if_icmp .ne 185, 3) := by decide +kernel
theorem dX11_tellRows_31 : decode cX11_tellRows 31 = .ok (.iload_n 2, 1) := by decide +kernel
theorem dX11_tellRows_32 : decode cX11_tellRows 32 = .ok (.iconst 1, 1) := by decide +kernel
theorem dX11_tellRows_33 : decode cX11_tellRows 33 = .ok (.iadd, 1) := by decide +kernel
theorem dX11_tellRows_34 : decode cX11_tellRows 34 = .ok (.istore 6, 2) := by decide +kernel
theorem dX11_tellRows_36 : decode cX11_tellRows 36 = .ok (.iload 6, 2) := by decide +kernel
theorem dX11_tellRows_38 : decode cX11_tellRows 38 = .ok (.iload_n 2, 1) := by decide +kernel
theorem dX11_tellRows_39 : decode cX11_tellRows 39 = .ok (.aload_n 1, 1) := by decide +kernel
theorem dX11_tellRows_40 : decode cX11_tellRows 40 = .ok (.iload_n 2, 1) := by decide +kernel
theorem dX11_tellRows_41 : decode cX11_tellRows 41 = .ok (.invokestatic 242, 3) := by decide +kernel
theorem dX11_tellRows_44 : decode cX11_tellRows 44 = .ok (.iadd, 1) := by decide +kernel
theorem dX11_tellRows_45 : decode cX11_tellRows 45 = .ok (.if_icmp .ge 85, 3) := by decide +kernel
theorem dX11_tellRows_48 : decode cX11_tellRows 48 = .ok (.aload_n 3, 1) := by decide +kernel
theorem dX11_tellRows_49 : decode cX11_tellRows 49 = .ok (.iload 4, 2) := by decide +kernel
theorem dX11_tellRows_51 : decode cX11_tellRows 51 = .ok (.aload_n 1, 1) := by decide +kernel
theorem dX11_tellRows_52 : decode cX11_tellRows 52 = .ok (.iconst 4, 1) := by decide +kernel
theorem dX11_tellRows_53 : decode cX11_tellRows 53 = .ok (.iload 6, 2) := by decide +kernel
theorem dX11_tellRows_55 : decode cX11_tellRows 55 = .ok (.imul, 1) := by decide +kernel
theorem dX11_tellRows_56 : decode cX11_tellRows 56 = .ok (.iconst 2, 1) := by decide +kernel
theorem dX11_tellRows_57 : decode cX11_tellRows 57 = .ok (.iadd, 1) := by decide +kernel
theorem dX11_tellRows_58 : decode cX11_tellRows 58 = .ok (.iaload, 1) := by decide +kernel
theorem dX11_tellRows_59 : decode cX11_tellRows 59 = .ok (.invokestatic 260, 3) := by decide +kernel
theorem dX11_tellRows_62 : decode cX11_tellRows 62 = .ok (.istore 7, 2) := by decide +kernel
theorem dX11_tellRows_64 : decode cX11_tellRows 64 = .ok (.aload_n 0, 1) := by decide +kernel
theorem dX11_tellRows_65 : decode cX11_tellRows 65 = .ok (.getfield 75, 3) := by decide +kernel
theorem dX11_tellRows_68 : decode cX11_tellRows 68 = .ok (.iload 5, 2) := by decide +kernel
theorem dX11_tellRows_70 : decode cX11_tellRows 70 = .ok (.aload_n 1, 1) := by decide +kernel
theorem dX11_tellRows_71 : decode cX11_tellRows 71 = .ok (.iconst 4, 1) := by decide +kernel
theorem dX11_tellRows_72 : decode cX11_tellRows 72 = .ok (.iload 6, 2) := by decide +kernel
theorem dX11_tellRows_74 : decode cX11_tellRows 74 = .ok (.imul, 1) := by decide +kernel
theorem dX11_tellRows_75 : decode cX11_tellRows 75 = .ok (.iconst 2, 1) := by decide +kernel
theorem dX11_tellRows_76 : decode cX11_tellRows 76 = .ok (.iadd, 1) := by decide +kernel
theorem dX11_tellRows_77 : decode cX11_tellRows 77 = .ok (.iaload, 1) := by decide +kernel
theorem dX11_tellRows_78 : decode cX11_tellRows 78 = .ok (.iastore, 1) := by decide +kernel
theorem dX11_tellRows_79 : decode cX11_tellRows 79 = .ok (.iload 7, 2) := by decide +kernel
theorem dX11_tellRows_81 : decode cX11_tellRows 81 = .ok (.iconst (-1), 1) := by decide +kernel
theorem dX11_tellRows_82 : decode cX11_tellRows 82 = .ok (.if_icmp .ne 20, 3) := by decide +kernel
theorem dX11_tellRows_85 : decode cX11_tellRows 85 = .ok (.aload_n 0, 1) := by decide +kernel
theorem dX11_tellRows_86 : decode cX11_tellRows 86 = .ok (.iconst 2, 1) := by decide +kernel
theorem dX11_tellRows_87 : decode cX11_tellRows 87 = .ok (.iload 5, 2) := by decide +kernel
theorem dX11_tellRows_89 : decode cX11_tellRows 89 = .ok (.iconst 1, 1) := by decide +kernel
theorem dX11_tellRows_90 : decode cX11_tellRows 90 = .ok (.iadd, 1) := by decide +kernel
theorem dX11_tellRows_91 : decode cX11_tellRows 91 = .ok (.aload_n 1, 1) := by decide +kernel
theorem dX11_tellRows_92 : decode cX11_tellRows 92 = .ok (.iload 6, 2) := by decide +kernel
theorem dX11_tellRows_94 : decode cX11_tellRows 94 = .ok (.aload_n 3, 1) := by decide +kernel
theorem dX11_tellRows_95 : decode cX11_tellRows 95 = .ok (.iconst (-1), 1) := by decide +kernel
theorem dX11_tellRows_96 : decode cX11_tellRows 96 = .ok (.invokevirtual 444, 3) := by decide +kernel
theorem dX11_tellRows_99 : decode cX11_tellRows 99 = .ok (.goto 17, 3) := by decide +kernel
theorem dX11_tellRows_102 : decode cX11_tellRows 102 = .ok (.aload_n 0, 1) := by decide +kernel
theorem dX11_tellRows_103 : decode cX11_tellRows 103 = .ok (.aload_n 1, 1) := by decide +kernel
theorem dX11_tellRows_104 : decode cX11_tellRows 104 = .ok (.iload 6, 2) := by decide +kernel
theorem dX11_tellRows_106 : decode cX11_tellRows 106 = .ok (.aload_n 3, 1) := by decide +kernel
theorem dX11_tellRows_107 : decode cX11_tellRows 107 = .ok (.iload 7, 2) := by decide +kernel
theorem dX11_tellRows_109 : decode cX11_tellRows 109 = .ok (.iload 5, 2) := by decide +kernel
theorem dX11_tellRows_111 : decode cX11_tellRows 111 = .ok (.iconst 1, 1) := by decide +kernel
theorem dX11_tellRows_112 : decode cX11_tellRows 112 = .ok (.iadd, 1) := by decide +kernel
theorem dX11_tellRows_113 : decode cX11_tellRows 113 = .ok (.invokevirtual 448, 3) := by decide +kernel
theorem dX11_tellRows_116 : decode cX11_tellRows 116 = .ok (.iload 6, 2) := by decide +kernel
theorem dX11_tellRows_118 : decode cX11_tellRows 118 = .ok (.aload_n 1, 1) := by decide +kernel
theorem dX11_tellRows_119 : decode cX11_tellRows 119 = .ok (.iload 6, 2) := by decide +kernel
theorem dX11_tellRows_121 : decode cX11_tellRows 121 = .ok (.invokestatic 242, 3) := by decide +kernel
theorem dX11_tellRows_124 : decode cX11_tellRows 124 = .ok (.iadd, 1) := by decide +kernel
theorem dX11_tellRows_125 : decode cX11_tellRows 125 = .ok (.istore 6, 2) := by decide +kernel
theorem dX11_tellRows_127 : decode cX11_tellRows 127 = .ok (.goto (-91), 3) := by decide +kernel
theorem dX11_tellRows_130 : decode cX11_tellRows 130 = .ok (.iload 4, 2) := by decide +kernel
theorem dX11_tellRows_132 : decode cX11_tellRows 132 = .ok (.iconst 1, 1) := by decide +kernel
theorem dX11_tellRows_133 : decode cX11_tellRows 133 = .ok (.iadd, 1) := by decide +kernel
theorem dX11_tellRows_134 : decode cX11_tellRows 134 = .ok (.istore 6, 2) := by decide +kernel
theorem dX11_tellRows_136 : decode cX11_tellRows 136 = .ok (.iload 6, 2) := by decide +kernel
theorem dX11_tellRows_138 : decode cX11_tellRows 138 = .ok (.iload 4, 2) := by decide +kernel
theorem dX11_tellRows_140 : decode cX11_tellRows 140 = .ok (.aload_n 3, 1) := by decide +kernel
theorem dX11_tellRows_141 : decode cX11_tellRows 141 = .ok (.iload 4, 2) := by decide +kernel
theorem dX11_tellRows_143 : decode cX11_tellRows 143 = .ok (.invokestatic 242, 3) := by decide +kernel
theorem dX11_tellRows_146 : decode cX11_tellRows 146 = .ok (.iadd, 1) := by decide +kernel
theorem dX11_tellRows_147 : decode cX11_tellRows 147 = .ok (.if_icmp .ge 63, 3) := by decide +kernel
theorem dX11_tellRows_150 : decode cX11_tellRows 150 = .ok (.aload_n 0, 1) := by decide +kernel
theorem dX11_tellRows_151 : decode cX11_tellRows 151 = .ok (.getfield 75, 3) := by decide +kernel
theorem dX11_tellRows_154 : decode cX11_tellRows 154 = .ok (.iload 5, 2) := by decide +kernel
theorem dX11_tellRows_156 : decode cX11_tellRows 156 = .ok (.aload_n 3, 1) := by decide +kernel
theorem dX11_tellRows_157 : decode cX11_tellRows 157 = .ok (.iconst 4, 1) := by decide +kernel
theorem dX11_tellRows_158 : decode cX11_tellRows 158 = .ok (.iload 6, 2) := by decide +kernel
theorem dX11_tellRows_160 : decode cX11_tellRows 160 = .ok (.imul, 1) := by decide +kernel
theorem dX11_tellRows_161 : decode cX11_tellRows 161 = .ok (.iconst 2, 1) := by decide +kernel
theorem dX11_tellRows_162 : decode cX11_tellRows 162 = .ok (.iadd, 1) := by decide +kernel
theorem dX11_tellRows_163 : decode cX11_tellRows 163 = .ok (.iaload, 1) := by decide +kernel
theorem dX11_tellRows_164 : decode cX11_tellRows 164 = .ok (.iastore, 1) := by decide +kernel
theorem dX11_tellRows_165 : decode cX11_tellRows 165 = .ok (.aload_n 1, 1) := by decide +kernel
theorem dX11_tellRows_166 : decode cX11_tellRows 166 = .ok (.iload_n 2, 1) := by decide +kernel
theorem dX11_tellRows_167 : decode cX11_tellRows 167 = .ok (.aload_n 3, 1) := by decide +kernel
theorem dX11_tellRows_168 : decode cX11_tellRows 168 = .ok (.iconst 4, 1) := by decide +kernel
theorem dX11_tellRows_169 : decode cX11_tellRows 169 = .ok (.iload 6, 2) := by decide +kernel
theorem dX11_tellRows_171 : decode cX11_tellRows 171 = .ok (.imul, 1) := by decide +kernel
theorem dX11_tellRows_172 : decode cX11_tellRows 172 = .ok (.iconst 2, 1) := by decide +kernel
theorem dX11_tellRows_173 : decode cX11_tellRows 173 = .ok (.iadd, 1) := by decide +kernel
theorem dX11_tellRows_174 : decode cX11_tellRows 174 = .ok (.iaload, 1) := by decide +kernel
theorem dX11_tellRows_175 : decode cX11_tellRows 175 = .ok (.invokestatic 260, 3) := by decide +kernel
theorem dX11_tellRows_178 : decode cX11_tellRows 178 = .ok (.iconst (-1), 1) := by decide +kernel
theorem dX11_tellRows_179 : decode cX11_tellRows 179 = .ok (.if_icmp .ne 17, 3) := by decide +kernel
theorem dX11_tellRows_182 : decode cX11_tellRows 182 = .ok (.aload_n 0, 1) := by decide +kernel
theorem dX11_tellRows_183 : decode cX11_tellRows 183 = .ok (.iconst 1, 1) := by decide +kernel
theorem dX11_tellRows_184 : decode cX11_tellRows 184 = .ok (.iload 5, 2) := by decide +kernel
theorem dX11_tellRows_186 : decode cX11_tellRows 186 = .ok (.iconst 1, 1) := by decide +kernel
theorem dX11_tellRows_187 : decode cX11_tellRows 187 = .ok (.iadd, 1) := by decide +kernel
theorem dX11_tellRows_188 : decode cX11_tellRows 188 = .ok (.aload_n 1, 1) := by decide +kernel
theorem dX11_tellRows_189 : decode cX11_tellRows 189 = .ok (.iconst (-1), 1) := by decide +kernel
theorem dX11_tellRows_190 : decode cX11_tellRows 190 = .ok (.aload_n 3, 1) := by decide +kernel
theorem dX11_tellRows_191 : decode cX11_tellRows 191 = .ok (.iload 6, 2) := by decide +kernel
theorem dX11_tellRows_193 : decode cX11_tellRows 193 = .ok (.invokevirtual 444, 3) := by decide +kernel
theorem dX11_tellRows_196 : decode cX11_tellRows 196 = .ok (.iload 6, 2) := by decide +kernel
theorem dX11_tellRows_198 : decode cX11_tellRows 198 = .ok (.aload_n 3, 1) := by decide +kernel
theorem dX11_tellRows_199 : decode cX11_tellRows 199 = .ok (.iload 6, 2) := by decide +kernel
theorem dX11_tellRows_201 : decode cX11_tellRows 201 = .ok (.invokestatic 242, 3) := by decide +kernel
theorem dX11_tellRows_204 : decode cX11_tellRows 204 = .ok (.iadd, 1) := by decide +kernel
theorem dX11_tellRows_205 : decode cX11_tellRows 205 = .ok (.istore 6, 2) := by decide +kernel
theorem dX11_tellRows_207 : decode cX11_tellRows 207 = .ok (.goto (-71), 3) := by decide +kernel
theorem dX11_tellRows_210 : decode cX11_tellRows 210 = .ok (.goto 48, 3) := by decide +kernel
theorem dX11_tellRows_213 : decode cX11_tellRows 213 = .ok (.aload_n 1, 1) := by decide +kernel
theorem dX11_tellRows_214 : decode cX11_tellRows 214 = .ok (.iload_n 2, 1) := by decide +kernel
theorem dX11_tellRows_215 : decode cX11_tellRows 215 = .ok (.invokestatic 253, 3) := by decide +kernel
theorem dX11_tellRows_218 : decode cX11_tellRows 218 = .ok (.iconst 2, 1) := by decide +kernel
theorem dX11_tellRows_219 : decode cX11_tellRows 219 = .ok (.if_icmp .ne 27, 3) := by decide +kernel
theorem dX11_tellRows_222 : decode cX11_tellRows 222 = .ok (.aload_n 3, 1) := by decide +kernel
theorem dX11_tellRows_223 : decode cX11_tellRows 223 = .ok (.iload 4, 2) := by decide +kernel
theorem dX11_tellRows_225 : decode cX11_tellRows 225 = .ok (.invokestatic 253, 3) := by decide +kernel
theorem dX11_tellRows_228 : decode cX11_tellRows 228 = .ok (.iconst 2, 1) := by decide +kernel
theorem dX11_tellRows_229 : decode cX11_tellRows 229 = .ok (.if_icmp .ne 17, 3) := by decide +kernel
theorem dX11_tellRows_232 : decode cX11_tellRows 232 = .ok (.aload_n 0, 1) := by decide +kernel
theorem dX11_tellRows_233 : decode cX11_tellRows 233 = .ok (.aload_n 1, 1) := by decide +kernel
theorem dX11_tellRows_234 : decode cX11_tellRows 234 = .ok (.iload_n 2, 1) := by decide +kernel
theorem dX11_tellRows_235 : decode cX11_tellRows 235 = .ok (.aload_n 3, 1) := by decide +kernel
theorem dX11_tellRows_236 : decode cX11_tellRows 236 = .ok (.iload 4, 2) := by decide +kernel
theorem dX11_tellRows_238 : decode cX11_tellRows 238 = .ok (.iload 5, 2) := by decide +kernel
theorem dX11_tellRows_240 : decode cX11_tellRows 240 = .ok (.invokevirtual 452, 3) := by decide +kernel
theorem dX11_tellRows_243 : decode cX11_tellRows 243 = .ok (.goto 15, 3) := by decide +kernel
theorem dX11_tellRows_246 : decode cX11_tellRows 246 = .ok (.aload_n 0, 1) := by decide +kernel
theorem dX11_tellRows_247 : decode cX11_tellRows 247 = .ok (.iconst 3, 1) := by decide +kernel
theorem dX11_tellRows_248 : decode cX11_tellRows 248 = .ok (.iload 5, 2) := by decide +kernel
theorem dX11_tellRows_250 : decode cX11_tellRows 250 = .ok (.aload_n 1, 1) := by decide +kernel
theorem dX11_tellRows_251 : decode cX11_tellRows 251 = .ok (.iload_n 2, 1) := by decide +kernel
theorem dX11_tellRows_252 : decode cX11_tellRows 252 = .ok (.aload_n 3, 1) := by decide +kernel
theorem dX11_tellRows_253 : decode cX11_tellRows 253 = .ok (.iload 4, 2) := by decide +kernel
theorem dX11_tellRows_255 : decode cX11_tellRows 255 = .ok (.invokevirtual 444, 3) := by decide +kernel
theorem dX11_tellRows_258 : decode cX11_tellRows 258 = .ok (.return_, 1) := by decide +kernel
