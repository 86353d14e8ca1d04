set_option maxRecDepth 100000 in
theorem ggX11_emitWithin_X11_many : GoodIn wsX11_emitWithin wsX11_many := (gi_cons 10 rfl rfl (gi_cons 11 rfl rfl (gi_cons 12 rfl rfl (gi_cons 9 rfl rfl (gi_cons 13 rfl rfl gi_nil)))))
set_option maxRecDepth 20000 in
theorem gX11_emitWithin_X11_many : GoodIn wsX11_emitWithin (va_wsS RX11 246 yX11_many wsX11_many) := goodIn_app (goodIn_of _ (by decide +kernel)) ggX11_emitWithin_X11_many
set_option maxRecDepth 100000 in
theorem ggX11_emitWithin_X11_nth : GoodIn wsX11_emitWithin wsX11_nth := (gi_cons 16 rfl rfl (gi_cons 11 rfl rfl (gi_cons 12 rfl rfl (gi_cons 9 rfl rfl (gi_cons 13 rfl rfl gi_nil)))))
set_option maxRecDepth 20000 in
theorem gX11_emitWithin_X11_nth : GoodIn wsX11_emitWithin (va_wsS RX11 249 yX11_nth wsX11_nth) := goodIn_app (goodIn_of _ (by decide +kernel)) ggX11_emitWithin_X11_nth
set_option maxRecDepth 100000 in
theorem ggX11_emitWithin_X11_kind : GoodIn wsX11_emitWithin wsX11_kind := (gi_cons 19 rfl rfl gi_nil)
set_option maxRecDepth 20000 in
theorem gX11_emitWithin_X11_kind : GoodIn wsX11_emitWithin (va_wsS RX11 253 yX11_kind wsX11_kind) := goodIn_app (goodIn_of _ (by decide +kernel)) ggX11_emitWithin_X11_kind
set_option maxRecDepth 100000 in
theorem ggX11_emitWithin_X11_sort : GoodIn wsX11_emitWithin wsX11_sort := (gi_cons 23 rfl rfl (gi_cons 2 rfl rfl (gi_cons 24 rfl rfl (gi_cons 25 rfl rfl (gi_cons 26 rfl rfl (gi_cons 9 rfl rfl (gi_cons 27 rfl rfl (gi_cons 1 rfl rfl (gi_cons 17 rfl rfl (gi_cons 18 rfl rfl (gi_cons 19 rfl rfl (gi_cons 28 rfl rfl (gi_cons 29 rfl rfl (gi_cons 30 rfl rfl (gi_cons 31 rfl rfl (gi_cons 32 rfl rfl (gi_cons 33 rfl rfl (gi_cons 65 rfl rfl (gi_cons 66 rfl rfl (gi_cons 67 rfl rfl (gi_cons 68 rfl rfl (gi_cons 69 rfl rfl (gi_cons 70 rfl rfl (gi_cons 71 rfl rfl (gi_cons 72 rfl rfl (gi_cons 73 rfl rfl (gi_cons 74 rfl rfl (gi_cons 75 rfl rfl (gi_cons 76 rfl rfl (gi_cons 77 rfl rfl (gi_cons 78 rfl rfl (gi_cons 79 rfl rfl (gi_cons 80 rfl rfl (gi_cons 81 rfl rfl (gi_cons 82 rfl rfl (gi_cons 83 rfl rfl (gi_cons 84 rfl rfl (gi_cons 85 rfl rfl (gi_cons 86 rfl rfl (gi_cons 87 rfl rfl (gi_cons 88 rfl rfl (gi_cons 89 rfl rfl (gi_cons 90 rfl rfl (gi_cons 91 rfl rfl (gi_cons 92 rfl rfl (gi_cons 93 rfl rfl (gi_cons 94 rfl rfl (gi_cons 95 rfl rfl (gi_cons 96 rfl rfl (gi_cons 97 rfl rfl (gi_cons 98 rfl rfl (gi_cons 99 rfl rfl (gi_cons 100 rfl rfl (gi_cons 101 rfl rfl (gi_cons 102 rfl rfl (gi_cons 103 rfl rfl (gi_cons 104 rfl rfl (gi_cons 105 rfl rfl (gi_cons 106 rfl rfl (gi_cons 107 rfl rfl (gi_cons 108 rfl rfl (gi_cons 109 rfl rfl (gi_cons 110 rfl rfl (gi_cons 111 rfl rfl (gi_cons 112 rfl rfl (gi_cons 113 rfl rfl (gi_cons 114 rfl rfl (gi_cons 115 rfl rfl (gi_cons 116 rfl rfl (gi_cons 117 rfl rfl (gi_cons 118 rfl rfl (gi_cons 119 rfl rfl (gi_cons 120 rfl rfl (gi_cons 121 rfl rfl (gi_cons 122 rfl rfl (gi_cons 123 rfl rfl (gi_cons 124 rfl rfl (gi_cons 125 rfl rfl (gi_cons 126 rfl rfl (gi_cons 127 rfl rfl (gi_cons 128 rfl rfl (gi_cons 129 rfl rfl (gi_cons 130 rfl rfl gi_nil)))))))))))))))))))))))))))))))))))))))))))))))))))))))))))))))))))))))))))))))))))
set_option maxRecDepth 20000 in
theorem gX11_emitWithin_X11_sort : GoodIn wsX11_emitWithin (wsV RX11 382 RX11 yX11_sort wsX11_sort) := goodIn_app (goodIn_of _ (by decide +kernel)) ggX11_emitWithin_X11_sort
set_option maxRecDepth 100000 in
theorem ggX11_emitWithin_X11_copyWith : GoodIn wsX11_emitWithin wsX11_copyWith := (gi_cons 37 rfl rfl (gi_cons 38 rfl rfl (gi_cons 39 rfl rfl (gi_cons 40 rfl rfl (gi_cons 41 rfl rfl (gi_cons 42 rfl rfl (gi_cons 9 rfl rfl (gi_cons 43 rfl rfl (gi_cons 11 rfl rfl (gi_cons 12 rfl rfl (gi_cons 13 rfl rfl (gi_cons 65 rfl rfl (gi_cons 66 rfl rfl (gi_cons 67 rfl rfl (gi_cons 68 rfl rfl (gi_cons 69 rfl rfl (gi_cons 70 rfl rfl (gi_cons 71 rfl rfl (gi_cons 72 rfl rfl (gi_cons 73 rfl rfl (gi_cons 74 rfl rfl (gi_cons 75 rfl rfl (gi_cons 76 rfl rfl (gi_cons 77 rfl rfl (gi_cons 78 rfl rfl (gi_cons 79 rfl rfl (gi_cons 80 rfl rfl (gi_cons 81 rfl rfl (gi_cons 82 rfl rfl (gi_cons 83 rfl rfl (gi_cons 84 rfl rfl (gi_cons 85 rfl rfl (gi_cons 86 rfl rfl (gi_cons 87 rfl rfl (gi_cons 88 rfl rfl (gi_cons 89 rfl rfl (gi_cons 90 rfl rfl (gi_cons 91 rfl rfl (gi_cons 92 rfl rfl (gi_cons 93 rfl rfl (gi_cons 94 rfl rfl (gi_cons 95 rfl rfl (gi_cons 96 rfl rfl (gi_cons 97 rfl rfl (gi_cons 98 rfl rfl (gi_cons 99 rfl rfl (gi_cons 100 rfl rfl (gi_cons 101 rfl rfl (gi_cons 102 rfl rfl (gi_cons 103 rfl rfl (gi_cons 104 rfl rfl (gi_cons 105 rfl rfl (gi_cons 106 rfl rfl (gi_cons 107 rfl rfl (gi_cons 108 rfl rfl (gi_cons 109 rfl rfl (gi_cons 110 rfl rfl (gi_cons 111 rfl rfl (gi_cons 112 rfl rfl (gi_cons 113 rfl rfl (gi_cons 114 rfl rfl (gi_cons 115 rfl rfl (gi_cons 116 rfl rfl (gi_cons 117 rfl rfl (gi_cons 118 rfl rfl (gi_cons 119 rfl rfl (gi_cons 120 rfl rfl (gi_cons 121 rfl rfl (gi_cons 122 rfl rfl (gi_cons 123 rfl rfl (gi_cons 124 rfl rfl (gi_cons 125 rfl rfl (gi_cons 126 rfl rfl (gi_cons 127 rfl rfl (gi_cons 128 rfl rfl (gi_cons 129 rfl rfl (gi_cons 130 rfl rfl gi_nil)))))))))))))))))))))))))))))))))))))))))))))))))))))))))))))))))))))))))))))
set_option maxRecDepth 20000 in
theorem gX11_emitWithin_X11_copyWith : GoodIn wsX11_emitWithin (wsV RX11 372 RX11 yX11_copyWith wsX11_copyWith) := goodIn_app (goodIn_of _ (by decide +kernel)) ggX11_emitWithin_X11_copyWith
set_option maxRecDepth 100000 in
theorem ggX11_emitWithin_X11_emit : GoodIn wsX11_emitWithin wsX11_emit := (gi_cons 50 rfl rfl (gi_cons 6 rfl rfl (gi_cons 3 rfl rfl (gi_cons 5 rfl rfl (gi_cons 1 rfl rfl (gi_cons 38 rfl rfl (gi_cons 39 rfl rfl (gi_cons 51 rfl rfl (gi_cons 52 rfl rfl (gi_cons 53 rfl rfl (gi_cons 54 rfl rfl (gi_cons 55 rfl rfl (gi_cons 56 rfl rfl (gi_cons 57 rfl rfl (gi_cons 58 rfl rfl (gi_cons 34 rfl rfl (gi_cons 35 rfl rfl (gi_cons 36 rfl rfl (gi_cons 9 rfl rfl (gi_cons 37 rfl rfl (gi_cons 40 rfl rfl (gi_cons 41 rfl rfl (gi_cons 42 rfl rfl (gi_cons 43 rfl rfl (gi_cons 11 rfl rfl (gi_cons 12 rfl rfl (gi_cons 13 rfl rfl (gi_cons 17 rfl rfl (gi_cons 18 rfl rfl (gi_cons 19 rfl rfl (gi_cons 59 rfl rfl (gi_cons 60 rfl rfl (gi_cons 61 rfl rfl (gi_cons 62 rfl rfl (gi_cons 63 rfl rfl (gi_cons 64 rfl rfl (gi_cons 0 rfl rfl (gi_cons 2 rfl rfl (gi_cons 4 rfl rfl (gi_cons 7 rfl rfl (gi_cons 8 rfl rfl (gi_cons 10 rfl rfl (gi_cons 14 rfl rfl (gi_cons 15 rfl rfl (gi_cons 16 rfl rfl (gi_cons 20 rfl rfl (gi_cons 21 rfl rfl (gi_cons 22 rfl rfl (gi_cons 23 rfl rfl (gi_cons 24 rfl rfl (gi_cons 25 rfl rfl (gi_cons 26 rfl rfl (gi_cons 27 rfl rfl (gi_cons 28 rfl rfl (gi_cons 29 rfl rfl (gi_cons 30 rfl rfl (gi_cons 31 rfl rfl (gi_cons 32 rfl rfl (gi_cons 33 rfl rfl (gi_cons 44 rfl rfl (gi_cons 45 rfl rfl (gi_cons 46 rfl rfl (gi_cons 47 rfl rfl (gi_cons 48 rfl rfl (gi_cons 49 rfl rfl (gi_cons 65 rfl rfl (gi_cons 66 rfl rfl (gi_cons 67 rfl rfl (gi_cons 68 rfl rfl (gi_cons 69 rfl rfl (gi_cons 70 rfl rfl (gi_cons 71 rfl rfl (gi_cons 72 rfl rfl (gi_cons 73 rfl rfl (gi_cons 74 rfl rfl (gi_cons 75 rfl rfl (gi_cons 76 rfl rfl (gi_cons 77 rfl rfl (gi_cons 78 rfl rfl (gi_cons 79 rfl rfl (gi_cons 80 rfl rfl (gi_cons 81 rfl rfl (gi_cons 82 rfl rfl (gi_cons 83 rfl rfl (gi_cons 84 rfl rfl (gi_cons 85 rfl rfl (gi_cons 86 rfl rfl (gi_cons 87 rfl rfl (gi_cons 88 rfl rfl (gi_cons 89 rfl rfl (gi_cons 90 rfl rfl (gi_cons 91 rfl rfl (gi_cons 92 rfl rfl (gi_cons 93 rfl rfl (gi_cons 94 rfl rfl (gi_cons 95 rfl rfl (gi_cons 96 rfl rfl (gi_cons 97 rfl rfl (gi_cons 98 rfl rfl (gi_cons 99 rfl rfl (gi_cons 100 rfl rfl (gi_cons 101 rfl rfl (gi_cons 102 rfl rfl (gi_cons 103 rfl rfl (gi_cons 104 rfl rfl (gi_cons 105 rfl rfl (gi_cons 106 rfl rfl (gi_cons 107 rfl rfl (gi_cons 108 rfl rfl (gi_cons 109 rfl rfl (gi_cons 110 rfl rfl (gi_cons 111 rfl rfl (gi_cons 112 rfl rfl (gi_cons 113 rfl rfl (gi_cons 114 rfl rfl (gi_cons 115 rfl rfl (gi_cons 116 rfl rfl (gi_cons 117 rfl rfl (gi_cons 118 rfl rfl (gi_cons 119 rfl rfl (gi_cons 120 rfl rfl (gi_cons 121 rfl rfl (gi_cons 122 rfl rfl (gi_cons 123 rfl rfl (gi_cons 124 rfl rfl (gi_cons 125 rfl rfl (gi_cons 126 rfl rfl (gi_cons 127 rfl rfl (gi_cons 128 rfl rfl (gi_cons 129 rfl rfl (gi_cons 130 rfl rfl gi_nil)))))))))))))))))))))))))))))))))))))))))))))))))))))))))))))))))))))))))))))))))))))))))))))))))))))))))))))))))))))))))))))))))))
set_option maxRecDepth 20000 in
theorem gX11_emitWithin_X11_emit : GoodIn wsX11_emitWithin (wsV RX11 388 RX11 yX11_emit wsX11_emit) := goodIn_app (goodIn_of _ (by decide +kernel)) ggX11_emitWithin_X11_emit
set_option maxRecDepth 100000 in
theorem ggX11_emitWithin_X11_byKey : GoodIn wsX11_emitWithin wsX11_byKey := (gi_cons 49 rfl rfl (gi_cons 11 rfl rfl (gi_cons 12 rfl rfl (gi_cons 9 rfl rfl (gi_cons 13 rfl rfl gi_nil)))))
set_option maxRecDepth 20000 in
theorem gX11_emitWithin_X11_byKey : GoodIn wsX11_emitWithin (va_wsS RX11 260 yX11_byKey wsX11_byKey) := goodIn_app (goodIn_of _ (by decide +kernel)) ggX11_emitWithin_X11_byKey
theorem dX11_emitWithin_0 : decode cX11_emitWithin 0 = .ok (.aload_n 0, 1) := by decide +kernel
theorem dX11_emitWithin_1 : decode cX11_emitWithin 1 = .ok (.getfield 9, 3) := by decide +kernel
theorem dX11_emitWithin_4 : decode cX11_emitWithin 4 = .ok (.iload_n 1, 1) := by decide +kernel
theorem dX11_emitWithin_5 : decode cX11_emitWithin 5 = .ok (.invokestatic 246, 3) := by decide +kernel
theorem dX11_emitWithin_8 : decode cX11_emitWithin 8 = .ok (.istore 4, 2) := by decide +kernel
theorem dX11_emitWithin_10 : decode cX11_emitWithin 10 = .ok (.bipush 60, 2) := by decide +kernel
theorem dX11_emitWithin_12 : decode cX11_emitWithin 12 = .ok (.iload_n 3, 1) := by decide +kernel
theorem dX11_emitWithin_13 : decode cX11_emitWithin 13 = .ok (.imul, 1) := by decide +kernel
theorem dX11_emitWithin_14 : decode cX11_emitWithin 14 = .ok (.istore 5, 2) := by decide +kernel
theorem dX11_emitWithin_16 : decode cX11_emitWithin 16 = .ok (.iconst 0, 1) := by decide +kernel
theorem dX11_emitWithin_17 : decode cX11_emitWithin 17 = .ok (.istore 6, 2) := by decide +kernel
theorem dX11_emitWithin_19 : decode cX11_emitWithin 19 = .ok (.iload 6, 2) := by decide +kernel
theorem dX11_emitWithin_21 : decode cX11_emitWithin 21 = .ok (.iload 4, 2) := by decide +kernel
theorem dX11_emitWithin_23 : decode cX11_emitWithin 23 = .ok (.if_icmp .ge 51, 3) := by decide +kernel
theorem dX11_emitWithin_26 : decode cX11_emitWithin 26 = .ok (.aload_n 0, 1) := by decide +kernel
theorem dX11_emitWithin_27 : decode cX11_emitWithin 27 = .ok (.getfield 45, 3) := by decide +kernel
theorem dX11_emitWithin_30 : decode cX11_emitWithin 30 = .ok (.iload 5, 2) := by decide +kernel
theorem dX11_emitWithin_32 : decode cX11_emitWithin 32 = .ok (.iload 6, 2) := by decide +kernel
theorem dX11_emitWithin_34 : decode cX11_emitWithin 34 = .ok (.iadd, 1) := by decide +kernel
theorem dX11_emitWithin_35 : decode cX11_emitWithin 35 = .ok (.aload_n 0, 1) := by decide +kernel
theorem dX11_emitWithin_36 : decode cX11_emitWithin 36 = .ok (.getfield 9, 3) := by decide +kernel
theorem dX11_emitWithin_39 : decode cX11_emitWithin 39 = .ok (.iload_n 1, 1) := by decide +kernel
theorem dX11_emitWithin_40 : decode cX11_emitWithin 40 = .ok (.iload_n 2, 1) := by decide +kernel
theorem dX11_emitWithin_41 : decode cX11_emitWithin 41 = .ok (.ifCond .eq 21, 3) := by decide +kernel
theorem dX11_emitWithin_44 : decode cX11_emitWithin 44 = .ok (.aload_n 0, 1) := by decide +kernel
theorem dX11_emitWithin_45 : decode cX11_emitWithin 45 = .ok (.getfield 369, 3) := by decide +kernel
theorem dX11_emitWithin_48 : decode cX11_emitWithin 48 = .ok (.iconst 4, 1) := by decide +kernel
theorem dX11_emitWithin_49 : decode cX11_emitWithin 49 = .ok (.if_icmp .ne 13, 3) := by decide +kernel
theorem dX11_emitWithin_52 : decode cX11_emitWithin 52 = .ok (.iload 4, 2) := by decide +kernel
theorem dX11_emitWithin_54 : decode cX11_emitWithin 54 = .ok (.iconst 1, 1) := by decide +kernel
theorem dX11_emitWithin_55 : decode cX11_emitWithin 55 = .ok (.isub, 1) := by decide +kernel
theorem dX11_emitWithin_56 : decode cX11_emitWithin 56 = .ok (.iload 6, 2) := by decide +kernel
theorem dX11_emitWithin_58 : decode cX11_emitWithin 58 = .ok (.isub, 1) := by decide +kernel
theorem dX11_emitWithin_59 : decode cX11_emitWithin 59 = .ok (.goto 5, 3) := by decide +kernel
theorem dX11_emitWithin_62 : decode cX11_emitWithin 62 = .ok (.iload 6, 2) := by decide +kernel
theorem dX11_emitWithin_64 : decode cX11_emitWithin 64 = .ok (.invokestatic 249, 3) := by decide +kernel
theorem dX11_emitWithin_67 : decode cX11_emitWithin 67 = .ok (.iastore, 1) := by decide +kernel
theorem dX11_emitWithin_68 : decode cX11_emitWithin 68 = .ok (.iinc 6 1, 3) := by decide +kernel
theorem dX11_emitWithin_71 : decode cX11_emitWithin 71 = .ok (.goto (-52), 3) := by decide +kernel
theorem dX11_emitWithin_74 : decode cX11_emitWithin 74 = .ok (.iload_n 2, 1) := by decide +kernel
theorem dX11_emitWithin_75 : decode cX11_emitWithin 75 = .ok (.ifCond .eq 31, 3) := by decide +kernel
theorem dX11_emitWithin_78 : decode cX11_emitWithin 78 = .ok (.aload_n 0, 1) := by decide +kernel
theorem dX11_emitWithin_79 : decode cX11_emitWithin 79 = .ok (.getfield 369, 3) := by decide +kernel
theorem dX11_emitWithin_82 : decode cX11_emitWithin 82 = .ok (.iconst 5, 1) := by decide +kernel
theorem dX11_emitWithin_83 : decode cX11_emitWithin 83 = .ok (.if_icmp .ne 23, 3) := by decide +kernel
theorem dX11_emitWithin_86 : decode cX11_emitWithin 86 = .ok (.aload_n 0, 1) := by decide +kernel
theorem dX11_emitWithin_87 : decode cX11_emitWithin 87 = .ok (.getfield 9, 3) := by decide +kernel
theorem dX11_emitWithin_90 : decode cX11_emitWithin 90 = .ok (.iload_n 1, 1) := by decide +kernel
theorem dX11_emitWithin_91 : decode cX11_emitWithin 91 = .ok (.invokestatic 253, 3) := by decide +kernel
theorem dX11_emitWithin_94 : decode cX11_emitWithin 94 = .ok (.iconst 2, 1) := by decide +kernel
theorem dX11_emitWithin_95 : decode cX11_emitWithin 95 = .ok (.if_icmp .ne 11, 3) := by decide +kernel
theorem dX11_emitWithin_98 : decode cX11_emitWithin 98 = .ok (.aload_n 0, 1) := by decide +kernel
theorem dX11_emitWithin_99 : decode cX11_emitWithin 99 = .ok (.iload 5, 2) := by decide +kernel
theorem dX11_emitWithin_101 : decode cX11_emitWithin 101 = .ok (.iload 4, 2) := by decide +kernel
theorem dX11_emitWithin_103 : decode cX11_emitWithin 103 = .ok (.invokevirtual 382, 3) := by decide +kernel
theorem dX11_emitWithin_106 : decode cX11_emitWithin 106 = .ok (.iload_n 2, 1) := by decide +kernel
theorem dX11_emitWithin_107 : decode cX11_emitWithin 107 = .ok (.ifCond .eq 27, 3) := by decide +kernel
theorem dX11_emitWithin_110 : decode cX11_emitWithin 110 = .ok (.aload_n 0, 1) := by decide +kernel
theorem dX11_emitWithin_111 : decode cX11_emitWithin 111 = .ok (.getfield 369, 3) := by decide +kernel
theorem dX11_emitWithin_114 : decode cX11_emitWithin 114 = .ok (.iconst 2, 1) := by decide +kernel
theorem dX11_emitWithin_115 : decode cX11_emitWithin 115 = .ok (.if_icmp .ne 19, 3) := by decide +kernel
theorem dX11_emitWithin_118 : decode cX11_emitWithin 118 = .ok (.aload_n 0, 1) := by decide +kernel
theorem dX11_emitWithin_119 : decode cX11_emitWithin 119 = .ok (.getfield 9, 3) := by decide +kernel
theorem dX11_emitWithin_122 : decode cX11_emitWithin 122 = .ok (.iload_n 1, 1) := by decide +kernel
theorem dX11_emitWithin_123 : decode cX11_emitWithin 123 = .ok (.invokestatic 253, 3) := by decide +kernel
theorem dX11_emitWithin_126 : decode cX11_emitWithin 126 = .ok (.iconst 3, 1) := by decide +kernel
theorem dX11_emitWithin_127 : decode cX11_emitWithin 127 = .ok (.if_icmp .ne 7, 3) := by decide +kernel
theorem dX11_emitWithin_130 : decode cX11_emitWithin 130 = .ok (.iconst 1, 1) := by decide +kernel
theorem dX11_emitWithin_131 : decode cX11_emitWithin 131 = .ok (.goto 4, 3) := by decide +kernel
theorem dX11_emitWithin_134 : decode cX11_emitWithin 134 = .ok (.iconst 0, 1) := by decide +kernel
theorem dX11_emitWithin_135 : decode cX11_emitWithin 135 = .ok (.istore 6, 2) := by decide +kernel
theorem dX11_emitWithin_137 : decode cX11_emitWithin 137 = .ok (.iconst 0, 1) := by decide +kernel
theorem dX11_emitWithin_138 : decode cX11_emitWithin 138 = .ok (.istore 7, 2) := by decide +kernel
theorem dX11_emitWithin_140 : decode cX11_emitWithin 140 = .ok (.iload 7, 2) := by decide +kernel
theorem dX11_emitWithin_142 : decode cX11_emitWithin 142 = .ok (.iload 4, 2) := by decide +kernel
theorem dX11_emitWithin_144 : decode cX11_emitWithin 144 = .ok (.if_icmp .ge 88, 3) := by decide +kernel
theorem dX11_emitWithin_147 : decode cX11_emitWithin 147 = .ok (.aload_n 0, 1) := by decide +kernel
theorem dX11_emitWithin_148 : decode cX11_emitWithin 148 = .ok (.getfield 45, 3) := by decide +kernel
theorem dX11_emitWithin_151 : decode cX11_emitWithin 151 = .ok (.iload 5, 2) := by decide +kernel
theorem dX11_emitWithin_153 : decode cX11_emitWithin 153 = .ok (.iload 7, 2) := by decide +kernel
theorem dX11_emitWithin_155 : decode cX11_emitWithin 155 = .ok (.iadd, 1) := by decide +kernel
theorem dX11_emitWithin_156 : decode cX11_emitWithin 156 = .ok (.iaload, 1) := by decide +kernel
theorem dX11_emitWithin_157 : decode cX11_emitWithin 157 = .ok (.istore 8, 2) := by decide +kernel
theorem dX11_emitWithin_159 : decode cX11_emitWithin 159 = .ok (.iload 6, 2) := by decide +kernel
theorem dX11_emitWithin_161 : decode cX11_emitWithin 161 = .ok (.ifCond .eq 37, 3) := by decide +kernel
theorem dX11_emitWithin_164 : decode cX11_emitWithin 164 = .ok (.aload_n 0, 1) := by decide +kernel
theorem dX11_emitWithin_165 : decode cX11_emitWithin 165 = .ok (.getfield 9, 3) := by decide +kernel
theorem dX11_emitWithin_168 : decode cX11_emitWithin 168 = .ok (.iconst 4, 1) := by decide +kernel
theorem dX11_emitWithin_169 : decode cX11_emitWithin 169 = .ok (.iload 8, 2) := by decide +kernel
theorem dX11_emitWithin_171 : decode cX11_emitWithin 171 = .ok (.imul, 1) := by decide +kernel
theorem dX11_emitWithin_172 : decode cX11_emitWithin 172 = .ok (.iconst 2, 1) := by decide +kernel
theorem dX11_emitWithin_173 : decode cX11_emitWithin 173 = .ok (.iadd, 1) := by decide +kernel
theorem dX11_emitWithin_174 : decode cX11_emitWithin 174 = .ok (.iaload, 1) := by decide +kernel
theorem dX11_emitWithin_175 : decode cX11_emitWithin 175 = .ok (.aload_n 0, 1) := by decide +kernel
theorem dX11_emitWithin_176 : decode cX11_emitWithin 176 = .ok (.getfield 385, 3) := by decide +kernel
theorem dX11_emitWithin_179 : decode cX11_emitWithin 179 = .ok (.if_icmp .ne 19, 3) := by decide +kernel
theorem dX11_emitWithin_182 : decode cX11_emitWithin 182 = .ok (.aload_n 0, 1) := by decide +kernel
theorem dX11_emitWithin_183 : decode cX11_emitWithin 183 = .ok (.aload_n 0, 1) := by decide +kernel
theorem dX11_emitWithin_184 : decode cX11_emitWithin 184 = .ok (.getfield 13, 3) := by decide +kernel
theorem dX11_emitWithin_187 : decode cX11_emitWithin 187 = .ok (.iconst 0, 1) := by decide +kernel
theorem dX11_emitWithin_188 : decode cX11_emitWithin 188 = .ok (.aload_n 0, 1) := by decide +kernel
theorem dX11_emitWithin_189 : decode cX11_emitWithin 189 = .ok (.getfield 385, 3) := by decide +kernel
theorem dX11_emitWithin_192 : decode cX11_emitWithin 192 = .ok (.invokevirtual 372, 3) := by decide +kernel
theorem dX11_emitWithin_195 : decode cX11_emitWithin 195 = .ok (.goto 31, 3) := by decide +kernel
theorem dX11_emitWithin_198 : decode cX11_emitWithin 198 = .ok (.aload_n 0, 1) := by decide +kernel
theorem dX11_emitWithin_199 : decode cX11_emitWithin 199 = .ok (.getfield 369, 3) := by decide +kernel
theorem dX11_emitWithin_202 : decode cX11_emitWithin 202 = .ok (.bipush 6, 2) := by decide +kernel
theorem dX11_emitWithin_204 : decode cX11_emitWithin 204 = .ok (.if_icmp .ne 13, 3) := by decide +kernel
theorem dX11_emitWithin_207 : decode cX11_emitWithin 207 = .ok (.aload_n 0, 1) := by decide +kernel
theorem dX11_emitWithin_208 : decode cX11_emitWithin 208 = .ok (.getfield 35, 3) := by decide +kernel
theorem dX11_emitWithin_211 : decode cX11_emitWithin 211 = .ok (.iload 8, 2) := by decide +kernel
theorem dX11_emitWithin_213 : decode cX11_emitWithin 213 = .ok (.baload, 1) := by decide +kernel
theorem dX11_emitWithin_214 : decode cX11_emitWithin 214 = .ok (.ifCond .ne 12, 3) := by decide +kernel
theorem dX11_emitWithin_217 : decode cX11_emitWithin 217 = .ok (.aload_n 0, 1) := by decide +kernel
theorem dX11_emitWithin_218 : decode cX11_emitWithin 218 = .ok (.iload 8, 2) := by decide +kernel
theorem dX11_emitWithin_220 : decode cX11_emitWithin 220 = .ok (.iload_n 3, 1) := by decide +kernel
theorem dX11_emitWithin_221 : decode cX11_emitWithin 221 = .ok (.iconst 1, 1) := by decide +kernel
theorem dX11_emitWithin_222 : decode cX11_emitWithin 222 = .ok (.iadd, 1) := by decide +kernel
theorem dX11_emitWithin_223 : decode cX11_emitWithin 223 = .ok (.invokevirtual 388, 3) := by decide +kernel
theorem dX11_emitWithin_226 : decode cX11_emitWithin 226 = .ok (.iinc 7 1, 3) := by decide +kernel
theorem dX11_emitWithin_229 : decode cX11_emitWithin 229 = .ok (.goto (-89), 3) := by decide +kernel
theorem dX11_emitWithin_232 : decode cX11_emitWithin 232 = .ok (.iload_n 2, 1) := by decide +kernel
theorem dX11_emitWithin_233 : decode cX11_emitWithin 233 = .ok (.ifCond .eq 33, 3) := by decide +kernel
theorem dX11_emitWithin_236 : decode cX11_emitWithin 236 = .ok (.aload_n 0, 1) := by decide +kernel
theorem dX11_emitWithin_237 : decode cX11_emitWithin 237 = .ok (.getfield 369, 3) := by decide +kernel
theorem dX11_emitWithin_240 : decode cX11_emitWithin 240 = .ok (.iconst 1, 1) := by decide +kernel
theorem dX11_emitWithin_241 : decode cX11_emitWithin 241 = .ok (.if_icmp .ne 25, 3) := by decide +kernel
theorem dX11_emitWithin_244 : decode cX11_emitWithin 244 = .ok (.aload_n 0, 1) := by decide +kernel
theorem dX11_emitWithin_245 : decode cX11_emitWithin 245 = .ok (.getfield 9, 3) := by decide +kernel
theorem dX11_emitWithin_248 : decode cX11_emitWithin 248 = .ok (.iload_n 1, 1) := by decide +kernel
theorem dX11_emitWithin_249 : decode cX11_emitWithin 249 = .ok (.invokestatic 253, 3) := by decide +kernel
theorem dX11_emitWithin_252 : decode cX11_emitWithin 252 = .ok (.iconst 2, 1) := by decide +kernel
theorem dX11_emitWithin_253 : decode cX11_emitWithin 253 = .ok (.if_icmp .ne 13, 3) := by decide +kernel
theorem dX11_emitWithin_256 : decode cX11_emitWithin 256 = .ok (.aload_n 0, 1) := by decide +kernel
theorem dX11_emitWithin_257 : decode cX11_emitWithin 257 = .ok (.aload_n 0, 1) := by decide +kernel
theorem dX11_emitWithin_258 : decode cX11_emitWithin 258 = .ok (.getfield 13, 3) := by decide +kernel
theorem dX11_emitWithin_261 : decode cX11_emitWithin 261 = .ok (.iconst 0, 1) := by decide +kernel
theorem dX11_emitWithin_262 : decode cX11_emitWithin 262 = .ok (.iconst 0, 1) := by decide +kernel
theorem dX11_emitWithin_263 : decode cX11_emitWithin 263 = .ok (.invokevirtual 372, 3) := by decide +kernel
theorem dX11_emitWithin_266 : decode cX11_emitWithin 266 = .ok (.iload 6, 2) := by decide +kernel
theorem dX11_emitWithin_268 : decode cX11_emitWithin 268 = .ok (.ifCond .eq 32, 3) := by decide +kernel
theorem dX11_emitWithin_271 : decode cX11_emitWithin 271 = .ok (.aload_n 0, 1) := by decide +kernel
theorem dX11_emitWithin_272 : decode cX11_emitWithin 272 = .ok (.getfield 9, 3) := by decide +kernel
theorem dX11_emitWithin_275 : decode cX11_emitWithin 275 = .ok (.iload_n 1, 1) := by decide +kernel
theorem dX11_emitWithin_276 : decode cX11_emitWithin 276 = .ok (.aload_n 0, 1) := by decide +kernel
theorem dX11_emitWithin_277 : decode cX11_emitWithin 277 = .ok (.getfield 385, 3) := by decide +kernel
theorem dX11_emitWithin_280 : decode cX11_emitWithin 280 = .ok (.invokestatic 260, 3) := by decide +kernel
theorem dX11_emitWithin_283 : decode cX11_emitWithin 283 = .ok (.iconst (-1), 1) := by decide +kernel
theorem dX11_emitWithin_284 : decode cX11_emitWithin 284 = .ok (.if_icmp .ne 16, 3) := by decide +kernel
theorem dX11_emitWithin_287 : decode cX11_emitWithin 287 = .ok (.aload_n 0, 1) := by decide +kernel
theorem dX11_emitWithin_288 : decode cX11_emitWithin 288 = .ok (.aload_n 0, 1) := by decide +kernel
theorem dX11_emitWithin_289 : decode cX11_emitWithin 289 = .ok (.getfield 13, 3) := by decide +kernel
theorem dX11_emitWithin_292 : decode cX11_emitWithin 292 = .ok (.iconst 0, 1) := by decide +kernel
theorem dX11_emitWithin_293 : decode cX11_emitWithin 293 = .ok (.aload_n 0, 1) := by decide +kernel
theorem dX11_emitWithin_294 : decode cX11_emitWithin 294 = .ok (.getfield 385, 3) := by decide +kernel
theorem dX11_emitWithin_297 : decode cX11_emitWithin 297 = .ok (.invokevirtual 372, 3) := by decide +kernel
theorem dX11_emitWithin_300 : decode cX11_emitWithin 300 = .ok (.return_, 1) := by decide +kernel
