set_option maxRecDepth 100000 in
theorem ggX11_emit_X11_copyWith : GoodIn wsX11_emit wsX11_copyWith := (gi_cons 19 rfl rfl (gi_cons 5 rfl rfl (gi_cons 6 rfl rfl (gi_cons 20 rfl rfl (gi_cons 21 rfl rfl (gi_cons 22 rfl rfl (gi_cons 18 rfl rfl (gi_cons 23 rfl rfl (gi_cons 24 rfl rfl (gi_cons 25 rfl rfl (gi_cons 26 rfl rfl (gi_cons 65 rfl rfl (gi_cons 66 rfl rfl (gi_cons 67 rfl rfl (gi_cons 68 rfl rfl (gi_cons 69 rfl rfl (gi_cons 70 rfl rfl (gi_cons 71 rfl rfl (gi_cons 72 rfl rfl (gi_cons 73 rfl rfl (gi_cons 74 rfl rfl (gi_cons 75 rfl rfl (gi_cons 76 rfl rfl (gi_cons 77 rfl rfl (gi_cons 78 rfl rfl (gi_cons 79 rfl rfl (gi_cons 80 rfl rfl (gi_cons 81 rfl rfl (gi_cons 82 rfl rfl (gi_cons 83 rfl rfl (gi_cons 84 rfl rfl (gi_cons 85 rfl rfl (gi_cons 86 rfl rfl (gi_cons 87 rfl rfl (gi_cons 88 rfl rfl (gi_cons 89 rfl rfl (gi_cons 90 rfl rfl (gi_cons 91 rfl rfl (gi_cons 92 rfl rfl (gi_cons 93 rfl rfl (gi_cons 94 rfl rfl (gi_cons 95 rfl rfl (gi_cons 96 rfl rfl (gi_cons 97 rfl rfl (gi_cons 98 rfl rfl (gi_cons 99 rfl rfl (gi_cons 100 rfl rfl (gi_cons 101 rfl rfl (gi_cons 102 rfl rfl (gi_cons 103 rfl rfl (gi_cons 104 rfl rfl (gi_cons 105 rfl rfl (gi_cons 106 rfl rfl (gi_cons 107 rfl rfl (gi_cons 108 rfl rfl (gi_cons 109 rfl rfl (gi_cons 110 rfl rfl (gi_cons 111 rfl rfl (gi_cons 112 rfl rfl (gi_cons 113 rfl rfl (gi_cons 114 rfl rfl (gi_cons 115 rfl rfl (gi_cons 116 rfl rfl (gi_cons 117 rfl rfl (gi_cons 118 rfl rfl (gi_cons 119 rfl rfl (gi_cons 120 rfl rfl (gi_cons 121 rfl rfl (gi_cons 122 rfl rfl (gi_cons 123 rfl rfl (gi_cons 124 rfl rfl (gi_cons 125 rfl rfl (gi_cons 126 rfl rfl (gi_cons 127 rfl rfl (gi_cons 128 rfl rfl (gi_cons 129 rfl rfl (gi_cons 130 rfl rfl gi_nil)))))))))))))))))))))))))))))))))))))))))))))))))))))))))))))))))))))))))))))
set_option maxRecDepth 20000 in
theorem gX11_emit_X11_copyWith : GoodIn wsX11_emit (wsV RX11 372 RX11 yX11_copyWith wsX11_copyWith) := goodIn_app (goodIn_of _ (by decide +kernel)) ggX11_emit_X11_copyWith
set_option maxRecDepth 100000 in
theorem ggX11_emit_X11_kind : GoodIn wsX11_emit wsX11_kind := (gi_cons 29 rfl rfl gi_nil)
set_option maxRecDepth 20000 in
theorem gX11_emit_X11_kind : GoodIn wsX11_emit (va_wsS RX11 253 yX11_kind wsX11_kind) := goodIn_app (goodIn_of _ (by decide +kernel)) ggX11_emit_X11_kind
set_option maxRecDepth 100000 in
theorem ggX11_emit_X11_holds : GoodIn wsX11_emit wsX11_holds := (gi_cons 32 rfl rfl gi_nil)
set_option maxRecDepth 20000 in
theorem gX11_emit_X11_holds : GoodIn wsX11_emit (va_wsS RX11 256 yX11_holds wsX11_holds) := goodIn_app (goodIn_of _ (by decide +kernel)) ggX11_emit_X11_holds
set_option maxRecDepth 100000 in
theorem ggX11_emit_X11_emitWithin : GoodIn wsX11_emit wsX11_emitWithin := (gi_cons 36 rfl rfl (gi_cons 4 rfl rfl (gi_cons 37 rfl rfl (gi_cons 2 rfl rfl (gi_cons 38 rfl rfl (gi_cons 3 rfl rfl (gi_cons 1 rfl rfl (gi_cons 39 rfl rfl (gi_cons 40 rfl rfl (gi_cons 18 rfl rfl (gi_cons 41 rfl rfl (gi_cons 24 rfl rfl (gi_cons 25 rfl rfl (gi_cons 26 rfl rfl (gi_cons 42 rfl rfl (gi_cons 43 rfl rfl (gi_cons 44 rfl rfl (gi_cons 27 rfl rfl (gi_cons 28 rfl rfl (gi_cons 29 rfl rfl (gi_cons 45 rfl rfl (gi_cons 46 rfl rfl (gi_cons 47 rfl rfl (gi_cons 48 rfl rfl (gi_cons 49 rfl rfl (gi_cons 50 rfl rfl (gi_cons 51 rfl rfl (gi_cons 52 rfl rfl (gi_cons 53 rfl rfl (gi_cons 54 rfl rfl (gi_cons 55 rfl rfl (gi_cons 56 rfl rfl (gi_cons 57 rfl rfl (gi_cons 58 rfl rfl (gi_cons 15 rfl rfl (gi_cons 16 rfl rfl (gi_cons 17 rfl rfl (gi_cons 19 rfl rfl (gi_cons 5 rfl rfl (gi_cons 6 rfl rfl (gi_cons 20 rfl rfl (gi_cons 21 rfl rfl (gi_cons 22 rfl rfl (gi_cons 23 rfl rfl (gi_cons 59 rfl rfl (gi_cons 60 rfl rfl (gi_cons 61 rfl rfl (gi_cons 62 rfl rfl (gi_cons 63 rfl rfl (gi_cons 64 rfl rfl (gi_cons 0 rfl rfl (gi_cons 7 rfl rfl (gi_cons 8 rfl rfl (gi_cons 9 rfl rfl (gi_cons 10 rfl rfl (gi_cons 11 rfl rfl (gi_cons 12 rfl rfl (gi_cons 13 rfl rfl (gi_cons 14 rfl rfl (gi_cons 30 rfl rfl (gi_cons 31 rfl rfl (gi_cons 32 rfl rfl (gi_cons 33 rfl rfl (gi_cons 34 rfl rfl (gi_cons 35 rfl rfl (gi_cons 65 rfl rfl (gi_cons 66 rfl rfl (gi_cons 67 rfl rfl (gi_cons 68 rfl rfl (gi_cons 69 rfl rfl (gi_cons 70 rfl rfl (gi_cons 71 rfl rfl (gi_cons 72 rfl rfl (gi_cons 73 rfl rfl (gi_cons 74 rfl rfl (gi_cons 75 rfl rfl (gi_cons 76 rfl rfl (gi_cons 77 rfl rfl (gi_cons 78 rfl rfl (gi_cons 79 rfl rfl (gi_cons 80 rfl rfl (gi_cons 81 rfl rfl (gi_cons 82 rfl rfl (gi_cons 83 rfl rfl (gi_cons 84 rfl rfl (gi_cons 85 rfl rfl (gi_cons 86 rfl rfl (gi_cons 87 rfl rfl (gi_cons 88 rfl rfl (gi_cons 89 rfl rfl (gi_cons 90 rfl rfl (gi_cons 91 rfl rfl (gi_cons 92 rfl rfl (gi_cons 93 rfl rfl (gi_cons 94 rfl rfl (gi_cons 95 rfl rfl (gi_cons 96 rfl rfl (gi_cons 97 rfl rfl (gi_cons 98 rfl rfl (gi_cons 99 rfl rfl (gi_cons 100 rfl rfl (gi_cons 101 rfl rfl (gi_cons 102 rfl rfl (gi_cons 103 rfl rfl (gi_cons 104 rfl rfl (gi_cons 105 rfl rfl (gi_cons 106 rfl rfl (gi_cons 107 rfl rfl (gi_cons 108 rfl rfl (gi_cons 109 rfl rfl (gi_cons 110 rfl rfl (gi_cons 111 rfl rfl (gi_cons 112 rfl rfl (gi_cons 113 rfl rfl (gi_cons 114 rfl rfl (gi_cons 115 rfl rfl (gi_cons 116 rfl rfl (gi_cons 117 rfl rfl (gi_cons 118 rfl rfl (gi_cons 119 rfl rfl (gi_cons 120 rfl rfl (gi_cons 121 rfl rfl (gi_cons 122 rfl rfl (gi_cons 123 rfl rfl (gi_cons 124 rfl rfl (gi_cons 125 rfl rfl (gi_cons 126 rfl rfl (gi_cons 127 rfl rfl (gi_cons 128 rfl rfl (gi_cons 129 rfl rfl (gi_cons 130 rfl rfl gi_nil)))))))))))))))))))))))))))))))))))))))))))))))))))))))))))))))))))))))))))))))))))))))))))))))))))))))))))))))))))))))))))))))))))
set_option maxRecDepth 20000 in
theorem gX11_emit_X11_emitWithin : GoodIn wsX11_emit (wsV RX11 378 RX11 yX11_emitWithin wsX11_emitWithin) := goodIn_app (goodIn_of _ (by decide +kernel)) ggX11_emit_X11_emitWithin
theorem dX11_emit_0 : decode cX11_emit 0 = .ok (.aload_n 0, 1) := by decide +kernel
theorem dX11_emit_1 : decode cX11_emit 1 = .ok (.getfield 35, 3) := by decide +kernel
theorem dX11_emit_4 : decode cX11_emit 4 = .ok (.iload_n 1, 1) := by decide +kernel
theorem dX11_emit_5 : decode cX11_emit 5 = .ok (.baload, 1) := by decide +kernel
theorem dX11_emit_6 : decode cX11_emit 6 = .ok (.istore_n 3, 1) := by decide +kernel
theorem dX11_emit_7 : decode cX11_emit 7 = .ok (.iload_n 3, 1) := by decide +kernel
theorem dX11_emit_8 : decode cX11_emit 8 = .ok (.ifCond .eq 30, 3) := by decide +kernel
theorem dX11_emit_11 : decode cX11_emit 11 = .ok (.aload_n 0, 1) := by decide +kernel
theorem dX11_emit_12 : decode cX11_emit 12 = .ok (.getfield 369, 3) := by decide +kernel
theorem dX11_emit_15 : decode cX11_emit 15 = .ok (.ifCond .ne 23, 3) := by decide +kernel
theorem dX11_emit_18 : decode cX11_emit 18 = .ok (.aload_n 0, 1) := by decide +kernel
theorem dX11_emit_19 : decode cX11_emit 19 = .ok (.aload_n 0, 1) := by decide +kernel
theorem dX11_emit_20 : decode cX11_emit 20 = .ok (.getfield 13, 3) := by decide +kernel
theorem dX11_emit_23 : decode cX11_emit 23 = .ok (.iconst 0, 1) := by decide +kernel
theorem dX11_emit_24 : decode cX11_emit 24 = .ok (.aload_n 0, 1) := by decide +kernel
theorem dX11_emit_25 : decode cX11_emit 25 = .ok (.getfield 9, 3) := by decide +kernel
theorem dX11_emit_28 : decode cX11_emit 28 = .ok (.iconst 4, 1) := by decide +kernel
theorem dX11_emit_29 : decode cX11_emit 29 = .ok (.iload_n 1, 1) := by decide +kernel
theorem dX11_emit_30 : decode cX11_emit 30 = .ok (.imul, 1) := by decide +kernel
theorem dX11_emit_31 : decode cX11_emit 31 = .ok (.iconst 2, 1) := by decide +kernel
theorem dX11_emit_32 : decode cX11_emit 32 = .ok (.iadd, 1) := by decide +kernel
theorem dX11_emit_33 : decode cX11_emit 33 = .ok (.iaload, 1) := by decide +kernel
theorem dX11_emit_34 : decode cX11_emit 34 = .ok (.invokevirtual 372, 3) := by decide +kernel
theorem dX11_emit_37 : decode cX11_emit 37 = .ok (.return_, 1) := by decide +kernel
theorem dX11_emit_38 : decode cX11_emit 38 = .ok (.iconst 4, 1) := by decide +kernel
theorem dX11_emit_39 : decode cX11_emit 39 = .ok (.aload_n 0, 1) := by decide +kernel
theorem dX11_emit_40 : decode cX11_emit 40 = .ok (.getfield 353, 3) := by decide +kernel
theorem dX11_emit_43 : decode cX11_emit 43 = .ok (.imul, 1) := by decide +kernel
theorem dX11_emit_44 : decode cX11_emit 44 = .ok (.istore 4, 2) := by decide +kernel
theorem dX11_emit_46 : decode cX11_emit 46 = .ok (.iconst 0, 1) := by decide +kernel
theorem dX11_emit_47 : decode cX11_emit 47 = .ok (.istore 5, 2) := by decide +kernel
theorem dX11_emit_49 : decode cX11_emit 49 = .ok (.iload 5, 2) := by decide +kernel
theorem dX11_emit_51 : decode cX11_emit 51 = .ok (.iconst 4, 1) := by decide +kernel
theorem dX11_emit_52 : decode cX11_emit 52 = .ok (.if_icmp .ge 30, 3) := by decide +kernel
theorem dX11_emit_55 : decode cX11_emit 55 = .ok (.aload_n 0, 1) := by decide +kernel
theorem dX11_emit_56 : decode cX11_emit 56 = .ok (.getfield 16, 3) := by decide +kernel
theorem dX11_emit_59 : decode cX11_emit 59 = .ok (.iload 4, 2) := by decide +kernel
theorem dX11_emit_61 : decode cX11_emit 61 = .ok (.iload 5, 2) := by decide +kernel
theorem dX11_emit_63 : decode cX11_emit 63 = .ok (.iadd, 1) := by decide +kernel
theorem dX11_emit_64 : decode cX11_emit 64 = .ok (.aload_n 0, 1) := by decide +kernel
theorem dX11_emit_65 : decode cX11_emit 65 = .ok (.getfield 9, 3) := by decide +kernel
theorem dX11_emit_68 : decode cX11_emit 68 = .ok (.iconst 4, 1) := by decide +kernel
theorem dX11_emit_69 : decode cX11_emit 69 = .ok (.iload_n 1, 1) := by decide +kernel
theorem dX11_emit_70 : decode cX11_emit 70 = .ok (.imul, 1) := by decide +kernel
theorem dX11_emit_71 : decode cX11_emit 71 = .ok (.iload 5, 2) := by decide +kernel
theorem dX11_emit_73 : decode cX11_emit 73 = .ok (.iadd, 1) := by decide +kernel
theorem dX11_emit_74 : decode cX11_emit 74 = .ok (.iaload, 1) := by decide +kernel
theorem dX11_emit_75 : decode cX11_emit 75 = .ok (.iastore, 1) := by decide +kernel
theorem dX11_emit_76 : decode cX11_emit 76 = .ok (.iinc 5 1, 3) := by decide +kernel
theorem dX11_emit_79 : decode cX11_emit 79 = .ok (.goto (-30), 3) := by decide +kernel
theorem dX11_emit_82 : decode cX11_emit 82 = .ok (.aload_n 0, 1) := by decide +kernel
theorem dX11_emit_83 : decode cX11_emit 83 = .ok (.dup, 1) := by decide +kernel
theorem dX11_emit_84 : decode cX11_emit 84 = .ok (.getfield 353, 3) := by decide +kernel
theorem dX11_emit_87 : decode cX11_emit 87 = .ok (.iconst 1, 1) := by decide +kernel
theorem dX11_emit_88 : decode cX11_emit 88 = .ok (.iadd, 1) := by decide +kernel
theorem dX11_emit_89 : decode cX11_emit 89 = .ok (.putfield 353, 3) := by decide +kernel
theorem dX11_emit_92 : decode cX11_emit 92 = .ok (.iload_n 3, 1) := by decide +kernel
theorem dX11_emit_93 : decode cX11_emit 93 = .ok (.ifCond .eq 58, 3) := by decide +kernel
theorem dX11_emit_96 : decode cX11_emit 96 = .ok (.aload_n 0, 1) := by decide +kernel
theorem dX11_emit_97 : decode cX11_emit 97 = .ok (.getfield 369, 3) := by decide +kernel
theorem dX11_emit_100 : decode cX11_emit 100 = .ok (.iconst 3, 1) := by decide +kernel
theorem dX11_emit_101 : decode cX11_emit 101 = .ok (.if_icmp .ne 50, 3) := by decide +kernel
theorem dX11_emit_104 : decode cX11_emit 104 = .ok (.aload_n 0, 1) := by decide +kernel
theorem dX11_emit_105 : decode cX11_emit 105 = .ok (.getfield 9, 3) := by decide +kernel
theorem dX11_emit_108 : decode cX11_emit 108 = .ok (.iload_n 1, 1) := by decide +kernel
theorem dX11_emit_109 : decode cX11_emit 109 = .ok (.invokestatic 253, 3) := by decide +kernel
theorem dX11_emit_112 : decode cX11_emit 112 = .ok (.ifCond .ne 39, 3) := by decide +kernel
theorem dX11_emit_115 : decode cX11_emit 115 = .ok (.aload_n 0, 1) := by decide +kernel
theorem dX11_emit_116 : decode cX11_emit 116 = .ok (.getfield 16, 3) := by decide +kernel
theorem dX11_emit_119 : decode cX11_emit 119 = .ok (.iload 4, 2) := by decide +kernel
theorem dX11_emit_121 : decode cX11_emit 121 = .ok (.iconst 1, 1) := by decide +kernel
theorem dX11_emit_122 : decode cX11_emit 122 = .ok (.iadd, 1) := by decide +kernel
theorem dX11_emit_123 : decode cX11_emit 123 = .ok (.sipush (-999), 3) := by decide +kernel
theorem dX11_emit_126 : decode cX11_emit 126 = .ok (.sipush 999, 3) := by decide +kernel
theorem dX11_emit_129 : decode cX11_emit 129 = .ok (.aload_n 0, 1) := by decide +kernel
theorem dX11_emit_130 : decode cX11_emit 130 = .ok (.getfield 9, 3) := by decide +kernel
theorem dX11_emit_133 : decode cX11_emit 133 = .ok (.iconst 4, 1) := by decide +kernel
theorem dX11_emit_134 : decode cX11_emit 134 = .ok (.iload_n 1, 1) := by decide +kernel
theorem dX11_emit_135 : decode cX11_emit 135 = .ok (.imul, 1) := by decide +kernel
theorem dX11_emit_136 : decode cX11_emit 136 = .ok (.iconst 1, 1) := by decide +kernel
theorem dX11_emit_137 : decode cX11_emit 137 = .ok (.iadd, 1) := by decide +kernel
theorem dX11_emit_138 : decode cX11_emit 138 = .ok (.iaload, 1) := by decide +kernel
theorem dX11_emit_139 : decode cX11_emit 139 = .ok (.aload_n 0, 1) := by decide +kernel
theorem dX11_emit_140 : decode cX11_emit 140 = .ok (.getfield 375, 3) := by decide +kernel
theorem dX11_emit_143 : decode cX11_emit 143 = .ok (.iadd, 1) := by decide +kernel
theorem dX11_emit_144 : decode cX11_emit 144 = .ok (.invokestatic 153, 3) := by decide +kernel
theorem dX11_emit_147 : decode cX11_emit 147 = .ok (.invokestatic 313, 3) := by decide +kernel
theorem dX11_emit_150 : decode cX11_emit 150 = .ok (.iastore, 1) := by decide +kernel
theorem dX11_emit_151 : decode cX11_emit 151 = .ok (.aload_n 0, 1) := by decide +kernel
theorem dX11_emit_152 : decode cX11_emit 152 = .ok (.getfield 9, 3) := by decide +kernel
theorem dX11_emit_155 : decode cX11_emit 155 = .ok (.iload_n 1, 1) := by decide +kernel
theorem dX11_emit_156 : decode cX11_emit 156 = .ok (.invokestatic 256, 3) := by decide +kernel
theorem dX11_emit_159 : decode cX11_emit 159 = .ok (.ifCond .eq 10, 3) := by decide +kernel
theorem dX11_emit_162 : decode cX11_emit 162 = .ok (.aload_n 0, 1) := by decide +kernel
theorem dX11_emit_163 : decode cX11_emit 163 = .ok (.iload_n 1, 1) := by decide +kernel
theorem dX11_emit_164 : decode cX11_emit 164 = .ok (.iload_n 3, 1) := by decide +kernel
theorem dX11_emit_165 : decode cX11_emit 165 = .ok (.iload_n 2, 1) := by decide +kernel
theorem dX11_emit_166 : decode cX11_emit 166 = .ok (.invokevirtual 378, 3) := by decide +kernel
theorem dX11_emit_169 : decode cX11_emit 169 = .ok (.aload_n 0, 1) := by decide +kernel
theorem dX11_emit_170 : decode cX11_emit 170 = .ok (.getfield 16, 3) := by decide +kernel
theorem dX11_emit_173 : decode cX11_emit 173 = .ok (.iload 4, 2) := by decide +kernel
theorem dX11_emit_175 : decode cX11_emit 175 = .ok (.iconst 3, 1) := by decide +kernel
theorem dX11_emit_176 : decode cX11_emit 176 = .ok (.iadd, 1) := by decide +kernel
theorem dX11_emit_177 : decode cX11_emit 177 = .ok (.aload_n 0, 1) := by decide +kernel
theorem dX11_emit_178 : decode cX11_emit 178 = .ok (.getfield 353, 3) := by decide +kernel
theorem dX11_emit_181 : decode cX11_emit 181 = .ok (.iload 4, 2) := by decide +kernel
theorem dX11_emit_183 : decode cX11_emit 183 = .ok (.iconst 4, 1) := by decide +kernel
theorem dX11_emit_184 : decode cX11_emit 184 = .ok (.idiv, 1) := by decide +kernel
theorem dX11_emit_185 : decode cX11_emit 185 = .ok (.isub, 1) := by decide +kernel
theorem dX11_emit_186 : decode cX11_emit 186 = .ok (.iastore, 1) := by decide +kernel
theorem dX11_emit_187 : decode cX11_emit 187 = .ok (.return_, 1) := by decide +kernel
