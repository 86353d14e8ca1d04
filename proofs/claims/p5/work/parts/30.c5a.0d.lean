set_option maxRecDepth 100000 in
theorem ggX11_areLike_X11_kind : GoodIn wsX11_areLike wsX11_kind := (gi_cons 4 rfl rfl gi_nil)
set_option maxRecDepth 20000 in
theorem gX11_areLike_X11_kind : GoodIn wsX11_areLike (va_wsS RX11 253 yX11_kind wsX11_kind) := goodIn_app (goodIn_of _ (by decide +kernel)) ggX11_areLike_X11_kind
set_option maxRecDepth 100000 in
theorem ggX11_areLike_X11_size : GoodIn wsX11_areLike wsX11_size := (gi_cons 7 rfl rfl gi_nil)
set_option maxRecDepth 20000 in
theorem gX11_areLike_X11_size : GoodIn wsX11_areLike (va_wsS RX11 242 yX11_size wsX11_size) := goodIn_app (goodIn_of _ (by decide +kernel)) ggX11_areLike_X11_size
set_option maxRecDepth 100000 in
theorem ggX11_areLike_X11_holds : GoodIn wsX11_areLike wsX11_holds := (gi_cons 10 rfl rfl gi_nil)
set_option maxRecDepth 20000 in
theorem gX11_areLike_X11_holds : GoodIn wsX11_areLike (va_wsS RX11 256 yX11_holds wsX11_holds) := goodIn_app (goodIn_of _ (by decide +kernel)) ggX11_areLike_X11_holds
set_option maxRecDepth 100000 in
theorem ggX11_areLike_X11_many : GoodIn wsX11_areLike wsX11_many := (gi_cons 13 rfl rfl (gi_cons 5 rfl rfl (gi_cons 6 rfl rfl (gi_cons 3 rfl rfl (gi_cons 7 rfl rfl gi_nil)))))
set_option maxRecDepth 20000 in
theorem gX11_areLike_X11_many : GoodIn wsX11_areLike (va_wsS RX11 246 yX11_many wsX11_many) := goodIn_app (goodIn_of _ (by decide +kernel)) ggX11_areLike_X11_many
set_option maxRecDepth 100000 in
theorem ggX11_areLike_X11_byKey : GoodIn wsX11_areLike wsX11_byKey := (gi_cons 16 rfl rfl (gi_cons 5 rfl rfl (gi_cons 6 rfl rfl (gi_cons 3 rfl rfl (gi_cons 7 rfl rfl gi_nil)))))
set_option maxRecDepth 20000 in
theorem gX11_areLike_X11_byKey : GoodIn wsX11_areLike (va_wsS RX11 260 yX11_byKey wsX11_byKey) := goodIn_app (goodIn_of _ (by decide +kernel)) ggX11_areLike_X11_byKey
set_option maxRecDepth 100000 in
theorem ggX11_areLike_X11_nth : GoodIn wsX11_areLike wsX11_nth := (gi_cons 19 rfl rfl (gi_cons 5 rfl rfl (gi_cons 6 rfl rfl (gi_cons 3 rfl rfl (gi_cons 7 rfl rfl gi_nil)))))
set_option maxRecDepth 20000 in
theorem gX11_areLike_X11_nth : GoodIn wsX11_areLike (va_wsS RX11 249 yX11_nth wsX11_nth) := goodIn_app (goodIn_of _ (by decide +kernel)) ggX11_areLike_X11_nth
set_option maxRecDepth 100000 in
theorem ggX11_areLike_X11_areLike : GoodIn wsX11_areLike wsX11_areLike := (gi_cons 0 rfl rfl (gi_cons 1 rfl rfl (gi_cons 2 rfl rfl (gi_cons 3 rfl rfl (gi_cons 4 rfl rfl (gi_cons 5 rfl rfl (gi_cons 6 rfl rfl (gi_cons 7 rfl rfl (gi_cons 8 rfl rfl (gi_cons 9 rfl rfl (gi_cons 10 rfl rfl (gi_cons 11 rfl rfl (gi_cons 12 rfl rfl (gi_cons 13 rfl rfl (gi_cons 14 rfl rfl (gi_cons 15 rfl rfl (gi_cons 16 rfl rfl (gi_cons 17 rfl rfl (gi_cons 18 rfl rfl (gi_cons 19 rfl rfl (gi_cons 20 rfl rfl (gi_cons 21 rfl rfl gi_nil))))))))))))))))))))))
set_option maxRecDepth 20000 in
theorem gX11_areLike_X11_areLike : GoodIn wsX11_areLike (va_wsS RX11 263 yX11_areLike wsX11_areLike) := goodIn_app (goodIn_of _ (by decide +kernel)) ggX11_areLike_X11_areLike
theorem dX11_areLike_0 : decode cX11_areLike 0 = .ok (.aload_n 0, 1) := by decide +kernel
theorem dX11_areLike_1 : decode cX11_areLike 1 = .ok (.iload_n 1, 1) := by decide +kernel
theorem dX11_areLike_2 : decode cX11_areLike 2 = .ok (.invokestatic 253, 3) := by decide +kernel
theorem dX11_areLike_5 : decode cX11_areLike 5 = .ok (.aload_n 2, 1) := by decide +kernel
theorem dX11_areLike_6 : decode cX11_areLike 6 = .ok (.iload_n 3, 1) := by decide +kernel
theorem dX11_areLike_7 : decode cX11_areLike 7 = .ok (.invokestatic 253, 3) := by decide +kernel
theorem dX11_areLike_10 : decode cX11_areLike 10 = .ok (.if_icmp .ne 16, 3) := by decide +kernel
theorem dX11_areLike_13 : decode cX11_areLike 13 = .ok (.aload_n 0, 1) := by decide +kernel
theorem dX11_areLike_14 : decode cX11_areLike 14 = .ok (.iload_n 1, 1) := by decide +kernel
theorem dX11_areLike_15 : decode cX11_areLike 15 = .ok (.invokestatic 242, 3) := by decide +kernel
theorem dX11_areLike_18 : decode cX11_areLike 18 = .ok (.aload_n 2, 1) := by decide +kernel
theorem dX11_areLike_19 : decode cX11_areLike 19 = .ok (.iload_n 3, 1) := by decide +kernel
theorem dX11_areLike_20 : decode cX11_areLike 20 = .ok (.invokestatic 242, 3) := by decide +kernel
theorem dX11_areLike_23 : decode cX11_areLike 23 = .ok (.if_icmp .eq 5, 3) := by decide +kernel
theorem dX11_areLike_26 : decode cX11_areLike 26 = .ok (.iconst 0, 1) := by decide +kernel
theorem dX11_areLike_27 : decode cX11_areLike 27 = .ok (.ireturn, 1) := by decide +kernel
theorem dX11_areLike_28 : decode cX11_areLike 28 = .ok (.aload_n 0, 1) := by decide +kernel
theorem dX11_areLike_29 : decode cX11_areLike 29 = .ok (.iload_n 1, 1) := by decide +kernel
theorem dX11_areLike_30 : decode cX11_areLike 30 = .ok (.invokestatic 256, 3) := by decide +kernel
theorem dX11_areLike_33 : decode cX11_areLike 33 = .ok (.ifCond .ne 26, 3) := by decide +kernel
theorem dX11_areLike_36 : decode cX11_areLike 36 = .ok (.aload_n 0, 1) := by decide +kernel
theorem dX11_areLike_37 : decode cX11_areLike 37 = .ok (.iconst 4, 1) := by decide +kernel
theorem dX11_areLike_38 : decode cX11_areLike 38 = .ok (.iload_n 1, 1) := by decide +kernel
theorem dX11_areLike_39 : decode cX11_areLike 39 = .ok (.imul, 1) := by decide +kernel
theorem dX11_areLike_40 : decode cX11_areLike 40 = .ok (.iconst 1, 1) := by decide +kernel
theorem dX11_areLike_41 : decode cX11_areLike 41 = .ok (.iadd, 1) := by decide +kernel
theorem dX11_areLike_42 : decode cX11_areLike 42 = .ok (.iaload, 1) := by decide +kernel
theorem dX11_areLike_43 : decode cX11_areLike 43 = .ok (.aload_n 2, 1) := by decide +kernel
theorem dX11_areLike_44 : decode cX11_areLike 44 = .ok (.iconst 4, 1) := by decide +kernel
theorem dX11_areLike_45 : decode cX11_areLike 45 = .ok (.iload_n 3, 1) := by decide +kernel
theorem dX11_areLike_46 : decode cX11_areLike 46 = .ok (.imul, 1) := by decide +kernel
theorem dX11_areLike_47 : decode cX11_areLike 47 = .ok (.iconst 1, 1) := by decide +kernel
theorem dX11_areLike_48 : decode cX11_areLike 48 = .ok (.iadd, 1) := by decide +kernel
theorem dX11_areLike_49 : decode cX11_areLike 49 = .ok (.iaload, 1) := by decide +kernel
theorem dX11_areLike_50 : decode cX11_areLike 50 = .ok (.if_icmp .ne 7, 3) := by decide +kernel
theorem dX11_areLike_53 : decode cX11_areLike 53 = .ok (.iconst 1, 1) := by decide +kernel
theorem dX11_areLike_54 : decode cX11_areLike 54 = .ok (.goto 4, 3) := by decide +kernel
theorem dX11_areLike_57 : decode cX11_areLike 57 = .ok (.iconst 0, 1) := by decide +kernel
theorem dX11_areLike_58 : decode cX11_areLike 58 = .ok (.ireturn, 1) := by decide +kernel
theorem dX11_areLike_59 : decode cX11_areLike 59 = .ok (.aload_n 0, 1) := by decide +kernel
theorem dX11_areLike_60 : decode cX11_areLike 60 = .ok (.iload_n 1, 1) := by decide +kernel
theorem dX11_areLike_61 : decode cX11_areLike 61 = .ok (.invokestatic 246, 3) := by decide +kernel
theorem dX11_areLike_64 : decode cX11_areLike 64 = .ok (.aload_n 2, 1) := by decide +kernel
theorem dX11_areLike_65 : decode cX11_areLike 65 = .ok (.iload_n 3, 1) := by decide +kernel
theorem dX11_areLike_66 : decode cX11_areLike 66 = .ok (.invokestatic 246, 3) := by decide +kernel
theorem dX11_areLike_69 : decode cX11_areLike 69 = .ok (.if_icmp .eq 5, 3) := by decide +kernel
theorem dX11_areLike_72 : decode cX11_areLike 72 = .ok (.iconst 0, 1) := by decide +kernel
theorem dX11_areLike_73 : decode cX11_areLike 73 = .ok (.ireturn, 1) := by decide +kernel
theorem dX11_areLike_74 : decode cX11_areLike 74 = .ok (.iconst 1, 1) := by decide +kernel
theorem dX11_areLike_75 : decode cX11_areLike 75 = .ok (.istore 4, 2) := by decide +kernel
theorem dX11_areLike_77 : decode cX11_areLike 77 = .ok (.iconst 0, 1) := by decide +kernel
theorem dX11_areLike_78 : decode cX11_areLike 78 = .ok (.istore 5, 2) := by decide +kernel
theorem dX11_areLike_80 : decode cX11_areLike 80 = .ok (.iload_n 1, 1) := by decide +kernel
theorem dX11_areLike_81 : decode cX11_areLike 81 = .ok (.iconst 1, 1) := by decide +kernel
theorem dX11_areLike_82 : decode cX11_areLike 82 = .ok (.iadd, 1) := by decide +kernel
theorem dX11_areLike_83 : decode cX11_areLike 83 = .ok (.istore 6, 2) := by decide +kernel
theorem dX11_areLike_85 : decode cX11_areLike 85 = .ok (.iload 6, 2) := by decide +kernel
theorem dX11_areLike_87 : decode cX11_areLike 87 = .ok (.iload_n 1, 1) := by decide +kernel
theorem dX11_areLike_88 : decode cX11_areLike 88 = .ok (.aload_n 0, 1) := by decide +kernel
theorem dX11_areLike_89 : decode cX11_areLike 89 = .ok (.iload_n 1, 1) := by decide +kernel
theorem dX11_areLike_90 : decode cX11_areLike 90 = .ok (.invokestatic 242, 3) := by decide +kernel
theorem dX11_areLike_93 : decode cX11_areLike 93 = .ok (.iadd, 1) := by decide +kernel
theorem dX11_areLike_94 : decode cX11_areLike 94 = .ok (.if_icmp .ge 84, 3) := by decide +kernel
theorem dX11_areLike_97 : decode cX11_areLike 97 = .ok (.iload 4, 2) := by decide +kernel
theorem dX11_areLike_99 : decode cX11_areLike 99 = .ok (.ifCond .eq 79, 3) := by decide +kernel
theorem dX11_areLike_102 : decode cX11_areLike 102 = .ok (.aload_n 0, 1) := by decide +kernel
theorem dX11_areLike_103 : decode cX11_areLike 103 = .ok (.iload_n 1, 1) := by decide +kernel
theorem dX11_areLike_104 : decode cX11_areLike 104 = .ok (.invokestatic 253, 3) := by decide +kernel
theorem dX11_areLike_107 : decode cX11_areLike 107 = .ok (.iconst 3, 1) := by decide +kernel
theorem dX11_areLike_108 : decode cX11_areLike 108 = .ok (.if_icmp .ne 19, 3) := by decide +kernel
theorem dX11_areLike_111 : decode cX11_areLike 111 = .ok (.aload_n 2, 1) := by decide +kernel
theorem dX11_areLike_112 : decode cX11_areLike 112 = .ok (.iload_n 3, 1) := by decide +kernel
theorem dX11_areLike_113 : decode cX11_areLike 113 = .ok (.aload_n 0, 1) := by decide +kernel
theorem dX11_areLike_114 : decode cX11_areLike 114 = .ok (.iconst 4, 1) := by decide +kernel
theorem dX11_areLike_115 : decode cX11_areLike 115 = .ok (.iload 6, 2) := by decide +kernel
theorem dX11_areLike_117 : decode cX11_areLike 117 = .ok (.imul, 1) := by decide +kernel
theorem dX11_areLike_118 : decode cX11_areLike 118 = .ok (.iconst 2, 1) := by decide +kernel
theorem dX11_areLike_119 : decode cX11_areLike 119 = .ok (.iadd, 1) := by decide +kernel
theorem dX11_areLike_120 : decode cX11_areLike 120 = .ok (.iaload, 1) := by decide +kernel
theorem dX11_areLike_121 : decode cX11_areLike 121 = .ok (.invokestatic 260, 3) := by decide +kernel
theorem dX11_areLike_124 : decode cX11_areLike 124 = .ok (.goto 10, 3) := by decide +kernel
theorem dX11_areLike_127 : decode cX11_areLike 127 = .ok (.aload_n 2, 1) := by decide +kernel
theorem dX11_areLike_128 : decode cX11_areLike 128 = .ok (.iload_n 3, 1) := by decide +kernel
theorem dX11_areLike_129 : decode cX11_areLike 129 = .ok (.iload 5, 2) := by decide +kernel
theorem dX11_areLike_131 : decode cX11_areLike 131 = .ok (.invokestatic 249, 3) := by decide +kernel
theorem dX11_areLike_134 : decode cX11_areLike 134 = .ok (.istore 7, 2) := by decide +kernel
theorem dX11_areLike_136 : decode cX11_areLike 136 = .ok (.iload 7, 2) := by decide +kernel
theorem dX11_areLike_138 : decode cX11_areLike 138 = .ok (.iconst (-1), 1) := by decide +kernel
theorem dX11_areLike_139 : decode cX11_areLike 139 = .ok (.if_icmp .eq 19, 3) := by decide +kernel
theorem dX11_areLike_142 : decode cX11_areLike 142 = .ok (.aload_n 0, 1) := by decide +kernel
theorem dX11_areLike_143 : decode cX11_areLike 143 = .ok (.iload 6, 2) := by decide +kernel
theorem dX11_areLike_145 : decode cX11_areLike 145 = .ok (.aload_n 2, 1) := by decide +kernel
theorem dX11_areLike_146 : decode cX11_areLike 146 = .ok (.iload 7, 2) := by decide +kernel
theorem dX11_areLike_148 : decode cX11_areLike 148 = .ok (.invokestatic 263, 3) := by decide +kernel
theorem dX11_areLike_151 : decode cX11_areLike 151 = .ok (.ifCond .eq 7, 3) := by decide +kernel
theorem dX11_areLike_154 : decode cX11_areLike 154 = .ok (.iconst 1, 1) := by decide +kernel
theorem dX11_areLike_155 : decode cX11_areLike 155 = .ok (.goto 4, 3) := by decide +kernel
theorem dX11_areLike_158 : decode cX11_areLike 158 = .ok (.iconst 0, 1) := by decide +kernel
theorem dX11_areLike_159 : decode cX11_areLike 159 = .ok (.istore 4, 2) := by decide +kernel
theorem dX11_areLike_161 : decode cX11_areLike 161 = .ok (.iinc 5 1, 3) := by decide +kernel
theorem dX11_areLike_164 : decode cX11_areLike 164 = .ok (.iload 6, 2) := by decide +kernel
theorem dX11_areLike_166 : decode cX11_areLike 166 = .ok (.aload_n 0, 1) := by decide +kernel
theorem dX11_areLike_167 : decode cX11_areLike 167 = .ok (.iload 6, 2) := by decide +kernel
theorem dX11_areLike_169 : decode cX11_areLike 169 = .ok (.invokestatic 242, 3) := by decide +kernel
theorem dX11_areLike_172 : decode cX11_areLike 172 = .ok (.iadd, 1) := by decide +kernel
theorem dX11_areLike_173 : decode cX11_areLike 173 = .ok (.istore 6, 2) := by decide +kernel
theorem dX11_areLike_175 : decode cX11_areLike 175 = .ok (.goto (-90), 3) := by decide +kernel
theorem dX11_areLike_178 : decode cX11_areLike 178 = .ok (.iload 4, 2) := by decide +kernel
theorem dX11_areLike_180 : decode cX11_areLike 180 = .ok (.ireturn, 1) := by decide +kernel
set_option maxRecDepth 100000 in
theorem ggX11_parentOf_X11_size : GoodIn wsX11_parentOf wsX11_size := (gi_cons 4 rfl rfl gi_nil)
set_option maxRecDepth 20000 in
theorem gX11_parentOf_X11_size : GoodIn wsX11_parentOf (va_wsS RX11 242 yX11_size wsX11_size) := goodIn_app (goodIn_of _ (by decide +kernel)) ggX11_parentOf_X11_size
theorem dX11_parentOf_0 : decode cX11_parentOf 0 = .ok (.iload_n 1, 1) := by decide +kernel
theorem dX11_parentOf_1 : decode cX11_parentOf 1 = .ok (.iconst 1, 1) := by decide +kernel
theorem dX11_parentOf_2 : decode cX11_parentOf 2 = .ok (.isub, 1) := by decide +kernel
theorem dX11_parentOf_3 : decode cX11_parentOf 3 = .ok (.istore_n 2, 1) := by decide +kernel
theorem dX11_parentOf_4 : decode cX11_parentOf 4 = .ok (.iload_n 2, 1) := by decide +kernel
theorem dX11_parentOf_5 : decode cX11_parentOf 5 = .ok (.ifCond .lt 22, 3) := by decide +kernel
theorem dX11_parentOf_8 : decode cX11_parentOf 8 = .ok (.iload_n 2, 1) := by decide +kernel
theorem dX11_parentOf_9 : decode cX11_parentOf 9 = .ok (.aload_n 0, 1) := by decide +kernel
theorem dX11_parentOf_10 : decode cX11_parentOf 10 = .ok (.iload_n 2, 1) := by decide +kernel
theorem dX11_parentOf_11 : decode cX11_parentOf 11 = .ok (.invokestatic 242, 3) := by decide +kernel
theorem dX11_parentOf_14 : decode cX11_parentOf 14 = .ok (.iadd, 1) := by decide +kernel
theorem dX11_parentOf_15 : decode cX11_parentOf 15 = .ok (.iload_n 1, 1) := by decide +kernel
theorem dX11_parentOf_16 : decode cX11_parentOf 16 = .ok (.if_icmp .le 5, 3) := by decide +kernel
theorem dX11_parentOf_19 : decode cX11_parentOf 19 = .ok (.iload_n 2, 1) := by decide +kernel
theorem dX11_parentOf_20 : decode cX11_parentOf 20 = .ok (.ireturn, 1) := by decide +kernel
theorem dX11_parentOf_21 : decode cX11_parentOf 21 = .ok (.iinc 2 (-1), 3) := by decide +kernel
theorem dX11_parentOf_24 : decode cX11_parentOf 24 = .ok (.goto (-20), 3) := by decide +kernel
theorem dX11_parentOf_27 : decode cX11_parentOf 27 = .ok (.iconst (-1), 1) := by decide +kernel
theorem dX11_parentOf_28 : decode cX11_parentOf 28 = .ok (.ireturn, 1) := by decide +kernel
set_option maxRecDepth 100000 in
theorem ggX11_depthOf_X11_size : GoodIn wsX11_depthOf wsX11_size := (gi_cons 4 rfl rfl gi_nil)
set_option maxRecDepth 20000 in
theorem gX11_depthOf_X11_size : GoodIn wsX11_depthOf (va_wsS RX11 242 yX11_size wsX11_size) := goodIn_app (goodIn_of _ (by decide +kernel)) ggX11_depthOf_X11_size
theorem dX11_depthOf_0 : decode cX11_depthOf 0 = .ok (.iconst 0, 1) := by decide +kernel
theorem dX11_depthOf_1 : decode cX11_depthOf 1 = .ok (.istore_n 2, 1) := by decide +kernel
theorem dX11_depthOf_2 : decode cX11_depthOf 2 = .ok (.iconst 0, 1) := by decide +kernel
theorem dX11_depthOf_3 : decode cX11_depthOf 3 = .ok (.istore_n 3, 1) := by decide +kernel
theorem dX11_depthOf_4 : decode cX11_depthOf 4 = .ok (.iload_n 3, 1) := by decide +kernel
theorem dX11_depthOf_5 : decode cX11_depthOf 5 = .ok (.iload_n 1, 1) := by decide +kernel
theorem dX11_depthOf_6 : decode cX11_depthOf 6 = .ok (.if_icmp .ge 28, 3) := by decide +kernel
theorem dX11_depthOf_9 : decode cX11_depthOf 9 = .ok (.iload_n 2, 1) := by decide +kernel
theorem dX11_depthOf_10 : decode cX11_depthOf 10 = .ok (.iload_n 3, 1) := by decide +kernel
theorem dX11_depthOf_11 : decode cX11_depthOf 11 = .ok (.aload_n 0, 1) := by decide +kernel
theorem dX11_depthOf_12 : decode cX11_depthOf 12 = .ok (.iload_n 3, 1) := by decide +kernel
theorem dX11_depthOf_13 : decode cX11_depthOf 13 = .ok (.invokestatic 242, 3) := by decide +kernel
theorem dX11_depthOf_16 : decode cX11_depthOf 16 = .ok (.iadd, 1) := by decide +kernel
theorem dX11_depthOf_17 : decode cX11_depthOf 17 = .ok (.iload_n 1, 1) := by decide +kernel
theorem dX11_depthOf_18 : decode cX11_depthOf 18 = .ok (.if_icmp .le 7, 3) := by decide +kernel
theorem dX11_depthOf_21 : decode cX11_depthOf 21 = .ok (.iconst 1, 1) := by decide +kernel
theorem dX11_depthOf_22 : decode cX11_depthOf 22 = .ok (.goto 4, 3) := by decide +kernel
theorem dX11_depthOf_25 : decode cX11_depthOf 25 = .ok (.iconst 0, 1) := by decide +kernel
theorem dX11_depthOf_26 : decode cX11_depthOf 26 = .ok (.iadd, 1) := by decide +kernel
theorem dX11_depthOf_27 : decode cX11_depthOf 27 = .ok (.istore_n 2, 1) := by decide +kernel
theorem dX11_depthOf_28 : decode cX11_depthOf 28 = .ok (.iinc 3 1, 3) := by decide +kernel
theorem dX11_depthOf_31 : decode cX11_depthOf 31 = .ok (.goto (-27), 3) := by decide +kernel
theorem dX11_depthOf_34 : decode cX11_depthOf 34 = .ok (.iload_n 2, 1) := by decide +kernel
theorem dX11_depthOf_35 : decode cX11_depthOf 35 = .ok (.ireturn, 1) := by decide +kernel
set_option maxRecDepth 100000 in
theorem ggX11_placeOf_X11_parentOf : GoodIn wsX11_placeOf wsX11_parentOf := (gi_cons 4 rfl rfl (gi_cons 5 rfl rfl (gi_cons 6 rfl rfl (gi_cons 3 rfl rfl (gi_cons 7 rfl rfl gi_nil)))))
set_option maxRecDepth 20000 in
theorem gX11_placeOf_X11_parentOf : GoodIn wsX11_placeOf (va_wsS RX11 270 yX11_parentOf wsX11_parentOf) := goodIn_app (goodIn_of _ (by decide +kernel)) ggX11_placeOf_X11_parentOf
set_option maxRecDepth 100000 in
theorem ggX11_placeOf_X11_size : GoodIn wsX11_placeOf wsX11_size := (gi_cons 7 rfl rfl gi_nil)
set_option maxRecDepth 20000 in
theorem gX11_placeOf_X11_size : GoodIn wsX11_placeOf (va_wsS RX11 242 yX11_size wsX11_size) := goodIn_app (goodIn_of _ (by decide +kernel)) ggX11_placeOf_X11_size
theorem dX11_placeOf_0 : decode cX11_placeOf 0 = .ok (.aload_n 0, 1) := by decide +kernel
theorem dX11_placeOf_1 : decode cX11_placeOf 1 = .ok (.iload_n 1, 1) := by decide +kernel
theorem dX11_placeOf_2 : decode cX11_placeOf 2 = .ok (.invokestatic 270, 3) := by decide +kernel
theorem dX11_placeOf_5 : decode cX11_placeOf 5 = .ok (.istore_n 2, 1) := by decide +kernel
theorem dX11_placeOf_6 : decode cX11_placeOf 6 = .ok (.iconst 0, 1) := by decide +kernel
theorem dX11_placeOf_7 : decode cX11_placeOf 7 = .ok (.istore_n 3, 1) := by decide +kernel
theorem dX11_placeOf_8 : decode cX11_placeOf 8 = .ok (.iload_n 2, 1) := by decide +kernel
theorem dX11_placeOf_9 : decode cX11_placeOf 9 = .ok (.iconst 1, 1) := by decide +kernel
theorem dX11_placeOf_10 : decode cX11_placeOf 10 = .ok (.iadd, 1) := by decide +kernel
theorem dX11_placeOf_11 : decode cX11_placeOf 11 = .ok (.istore 4, 2) := by decide +kernel
theorem dX11_placeOf_13 : decode cX11_placeOf 13 = .ok (.iload 4, 2) := by decide +kernel
theorem dX11_placeOf_15 : decode cX11_placeOf 15 = .ok (.iload_n 1, 1) := by decide +kernel
theorem dX11_placeOf_16 : decode cX11_placeOf 16 = .ok (.if_icmp .ge 25, 3) := by decide +kernel
theorem dX11_placeOf_19 : decode cX11_placeOf 19 = .ok (.iload_n 2, 1) := by decide +kernel
theorem dX11_placeOf_20 : decode cX11_placeOf 20 = .ok (.iconst (-1), 1) := by decide +kernel
theorem dX11_placeOf_21 : decode cX11_placeOf 21 = .ok (.if_icmp .eq 20, 3) := by decide +kernel
theorem dX11_placeOf_24 : decode cX11_placeOf 24 = .ok (.iinc 3 1, 3) := by decide +kernel
theorem dX11_placeOf_27 : decode cX11_placeOf 27 = .ok (.iload 4, 2) := by decide +kernel
theorem dX11_placeOf_29 : decode cX11_placeOf 29 = .ok (.aload_n 0, 1) := by decide +kernel
theorem dX11_placeOf_30 : decode cX11_placeOf 30 = .ok (.iload 4, 2) := by decide +kernel
theorem dX11_placeOf_32 : decode cX11_placeOf 32 = .ok (.invokestatic 242, 3) := by decide +kernel
theorem dX11_placeOf_35 : decode cX11_placeOf 35 = .ok (.iadd, 1) := by decide +kernel
theorem dX11_placeOf_36 : decode cX11_placeOf 36 = .ok (.istore 4, 2) := by decide +kernel
theorem dX11_placeOf_38 : decode cX11_placeOf 38 = .ok (.goto (-25), 3) := by decide +kernel
theorem dX11_placeOf_41 : decode cX11_placeOf 41 = .ok (.iload_n 2, 1) := by decide +kernel
theorem dX11_placeOf_42 : decode cX11_placeOf 42 = .ok (.iconst (-1), 1) := by decide +kernel
theorem dX11_placeOf_43 : decode cX11_placeOf 43 = .ok (.if_icmp .ne 7, 3) := by decide +kernel
theorem dX11_placeOf_46 : decode cX11_placeOf 46 = .ok (.iconst (-1), 1) := by decide +kernel
theorem dX11_placeOf_47 : decode cX11_placeOf 47 = .ok (.goto 4, 3) := by decide +kernel
theorem dX11_placeOf_50 : decode cX11_placeOf 50 = .ok (.iload_n 3, 1) := by decide +kernel
theorem dX11_placeOf_51 : decode cX11_placeOf 51 = .ok (.ireturn, 1) := by decide +kernel
set_option maxRecDepth 100000 in
theorem ggX11_twinsOf_X11_things : GoodIn wsX11_twinsOf wsX11_things := (gi_cons 6 rfl rfl (gi_cons 1 rfl rfl (gi_cons 28 rfl rfl (gi_cons 29 rfl rfl (gi_cons 30 rfl rfl (gi_cons 31 rfl rfl (gi_cons 32 rfl rfl (gi_cons 33 rfl rfl (gi_cons 34 rfl rfl (gi_cons 35 rfl rfl (gi_cons 36 rfl rfl (gi_cons 37 rfl rfl (gi_cons 38 rfl rfl (gi_cons 39 rfl rfl (gi_cons 40 rfl rfl (gi_cons 41 rfl rfl (gi_cons 42 rfl rfl (gi_cons 43 rfl rfl (gi_cons 44 rfl rfl (gi_cons 45 rfl rfl (gi_cons 46 rfl rfl (gi_cons 47 rfl rfl (gi_cons 48 rfl rfl (gi_cons 49 rfl rfl (gi_cons 50 rfl rfl (gi_cons 51 rfl rfl (gi_cons 52 rfl rfl (gi_cons 53 rfl rfl (gi_cons 54 rfl rfl (gi_cons 55 rfl rfl (gi_cons 56 rfl rfl (gi_cons 57 rfl rfl (gi_cons 58 rfl rfl (gi_cons 59 rfl rfl (gi_cons 60 rfl rfl (gi_cons 61 rfl rfl (gi_cons 62 rfl rfl (gi_cons 63 rfl rfl (gi_cons 64 rfl rfl (gi_cons 65 rfl rfl (gi_cons 66 rfl rfl (gi_cons 67 rfl rfl (gi_cons 68 rfl rfl (gi_cons 69 rfl rfl (gi_cons 70 rfl rfl (gi_cons 71 rfl rfl (gi_cons 72 rfl rfl (gi_cons 73 rfl rfl (gi_cons 74 rfl rfl (gi_cons 75 rfl rfl (gi_cons 76 rfl rfl (gi_cons 77 rfl rfl (gi_cons 78 rfl rfl (gi_cons 79 rfl rfl (gi_cons 80 rfl rfl (gi_cons 81 rfl rfl (gi_cons 82 rfl rfl (gi_cons 83 rfl rfl (gi_cons 84 rfl rfl (gi_cons 85 rfl rfl (gi_cons 86 rfl rfl (gi_cons 87 rfl rfl (gi_cons 88 rfl rfl (gi_cons 89 rfl rfl (gi_cons 90 rfl rfl (gi_cons 91 rfl rfl (gi_cons 92 rfl rfl (gi_cons 93 rfl rfl gi_nil))))))))))))))))))))))))))))))))))))))))))))))))))))))))))))))))))))
set_option maxRecDepth 20000 in
theorem gX11_twinsOf_X11_things : GoodIn wsX11_twinsOf (wsV RX11 267 RX11 yX11_things wsX11_things) := goodIn_app (goodIn_of _ (by decide +kernel)) ggX11_twinsOf_X11_things
set_option maxRecDepth 100000 in
theorem ggX11_twinsOf_X11_areLike : GoodIn wsX11_twinsOf wsX11_areLike := (gi_cons 9 rfl rfl (gi_cons 10 rfl rfl (gi_cons 11 rfl rfl (gi_cons 5 rfl rfl (gi_cons 12 rfl rfl (gi_cons 13 rfl rfl (gi_cons 14 rfl rfl (gi_cons 15 rfl rfl (gi_cons 16 rfl rfl (gi_cons 17 rfl rfl (gi_cons 18 rfl rfl (gi_cons 19 rfl rfl (gi_cons 20 rfl rfl (gi_cons 21 rfl rfl (gi_cons 22 rfl rfl (gi_cons 23 rfl rfl (gi_cons 24 rfl rfl (gi_cons 25 rfl rfl (gi_cons 26 rfl rfl (gi_cons 27 rfl rfl (gi_cons 7 rfl rfl (gi_cons 8 rfl rfl gi_nil))))))))))))))))))))))
set_option maxRecDepth 20000 in
theorem gX11_twinsOf_X11_areLike : GoodIn wsX11_twinsOf (va_wsS RX11 263 yX11_areLike wsX11_areLike) := goodIn_app (goodIn_of _ (by decide +kernel)) ggX11_twinsOf_X11_areLike
theorem dX11_twinsOf_0 : decode cX11_twinsOf 0 = .ok (.iconst 0, 1) := by decide +kernel
theorem dX11_twinsOf_1 : decode cX11_twinsOf 1 = .ok (.istore_n 2, 1) := by decide +kernel
theorem dX11_twinsOf_2 : decode cX11_twinsOf 2 = .ok (.iconst 0, 1) := by decide +kernel
theorem dX11_twinsOf_3 : decode cX11_twinsOf 3 = .ok (.istore_n 3, 1) := by decide +kernel
theorem dX11_twinsOf_4 : decode cX11_twinsOf 4 = .ok (.iload_n 3, 1) := by decide +kernel
theorem dX11_twinsOf_5 : decode cX11_twinsOf 5 = .ok (.aload_n 0, 1) := by decide +kernel
theorem dX11_twinsOf_6 : decode cX11_twinsOf 6 = .ok (.invokevirtual 267, 3) := by decide +kernel
theorem dX11_twinsOf_9 : decode cX11_twinsOf 9 = .ok (.if_icmp .ge 38, 3) := by decide +kernel
theorem dX11_twinsOf_12 : decode cX11_twinsOf 12 = .ok (.iload_n 2, 1) := by decide +kernel
theorem dX11_twinsOf_13 : decode cX11_twinsOf 13 = .ok (.iload_n 3, 1) := by decide +kernel
theorem dX11_twinsOf_14 : decode cX11_twinsOf 14 = .ok (.iload_n 1, 1) := by decide +kernel
theorem dX11_twinsOf_15 : decode cX11_twinsOf 15 = .ok (.if_icmp .eq 23, 3) := by decide +kernel
theorem dX11_twinsOf_18 : decode cX11_twinsOf 18 = .ok (.aload_n 0, 1) := by decide +kernel
theorem dX11_twinsOf_19 : decode cX11_twinsOf 19 = .ok (.getfield 9, 3) := by decide +kernel
theorem dX11_twinsOf_22 : decode cX11_twinsOf 22 = .ok (.iload_n 1, 1) := by decide +kernel
theorem dX11_twinsOf_23 : decode cX11_twinsOf 23 = .ok (.aload_n 0, 1) := by decide +kernel
theorem dX11_twinsOf_24 : decode cX11_twinsOf 24 = .ok (.getfield 9, 3) := by decide +kernel
theorem dX11_twinsOf_27 : decode cX11_twinsOf 27 = .ok (.iload_n 3, 1) := by decide +kernel
theorem dX11_twinsOf_28 : decode cX11_twinsOf 28 = .ok (.invokestatic 263, 3) := by decide +kernel
theorem dX11_twinsOf_31 : decode cX11_twinsOf 31 = .ok (.ifCond .eq 7, 3) := by decide +kernel
theorem dX11_twinsOf_34 : decode cX11_twinsOf 34 = .ok (.iconst 1, 1) := by decide +kernel
theorem dX11_twinsOf_35 : decode cX11_twinsOf 35 = .ok (.goto 4, 3) := by decide +kernel
theorem dX11_twinsOf_38 : decode cX11_twinsOf 38 = .ok (.iconst 0, 1) := by decide +kernel
theorem dX11_twinsOf_39 : decode cX11_twinsOf 39 = .ok (.iadd, 1) := by decide +kernel
theorem dX11_twinsOf_40 : decode cX11_twinsOf 40 = .ok (.istore_n 2, 1) := by decide +kernel
theorem dX11_twinsOf_41 : decode cX11_twinsOf 41 = .ok (.iinc 3 1, 3) := by decide +kernel
theorem dX11_twinsOf_44 : decode cX11_twinsOf 44 = .ok (.goto (-40), 3) := by decide +kernel
theorem dX11_twinsOf_47 : decode cX11_twinsOf 47 = .ok (.iload_n 2, 1) := by decide +kernel
theorem dX11_twinsOf_48 : decode cX11_twinsOf 48 = .ok (.ireturn, 1) := by decide +kernel
set_option maxRecDepth 100000 in
theorem ggX11_unlike_X11_things : GoodIn wsX11_unlike wsX11_things := (gi_cons 6 rfl rfl (gi_cons 1 rfl rfl (gi_cons 28 rfl rfl (gi_cons 29 rfl rfl (gi_cons 30 rfl rfl (gi_cons 31 rfl rfl (gi_cons 32 rfl rfl (gi_cons 33 rfl rfl (gi_cons 34 rfl rfl (gi_cons 35 rfl rfl (gi_cons 36 rfl rfl (gi_cons 37 rfl rfl (gi_cons 38 rfl rfl (gi_cons 39 rfl rfl (gi_cons 40 rfl rfl (gi_cons 41 rfl rfl (gi_cons 42 rfl rfl (gi_cons 43 rfl rfl (gi_cons 44 rfl rfl (gi_cons 45 rfl rfl (gi_cons 46 rfl rfl (gi_cons 47 rfl rfl (gi_cons 48 rfl rfl (gi_cons 49 rfl rfl (gi_cons 50 rfl rfl (gi_cons 51 rfl rfl (gi_cons 52 rfl rfl (gi_cons 53 rfl rfl (gi_cons 54 rfl rfl (gi_cons 55 rfl rfl (gi_cons 56 rfl rfl (gi_cons 57 rfl rfl (gi_cons 58 rfl rfl (gi_cons 59 rfl rfl (gi_cons 60 rfl rfl (gi_cons 61 rfl rfl (gi_cons 62 rfl rfl (gi_cons 63 rfl rfl (gi_cons 64 rfl rfl (gi_cons 65 rfl rfl (gi_cons 66 rfl rfl (gi_cons 67 rfl rfl (gi_cons 68 rfl rfl (gi_cons 69 rfl rfl (gi_cons 70 rfl rfl (gi_cons 71 rfl rfl (gi_cons 72 rfl rfl (gi_cons 73 rfl rfl (gi_cons 74 rfl rfl (gi_cons 75 rfl rfl (gi_cons 76 rfl rfl (gi_cons 77 rfl rfl (gi_cons 78 rfl rfl (gi_cons 79 rfl rfl (gi_cons 80 rfl rfl (gi_cons 81 rfl rfl (gi_cons 82 rfl rfl (gi_cons 83 rfl rfl (gi_cons 84 rfl rfl (gi_cons 85 rfl rfl (gi_cons 86 rfl rfl (gi_cons 87 rfl rfl (gi_cons 88 rfl rfl (gi_cons 89 rfl rfl (gi_cons 90 rfl rfl (gi_cons 91 rfl rfl (gi_cons 92 rfl rfl (gi_cons 93 rfl rfl gi_nil))))))))))))))))))))))))))))))))))))))))))))))))))))))))))))))))))))
set_option maxRecDepth 20000 in
theorem gX11_unlike_X11_things : GoodIn wsX11_unlike (wsV RX11 267 RX11 yX11_things wsX11_things) := goodIn_app (goodIn_of _ (by decide +kernel)) ggX11_unlike_X11_things
set_option maxRecDepth 100000 in
theorem ggX11_unlike_X11_areLike : GoodIn wsX11_unlike wsX11_areLike := (gi_cons 9 rfl rfl (gi_cons 10 rfl rfl (gi_cons 11 rfl rfl (gi_cons 5 rfl rfl (gi_cons 12 rfl rfl (gi_cons 13 rfl rfl (gi_cons 14 rfl rfl (gi_cons 15 rfl rfl (gi_cons 16 rfl rfl (gi_cons 17 rfl rfl (gi_cons 18 rfl rfl (gi_cons 19 rfl rfl (gi_cons 20 rfl rfl (gi_cons 21 rfl rfl (gi_cons 22 rfl rfl (gi_cons 23 rfl rfl (gi_cons 24 rfl rfl (gi_cons 25 rfl rfl (gi_cons 26 rfl rfl (gi_cons 27 rfl rfl (gi_cons 7 rfl rfl (gi_cons 8 rfl rfl gi_nil))))))))))))))))))))))
set_option maxRecDepth 20000 in
theorem gX11_unlike_X11_areLike : GoodIn wsX11_unlike (va_wsS RX11 263 yX11_areLike wsX11_areLike) := goodIn_app (goodIn_of _ (by decide +kernel)) ggX11_unlike_X11_areLike
theorem dX11_unlike_0 : decode cX11_unlike 0 = .ok (.iconst 0, 1) := by decide +kernel
theorem dX11_unlike_1 : decode cX11_unlike 1 = .ok (.istore_n 1, 1) := by decide +kernel
theorem dX11_unlike_2 : decode cX11_unlike 2 = .ok (.iconst 0, 1) := by decide +kernel
theorem dX11_unlike_3 : decode cX11_unlike 3 = .ok (.istore_n 2, 1) := by decide +kernel
theorem dX11_unlike_4 : decode cX11_unlike 4 = .ok (.iload_n 2, 1) := by decide +kernel
theorem dX11_unlike_5 : decode cX11_unlike 5 = .ok (.aload_n 0, 1) := by decide +kernel
theorem dX11_unlike_6 : decode cX11_unlike 6 = .ok (.invokevirtual 267, 3) := by decide +kernel
theorem dX11_unlike_9 : decode cX11_unlike 9 = .ok (.if_icmp .ge 65, 3) := by decide +kernel
theorem dX11_unlike_12 : decode cX11_unlike 12 = .ok (.iconst 1, 1) := by decide +kernel
theorem dX11_unlike_13 : decode cX11_unlike 13 = .ok (.istore_n 3, 1) := by decide +kernel
theorem dX11_unlike_14 : decode cX11_unlike 14 = .ok (.iconst 0, 1) := by decide +kernel
theorem dX11_unlike_15 : decode cX11_unlike 15 = .ok (.istore 4, 2) := by decide +kernel
theorem dX11_unlike_17 : decode cX11_unlike 17 = .ok (.iload 4, 2) := by decide +kernel
theorem dX11_unlike_19 : decode cX11_unlike 19 = .ok (.iload_n 2, 1) := by decide +kernel
theorem dX11_unlike_20 : decode cX11_unlike 20 = .ok (.if_icmp .ge 36, 3) := by decide +kernel
theorem dX11_unlike_23 : decode cX11_unlike 23 = .ok (.iload_n 3, 1) := by decide +kernel
theorem dX11_unlike_24 : decode cX11_unlike 24 = .ok (.ifCond .eq 32, 3) := by decide +kernel
theorem dX11_unlike_27 : decode cX11_unlike 27 = .ok (.aload_n 0, 1) := by decide +kernel
theorem dX11_unlike_28 : decode cX11_unlike 28 = .ok (.getfield 9, 3) := by decide +kernel
theorem dX11_unlike_31 : decode cX11_unlike 31 = .ok (.iload_n 2, 1) := by decide +kernel
theorem dX11_unlike_32 : decode cX11_unlike 32 = .ok (.aload_n 0, 1) := by decide +kernel
theorem dX11_unlike_33 : decode cX11_unlike 33 = .ok (.getfield 9, 3) := by decide +kernel
theorem dX11_unlike_36 : decode cX11_unlike 36 = .ok (.iload 4, 2) := by decide +kernel
theorem dX11_unlike_38 : decode cX11_unlike 38 = .ok (.invokestatic 263, 3) := by decide +kernel
theorem dX11_unlike_41 : decode cX11_unlike 41 = .ok (.ifCond .ne 7, 3) := by decide +kernel
theorem dX11_unlike_44 : decode cX11_unlike 44 = .ok (.iconst 1, 1) := by decide +kernel
theorem dX11_unlike_45 : decode cX11_unlike 45 = .ok (.goto 4, 3) := by decide +kernel
theorem dX11_unlike_48 : decode cX11_unlike 48 = .ok (.iconst 0, 1) := by decide +kernel
theorem dX11_unlike_49 : decode cX11_unlike 49 = .ok (.istore_n 3, 1) := by decide +kernel
theorem dX11_unlike_50 : decode cX11_unlike 50 = .ok (.iinc 4 1, 3) := by decide +kernel
theorem dX11_unlike_53 : decode cX11_unlike 53 = .ok (.goto (-36), 3) := by decide +kernel
theorem dX11_unlike_56 : decode cX11_unlike 56 = .ok (.iload_n 1, 1) := by decide +kernel
theorem dX11_unlike_57 : decode cX11_unlike 57 = .ok (.iload_n 3, 1) := by decide +kernel
theorem dX11_unlike_58 : decode cX11_unlike 58 = .ok (.ifCond .eq 7, 3) := by decide +kernel
theorem dX11_unlike_61 : decode cX11_unlike 61 = .ok (.iconst 1, 1) := by decide +kernel
theorem dX11_unlike_62 : decode cX11_unlike 62 = .ok (.goto 4, 3) := by decide +kernel
theorem dX11_unlike_65 : decode cX11_unlike 65 = .ok (.iconst 0, 1) := by decide +kernel
theorem dX11_unlike_66 : decode cX11_unlike 66 = .ok (.iadd, 1) := by decide +kernel
theorem dX11_unlike_67 : decode cX11_unlike 67 = .ok (.istore_n 1, 1) := by decide +kernel
theorem dX11_unlike_68 : decode cX11_unlike 68 = .ok (.iinc 2 1, 3) := by decide +kernel
theorem dX11_unlike_71 : decode cX11_unlike 71 = .ok (.goto (-67), 3) := by decide +kernel
theorem dX11_unlike_74 : decode cX11_unlike 74 = .ok (.iload_n 1, 1) := by decide +kernel
theorem dX11_unlike_75 : decode cX11_unlike 75 = .ok (.ireturn, 1) := by decide +kernel
