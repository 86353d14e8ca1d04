set_option maxRecDepth 20000 in
theorem gX11_thing_X11_answers : GoodIn wsX11_thing (wsV RX11 519 RX11 yX11_answers wsX11_answers) := goodIn_app (goodIn_of _ (by decide +kernel)) ggX11_thing_X11_answers
theorem dX11_thing_0 : decode cX11_thing 0 = .ok (.aload_n 0, 1) := by decide +kernel
theorem dX11_thing_1 : decode cX11_thing 1 = .ok (.iconst 0, 1) := by decide +kernel
theorem dX11_thing_2 : decode cX11_thing 2 = .ok (.putfield 111, 3) := by decide +kernel
theorem dX11_thing_5 : decode cX11_thing 5 = .ok (.aload_n 0, 1) := by decide +kernel
theorem dX11_thing_6 : decode cX11_thing 6 = .ok (.iload_n 1, 1) := by decide +kernel
theorem dX11_thing_7 : decode cX11_thing 7 = .ok (.invokevirtual 420, 3) := by decide +kernel
theorem dX11_thing_10 : decode cX11_thing 10 = .ok (.ifCond .ne 9, 3) := by decide +kernel
theorem dX11_thing_13 : decode cX11_thing 13 = .ok (.aload_n 0, 1) := by decide +kernel
theorem dX11_thing_14 : decode cX11_thing 14 = .ok (.iconst 1, 1) := by decide +kernel
theorem dX11_thing_15 : decode cX11_thing 15 = .ok (.invokevirtual 226, 3) := by decide +kernel
theorem dX11_thing_18 : decode cX11_thing 18 = .ok (.ireturn, 1) := by decide +kernel
theorem dX11_thing_19 : decode cX11_thing 19 = .ok (.iload_n 2, 1) := by decide +kernel
theorem dX11_thing_20 : decode cX11_thing 20 = .ok (.tableswitch 168 0 9 #[56, 65, 74, 83, 92, 101, 114, 142, 156, 162], 56) := by decide +kernel
theorem dX11_thing_76 : decode cX11_thing 76 = .ok (.aload_n 0, 1) := by decide +kernel
theorem dX11_thing_77 : decode cX11_thing 77 = .ok (.getfield 9, 3) := by decide +kernel
theorem dX11_thing_80 : decode cX11_thing 80 = .ok (.iload_n 1, 1) := by decide +kernel
theorem dX11_thing_81 : decode cX11_thing 81 = .ok (.invokestatic 253, 3) := by decide +kernel
theorem dX11_thing_84 : decode cX11_thing 84 = .ok (.ireturn, 1) := by decide +kernel
theorem dX11_thing_85 : decode cX11_thing 85 = .ok (.aload_n 0, 1) := by decide +kernel
theorem dX11_thing_86 : decode cX11_thing 86 = .ok (.getfield 9, 3) := by decide +kernel
theorem dX11_thing_89 : decode cX11_thing 89 = .ok (.iload_n 1, 1) := by decide +kernel
theorem dX11_thing_90 : decode cX11_thing 90 = .ok (.invokestatic 270, 3) := by decide +kernel
theorem dX11_thing_93 : decode cX11_thing 93 = .ok (.ireturn, 1) := by decide +kernel
theorem dX11_thing_94 : decode cX11_thing 94 = .ok (.aload_n 0, 1) := by decide +kernel
theorem dX11_thing_95 : decode cX11_thing 95 = .ok (.getfield 9, 3) := by decide +kernel
theorem dX11_thing_98 : decode cX11_thing 98 = .ok (.iload_n 1, 1) := by decide +kernel
theorem dX11_thing_99 : decode cX11_thing 99 = .ok (.invokestatic 489, 3) := by decide +kernel
theorem dX11_thing_102 : decode cX11_thing 102 = .ok (.ireturn, 1) := by decide +kernel
theorem dX11_thing_103 : decode cX11_thing 103 = .ok (.aload_n 0, 1) := by decide +kernel
theorem dX11_thing_104 : decode cX11_thing 104 = .ok (.getfield 9, 3) := by decide +kernel
theorem dX11_thing_107 : decode cX11_thing 107 = .ok (.iload_n 1, 1) := by decide +kernel
theorem dX11_thing_108 : decode cX11_thing 108 = .ok (.invokestatic 360, 3) := by decide +kernel
theorem dX11_thing_111 : decode cX11_thing 111 = .ok (.ireturn, 1) := by decide +kernel
theorem dX11_thing_112 : decode cX11_thing 112 = .ok (.aload_n 0, 1) := by decide +kernel
theorem dX11_thing_113 : decode cX11_thing 113 = .ok (.getfield 9, 3) := by decide +kernel
theorem dX11_thing_116 : decode cX11_thing 116 = .ok (.iload_n 1, 1) := by decide +kernel
theorem dX11_thing_117 : decode cX11_thing 117 = .ok (.invokestatic 246, 3) := by decide +kernel
theorem dX11_thing_120 : decode cX11_thing 120 = .ok (.ireturn, 1) := by decide +kernel
theorem dX11_thing_121 : decode cX11_thing 121 = .ok (.iload_n 1, 1) := by decide +kernel
theorem dX11_thing_122 : decode cX11_thing 122 = .ok (.aload_n 0, 1) := by decide +kernel
theorem dX11_thing_123 : decode cX11_thing 123 = .ok (.getfield 9, 3) := by decide +kernel
theorem dX11_thing_126 : decode cX11_thing 126 = .ok (.iload_n 1, 1) := by decide +kernel
theorem dX11_thing_127 : decode cX11_thing 127 = .ok (.invokestatic 242, 3) := by decide +kernel
theorem dX11_thing_130 : decode cX11_thing 130 = .ok (.iadd, 1) := by decide +kernel
theorem dX11_thing_131 : decode cX11_thing 131 = .ok (.iconst 1, 1) := by decide +kernel
theorem dX11_thing_132 : decode cX11_thing 132 = .ok (.isub, 1) := by decide +kernel
theorem dX11_thing_133 : decode cX11_thing 133 = .ok (.ireturn, 1) := by decide +kernel
theorem dX11_thing_134 : decode cX11_thing 134 = .ok (.aload_n 0, 1) := by decide +kernel
theorem dX11_thing_135 : decode cX11_thing 135 = .ok (.getfield 9, 3) := by decide +kernel
theorem dX11_thing_138 : decode cX11_thing 138 = .ok (.iload_n 1, 1) := by decide +kernel
theorem dX11_thing_139 : decode cX11_thing 139 = .ok (.invokestatic 253, 3) := by decide +kernel
theorem dX11_thing_142 : decode cX11_thing 142 = .ok (.ifCond .ne 16, 3) := by decide +kernel
theorem dX11_thing_158 : decode cX11_thing 158 = .ok (.sipush (-1000), 3) := by decide +kernel
theorem dX11_thing_161 : decode cX11_thing 161 = .ok (.ireturn, 1) := by decide +kernel
theorem dX11_thing_162 : decode cX11_thing 162 = .ok (.aload_n 0, 1) := by decide +kernel
theorem dX11_thing_163 : decode cX11_thing 163 = .ok (.getfield 9, 3) := by decide +kernel
theorem dX11_thing_166 : decode cX11_thing 166 = .ok (.iconst 4, 1) := by decide +kernel
theorem dX11_thing_167 : decode cX11_thing 167 = .ok (.iload_n 1, 1) := by decide +kernel
theorem dX11_thing_168 : decode cX11_thing 168 = .ok (.imul, 1) := by decide +kernel
theorem dX11_thing_169 : decode cX11_thing 169 = .ok (.iconst 2, 1) := by decide +kernel
theorem dX11_thing_170 : decode cX11_thing 170 = .ok (.iadd, 1) := by decide +kernel
theorem dX11_thing_171 : decode cX11_thing 171 = .ok (.iaload, 1) := by decide +kernel
theorem dX11_thing_172 : decode cX11_thing 172 = .ok (.invokestatic 338, 3) := by decide +kernel
theorem dX11_thing_175 : decode cX11_thing 175 = .ok (.ireturn, 1) := by decide +kernel
theorem dX11_thing_176 : decode cX11_thing 176 = .ok (.aload_n 0, 1) := by decide +kernel
theorem dX11_thing_177 : decode cX11_thing 177 = .ok (.iload_n 1, 1) := by decide +kernel
theorem dX11_thing_178 : decode cX11_thing 178 = .ok (.invokevirtual 516, 3) := by decide +kernel
theorem dX11_thing_181 : decode cX11_thing 181 = .ok (.ireturn, 1) := by decide +kernel
theorem dX11_thing_182 : decode cX11_thing 182 = .ok (.aload_n 0, 1) := by decide +kernel
theorem dX11_thing_183 : decode cX11_thing 183 = .ok (.iload_n 1, 1) := by decide +kernel
theorem dX11_thing_184 : decode cX11_thing 184 = .ok (.invokevirtual 519, 3) := by decide +kernel
theorem dX11_thing_187 : decode cX11_thing 187 = .ok (.ireturn, 1) := by decide +kernel
theorem dX11_thing_188 : decode cX11_thing 188 = .ok (.aload_n 0, 1) := by decide +kernel
theorem dX11_thing_189 : decode cX11_thing 189 = .ok (.iconst 1, 1) := by decide +kernel
theorem dX11_thing_190 : decode cX11_thing 190 = .ok (.invokevirtual 226, 3) := by decide +kernel
theorem dX11_thing_193 : decode cX11_thing 193 = .ok (.ireturn, 1) := by decide +kernel
set_option maxRecDepth 20000 in
theorem ggX11_within_X11_isThing : GoodIn wsX11_within wsX11_isThing := goodIn_r _ [7, 8, 9, 10, 6, 11, 2, 12, 13, 14, 28, 29, 30, 31, 32, 33, 34, 35, 36, 37, 38, 39, 40, 41, 42, 43, 44, 45, 46, 47, 48, 49, 50, 51, 52, 53, 54, 55, 56, 57, 58, 59, 60, 61, 62, 63, 64, 65, 66, 67, 68, 69, 70, 71, 72, 73, 74, 75, 76, 77, 78, 79, 80, 81, 82, 83, 84, 85, 86, 87, 88, 89, 90, 91, 92, 93] (by decide +kernel) (by decide +kernel)
set_option maxRecDepth 20000 in
theorem gX11_within_X11_isThing : GoodIn wsX11_within (wsV RX11 420 RX11 yX11_isThing wsX11_isThing) := goodIn_app (goodIn_of _ (by decide +kernel)) ggX11_within_X11_isThing
set_option maxRecDepth 20000 in
theorem ggX11_within_X11_many : GoodIn wsX11_within wsX11_many := goodIn_r _ [17, 18, 19, 6, 20] (by decide +kernel) (by decide +kernel)
set_option maxRecDepth 20000 in
theorem gX11_within_X11_many : GoodIn wsX11_within (va_wsS RX11 246 yX11_many wsX11_many) := goodIn_app (goodIn_of _ (by decide +kernel)) ggX11_within_X11_many
set_option maxRecDepth 20000 in
theorem ggX11_within_X11_isIn : GoodIn wsX11_within wsX11_isIn := goodIn_r _ [14] (by decide +kernel) (by decide +kernel)
set_option maxRecDepth 20000 in
theorem gX11_within_X11_isIn : GoodIn wsX11_within (va_wsS RX11 219 yX11_isIn wsX11_isIn) := goodIn_app (goodIn_of _ (by decide +kernel)) ggX11_within_X11_isIn
set_option maxRecDepth 20000 in
theorem ggX11_within_X11_fail : GoodIn wsX11_within wsX11_fail := goodIn_r _ [27, 1, 28, 29, 30, 31, 32, 33, 34, 35, 36, 37, 38, 39, 40, 41, 42, 43, 44, 45, 46, 47, 48, 49, 50, 51, 52, 53, 54, 55, 56, 57, 58, 59, 60, 61, 62, 63, 64, 65, 66, 67, 68, 69, 70, 71, 72, 73, 74, 75, 76, 77, 78, 79, 80, 81, 82, 83, 84, 85, 86, 87, 88, 89, 90, 91, 92, 93] (by decide +kernel) (by decide +kernel)
set_option maxRecDepth 20000 in
theorem gX11_within_X11_fail : GoodIn wsX11_within (wsV RX11 226 RX11 yX11_fail wsX11_fail) := goodIn_app (goodIn_of _ (by decide +kernel)) ggX11_within_X11_fail
theorem dX11_within_0 : decode cX11_within 0 = .ok (.aload_n 0, 1) := by decide +kernel
theorem dX11_within_1 : decode cX11_within 1 = .ok (.iconst 0, 1) := by decide +kernel
theorem dX11_within_2 : decode cX11_within 2 = .ok (.putfield 111, 3) := by decide +kernel
theorem dX11_within_5 : decode cX11_within 5 = .ok (.aload_n 0, 1) := by decide +kernel
theorem dX11_within_6 : decode cX11_within 6 = .ok (.iload_n 1, 1) := by decide +kernel
theorem dX11_within_7 : decode cX11_within 7 = .ok (.invokevirtual 420, 3) := by decide +kernel
theorem dX11_within_10 : decode cX11_within 10 = .ok (.ifCond .eq 33, 3) := by decide +kernel
theorem dX11_within_13 : decode cX11_within 13 = .ok (.iload_n 2, 1) := by decide +kernel
theorem dX11_within_14 : decode cX11_within 14 = .ok (.iconst 0, 1) := by decide +kernel
theorem dX11_within_15 : decode cX11_within 15 = .ok (.aload_n 0, 1) := by decide +kernel
theorem dX11_within_16 : decode cX11_within 16 = .ok (.getfield 9, 3) := by decide +kernel
theorem dX11_within_19 : decode cX11_within 19 = .ok (.iload_n 1, 1) := by decide +kernel
theorem dX11_within_20 : decode cX11_within 20 = .ok (.invokestatic 246, 3) := by decide +kernel
theorem dX11_within_23 : decode cX11_within 23 = .ok (.iconst 1, 1) := by decide +kernel
theorem dX11_within_24 : decode cX11_within 24 = .ok (.isub, 1) := by decide +kernel
theorem dX11_within_25 : decode cX11_within 25 = .ok (.invokestatic 219, 3) := by decide +kernel
theorem dX11_within_28 : decode cX11_within 28 = .ok (.ifCond .eq 15, 3) := by decide +kernel
theorem dX11_within_43 : decode cX11_within 43 = .ok (.aload_n 0, 1) := by decide +kernel
theorem dX11_within_44 : decode cX11_within 44 = .ok (.iconst 1, 1) := by decide +kernel
theorem dX11_within_45 : decode cX11_within 45 = .ok (.invokevirtual 226, 3) := by decide +kernel
theorem dX11_within_48 : decode cX11_within 48 = .ok (.ireturn, 1) := by decide +kernel
set_option maxRecDepth 20000 in
theorem ggX11_alike_X11_isThing : GoodIn wsX11_alike wsX11_isThing := goodIn_r _ [7, 8, 9, 10, 6, 11, 2, 12, 13, 14, 40, 41, 42, 43, 44, 45, 46, 47, 48, 49, 50, 51, 52, 53, 54, 55, 56, 57, 58, 59, 60, 61, 62, 63, 64, 65, 66, 67, 68, 69, 70, 71, 72, 73, 74, 75, 76, 77, 78, 79, 80, 81, 82, 83, 84, 85, 86, 87, 88, 89, 90, 91, 92, 93, 94, 95, 96, 97, 98, 99, 100, 101, 102, 103, 104, 105] (by decide +kernel) (by decide +kernel)
set_option maxRecDepth 20000 in
theorem gX11_alike_X11_isThing : GoodIn wsX11_alike (wsV RX11 420 RX11 yX11_isThing wsX11_isThing) := goodIn_app (goodIn_of _ (by decide +kernel)) ggX11_alike_X11_isThing
set_option maxRecDepth 20000 in
theorem ggX11_alike_X11_areLike : GoodIn wsX11_alike wsX11_areLike := goodIn_r _ [17, 18, 19, 6, 20, 21, 22, 23, 24, 25, 26, 27, 28, 29, 30, 31, 32, 33, 34, 35, 15, 16] (by decide +kernel) (by decide +kernel)
set_option maxRecDepth 20000 in
theorem gX11_alike_X11_areLike : GoodIn wsX11_alike (va_wsS RX11 263 yX11_areLike wsX11_areLike) := goodIn_app (goodIn_of _ (by decide +kernel)) ggX11_alike_X11_areLike
set_option maxRecDepth 20000 in
theorem ggX11_alike_X11_fail : GoodIn wsX11_alike wsX11_fail := goodIn_r _ [39, 1, 40, 41, 42, 43, 44, 45, 46, 47, 48, 49, 50, 51, 52, 53, 54, 55, 56, 57, 58, 59, 60, 61, 62, 63, 64, 65, 66, 67, 68, 69, 70, 71, 72, 73, 74, 75, 76, 77, 78, 79, 80, 81, 82, 83, 84, 85, 86, 87, 88, 89, 90, 91, 92, 93, 94, 95, 96, 97, 98, 99, 100, 101, 102, 103, 104, 105] (by decide +kernel) (by decide +kernel)
set_option maxRecDepth 20000 in
theorem gX11_alike_X11_fail : GoodIn wsX11_alike (wsV RX11 226 RX11 yX11_fail wsX11_fail) := goodIn_app (goodIn_of _ (by decide +kernel)) ggX11_alike_X11_fail
theorem dX11_alike_0 : decode cX11_alike 0 = .ok (.aload_n 0, 1) := by decide +kernel
theorem dX11_alike_1 : decode cX11_alike 1 = .ok (.iconst 0, 1) := by decide +kernel
theorem dX11_alike_2 : decode cX11_alike 2 = .ok (.putfield 111, 3) := by decide +kernel
theorem dX11_alike_5 : decode cX11_alike 5 = .ok (.aload_n 0, 1) := by decide +kernel
theorem dX11_alike_6 : decode cX11_alike 6 = .ok (.iload_n 1, 1) := by decide +kernel
theorem dX11_alike_7 : decode cX11_alike 7 = .ok (.invokevirtual 420, 3) := by decide +kernel
theorem dX11_alike_10 : decode cX11_alike 10 = .ok (.ifCond .eq 35, 3) := by decide +kernel
theorem dX11_alike_13 : decode cX11_alike 13 = .ok (.aload_n 0, 1) := by decide +kernel
theorem dX11_alike_14 : decode cX11_alike 14 = .ok (.iload_n 2, 1) := by decide +kernel
theorem dX11_alike_15 : decode cX11_alike 15 = .ok (.invokevirtual 420, 3) := by decide +kernel
theorem dX11_alike_18 : decode cX11_alike 18 = .ok (.ifCond .eq 27, 3) := by decide +kernel
theorem dX11_alike_21 : decode cX11_alike 21 = .ok (.aload_n 0, 1) := by decide +kernel
theorem dX11_alike_22 : decode cX11_alike 22 = .ok (.getfield 9, 3) := by decide +kernel
theorem dX11_alike_25 : decode cX11_alike 25 = .ok (.iload_n 1, 1) := by decide +kernel
theorem dX11_alike_26 : decode cX11_alike 26 = .ok (.aload_n 0, 1) := by decide +kernel
theorem dX11_alike_27 : decode cX11_alike 27 = .ok (.getfield 9, 3) := by decide +kernel
theorem dX11_alike_30 : decode cX11_alike 30 = .ok (.iload_n 2, 1) := by decide +kernel
theorem dX11_alike_31 : decode cX11_alike 31 = .ok (.invokestatic 263, 3) := by decide +kernel
theorem dX11_alike_34 : decode cX11_alike 34 = .ok (.ifCond .eq 7, 3) := by decide +kernel
theorem dX11_alike_37 : decode cX11_alike 37 = .ok (.iconst 1, 1) := by decide +kernel
theorem dX11_alike_38 : decode cX11_alike 38 = .ok (.goto 12, 3) := by decide +kernel
theorem dX11_alike_45 : decode cX11_alike 45 = .ok (.aload_n 0, 1) := by decide +kernel
theorem dX11_alike_46 : decode cX11_alike 46 = .ok (.iconst 1, 1) := by decide +kernel
theorem dX11_alike_47 : decode cX11_alike 47 = .ok (.invokevirtual 226, 3) := by decide +kernel
theorem dX11_alike_50 : decode cX11_alike 50 = .ok (.ireturn, 1) := by decide +kernel
set_option maxRecDepth 20000 in
theorem ggX11_fits_X11_isPath : GoodIn wsX11_fits wsX11_isPath := goodIn_r _ [11, 12, 13, 14, 10, 15, 182, 183, 184, 185, 186, 187, 188, 189, 190, 191, 192, 193, 194, 195, 196, 197, 198, 199, 200, 201, 202, 203, 204, 205, 206, 207, 208, 209, 210, 211, 212, 213, 214, 215, 216, 217, 218, 219, 220, 221, 222, 223, 224, 225, 226, 227, 228, 229, 230, 231, 232, 233, 234, 235, 236, 237, 238, 239, 240, 241, 242, 243, 244, 245, 246, 247] (by decide +kernel) (by decide +kernel)
set_option maxRecDepth 20000 in
theorem gX11_fits_X11_isPath : GoodIn wsX11_fits (wsV RX11 344 RX11 yX11_isPath wsX11_isPath) := goodIn_app (goodIn_of _ (by decide +kernel)) ggX11_fits_X11_isPath
theorem dX11_fits_0 : decode cX11_fits 0 = .ok (.iconst 0, 1) := by decide +kernel
theorem dX11_fits_1 : decode cX11_fits 1 = .ok (.istore_n 1, 1) := by decide +kernel
theorem dX11_fits_2 : decode cX11_fits 2 = .ok (.aload_n 0, 1) := by decide +kernel
theorem dX11_fits_3 : decode cX11_fits 3 = .ok (.iconst 0, 1) := by decide +kernel
theorem dX11_fits_4 : decode cX11_fits 4 = .ok (.putfield 522, 3) := by decide +kernel
theorem dX11_fits_7 : decode cX11_fits 7 = .ok (.iconst 0, 1) := by decide +kernel
theorem dX11_fits_8 : decode cX11_fits 8 = .ok (.istore_n 2, 1) := by decide +kernel
theorem dX11_fits_9 : decode cX11_fits 9 = .ok (.iload_n 2, 1) := by decide +kernel
theorem dX11_fits_10 : decode cX11_fits 10 = .ok (.bipush 60, 2) := by decide +kernel
theorem dX11_fits_12 : decode cX11_fits 12 = .ok (.if_icmp .ge 16, 3) := by decide +kernel
theorem dX11_fits_15 : decode cX11_fits 15 = .ok (.aload_n 0, 1) := by decide +kernel
theorem dX11_fits_16 : decode cX11_fits 16 = .ok (.getfield 87, 3) := by decide +kernel
theorem dX11_fits_19 : decode cX11_fits 19 = .ok (.iload_n 2, 1) := by decide +kernel
theorem dX11_fits_20 : decode cX11_fits 20 = .ok (.iconst 0, 1) := by decide +kernel
theorem dX11_fits_21 : decode cX11_fits 21 = .ok (.iastore, 1) := by decide +kernel
theorem dX11_fits_22 : decode cX11_fits 22 = .ok (.iinc 2 1, 3) := by decide +kernel
theorem dX11_fits_25 : decode cX11_fits 25 = .ok (.goto (-16), 3) := by decide +kernel
theorem dX11_fits_28 : decode cX11_fits 28 = .ok (.iconst 0, 1) := by decide +kernel
theorem dX11_fits_29 : decode cX11_fits 29 = .ok (.istore_n 2, 1) := by decide +kernel
theorem dX11_fits_30 : decode cX11_fits 30 = .ok (.iload_n 2, 1) := by decide +kernel
theorem dX11_fits_31 : decode cX11_fits 31 = .ok (.iconst 4, 1) := by decide +kernel
theorem dX11_fits_32 : decode cX11_fits 32 = .ok (.if_icmp .ge 166, 3) := by decide +kernel
theorem dX11_fits_35 : decode cX11_fits 35 = .ok (.aload_n 0, 1) := by decide +kernel
theorem dX11_fits_36 : decode cX11_fits 36 = .ok (.iload_n 2, 1) := by decide +kernel
theorem dX11_fits_37 : decode cX11_fits 37 = .ok (.invokevirtual 344, 3) := by decide +kernel
theorem dX11_fits_40 : decode cX11_fits 40 = .ok (.ifCond .ne 6, 3) := by decide +kernel
theorem dX11_fits_43 : decode cX11_fits 43 = .ok (.goto 149, 3) := by decide +kernel
theorem dX11_fits_192 : decode cX11_fits 192 = .ok (.iinc 2 1, 3) := by decide +kernel
theorem dX11_fits_195 : decode cX11_fits 195 = .ok (.goto (-165), 3) := by decide +kernel
theorem dX11_fits_198 : decode cX11_fits 198 = .ok (.iload_n 1, 1) := by decide +kernel
theorem dX11_fits_199 : decode cX11_fits 199 = .ok (.ireturn, 1) := by decide +kernel
