set_option maxRecDepth 20000 in
theorem gX11_thing_X11_lettersOf : GoodIn wsX11_thing (va_wsS RX11 338 yX11_lettersOf wsX11_lettersOf) := goodIn_app (goodIn_of _ (by decide +kernel)) ggX11_thing_X11_lettersOf
set_option maxRecDepth 20000 in
theorem ggX11_thing_X11_twinsOf : GoodIn wsX11_thing wsX11_twinsOf := goodIn_r _ [43, 2, 8, 9, 10, 6, 11, 44, 45, 46, 19, 20, 21, 25, 26, 27, 47, 48, 49, 34, 35, 36, 50, 51, 52, 53, 54, 55, 202, 203, 204, 205, 206, 207, 208, 209, 210, 211, 212, 213, 214, 215, 216, 217, 218, 219, 220, 221, 222, 223, 224, 225, 226, 227, 228, 229, 230, 231, 232, 233, 234, 235, 236, 237, 238, 239, 240, 241, 242, 243, 244, 245, 246, 247, 248, 249, 250, 251, 252, 253, 254, 255, 256, 257, 258, 259, 260, 261, 262, 263, 264, 265, 266, 267] (by decide +kernel) (by decide +kernel)
set_option maxRecDepth 20000 in
theorem gX11_thing_X11_twinsOf : GoodIn wsX11_thing (wsV RX11 516 RX11 yX11_twinsOf wsX11_twinsOf) := goodIn_app (goodIn_of _ (by decide +kernel)) ggX11_thing_X11_twinsOf
set_option maxRecDepth 20000 in
theorem ggX11_thing_X11_answers : GoodIn wsX11_thing wsX11_answers := goodIn_r _ [59, 60, 61, 62, 63, 6, 64, 65, 12, 13, 14, 66, 67, 68, 69, 70, 71, 72, 73, 74, 75, 76, 77, 78, 79, 80, 81, 82, 83, 84, 85, 86, 87, 88, 89, 90, 91, 92, 93, 94, 95, 96, 97, 98, 99, 100, 101, 102, 103, 104, 105, 106, 107, 108, 109, 110, 111, 112, 113, 114, 115, 116, 117, 118, 119, 120, 121, 122, 123, 124, 125, 126, 127, 128, 129, 130, 131, 132, 133, 134, 2, 8, 9, 10, 11, 25, 26, 27, 135, 136, 137, 138, 139, 140, 141, 142, 47, 48, 49, 19, 20, 21, 143, 144, 145, 146, 147, 148, 149, 150, 151, 152, 153, 154, 155, 156, 157, 158, 159, 160, 161, 34, 35, 36, 53, 54, 55, 162, 163, 164, 165, 166, 167, 168, 169, 170, 171, 172, 173, 174, 175, 176, 177, 178, 179, 180, 181, 182, 183, 184, 185, 186, 187, 188, 189, 190, 191, 192, 50, 51, 52, 193, 194, 195, 37, 38, 39, 196, 197, 198, 199, 200, 201, 202, 203, 204, 205, 206, 207, 208, 209, 210, 211, 212, 213, 214, 215, 216, 217, 218, 219, 220, 221, 222, 223, 224, 225, 226, 227, 228, 229, 230, 231, 232, 233, 234, 235, 236, 237, 238, 239, 240, 241, 242, 243, 244, 245, 246, 247, 248, 249, 250, 251, 252, 253, 254, 255, 256, 257, 258, 259, 260, 261, 262, 263, 264, 265, 266, 267] (by decide +kernel) (by decide +kernel)
set_option maxRecDepth 20000 in
theorem gX11_thing_X11_answers : GoodIn wsX11_thing (wsV RX11 519 RX11 yX11_answers wsX11_answers) := goodIn_app (goodIn_of _ (by decide +kernel)) ggX11_thing_X11_answers
theorem dX11_thing_0 : decode cX11_thing 0 = .ok (.aload_n 0, 1) := by decide +kernel
theorem dX11_thing_1 : decode cX11_thing 1 = .ok (.iconst 0, 1) := by decide +kernel
theorem dX11_thing_2 : decode cX11_thing 2 = .ok (.putfield 111, 3) := by decide +kernel
theorem dX11_thing_5 : decode cX11_thing 5 = .ok (.aload_n 0, 1) := by decide +kernel
theorem dX11_thing_6 : decode cX11_thing 6 = .ok (.iload_n 1, 1) := by decide +kernel
theorem dX11_thing_7 : decode cX11_thing 7 = .ok (.invokevirtual 420, 3) := by decide +kernel
theorem dX11_thing_10 : decode cX11_thing 10 = .ok (.ifCond .ne 9, 3) := by decide +kernel
theorem dX11_thing_13 : decode cX11_thing 13 = .ok (.aload_n 0, 1) := by decide +kernel
theorem dX11_thing_14 : decode cX11_thing 14 = .ok (.iconst 1, 1) := by decide +kernel
theorem dX11_thing_15 : decode cX11_thing 15 = .ok (.invokevirtual 226, 3) := by decide +kernel
theorem dX11_thing_18 : decode cX11_thing 18 = .ok (.ireturn, 1) := by decide +kernel
theorem dX11_thing_19 : decode cX11_thing 19 = .ok (.iload_n 2, 1) := by decide +kernel
theorem dX11_thing_20 : decode cX11_thing 20 = .ok (.tableswitch 168 0 9 #[56, 65, 74, 83, 92, 101, 114, 142, 156, 162], 56) := by decide +kernel
theorem dX11_thing_76 : decode cX11_thing 76 = .ok (.aload_n 0, 1) := by decide +kernel
theorem dX11_thing_77 : decode cX11_thing 77 = .ok (.getfield 9, 3) := by decide +kernel
theorem dX11_thing_80 : decode cX11_thing 80 = .ok (.iload_n 1, 1) := by decide +kernel
theorem dX11_thing_81 : decode cX11_thing 81 = .ok (.invokestatic 253, 3) := by decide +kernel
theorem dX11_thing_84 : decode cX11_thing 84 = .ok (.ireturn, 1) := by decide +kernel
theorem dX11_thing_85 : decode cX11_thing 85 = .ok (.aload_n 0, 1) := by decide +kernel
theorem dX11_thing_86 : decode cX11_thing 86 = .ok (.getfield 9, 3) := by decide +kernel
theorem dX11_thing_89 : decode cX11_thing 89 = .ok (.iload_n 1, 1) := by decide +kernel
theorem dX11_thing_90 : decode cX11_thing 90 = .ok (.invokestatic 270, 3) := by decide +kernel
theorem dX11_thing_93 : decode cX11_thing 93 = .ok (.ireturn, 1) := by decide +kernel
theorem dX11_thing_94 : decode cX11_thing 94 = .ok (.aload_n 0, 1) := by decide +kernel
theorem dX11_thing_95 : decode cX11_thing 95 = .ok (.getfield 9, 3) := by decide +kernel
theorem dX11_thing_98 : decode cX11_thing 98 = .ok (.iload_n 1, 1) := by decide +kernel
theorem dX11_thing_99 : decode cX11_thing 99 = .ok (.invokestatic 489, 3) := by decide +kernel
theorem dX11_thing_102 : decode cX11_thing 102 = .ok (.ireturn, 1) := by decide +kernel
theorem dX11_thing_103 : decode cX11_thing 103 = .ok (.aload_n 0, 1) := by decide +kernel
theorem dX11_thing_104 : decode cX11_thing 104 = .ok (.getfield 9, 3) := by decide +kernel
theorem dX11_thing_107 : decode cX11_thing 107 = .ok (.iload_n 1, 1) := by decide +kernel
theorem dX11_thing_108 : decode cX11_thing 108 = .ok (.invokestatic 360, 3) := by decide +kernel
theorem dX11_thing_111 : decode cX11_thing 111 = .ok (.ireturn, 1) := by decide +kernel
theorem dX11_thing_112 : decode cX11_thing 112 = .ok (.aload_n 0, 1) := by decide +kernel
theorem dX11_thing_113 : decode cX11_thing 113 = .ok (.getfield 9, 3) := by decide +kernel
theorem dX11_thing_116 : decode cX11_thing 116 = .ok (.iload_n 1, 1) := by decide +kernel
theorem dX11_thing_117 : decode cX11_thing 117 = .ok (.invokestatic 246, 3) := by decide +kernel
theorem dX11_thing_120 : decode cX11_thing 120 = .ok (.ireturn, 1) := by decide +kernel
theorem dX11_thing_121 : decode cX11_thing 121 = .ok (.iload_n 1, 1) := by decide +kernel
theorem dX11_thing_122 : decode cX11_thing 122 = .ok (.aload_n 0, 1) := by decide +kernel
theorem dX11_thing_123 : decode cX11_thing 123 = .ok (.getfield 9, 3) := by decide +kernel
theorem dX11_thing_126 : decode cX11_thing 126 = .ok (.iload_n 1, 1) := by decide +kernel
theorem dX11_thing_127 : decode cX11_thing 127 = .ok (.invokestatic 242, 3) := by decide +kernel
theorem dX11_thing_130 : decode cX11_thing 130 = .ok (.iadd, 1) := by decide +kernel
theorem dX11_thing_131 : decode cX11_thing 131 = .ok (.iconst 1, 1) := by decide +kernel
theorem dX11_thing_132 : decode cX11_thing 132 = .ok (.isub, 1) := by decide +kernel
theorem dX11_thing_133 : decode cX11_thing 133 = .ok (.ireturn, 1) := by decide +kernel
theorem dX11_thing_134 : decode cX11_thing 134 = .ok (.aload_n 0, 1) := by decide +kernel
theorem dX11_thing_135 : decode cX11_thing 135 = .ok (.getfield 9, 3) := by decide +kernel
theorem dX11_thing_138 : decode cX11_thing 138 = .ok (.iload_n 1, 1) := by decide +kernel
theorem dX11_thing_139 : decode cX11_thing 139 = .ok (.invokestatic 253, 3) := by decide +kernel
theorem dX11_thing_142 : decode cX11_thing 142 = .ok (.ifCond .ne 16, 3) := by decide +kernel
theorem dX11_thing_158 : decode cX11_thing 158 = .ok (.sipush (-1000), 3) := by decide +kernel
theorem dX11_thing_161 : decode cX11_thing 161 = .ok (.ireturn, 1) := by decide +kernel
theorem dX11_thing_162 : decode cX11_thing 162 = .ok (.aload_n 0, 1) := by decide +kernel
theorem dX11_thing_163 : decode cX11_thing 163 = .ok (.getfield 9, 3) := by decide +kernel
theorem dX11_thing_166 : decode cX11_thing 166 = .ok (.iconst 4, 1) := by decide +kernel
theorem dX11_thing_167 : decode cX11_thing 167 = .ok (.iload_n 1, 1) := by decide +kernel
theorem dX11_thing_168 : decode cX11_thing 168 = .ok (.imul, 1) := by decide +kernel
theorem dX11_thing_169 : decode cX11_thing 169 = .ok (.iconst 2, 1) := by decide +kernel
theorem dX11_thing_170 : decode cX11_thing 170 = .ok (.iadd, 1) := by decide +kernel
theorem dX11_thing_171 : decode cX11_thing 171 = .ok (.iaload, 1) := by decide +kernel
theorem dX11_thing_172 : decode cX11_thing 172 = .ok (.invokestatic 338, 3) := by decide +kernel
theorem dX11_thing_175 : decode cX11_thing 175 = .ok (.ireturn, 1) := by decide +kernel
theorem dX11_thing_176 : decode cX11_thing 176 = .ok (.aload_n 0, 1) := by decide +kernel
theorem dX11_thing_177 : decode cX11_thing 177 = .ok (.iload_n 1, 1) := by decide +kernel
theorem dX11_thing_178 : decode cX11_thing 178 = .ok (.invokevirtual 516, 3) := by decide +kernel
theorem dX11_thing_181 : decode cX11_thing 181 = .ok (.ireturn, 1) := by decide +kernel
theorem dX11_thing_182 : decode cX11_thing 182 = .ok (.aload_n 0, 1) := by decide +kernel
theorem dX11_thing_183 : decode cX11_thing 183 = .ok (.iload_n 1, 1) := by decide +kernel
theorem dX11_thing_184 : decode cX11_thing 184 = .ok (.invokevirtual 519, 3) := by decide +kernel
theorem dX11_thing_187 : decode cX11_thing 187 = .ok (.ireturn, 1) := by decide +kernel
theorem dX11_thing_188 : decode cX11_thing 188 = .ok (.aload_n 0, 1) := by decide +kernel
theorem dX11_thing_189 : decode cX11_thing 189 = .ok (.iconst 1, 1) := by decide +kernel
theorem dX11_thing_190 : decode cX11_thing 190 = .ok (.invokevirtual 226, 3) := by decide +kernel
theorem dX11_thing_193 : decode cX11_thing 193 = .ok (.ireturn, 1) := by decide +kernel
set_option maxRecDepth 20000 in
theorem ggX11_within_X11_isThing : GoodIn wsX11_within wsX11_isThing := goodIn_r _ [7, 8, 9, 10, 6, 11, 2, 12, 13, 14, 28, 29, 30, 31, 32, 33, 34, 35, 36, 37, 38, 39, 40, 41, 42, 43, 44, 45, 46, 47, 48, 49, 50, 51, 52, 53, 54, 55, 56, 57, 58, 59, 60, 61, 62, 63, 64, 65, 66, 67, 68, 69, 70, 71, 72, 73, 74, 75, 76, 77, 78, 79, 80, 81, 82, 83, 84, 85, 86, 87, 88, 89, 90, 91, 92, 93] (by decide +kernel) (by decide +kernel)
set_option maxRecDepth 20000 in
theorem gX11_within_X11_isThing : GoodIn wsX11_within (wsV RX11 420 RX11 yX11_isThing wsX11_isThing) := goodIn_app (goodIn_of _ (by decide +kernel)) ggX11_within_X11_isThing
set_option maxRecDepth 20000 in
theorem ggX11_within_X11_many : GoodIn wsX11_within wsX11_many := goodIn_r _ [17, 18, 19, 6, 20] (by decide +kernel) (by decide +kernel)
set_option maxRecDepth 20000 in
theorem gX11_within_X11_many : GoodIn wsX11_within (va_wsS RX11 246 yX11_many wsX11_many) := goodIn_app (goodIn_of _ (by decide +kernel)) ggX11_within_X11_many
set_option maxRecDepth 20000 in
theorem ggX11_within_X11_isIn : GoodIn wsX11_within wsX11_isIn := goodIn_r _ [14] (by decide +kernel) (by decide +kernel)
set_option maxRecDepth 20000 in
theorem gX11_within_X11_isIn : GoodIn wsX11_within (va_wsS RX11 219 yX11_isIn wsX11_isIn) := goodIn_app (goodIn_of _ (by decide +kernel)) ggX11_within_X11_isIn
set_option maxRecDepth 20000 in
theorem ggX11_within_X11_fail : GoodIn wsX11_within wsX11_fail := goodIn_r _ [27, 1, 28, 29, 30, 31, 32, 33, 34, 35, 36, 37, 38, 39, 40, 41, 42, 43, 44, 45, 46, 47, 48, 49, 50, 51, 52, 53, 54, 55, 56, 57, 58, 59, 60, 61, 62, 63, 64, 65, 66, 67, 68, 69, 70, 71, 72, 73, 74, 75, 76, 77, 78, 79, 80, 81, 82, 83, 84, 85, 86, 87, 88, 89, 90, 91, 92, 93] (by decide +kernel) (by decide +kernel)
