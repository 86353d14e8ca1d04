set_option maxRecDepth 100000 in
theorem ggX10_count_X9_countKind : GoodIn wsX10_count wsX9_countKind := (gi_cons 13 rfl rfl (gi_cons 14 rfl rfl (gi_cons 15 rfl rfl (gi_cons 225 rfl rfl (gi_cons 226 rfl rfl (gi_cons 227 rfl rfl (gi_cons 228 rfl rfl (gi_cons 229 rfl rfl gi_nil))))))))
set_option maxRecDepth 20000 in
theorem gX10_count_X9_countKind : GoodIn wsX10_count (wsV RX10 164 RX9 yX9_countKind wsX9_countKind) := goodIn_app (goodIn_of _ (by decide +kernel)) ggX10_count_X9_countKind
set_option maxRecDepth 100000 in
theorem ggX10_count_X9_deepest : GoodIn wsX10_count wsX9_deepest := (gi_cons 19 rfl rfl (gi_cons 14 rfl rfl (gi_cons 20 rfl rfl (gi_cons 21 rfl rfl (gi_cons 22 rfl rfl (gi_cons 23 rfl rfl (gi_cons 24 rfl rfl (gi_cons 225 rfl rfl (gi_cons 226 rfl rfl (gi_cons 227 rfl rfl (gi_cons 228 rfl rfl (gi_cons 229 rfl rfl gi_nil))))))))))))
set_option maxRecDepth 20000 in
theorem gX10_count_X9_deepest : GoodIn wsX10_count (wsV RX10 167 RX9 yX9_deepest wsX9_deepest) := goodIn_app (goodIn_of _ (by decide +kernel)) ggX10_count_X9_deepest
set_option maxRecDepth 100000 in
theorem ggX10_count_X10_pathsThere : GoodIn wsX10_count wsX10_pathsThere := (gi_cons 29 rfl rfl (gi_cons 30 rfl rfl (gi_cons 200 rfl rfl (gi_cons 201 rfl rfl (gi_cons 202 rfl rfl (gi_cons 203 rfl rfl (gi_cons 204 rfl rfl (gi_cons 205 rfl rfl (gi_cons 206 rfl rfl (gi_cons 207 rfl rfl (gi_cons 208 rfl rfl (gi_cons 209 rfl rfl (gi_cons 210 rfl rfl (gi_cons 211 rfl rfl (gi_cons 212 rfl rfl (gi_cons 213 rfl rfl (gi_cons 214 rfl rfl (gi_cons 215 rfl rfl (gi_cons 216 rfl rfl (gi_cons 217 rfl rfl gi_nil))))))))))))))))))))
set_option maxRecDepth 20000 in
theorem gX10_count_X10_pathsThere : GoodIn wsX10_count (wsV RX10 171 RX10 yX10_pathsThere wsX10_pathsThere) := goodIn_app (goodIn_of _ (by decide +kernel)) ggX10_count_X10_pathsThere
set_option maxRecDepth 100000 in
theorem ggX10_count_X9_unlike : GoodIn wsX10_count wsX9_unlike := (gi_cons 34 rfl rfl (gi_cons 14 rfl rfl (gi_cons 35 rfl rfl (gi_cons 36 rfl rfl (gi_cons 37 rfl rfl (gi_cons 12 rfl rfl (gi_cons 38 rfl rfl (gi_cons 39 rfl rfl (gi_cons 40 rfl rfl (gi_cons 41 rfl rfl (gi_cons 42 rfl rfl (gi_cons 15 rfl rfl (gi_cons 43 rfl rfl (gi_cons 44 rfl rfl (gi_cons 45 rfl rfl (gi_cons 46 rfl rfl (gi_cons 47 rfl rfl (gi_cons 48 rfl rfl (gi_cons 49 rfl rfl (gi_cons 50 rfl rfl (gi_cons 51 rfl rfl (gi_cons 52 rfl rfl (gi_cons 53 rfl rfl (gi_cons 54 rfl rfl (gi_cons 55 rfl rfl (gi_cons 20 rfl rfl (gi_cons 56 rfl rfl (gi_cons 57 rfl rfl (gi_cons 58 rfl rfl (gi_cons 59 rfl rfl (gi_cons 60 rfl rfl (gi_cons 61 rfl rfl (gi_cons 62 rfl rfl (gi_cons 63 rfl rfl (gi_cons 64 rfl rfl (gi_cons 65 rfl rfl (gi_cons 66 rfl rfl (gi_cons 67 rfl rfl (gi_cons 68 rfl rfl (gi_cons 225 rfl rfl (gi_cons 226 rfl rfl (gi_cons 227 rfl rfl (gi_cons 228 rfl rfl (gi_cons 229 rfl rfl gi_nil))))))))))))))))))))))))))))))))))))))))))))
set_option maxRecDepth 20000 in
theorem gX10_count_X9_unlike : GoodIn wsX10_count (wsV RX10 174 RX9 yX9_unlike wsX9_unlike) := goodIn_app (goodIn_of _ (by decide +kernel)) ggX10_count_X9_unlike
set_option maxRecDepth 100000 in
theorem ggX10_count_X3_compare : GoodIn wsX10_count wsX3_compare := (gi_cons 73 rfl rfl (gi_cons 74 rfl rfl (gi_cons 75 rfl rfl (gi_cons 76 rfl rfl (gi_cons 77 rfl rfl (gi_cons 78 rfl rfl (gi_cons 79 rfl rfl (gi_cons 12 rfl rfl (gi_cons 80 rfl rfl (gi_cons 14 rfl rfl (gi_cons 15 rfl rfl (gi_cons 81 rfl rfl (gi_cons 82 rfl rfl (gi_cons 83 rfl rfl (gi_cons 84 rfl rfl (gi_cons 47 rfl rfl (gi_cons 64 rfl rfl (gi_cons 20 rfl rfl (gi_cons 85 rfl rfl (gi_cons 86 rfl rfl (gi_cons 87 rfl rfl (gi_cons 72 rfl rfl (gi_cons 88 rfl rfl (gi_cons 89 rfl rfl (gi_cons 36 rfl rfl (gi_cons 37 rfl rfl (gi_cons 38 rfl rfl (gi_cons 39 rfl rfl (gi_cons 40 rfl rfl (gi_cons 41 rfl rfl (gi_cons 42 rfl rfl (gi_cons 43 rfl rfl (gi_cons 44 rfl rfl (gi_cons 45 rfl rfl (gi_cons 46 rfl rfl (gi_cons 48 rfl rfl (gi_cons 49 rfl rfl (gi_cons 50 rfl rfl (gi_cons 51 rfl rfl (gi_cons 52 rfl rfl (gi_cons 53 rfl rfl (gi_cons 54 rfl rfl (gi_cons 55 rfl rfl (gi_cons 56 rfl rfl (gi_cons 57 rfl rfl (gi_cons 58 rfl rfl (gi_cons 59 rfl rfl (gi_cons 60 rfl rfl (gi_cons 61 rfl rfl (gi_cons 62 rfl rfl (gi_cons 63 rfl rfl (gi_cons 65 rfl rfl (gi_cons 66 rfl rfl (gi_cons 67 rfl rfl (gi_cons 68 rfl rfl (gi_cons 35 rfl rfl (gi_cons 90 rfl rfl (gi_cons 91 rfl rfl (gi_cons 92 rfl rfl (gi_cons 93 rfl rfl (gi_cons 94 rfl rfl (gi_cons 95 rfl rfl (gi_cons 96 rfl rfl (gi_cons 97 rfl rfl (gi_cons 98 rfl rfl (gi_cons 99 rfl rfl (gi_cons 100 rfl rfl (gi_cons 101 rfl rfl (gi_cons 102 rfl rfl (gi_cons 103 rfl rfl (gi_cons 104 rfl rfl (gi_cons 105 rfl rfl (gi_cons 23 rfl rfl (gi_cons 106 rfl rfl (gi_cons 107 rfl rfl (gi_cons 108 rfl rfl (gi_cons 109 rfl rfl (gi_cons 110 rfl rfl (gi_cons 111 rfl rfl (gi_cons 112 rfl rfl (gi_cons 113 rfl rfl (gi_cons 114 rfl rfl (gi_cons 230 rfl rfl (gi_cons 231 rfl rfl (gi_cons 232 rfl rfl (gi_cons 233 rfl rfl (gi_cons 234 rfl rfl (gi_cons 225 rfl rfl (gi_cons 226 rfl rfl (gi_cons 227 rfl rfl (gi_cons 228 rfl rfl (gi_cons 229 rfl rfl gi_nil))))))))))))))))))))))))))))))))))))))))))))))))))))))))))))))))))))))))))))))))))))))))))))
set_option maxRecDepth 20000 in
theorem gX10_count_X3_compare : GoodIn wsX10_count (wsV RX10 180 RX3 yX3_compare wsX3_compare) := goodIn_app (goodIn_of _ (by decide +kernel)) ggX10_count_X3_compare
set_option maxRecDepth 100000 in
theorem ggX10_count_X6_refusedOf : GoodIn wsX10_count wsX6_refusedOf := (gi_cons 119 rfl rfl (gi_cons 120 rfl rfl (gi_cons 218 rfl rfl (gi_cons 219 rfl rfl (gi_cons 220 rfl rfl (gi_cons 221 rfl rfl (gi_cons 222 rfl rfl (gi_cons 223 rfl rfl (gi_cons 224 rfl rfl gi_nil)))))))))
set_option maxRecDepth 20000 in
theorem gX10_count_X6_refusedOf : GoodIn wsX10_count (wsV RX10 184 RX6 yX6_refusedOf wsX6_refusedOf) := goodIn_app (goodIn_of _ (by decide +kernel)) ggX10_count_X6_refusedOf
set_option maxRecDepth 100000 in
theorem ggX10_count_X9_sum : GoodIn wsX10_count wsX9_sum := (gi_cons 124 rfl rfl (gi_cons 14 rfl rfl (gi_cons 15 rfl rfl (gi_cons 47 rfl rfl (gi_cons 225 rfl rfl (gi_cons 226 rfl rfl (gi_cons 227 rfl rfl (gi_cons 228 rfl rfl (gi_cons 229 rfl rfl gi_nil)))))))))
set_option maxRecDepth 20000 in
theorem gX10_count_X9_sum : GoodIn wsX10_count (wsV RX10 187 RX9 yX9_sum wsX9_sum) := goodIn_app (goodIn_of _ (by decide +kernel)) ggX10_count_X9_sum
set_option maxRecDepth 100000 in
theorem ggX10_count_X10_pathsThatFit : GoodIn wsX10_count wsX10_pathsThatFit := (gi_cons 128 rfl rfl (gi_cons 30 rfl rfl (gi_cons 3 rfl rfl (gi_cons 129 rfl rfl (gi_cons 130 rfl rfl (gi_cons 131 rfl rfl (gi_cons 132 rfl rfl (gi_cons 28 rfl rfl (gi_cons 133 rfl rfl (gi_cons 134 rfl rfl (gi_cons 135 rfl rfl (gi_cons 136 rfl rfl (gi_cons 137 rfl rfl (gi_cons 138 rfl rfl (gi_cons 139 rfl rfl (gi_cons 140 rfl rfl (gi_cons 141 rfl rfl (gi_cons 142 rfl rfl (gi_cons 143 rfl rfl (gi_cons 144 rfl rfl (gi_cons 145 rfl rfl (gi_cons 146 rfl rfl (gi_cons 66 rfl rfl (gi_cons 67 rfl rfl (gi_cons 12 rfl rfl (gi_cons 68 rfl rfl (gi_cons 14 rfl rfl (gi_cons 15 rfl rfl (gi_cons 20 rfl rfl (gi_cons 64 rfl rfl (gi_cons 147 rfl rfl (gi_cons 148 rfl rfl (gi_cons 149 rfl rfl (gi_cons 150 rfl rfl (gi_cons 151 rfl rfl (gi_cons 152 rfl rfl (gi_cons 153 rfl rfl (gi_cons 154 rfl rfl (gi_cons 155 rfl rfl (gi_cons 156 rfl rfl (gi_cons 53 rfl rfl (gi_cons 54 rfl rfl (gi_cons 55 rfl rfl (gi_cons 157 rfl rfl (gi_cons 158 rfl rfl (gi_cons 159 rfl rfl (gi_cons 160 rfl rfl (gi_cons 161 rfl rfl (gi_cons 162 rfl rfl (gi_cons 163 rfl rfl (gi_cons 164 rfl rfl (gi_cons 165 rfl rfl (gi_cons 166 rfl rfl (gi_cons 167 rfl rfl (gi_cons 168 rfl rfl (gi_cons 169 rfl rfl (gi_cons 40 rfl rfl (gi_cons 41 rfl rfl (gi_cons 42 rfl rfl (gi_cons 170 rfl rfl (gi_cons 57 rfl rfl (gi_cons 58 rfl rfl (gi_cons 59 rfl rfl (gi_cons 171 rfl rfl (gi_cons 172 rfl rfl (gi_cons 173 rfl rfl (gi_cons 174 rfl rfl (gi_cons 175 rfl rfl (gi_cons 22 rfl rfl (gi_cons 23 rfl rfl (gi_cons 24 rfl rfl (gi_cons 176 rfl rfl (gi_cons 177 rfl rfl (gi_cons 178 rfl rfl (gi_cons 179 rfl rfl (gi_cons 180 rfl rfl (gi_cons 181 rfl rfl (gi_cons 182 rfl rfl (gi_cons 183 rfl rfl (gi_cons 184 rfl rfl (gi_cons 185 rfl rfl (gi_cons 186 rfl rfl (gi_cons 187 rfl rfl (gi_cons 188 rfl rfl (gi_cons 189 rfl rfl (gi_cons 44 rfl rfl (gi_cons 45 rfl rfl (gi_cons 46 rfl rfl (gi_cons 47 rfl rfl (gi_cons 190 rfl rfl (gi_cons 191 rfl rfl (gi_cons 192 rfl rfl (gi_cons 118 rfl rfl (gi_cons 193 rfl rfl (gi_cons 194 rfl rfl (gi_cons 195 rfl rfl (gi_cons 196 rfl rfl (gi_cons 197 rfl rfl (gi_cons 198 rfl rfl (gi_cons 199 rfl rfl (gi_cons 200 rfl rfl (gi_cons 201 rfl rfl (gi_cons 202 rfl rfl (gi_cons 203 rfl rfl (gi_cons 204 rfl rfl (gi_cons 205 rfl rfl (gi_cons 206 rfl rfl (gi_cons 207 rfl rfl (gi_cons 208 rfl rfl (gi_cons 209 rfl rfl (gi_cons 210 rfl rfl (gi_cons 211 rfl rfl (gi_cons 212 rfl rfl (gi_cons 213 rfl rfl (gi_cons 214 rfl rfl (gi_cons 215 rfl rfl (gi_cons 216 rfl rfl (gi_cons 217 rfl rfl (gi_cons 218 rfl rfl (gi_cons 219 rfl rfl (gi_cons 220 rfl rfl (gi_cons 221 rfl rfl (gi_cons 222 rfl rfl (gi_cons 223 rfl rfl (gi_cons 224 rfl rfl (gi_cons 235 rfl rfl (gi_cons 236 rfl rfl (gi_cons 237 rfl rfl (gi_cons 238 rfl rfl (gi_cons 239 rfl rfl (gi_cons 240 rfl rfl (gi_cons 241 rfl rfl (gi_cons 242 rfl rfl (gi_cons 243 rfl rfl (gi_cons 244 rfl rfl (gi_cons 245 rfl rfl (gi_cons 246 rfl rfl (gi_cons 247 rfl rfl (gi_cons 248 rfl rfl (gi_cons 225 rfl rfl (gi_cons 226 rfl rfl (gi_cons 227 rfl rfl (gi_cons 228 rfl rfl (gi_cons 229 rfl rfl gi_nil))))))))))))))))))))))))))))))))))))))))))))))))))))))))))))))))))))))))))))))))))))))))))))))))))))))))))))))))))))))))))))))))))))))))))))))))
set_option maxRecDepth 20000 in
theorem gX10_count_X10_pathsThatFit : GoodIn wsX10_count (wsV RX10 190 RX10 yX10_pathsThatFit wsX10_pathsThatFit) := goodIn_app (goodIn_of _ (by decide +kernel)) ggX10_count_X10_pathsThatFit
theorem dX10_count_0 : decode cX10_count 0 = .ok (.iload_n 1, 1) := by decide +kernel
theorem dX10_count_1 : decode cX10_count 1 = .ok (.tableswitch 229 0 17 #[87, 98, 98, 98, 98, 112, 123, 128, 139, 147, 180, 188, 196, 201, 201, 201, 213, 224], 87) := by decide +kernel
theorem dX10_count_88 : decode cX10_count 88 = .ok (.aload_n 0, 1) := by decide +kernel
theorem dX10_count_89 : decode cX10_count 89 = .ok (.getfield 63, 3) := by decide +kernel
theorem dX10_count_92 : decode cX10_count 92 = .ok (.getfield 107, 3) := by decide +kernel
theorem dX10_count_95 : decode cX10_count 95 = .ok (.getfield 161, 3) := by decide +kernel
theorem dX10_count_98 : decode cX10_count 98 = .ok (.ireturn, 1) := by decide +kernel
theorem dX10_count_99 : decode cX10_count 99 = .ok (.aload_n 0, 1) := by decide +kernel
theorem dX10_count_100 : decode cX10_count 100 = .ok (.getfield 63, 3) := by decide +kernel
theorem dX10_count_103 : decode cX10_count 103 = .ok (.getfield 107, 3) := by decide +kernel
theorem dX10_count_106 : decode cX10_count 106 = .ok (.iload_n 1, 1) := by decide +kernel
theorem dX10_count_107 : decode cX10_count 107 = .ok (.iconst 1, 1) := by decide +kernel
theorem dX10_count_108 : decode cX10_count 108 = .ok (.isub, 1) := by decide +kernel
theorem dX10_count_109 : decode cX10_count 109 = .ok (.invokevirtual 164, 3) := by decide +kernel
theorem dX10_count_112 : decode cX10_count 112 = .ok (.ireturn, 1) := by decide +kernel
theorem dX10_count_113 : decode cX10_count 113 = .ok (.aload_n 0, 1) := by decide +kernel
theorem dX10_count_114 : decode cX10_count 114 = .ok (.getfield 63, 3) := by decide +kernel
theorem dX10_count_117 : decode cX10_count 117 = .ok (.getfield 107, 3) := by decide +kernel
theorem dX10_count_120 : decode cX10_count 120 = .ok (.invokevirtual 167, 3) := by decide +kernel
theorem dX10_count_123 : decode cX10_count 123 = .ok (.ireturn, 1) := by decide +kernel
theorem dX10_count_124 : decode cX10_count 124 = .ok (.aload_n 0, 1) := by decide +kernel
theorem dX10_count_125 : decode cX10_count 125 = .ok (.invokevirtual 171, 3) := by decide +kernel
theorem dX10_count_128 : decode cX10_count 128 = .ok (.ireturn, 1) := by decide +kernel
theorem dX10_count_129 : decode cX10_count 129 = .ok (.aload_n 0, 1) := by decide +kernel
theorem dX10_count_130 : decode cX10_count 130 = .ok (.getfield 63, 3) := by decide +kernel
theorem dX10_count_133 : decode cX10_count 133 = .ok (.getfield 107, 3) := by decide +kernel
theorem dX10_count_136 : decode cX10_count 136 = .ok (.invokevirtual 174, 3) := by decide +kernel
theorem dX10_count_139 : decode cX10_count 139 = .ok (.ireturn, 1) := by decide +kernel
theorem dX10_count_140 : decode cX10_count 140 = .ok (.aload_n 0, 1) := by decide +kernel
theorem dX10_count_141 : decode cX10_count 141 = .ok (.getfield 82, 3) := by decide +kernel
theorem dX10_count_144 : decode cX10_count 144 = .ok (.getfield 177, 3) := by decide +kernel
theorem dX10_count_147 : decode cX10_count 147 = .ok (.ireturn, 1) := by decide +kernel
theorem dX10_count_148 : decode cX10_count 148 = .ok (.aload_n 0, 1) := by decide +kernel
theorem dX10_count_149 : decode cX10_count 149 = .ok (.getfield 145, 3) := by decide +kernel
theorem dX10_count_152 : decode cX10_count 152 = .ok (.ifCond .eq 27, 3) := by decide +kernel
theorem dX10_count_155 : decode cX10_count 155 = .ok (.aload_n 0, 1) := by decide +kernel
theorem dX10_count_156 : decode cX10_count 156 = .ok (.getfield 86, 3) := by decide +kernel
theorem dX10_count_159 : decode cX10_count 159 = .ok (.aload_n 0, 1) := by decide +kernel
theorem dX10_count_160 : decode cX10_count 160 = .ok (.getfield 67, 3) := by decide +kernel
theorem dX10_count_163 : decode cX10_count 163 = .ok (.getfield 107, 3) := by decide +kernel
theorem dX10_count_166 : decode cX10_count 166 = .ok (.aload_n 0, 1) := by decide +kernel
theorem dX10_count_167 : decode cX10_count 167 = .ok (.getfield 63, 3) := by decide +kernel
theorem dX10_count_170 : decode cX10_count 170 = .ok (.getfield 107, 3) := by decide +kernel
theorem dX10_count_173 : decode cX10_count 173 = .ok (.invokevirtual 180, 3) := by decide +kernel
theorem dX10_count_176 : decode cX10_count 176 = .ok (.goto 4, 3) := by decide +kernel
theorem dX10_count_179 : decode cX10_count 179 = .ok (.iconst (-1), 1) := by decide +kernel
theorem dX10_count_180 : decode cX10_count 180 = .ok (.ireturn, 1) := by decide +kernel
theorem dX10_count_181 : decode cX10_count 181 = .ok (.aload_n 0, 1) := by decide +kernel
theorem dX10_count_182 : decode cX10_count 182 = .ok (.getfield 63, 3) := by decide +kernel
theorem dX10_count_185 : decode cX10_count 185 = .ok (.getfield 139, 3) := by decide +kernel
theorem dX10_count_188 : decode cX10_count 188 = .ok (.ireturn, 1) := by decide +kernel
theorem dX10_count_189 : decode cX10_count 189 = .ok (.aload_n 0, 1) := by decide +kernel
theorem dX10_count_190 : decode cX10_count 190 = .ok (.getfield 63, 3) := by decide +kernel
theorem dX10_count_193 : decode cX10_count 193 = .ok (.getfield 142, 3) := by decide +kernel
theorem dX10_count_196 : decode cX10_count 196 = .ok (.ireturn, 1) := by decide +kernel
theorem dX10_count_197 : decode cX10_count 197 = .ok (.aload_n 0, 1) := by decide +kernel
theorem dX10_count_198 : decode cX10_count 198 = .ok (.getfield 114, 3) := by decide +kernel
theorem dX10_count_201 : decode cX10_count 201 = .ok (.ireturn, 1) := by decide +kernel
theorem dX10_count_202 : decode cX10_count 202 = .ok (.aload_n 0, 1) := by decide +kernel
theorem dX10_count_203 : decode cX10_count 203 = .ok (.getfield 63, 3) := by decide +kernel
theorem dX10_count_206 : decode cX10_count 206 = .ok (.iload_n 1, 1) := by decide +kernel
theorem dX10_count_207 : decode cX10_count 207 = .ok (.bipush 13, 2) := by decide +kernel
theorem dX10_count_209 : decode cX10_count 209 = .ok (.isub, 1) := by decide +kernel
theorem dX10_count_210 : decode cX10_count 210 = .ok (.invokevirtual 184, 3) := by decide +kernel
theorem dX10_count_213 : decode cX10_count 213 = .ok (.ireturn, 1) := by decide +kernel
theorem dX10_count_214 : decode cX10_count 214 = .ok (.aload_n 0, 1) := by decide +kernel
theorem dX10_count_215 : decode cX10_count 215 = .ok (.getfield 63, 3) := by decide +kernel
theorem dX10_count_218 : decode cX10_count 218 = .ok (.getfield 107, 3) := by decide +kernel
theorem dX10_count_221 : decode cX10_count 221 = .ok (.invokevirtual 187, 3) := by decide +kernel
theorem dX10_count_224 : decode cX10_count 224 = .ok (.ireturn, 1) := by decide +kernel
theorem dX10_count_225 : decode cX10_count 225 = .ok (.aload_n 0, 1) := by decide +kernel
theorem dX10_count_226 : decode cX10_count 226 = .ok (.invokevirtual 190, 3) := by decide +kernel
theorem dX10_count_229 : decode cX10_count 229 = .ok (.ireturn, 1) := by decide +kernel
theorem dX10_count_230 : decode cX10_count 230 = .ok (.new 149, 3) := by decide +kernel
theorem dX10_count_233 : decode cX10_count 233 = .ok (.dup, 1) := by decide +kernel
theorem dX10_count_234 : decode cX10_count 234 = .ok (.ldc 193, 2) := by decide +kernel
theorem dX10_count_236 : decode cX10_count 236 = .ok (.invokespecial 153, 3) := by decide +kernel
theorem dX10_count_239 : decode cX10_count 239 = .ok (.athrow, 1) := by decide +kernel
set_option maxRecDepth 100000 in
theorem ggX10_thing_X10_mustBeThere : GoodIn wsX10_thing wsX10_mustBeThere := by
  refine goodIn_ca ?_ (goodIn_sub (fun _ h => List.mem_cons_of_mem _ (List.mem_append_right _ h)) (by decide +kernel))
  exact (gi_cons 8 rfl rfl (gi_cons 1 rfl rfl (gi_cons 2 rfl rfl (gi_cons 3 rfl rfl (gi_cons 9 rfl rfl (gi_cons 10 rfl rfl (gi_cons 11 rfl rfl (gi_cons 12 rfl rfl (gi_cons 13 rfl rfl (gi_cons 14 rfl rfl (gi_cons 15 rfl rfl (gi_cons 153 rfl rfl (gi_cons 154 rfl rfl (gi_cons 155 rfl rfl (gi_cons 156 rfl rfl (gi_cons 157 rfl rfl (gi_cons 158 rfl rfl (gi_cons 159 rfl rfl (gi_cons 160 rfl rfl (gi_cons 161 rfl rfl (gi_cons 162 rfl rfl (gi_cons 163 rfl rfl (gi_cons 164 rfl rfl (gi_cons 165 rfl rfl (gi_cons 166 rfl rfl (gi_cons 167 rfl rfl (gi_cons 168 rfl rfl (gi_cons 169 rfl rfl (gi_cons 170 rfl rfl (gi_cons 171 rfl rfl (gi_cons 172 rfl rfl (gi_cons 173 rfl rfl (gi_cons 174 rfl rfl (gi_cons 175 rfl rfl (gi_cons 176 rfl rfl (gi_cons 177 rfl rfl (gi_cons 178 rfl rfl (gi_cons 179 rfl rfl (gi_cons 180 rfl rfl (gi_cons 181 rfl rfl (gi_cons 182 rfl rfl gi_nil)))))))))))))))))))))))))))))))))))))))))
set_option maxRecDepth 20000 in
theorem gX10_thing_X10_mustBeThere : GoodIn wsX10_thing (wsV RX10 195 RX10 yX10_mustBeThere wsX10_mustBeThere) := goodIn_app (goodIn_of _ (by decide +kernel)) ggX10_thing_X10_mustBeThere
set_option maxRecDepth 100000 in
theorem ggX10_thing_X9_kindAt : GoodIn wsX10_thing wsX9_kindAt := (gi_cons 19 rfl rfl (gi_cons 14 rfl rfl (gi_cons 15 rfl rfl (gi_cons 178 rfl rfl (gi_cons 179 rfl rfl (gi_cons 180 rfl rfl (gi_cons 181 rfl rfl (gi_cons 182 rfl rfl gi_nil))))))))
set_option maxRecDepth 20000 in
theorem gX10_thing_X9_kindAt : GoodIn wsX10_thing (wsV RX10 198 RX9 yX9_kindAt wsX9_kindAt) := goodIn_app (goodIn_of _ (by decide +kernel)) ggX10_thing_X9_kindAt
set_option maxRecDepth 100000 in
theorem ggX10_thing_X9_parentOf : GoodIn wsX10_thing wsX9_parentOf := (gi_cons 23 rfl rfl (gi_cons 14 rfl rfl (gi_cons 24 rfl rfl (gi_cons 178 rfl rfl (gi_cons 179 rfl rfl (gi_cons 180 rfl rfl (gi_cons 181 rfl rfl (gi_cons 182 rfl rfl gi_nil))))))))
set_option maxRecDepth 20000 in
theorem gX10_thing_X9_parentOf : GoodIn wsX10_thing (wsV RX10 201 RX9 yX9_parentOf wsX9_parentOf) := goodIn_app (goodIn_of _ (by decide +kernel)) ggX10_thing_X9_parentOf
set_option maxRecDepth 100000 in
theorem ggX10_thing_X9_placeOf : GoodIn wsX10_thing wsX9_placeOf := (gi_cons 28 rfl rfl (gi_cons 14 rfl rfl (gi_cons 24 rfl rfl (gi_cons 178 rfl rfl (gi_cons 179 rfl rfl (gi_cons 180 rfl rfl (gi_cons 181 rfl rfl (gi_cons 182 rfl rfl gi_nil))))))))
set_option maxRecDepth 20000 in
theorem gX10_thing_X9_placeOf : GoodIn wsX10_thing (wsV RX10 204 RX9 yX9_placeOf wsX9_placeOf) := goodIn_app (goodIn_of _ (by decide +kernel)) ggX10_thing_X9_placeOf
set_option maxRecDepth 100000 in
theorem ggX10_thing_X9_depthAt : GoodIn wsX10_thing wsX9_depthAt := (gi_cons 32 rfl rfl (gi_cons 14 rfl rfl (gi_cons 24 rfl rfl (gi_cons 178 rfl rfl (gi_cons 179 rfl rfl (gi_cons 180 rfl rfl (gi_cons 181 rfl rfl (gi_cons 182 rfl rfl gi_nil))))))))
set_option maxRecDepth 20000 in
theorem gX10_thing_X9_depthAt : GoodIn wsX10_thing (wsV RX10 207 RX9 yX9_depthAt wsX9_depthAt) := goodIn_app (goodIn_of _ (by decide +kernel)) ggX10_thing_X9_depthAt
set_option maxRecDepth 100000 in
theorem ggX10_thing_X9_childCount : GoodIn wsX10_thing wsX9_childCount := (gi_cons 36 rfl rfl (gi_cons 14 rfl rfl (gi_cons 24 rfl rfl (gi_cons 178 rfl rfl (gi_cons 179 rfl rfl (gi_cons 180 rfl rfl (gi_cons 181 rfl rfl (gi_cons 182 rfl rfl gi_nil))))))))
set_option maxRecDepth 20000 in
theorem gX10_thing_X9_childCount : GoodIn wsX10_thing (wsV RX10 210 RX9 yX9_childCount wsX9_childCount) := goodIn_app (goodIn_of _ (by decide +kernel)) ggX10_thing_X9_childCount
set_option maxRecDepth 100000 in
theorem ggX10_thing_X9_end : GoodIn wsX10_thing wsX9_end := (gi_cons 40 rfl rfl (gi_cons 14 rfl rfl (gi_cons 24 rfl rfl (gi_cons 178 rfl rfl (gi_cons 179 rfl rfl (gi_cons 180 rfl rfl (gi_cons 181 rfl rfl (gi_cons 182 rfl rfl gi_nil))))))))
set_option maxRecDepth 20000 in
theorem gX10_thing_X9_end : GoodIn wsX10_thing (wsV RX10 213 RX9 yX9_end wsX9_end) := goodIn_app (goodIn_of _ (by decide +kernel)) ggX10_thing_X9_end
set_option maxRecDepth 100000 in
theorem ggX10_thing_X9_valueAt : GoodIn wsX10_thing wsX9_valueAt := (gi_cons 44 rfl rfl (gi_cons 14 rfl rfl (gi_cons 45 rfl rfl (gi_cons 178 rfl rfl (gi_cons 179 rfl rfl (gi_cons 180 rfl rfl (gi_cons 181 rfl rfl (gi_cons 182 rfl rfl gi_nil))))))))
set_option maxRecDepth 20000 in
theorem gX10_thing_X9_valueAt : GoodIn wsX10_thing (wsV RX10 216 RX9 yX9_valueAt wsX9_valueAt) := goodIn_app (goodIn_of _ (by decide +kernel)) ggX10_thing_X9_valueAt
set_option maxRecDepth 100000 in
theorem ggX10_thing_X9_keyAt : GoodIn wsX10_thing wsX9_keyAt := (gi_cons 49 rfl rfl (gi_cons 14 rfl rfl (gi_cons 50 rfl rfl (gi_cons 178 rfl rfl (gi_cons 179 rfl rfl (gi_cons 180 rfl rfl (gi_cons 181 rfl rfl (gi_cons 182 rfl rfl gi_nil))))))))
set_option maxRecDepth 20000 in
theorem gX10_thing_X9_keyAt : GoodIn wsX10_thing (wsV RX10 219 RX9 yX9_keyAt wsX9_keyAt) := goodIn_app (goodIn_of _ (by decide +kernel)) ggX10_thing_X9_keyAt
set_option maxRecDepth 100000 in
theorem ggX10_thing_X10_lettersOf : GoodIn wsX10_thing wsX10_lettersOf := (gi_cons 53 rfl rfl gi_nil)
set_option maxRecDepth 20000 in
theorem gX10_thing_X10_lettersOf : GoodIn wsX10_thing (va_wsS RX10 222 yX10_lettersOf wsX10_lettersOf) := goodIn_app (goodIn_of _ (by decide +kernel)) ggX10_thing_X10_lettersOf
set_option maxRecDepth 100000 in
theorem ggX10_thing_X9_twinsOf : GoodIn wsX10_thing wsX9_twinsOf := (gi_cons 57 rfl rfl (gi_cons 14 rfl rfl (gi_cons 58 rfl rfl (gi_cons 59 rfl rfl (gi_cons 60 rfl rfl (gi_cons 12 rfl rfl (gi_cons 61 rfl rfl (gi_cons 62 rfl rfl (gi_cons 17 rfl rfl (gi_cons 18 rfl rfl (gi_cons 19 rfl rfl (gi_cons 15 rfl rfl (gi_cons 63 rfl rfl (gi_cons 42 rfl rfl (gi_cons 43 rfl rfl (gi_cons 44 rfl rfl (gi_cons 45 rfl rfl (gi_cons 64 rfl rfl (gi_cons 65 rfl rfl (gi_cons 66 rfl rfl (gi_cons 67 rfl rfl (gi_cons 68 rfl rfl (gi_cons 38 rfl rfl (gi_cons 39 rfl rfl (gi_cons 40 rfl rfl (gi_cons 24 rfl rfl (gi_cons 69 rfl rfl (gi_cons 34 rfl rfl (gi_cons 35 rfl rfl (gi_cons 36 rfl rfl (gi_cons 70 rfl rfl (gi_cons 47 rfl rfl (gi_cons 48 rfl rfl (gi_cons 49 rfl rfl (gi_cons 50 rfl rfl (gi_cons 71 rfl rfl (gi_cons 72 rfl rfl (gi_cons 73 rfl rfl (gi_cons 74 rfl rfl (gi_cons 178 rfl rfl (gi_cons 179 rfl rfl (gi_cons 180 rfl rfl (gi_cons 181 rfl rfl (gi_cons 182 rfl rfl gi_nil))))))))))))))))))))))))))))))))))))))))))))
set_option maxRecDepth 20000 in
theorem gX10_thing_X9_twinsOf : GoodIn wsX10_thing (wsV RX10 225 RX9 yX9_twinsOf wsX9_twinsOf) := goodIn_app (goodIn_of _ (by decide +kernel)) ggX10_thing_X9_twinsOf
set_option maxRecDepth 100000 in
theorem ggX10_thing_X10_pathsAnswering : GoodIn wsX10_thing wsX10_pathsAnswering := (gi_cons 78 rfl rfl (gi_cons 79 rfl rfl (gi_cons 80 rfl rfl (gi_cons 81 rfl rfl (gi_cons 7 rfl rfl (gi_cons 82 rfl rfl (gi_cons 83 rfl rfl (gi_cons 84 rfl rfl (gi_cons 3 rfl rfl (gi_cons 85 rfl rfl (gi_cons 86 rfl rfl (gi_cons 87 rfl rfl (gi_cons 88 rfl rfl (gi_cons 89 rfl rfl (gi_cons 90 rfl rfl (gi_cons 91 rfl rfl (gi_cons 92 rfl rfl (gi_cons 93 rfl rfl (gi_cons 94 rfl rfl (gi_cons 95 rfl rfl (gi_cons 96 rfl rfl (gi_cons 97 rfl rfl (gi_cons 72 rfl rfl (gi_cons 73 rfl rfl (gi_cons 12 rfl rfl (gi_cons 74 rfl rfl (gi_cons 14 rfl rfl (gi_cons 15 rfl rfl (gi_cons 24 rfl rfl (gi_cons 50 rfl rfl (gi_cons 98 rfl rfl (gi_cons 99 rfl rfl (gi_cons 100 rfl rfl (gi_cons 101 rfl rfl (gi_cons 102 rfl rfl (gi_cons 103 rfl rfl (gi_cons 30 rfl rfl (gi_cons 31 rfl rfl (gi_cons 32 rfl rfl (gi_cons 104 rfl rfl (gi_cons 38 rfl rfl (gi_cons 39 rfl rfl (gi_cons 40 rfl rfl (gi_cons 105 rfl rfl (gi_cons 106 rfl rfl (gi_cons 107 rfl rfl (gi_cons 108 rfl rfl (gi_cons 109 rfl rfl (gi_cons 110 rfl rfl (gi_cons 111 rfl rfl (gi_cons 112 rfl rfl (gi_cons 113 rfl rfl (gi_cons 114 rfl rfl (gi_cons 115 rfl rfl (gi_cons 116 rfl rfl (gi_cons 117 rfl rfl (gi_cons 17 rfl rfl (gi_cons 18 rfl rfl (gi_cons 19 rfl rfl (gi_cons 118 rfl rfl (gi_cons 34 rfl rfl (gi_cons 35 rfl rfl (gi_cons 36 rfl rfl (gi_cons 119 rfl rfl (gi_cons 120 rfl rfl (gi_cons 121 rfl rfl (gi_cons 122 rfl rfl (gi_cons 123 rfl rfl (gi_cons 124 rfl rfl (gi_cons 125 rfl rfl (gi_cons 126 rfl rfl (gi_cons 127 rfl rfl (gi_cons 128 rfl rfl (gi_cons 129 rfl rfl (gi_cons 130 rfl rfl (gi_cons 131 rfl rfl (gi_cons 132 rfl rfl (gi_cons 133 rfl rfl (gi_cons 134 rfl rfl (gi_cons 135 rfl rfl (gi_cons 136 rfl rfl (gi_cons 137 rfl rfl (gi_cons 138 rfl rfl (gi_cons 139 rfl rfl (gi_cons 140 rfl rfl (gi_cons 42 rfl rfl (gi_cons 43 rfl rfl (gi_cons 44 rfl rfl (gi_cons 45 rfl rfl (gi_cons 141 rfl rfl (gi_cons 142 rfl rfl (gi_cons 143 rfl rfl (gi_cons 144 rfl rfl (gi_cons 145 rfl rfl (gi_cons 146 rfl rfl (gi_cons 147 rfl rfl (gi_cons 148 rfl rfl (gi_cons 149 rfl rfl (gi_cons 150 rfl rfl (gi_cons 151 rfl rfl (gi_cons 152 rfl rfl (gi_cons 153 rfl rfl (gi_cons 154 rfl rfl (gi_cons 155 rfl rfl (gi_cons 156 rfl rfl (gi_cons 157 rfl rfl (gi_cons 158 rfl rfl (gi_cons 159 rfl rfl (gi_cons 160 rfl rfl (gi_cons 161 rfl rfl (gi_cons 162 rfl rfl (gi_cons 163 rfl rfl (gi_cons 164 rfl rfl (gi_cons 165 rfl rfl (gi_cons 166 rfl rfl (gi_cons 167 rfl rfl (gi_cons 168 rfl rfl (gi_cons 169 rfl rfl (gi_cons 170 rfl rfl (gi_cons 171 rfl rfl (gi_cons 172 rfl rfl (gi_cons 173 rfl rfl (gi_cons 174 rfl rfl (gi_cons 175 rfl rfl (gi_cons 176 rfl rfl (gi_cons 177 rfl rfl (gi_cons 183 rfl rfl (gi_cons 184 rfl rfl (gi_cons 185 rfl rfl (gi_cons 186 rfl rfl (gi_cons 187 rfl rfl (gi_cons 188 rfl rfl (gi_cons 189 rfl rfl (gi_cons 190 rfl rfl (gi_cons 191 rfl rfl (gi_cons 192 rfl rfl (gi_cons 193 rfl rfl (gi_cons 194 rfl rfl (gi_cons 195 rfl rfl (gi_cons 196 rfl rfl (gi_cons 178 rfl rfl (gi_cons 179 rfl rfl (gi_cons 180 rfl rfl (gi_cons 181 rfl rfl (gi_cons 182 rfl rfl gi_nil)))))))))))))))))))))))))))))))))))))))))))))))))))))))))))))))))))))))))))))))))))))))))))))))))))))))))))))))))))))))))))))))))))))))))))))))))
set_option maxRecDepth 20000 in
theorem gX10_thing_X10_pathsAnswering : GoodIn wsX10_thing (wsV RX10 228 RX10 yX10_pathsAnswering wsX10_pathsAnswering) := goodIn_app (goodIn_of _ (by decide +kernel)) ggX10_thing_X10_pathsAnswering
theorem dX10_thing_0 : decode cX10_thing 0 = .ok (.aload_n 0, 1) := by decide +kernel
theorem dX10_thing_1 : decode cX10_thing 1 = .ok (.iload_n 1, 1) := by decide +kernel
theorem dX10_thing_2 : decode cX10_thing 2 = .ok (.invokevirtual 195, 3) := by decide +kernel
theorem dX10_thing_5 : decode cX10_thing 5 = .ok (.iload_n 2, 1) := by decide +kernel
theorem dX10_thing_6 : decode cX10_thing 6 = .ok (.tableswitch 191 0 9 #[54, 66, 78, 90, 102, 114, 126, 158, 173, 185], 54) := by decide +kernel
theorem dX10_thing_60 : decode cX10_thing 60 = .ok (.aload_n 0, 1) := by decide +kernel
theorem dX10_thing_61 : decode cX10_thing 61 = .ok (.getfield 63, 3) := by decide +kernel
theorem dX10_thing_64 : decode cX10_thing 64 = .ok (.getfield 107, 3) := by decide +kernel
theorem dX10_thing_67 : decode cX10_thing 67 = .ok (.iload_n 1, 1) := by decide +kernel
theorem dX10_thing_68 : decode cX10_thing 68 = .ok (.invokevirtual 198, 3) := by decide +kernel
theorem dX10_thing_71 : decode cX10_thing 71 = .ok (.ireturn, 1) := by decide +kernel
theorem dX10_thing_72 : decode cX10_thing 72 = .ok (.aload_n 0, 1) := by decide +kernel
theorem dX10_thing_73 : decode cX10_thing 73 = .ok (.getfield 63, 3) := by decide +kernel
theorem dX10_thing_76 : decode cX10_thing 76 = .ok (.getfield 107, 3) := by decide +kernel
theorem dX10_thing_79 : decode cX10_thing 79 = .ok (.iload_n 1, 1) := by decide +kernel
theorem dX10_thing_80 : decode cX10_thing 80 = .ok (.invokevirtual 201, 3) := by decide +kernel
theorem dX10_thing_83 : decode cX10_thing 83 = .ok (.ireturn, 1) := by decide +kernel
theorem dX10_thing_84 : decode cX10_thing 84 = .ok (.aload_n 0, 1) := by decide +kernel
theorem dX10_thing_85 : decode cX10_thing 85 = .ok (.getfield 63, 3) := by decide +kernel
theorem dX10_thing_88 : decode cX10_thing 88 = .ok (.getfield 107, 3) := by decide +kernel
theorem dX10_thing_91 : decode cX10_thing 91 = .ok (.iload_n 1, 1) := by decide +kernel
theorem dX10_thing_92 : decode cX10_thing 92 = .ok (.invokevirtual 204, 3) := by decide +kernel
theorem dX10_thing_95 : decode cX10_thing 95 = .ok (.ireturn, 1) := by decide +kernel
theorem dX10_thing_96 : decode cX10_thing 96 = .ok (.aload_n 0, 1) := by decide +kernel
theorem dX10_thing_97 : decode cX10_thing 97 = .ok (.getfield 63, 3) := by decide +kernel
theorem dX10_thing_100 : decode cX10_thing 100 = .ok (.getfield 107, 3) := by decide +kernel
theorem dX10_thing_103 : decode cX10_thing 103 = .ok (.iload_n 1, 1) := by decide +kernel
theorem dX10_thing_104 : decode cX10_thing 104 = .ok (.invokevirtual 207, 3) := by decide +kernel
theorem dX10_thing_107 : decode cX10_thing 107 = .ok (.ireturn, 1) := by decide +kernel
theorem dX10_thing_108 : decode cX10_thing 108 = .ok (.aload_n 0, 1) := by decide +kernel
theorem dX10_thing_109 : decode cX10_thing 109 = .ok (.getfield 63, 3) := by decide +kernel
theorem dX10_thing_112 : decode cX10_thing 112 = .ok (.getfield 107, 3) := by decide +kernel
theorem dX10_thing_115 : decode cX10_thing 115 = .ok (.iload_n 1, 1) := by decide +kernel
theorem dX10_thing_116 : decode cX10_thing 116 = .ok (.invokevirtual 210, 3) := by decide +kernel
theorem dX10_thing_119 : decode cX10_thing 119 = .ok (.ireturn, 1) := by decide +kernel
theorem dX10_thing_120 : decode cX10_thing 120 = .ok (.aload_n 0, 1) := by decide +kernel
theorem dX10_thing_121 : decode cX10_thing 121 = .ok (.getfield 63, 3) := by decide +kernel
theorem dX10_thing_124 : decode cX10_thing 124 = .ok (.getfield 107, 3) := by decide +kernel
theorem dX10_thing_127 : decode cX10_thing 127 = .ok (.iload_n 1, 1) := by decide +kernel
theorem dX10_thing_128 : decode cX10_thing 128 = .ok (.invokevirtual 213, 3) := by decide +kernel
theorem dX10_thing_131 : decode cX10_thing 131 = .ok (.ireturn, 1) := by decide +kernel
theorem dX10_thing_132 : decode cX10_thing 132 = .ok (.aload_n 0, 1) := by decide +kernel
theorem dX10_thing_133 : decode cX10_thing 133 = .ok (.getfield 63, 3) := by decide +kernel
theorem dX10_thing_136 : decode cX10_thing 136 = .ok (.getfield 107, 3) := by decide +kernel
theorem dX10_thing_139 : decode cX10_thing 139 = .ok (.iload_n 1, 1) := by decide +kernel
theorem dX10_thing_140 : decode cX10_thing 140 = .ok (.invokevirtual 198, 3) := by decide +kernel
theorem dX10_thing_143 : decode cX10_thing 143 = .ok (.ifCond .ne 17, 3) := by decide +kernel
theorem dX10_thing_146 : decode cX10_thing 146 = .ok (.aload_n 0, 1) := by decide +kernel
theorem dX10_thing_147 : decode cX10_thing 147 = .ok (.getfield 63, 3) := by decide +kernel
theorem dX10_thing_150 : decode cX10_thing 150 = .ok (.getfield 107, 3) := by decide +kernel
theorem dX10_thing_153 : decode cX10_thing 153 = .ok (.iload_n 1, 1) := by decide +kernel
theorem dX10_thing_154 : decode cX10_thing 154 = .ok (.invokevirtual 216, 3) := by decide +kernel
theorem dX10_thing_157 : decode cX10_thing 157 = .ok (.goto 6, 3) := by decide +kernel
theorem dX10_thing_160 : decode cX10_thing 160 = .ok (.sipush (-1000), 3) := by decide +kernel
theorem dX10_thing_163 : decode cX10_thing 163 = .ok (.ireturn, 1) := by decide +kernel
theorem dX10_thing_164 : decode cX10_thing 164 = .ok (.aload_n 0, 1) := by decide +kernel
theorem dX10_thing_165 : decode cX10_thing 165 = .ok (.getfield 63, 3) := by decide +kernel
theorem dX10_thing_168 : decode cX10_thing 168 = .ok (.getfield 107, 3) := by decide +kernel
theorem dX10_thing_171 : decode cX10_thing 171 = .ok (.iload_n 1, 1) := by decide +kernel
theorem dX10_thing_172 : decode cX10_thing 172 = .ok (.invokevirtual 219, 3) := by decide +kernel
theorem dX10_thing_175 : decode cX10_thing 175 = .ok (.invokestatic 222, 3) := by decide +kernel
theorem dX10_thing_178 : decode cX10_thing 178 = .ok (.ireturn, 1) := by decide +kernel
theorem dX10_thing_179 : decode cX10_thing 179 = .ok (.aload_n 0, 1) := by decide +kernel
theorem dX10_thing_180 : decode cX10_thing 180 = .ok (.getfield 63, 3) := by decide +kernel
theorem dX10_thing_183 : decode cX10_thing 183 = .ok (.getfield 107, 3) := by decide +kernel
theorem dX10_thing_186 : decode cX10_thing 186 = .ok (.iload_n 1, 1) := by decide +kernel
theorem dX10_thing_187 : decode cX10_thing 187 = .ok (.invokevirtual 225, 3) := by decide +kernel
theorem dX10_thing_190 : decode cX10_thing 190 = .ok (.ireturn, 1) := by decide +kernel
theorem dX10_thing_191 : decode cX10_thing 191 = .ok (.aload_n 0, 1) := by decide +kernel
theorem dX10_thing_192 : decode cX10_thing 192 = .ok (.iload_n 1, 1) := by decide +kernel
theorem dX10_thing_193 : decode cX10_thing 193 = .ok (.invokevirtual 228, 3) := by decide +kernel
theorem dX10_thing_196 : decode cX10_thing 196 = .ok (.ireturn, 1) := by decide +kernel
theorem dX10_thing_197 : decode cX10_thing 197 = .ok (.new 149, 3) := by decide +kernel
theorem dX10_thing_200 : decode cX10_thing 200 = .ok (.dup, 1) := by decide +kernel
theorem dX10_thing_201 : decode cX10_thing 201 = .ok (.ldc 231, 2) := by decide +kernel
theorem dX10_thing_203 : decode cX10_thing 203 = .ok (.invokespecial 153, 3) := by decide +kernel
theorem dX10_thing_206 : decode cX10_thing 206 = .ok (.athrow, 1) := by decide +kernel
set_option maxRecDepth 100000 in
theorem ggX10_within_X10_mustBeThere : GoodIn wsX10_within wsX10_mustBeThere := by
  refine goodIn_ca ?_ (goodIn_sub (fun _ h => List.mem_cons_of_mem _ (List.mem_append_right _ h)) (by decide +kernel))
  exact (gi_cons 8 rfl rfl (gi_cons 1 rfl rfl (gi_cons 2 rfl rfl (gi_cons 3 rfl rfl (gi_cons 9 rfl rfl (gi_cons 10 rfl rfl (gi_cons 11 rfl rfl (gi_cons 12 rfl rfl (gi_cons 13 rfl rfl (gi_cons 14 rfl rfl (gi_cons 15 rfl rfl (gi_cons 21 rfl rfl (gi_cons 22 rfl rfl (gi_cons 23 rfl rfl (gi_cons 24 rfl rfl (gi_cons 25 rfl rfl (gi_cons 26 rfl rfl (gi_cons 27 rfl rfl (gi_cons 28 rfl rfl (gi_cons 29 rfl rfl (gi_cons 30 rfl rfl (gi_cons 31 rfl rfl (gi_cons 32 rfl rfl (gi_cons 33 rfl rfl (gi_cons 34 rfl rfl (gi_cons 35 rfl rfl (gi_cons 36 rfl rfl (gi_cons 37 rfl rfl (gi_cons 38 rfl rfl (gi_cons 39 rfl rfl (gi_cons 40 rfl rfl (gi_cons 41 rfl rfl (gi_cons 42 rfl rfl (gi_cons 43 rfl rfl (gi_cons 44 rfl rfl (gi_cons 45 rfl rfl (gi_cons 46 rfl rfl (gi_cons 47 rfl rfl (gi_cons 48 rfl rfl (gi_cons 49 rfl rfl (gi_cons 50 rfl rfl gi_nil)))))))))))))))))))))))))))))))))))))))))
set_option maxRecDepth 20000 in
theorem gX10_within_X10_mustBeThere : GoodIn wsX10_within (wsV RX10 195 RX10 yX10_mustBeThere wsX10_mustBeThere) := goodIn_app (goodIn_of _ (by decide +kernel)) ggX10_within_X10_mustBeThere
set_option maxRecDepth 100000 in
theorem ggX10_within_X9_childAt : GoodIn wsX10_within wsX9_childAt := (gi_cons 19 rfl rfl (gi_cons 14 rfl rfl (gi_cons 20 rfl rfl (gi_cons 46 rfl rfl (gi_cons 47 rfl rfl (gi_cons 48 rfl rfl (gi_cons 49 rfl rfl (gi_cons 50 rfl rfl gi_nil))))))))
set_option maxRecDepth 20000 in
theorem gX10_within_X9_childAt : GoodIn wsX10_within (wsV RX10 233 RX9 yX9_childAt wsX9_childAt) := goodIn_app (goodIn_of _ (by decide +kernel)) ggX10_within_X9_childAt
theorem dX10_within_0 : decode cX10_within 0 = .ok (.aload_n 0, 1) := by decide +kernel
theorem dX10_within_1 : decode cX10_within 1 = .ok (.iload_n 1, 1) := by decide +kernel
theorem dX10_within_2 : decode cX10_within 2 = .ok (.invokevirtual 195, 3) := by decide +kernel
theorem dX10_within_5 : decode cX10_within 5 = .ok (.aload_n 0, 1) := by decide +kernel
theorem dX10_within_6 : decode cX10_within 6 = .ok (.getfield 63, 3) := by decide +kernel
theorem dX10_within_9 : decode cX10_within 9 = .ok (.getfield 107, 3) := by decide +kernel
theorem dX10_within_12 : decode cX10_within 12 = .ok (.iload_n 1, 1) := by decide +kernel
theorem dX10_within_13 : decode cX10_within 13 = .ok (.iload_n 2, 1) := by decide +kernel
theorem dX10_within_14 : decode cX10_within 14 = .ok (.invokevirtual 233, 3) := by decide +kernel
theorem dX10_within_17 : decode cX10_within 17 = .ok (.istore_n 3, 1) := by decide +kernel
theorem dX10_within_18 : decode cX10_within 18 = .ok (.iload_n 3, 1) := by decide +kernel
theorem dX10_within_19 : decode cX10_within 19 = .ok (.iconst (-1), 1) := by decide +kernel
theorem dX10_within_20 : decode cX10_within 20 = .ok (.if_icmp .ne 13, 3) := by decide +kernel
theorem dX10_within_23 : decode cX10_within 23 = .ok (.new 149, 3) := by decide +kernel
theorem dX10_within_26 : decode cX10_within 26 = .ok (.dup, 1) := by decide +kernel
theorem dX10_within_27 : decode cX10_within 27 = .ok (.ldc 237, 2) := by decide +kernel
theorem dX10_within_29 : decode cX10_within 29 = .ok (.invokespecial 153, 3) := by decide +kernel
theorem dX10_within_32 : decode cX10_within 32 = .ok (.athrow, 1) := by decide +kernel
theorem dX10_within_33 : decode cX10_within 33 = .ok (.iload_n 3, 1) := by decide +kernel
theorem dX10_within_34 : decode cX10_within 34 = .ok (.ireturn, 1) := by decide +kernel
set_option maxRecDepth 100000 in
theorem ggX10_told_X10_mustBeThere : GoodIn wsX10_told wsX10_mustBeThere := by
  refine goodIn_ca ?_ (goodIn_sub (fun _ h => List.mem_cons_of_mem _ (List.mem_append_right _ h)) (by decide +kernel))
  exact (gi_cons 7 rfl rfl (gi_cons 8 rfl rfl (gi_cons 9 rfl rfl (gi_cons 2 rfl rfl (gi_cons 10 rfl rfl (gi_cons 11 rfl rfl (gi_cons 12 rfl rfl (gi_cons 13 rfl rfl (gi_cons 14 rfl rfl (gi_cons 15 rfl rfl (gi_cons 16 rfl rfl (gi_cons 100 rfl rfl (gi_cons 101 rfl rfl (gi_cons 102 rfl rfl (gi_cons 103 rfl rfl (gi_cons 104 rfl rfl (gi_cons 105 rfl rfl (gi_cons 106 rfl rfl (gi_cons 107 rfl rfl (gi_cons 108 rfl rfl (gi_cons 109 rfl rfl (gi_cons 110 rfl rfl (gi_cons 111 rfl rfl (gi_cons 112 rfl rfl (gi_cons 113 rfl rfl (gi_cons 114 rfl rfl (gi_cons 115 rfl rfl (gi_cons 116 rfl rfl (gi_cons 117 rfl rfl (gi_cons 118 rfl rfl (gi_cons 119 rfl rfl (gi_cons 120 rfl rfl (gi_cons 121 rfl rfl (gi_cons 122 rfl rfl (gi_cons 123 rfl rfl (gi_cons 124 rfl rfl (gi_cons 125 rfl rfl (gi_cons 126 rfl rfl (gi_cons 127 rfl rfl (gi_cons 128 rfl rfl (gi_cons 129 rfl rfl gi_nil)))))))))))))))))))))))))))))))))))))))))
set_option maxRecDepth 20000 in
theorem gX10_told_X10_mustBeThere : GoodIn wsX10_told (wsV RX10 195 RX10 yX10_mustBeThere wsX10_mustBeThere) := goodIn_app (goodIn_of _ (by decide +kernel)) ggX10_told_X10_mustBeThere
set_option maxRecDepth 100000 in
theorem ggX10_told_X7_clear : GoodIn wsX10_told wsX7_clear := (gi_cons 21 rfl rfl (gi_cons 22 rfl rfl (gi_cons 130 rfl rfl (gi_cons 131 rfl rfl gi_nil))))
set_option maxRecDepth 20000 in
theorem gX10_told_X7_clear : GoodIn wsX10_told (wsV RX10 239 RX7 yX7_clear wsX7_clear) := goodIn_app (goodIn_of _ (by decide +kernel)) ggX10_told_X7_clear
set_option maxRecDepth 100000 in
theorem ggX10_told_X7_writePath : GoodIn wsX10_told wsX7_writePath := (gi_cons 26 rfl rfl (gi_cons 27 rfl rfl (gi_cons 28 rfl rfl (gi_cons 29 rfl rfl (gi_cons 13 rfl rfl (gi_cons 30 rfl rfl (gi_cons 15 rfl rfl (gi_cons 31 rfl rfl (gi_cons 32 rfl rfl (gi_cons 33 rfl rfl (gi_cons 34 rfl rfl (gi_cons 35 rfl rfl (gi_cons 36 rfl rfl (gi_cons 37 rfl rfl (gi_cons 38 rfl rfl (gi_cons 39 rfl rfl (gi_cons 40 rfl rfl (gi_cons 41 rfl rfl (gi_cons 42 rfl rfl (gi_cons 43 rfl rfl (gi_cons 16 rfl rfl (gi_cons 44 rfl rfl (gi_cons 45 rfl rfl (gi_cons 46 rfl rfl (gi_cons 20 rfl rfl (gi_cons 47 rfl rfl (gi_cons 22 rfl rfl (gi_cons 48 rfl rfl (gi_cons 49 rfl rfl (gi_cons 50 rfl rfl (gi_cons 51 rfl rfl (gi_cons 52 rfl rfl (gi_cons 53 rfl rfl (gi_cons 54 rfl rfl (gi_cons 55 rfl rfl (gi_cons 56 rfl rfl (gi_cons 57 rfl rfl (gi_cons 58 rfl rfl (gi_cons 59 rfl rfl (gi_cons 60 rfl rfl (gi_cons 61 rfl rfl (gi_cons 62 rfl rfl (gi_cons 63 rfl rfl (gi_cons 64 rfl rfl (gi_cons 65 rfl rfl (gi_cons 66 rfl rfl (gi_cons 67 rfl rfl (gi_cons 68 rfl rfl (gi_cons 69 rfl rfl (gi_cons 125 rfl rfl (gi_cons 126 rfl rfl (gi_cons 127 rfl rfl (gi_cons 128 rfl rfl (gi_cons 129 rfl rfl (gi_cons 130 rfl rfl (gi_cons 131 rfl rfl gi_nil))))))))))))))))))))))))))))))))))))))))))))))))))))))))
set_option maxRecDepth 20000 in
theorem gX10_told_X7_writePath : GoodIn wsX10_told (wsV RX10 242 RX7 yX7_writePath wsX7_writePath) := goodIn_app (goodIn_of _ (by decide +kernel)) ggX10_told_X7_writePath
set_option maxRecDepth 100000 in
theorem ggX10_told_X7_writeThing : GoodIn wsX10_told wsX7_writeThing := (gi_cons 73 rfl rfl (gi_cons 40 rfl rfl (gi_cons 41 rfl rfl (gi_cons 42 rfl rfl (gi_cons 13 rfl rfl (gi_cons 43 rfl rfl (gi_cons 15 rfl rfl (gi_cons 16 rfl rfl (gi_cons 74 rfl rfl (gi_cons 75 rfl rfl (gi_cons 76 rfl rfl (gi_cons 77 rfl rfl (gi_cons 78 rfl rfl (gi_cons 62 rfl rfl (gi_cons 63 rfl rfl (gi_cons 64 rfl rfl (gi_cons 20 rfl rfl (gi_cons 65 rfl rfl (gi_cons 66 rfl rfl (gi_cons 67 rfl rfl (gi_cons 68 rfl rfl (gi_cons 69 rfl rfl (gi_cons 44 rfl rfl (gi_cons 45 rfl rfl (gi_cons 46 rfl rfl (gi_cons 47 rfl rfl (gi_cons 22 rfl rfl (gi_cons 48 rfl rfl (gi_cons 54 rfl rfl (gi_cons 55 rfl rfl (gi_cons 56 rfl rfl (gi_cons 57 rfl rfl (gi_cons 79 rfl rfl (gi_cons 80 rfl rfl (gi_cons 81 rfl rfl (gi_cons 82 rfl rfl (gi_cons 83 rfl rfl (gi_cons 84 rfl rfl (gi_cons 85 rfl rfl (gi_cons 86 rfl rfl (gi_cons 31 rfl rfl (gi_cons 49 rfl rfl (gi_cons 50 rfl rfl (gi_cons 51 rfl rfl (gi_cons 52 rfl rfl (gi_cons 53 rfl rfl (gi_cons 87 rfl rfl (gi_cons 71 rfl rfl (gi_cons 72 rfl rfl (gi_cons 88 rfl rfl (gi_cons 89 rfl rfl (gi_cons 90 rfl rfl (gi_cons 91 rfl rfl (gi_cons 125 rfl rfl (gi_cons 126 rfl rfl (gi_cons 127 rfl rfl (gi_cons 128 rfl rfl (gi_cons 129 rfl rfl (gi_cons 130 rfl rfl (gi_cons 131 rfl rfl gi_nil))))))))))))))))))))))))))))))))))))))))))))))))))))))))))))
set_option maxRecDepth 20000 in
theorem gX10_told_X7_writeThing : GoodIn wsX10_told (wsV RX10 246 RX7 yX7_writeThing wsX7_writeThing) := goodIn_app (goodIn_of _ (by decide +kernel)) ggX10_told_X7_writeThing
set_option maxRecDepth 100000 in
theorem ggX10_told_X10_ofText : GoodIn wsX10_told wsX10_ofText := by
  refine goodIn_ca ?_ (goodIn_sub (fun _ h => List.mem_cons_of_mem _ (List.mem_append_right _ h)) (by decide +kernel))
  exact (gi_cons 95 rfl rfl (gi_cons 8 rfl rfl (gi_cons 9 rfl rfl (gi_cons 1 rfl rfl (gi_cons 96 rfl rfl (gi_cons 97 rfl rfl (gi_cons 98 rfl rfl (gi_cons 20 rfl rfl (gi_cons 99 rfl rfl (gi_cons 22 rfl rfl (gi_cons 48 rfl rfl (gi_cons 100 rfl rfl (gi_cons 101 rfl rfl (gi_cons 102 rfl rfl (gi_cons 103 rfl rfl (gi_cons 104 rfl rfl (gi_cons 105 rfl rfl (gi_cons 106 rfl rfl (gi_cons 107 rfl rfl (gi_cons 108 rfl rfl (gi_cons 109 rfl rfl (gi_cons 110 rfl rfl (gi_cons 111 rfl rfl (gi_cons 112 rfl rfl (gi_cons 113 rfl rfl (gi_cons 114 rfl rfl (gi_cons 115 rfl rfl (gi_cons 116 rfl rfl (gi_cons 117 rfl rfl (gi_cons 130 rfl rfl (gi_cons 131 rfl rfl gi_nil)))))))))))))))))))))))))))))))
set_option maxRecDepth 20000 in
theorem gX10_told_X10_ofText : GoodIn wsX10_told (wsV RX10 250 RX10 yX10_ofText wsX10_ofText) := goodIn_app (goodIn_of _ (by decide +kernel)) ggX10_told_X10_ofText
theorem dX10_told_0 : decode cX10_told 0 = .ok (.aload_n 0, 1) := by decide +kernel
theorem dX10_told_1 : decode cX10_told 1 = .ok (.iload_n 1, 1) := by decide +kernel
theorem dX10_told_2 : decode cX10_told 2 = .ok (.invokevirtual 195, 3) := by decide +kernel
theorem dX10_told_5 : decode cX10_told 5 = .ok (.aload_n 0, 1) := by decide +kernel
theorem dX10_told_6 : decode cX10_told 6 = .ok (.getfield 92, 3) := by decide +kernel
theorem dX10_told_9 : decode cX10_told 9 = .ok (.invokevirtual 239, 3) := by decide +kernel
theorem dX10_told_12 : decode cX10_told 12 = .ok (.iload_n 2, 1) := by decide +kernel
theorem dX10_told_13 : decode cX10_told 13 = .ok (.ifCond .eq 21, 3) := by decide +kernel
theorem dX10_told_16 : decode cX10_told 16 = .ok (.aload_n 0, 1) := by decide +kernel
theorem dX10_told_17 : decode cX10_told 17 = .ok (.getfield 92, 3) := by decide +kernel
theorem dX10_told_20 : decode cX10_told 20 = .ok (.aload_n 0, 1) := by decide +kernel
theorem dX10_told_21 : decode cX10_told 21 = .ok (.getfield 63, 3) := by decide +kernel
theorem dX10_told_24 : decode cX10_told 24 = .ok (.getfield 107, 3) := by decide +kernel
theorem dX10_told_27 : decode cX10_told 27 = .ok (.iload_n 1, 1) := by decide +kernel
theorem dX10_told_28 : decode cX10_told 28 = .ok (.invokevirtual 242, 3) := by decide +kernel
theorem dX10_told_31 : decode cX10_told 31 = .ok (.goto 19, 3) := by decide +kernel
theorem dX10_told_34 : decode cX10_told 34 = .ok (.aload_n 0, 1) := by decide +kernel
theorem dX10_told_35 : decode cX10_told 35 = .ok (.getfield 92, 3) := by decide +kernel
theorem dX10_told_38 : decode cX10_told 38 = .ok (.aload_n 0, 1) := by decide +kernel
theorem dX10_told_39 : decode cX10_told 39 = .ok (.getfield 63, 3) := by decide +kernel
theorem dX10_told_42 : decode cX10_told 42 = .ok (.getfield 107, 3) := by decide +kernel
theorem dX10_told_45 : decode cX10_told 45 = .ok (.iload_n 1, 1) := by decide +kernel
theorem dX10_told_46 : decode cX10_told 46 = .ok (.iconst 0, 1) := by decide +kernel
theorem dX10_told_47 : decode cX10_told 47 = .ok (.invokevirtual 246, 3) := by decide +kernel
theorem dX10_told_50 : decode cX10_told 50 = .ok (.aload_n 0, 1) := by decide +kernel
theorem dX10_told_51 : decode cX10_told 51 = .ok (.iload_n 3, 1) := by decide +kernel
theorem dX10_told_52 : decode cX10_told 52 = .ok (.invokevirtual 250, 3) := by decide +kernel
theorem dX10_told_55 : decode cX10_told 55 = .ok (.ireturn, 1) := by decide +kernel
set_option maxRecDepth 100000 in
theorem ggX10_alike_X10_mustBeThere : GoodIn wsX10_alike wsX10_mustBeThere := by
  refine goodIn_ca ?_ (goodIn_sub (fun _ h => List.mem_cons_of_mem _ (List.mem_append_right _ h)) (by decide +kernel))
  exact (gi_cons 6 rfl rfl (gi_cons 7 rfl rfl (gi_cons 8 rfl rfl (gi_cons 1 rfl rfl (gi_cons 9 rfl rfl (gi_cons 10 rfl rfl (gi_cons 11 rfl rfl (gi_cons 12 rfl rfl (gi_cons 13 rfl rfl (gi_cons 14 rfl rfl (gi_cons 15 rfl rfl (gi_cons 52 rfl rfl (gi_cons 53 rfl rfl (gi_cons 54 rfl rfl (gi_cons 55 rfl rfl (gi_cons 56 rfl rfl (gi_cons 57 rfl rfl (gi_cons 58 rfl rfl (gi_cons 59 rfl rfl (gi_cons 60 rfl rfl (gi_cons 61 rfl rfl (gi_cons 62 rfl rfl (gi_cons 63 rfl rfl (gi_cons 64 rfl rfl (gi_cons 65 rfl rfl (gi_cons 66 rfl rfl (gi_cons 67 rfl rfl (gi_cons 68 rfl rfl (gi_cons 69 rfl rfl (gi_cons 70 rfl rfl (gi_cons 71 rfl rfl (gi_cons 72 rfl rfl (gi_cons 73 rfl rfl (gi_cons 74 rfl rfl (gi_cons 75 rfl rfl (gi_cons 76 rfl rfl (gi_cons 77 rfl rfl (gi_cons 78 rfl rfl (gi_cons 79 rfl rfl (gi_cons 80 rfl rfl (gi_cons 81 rfl rfl gi_nil)))))))))))))))))))))))))))))))))))))))))
set_option maxRecDepth 20000 in
theorem gX10_alike_X10_mustBeThere : GoodIn wsX10_alike (wsV RX10 195 RX10 yX10_mustBeThere wsX10_mustBeThere) := goodIn_app (goodIn_of _ (by decide +kernel)) ggX10_alike_X10_mustBeThere
set_option maxRecDepth 100000 in
theorem ggX10_alike_X9_like : GoodIn wsX10_alike wsX9_like := (gi_cons 19 rfl rfl (gi_cons 20 rfl rfl (gi_cons 21 rfl rfl (gi_cons 22 rfl rfl (gi_cons 12 rfl rfl (gi_cons 23 rfl rfl (gi_cons 14 rfl rfl (gi_cons 15 rfl rfl (gi_cons 24 rfl rfl (gi_cons 25 rfl rfl (gi_cons 26 rfl rfl (gi_cons 27 rfl rfl (gi_cons 28 rfl rfl (gi_cons 29 rfl rfl (gi_cons 30 rfl rfl (gi_cons 31 rfl rfl (gi_cons 32 rfl rfl (gi_cons 33 rfl rfl (gi_cons 34 rfl rfl (gi_cons 35 rfl rfl (gi_cons 36 rfl rfl (gi_cons 37 rfl rfl (gi_cons 38 rfl rfl (gi_cons 39 rfl rfl (gi_cons 40 rfl rfl (gi_cons 41 rfl rfl (gi_cons 42 rfl rfl (gi_cons 43 rfl rfl (gi_cons 44 rfl rfl (gi_cons 45 rfl rfl (gi_cons 46 rfl rfl (gi_cons 47 rfl rfl (gi_cons 48 rfl rfl (gi_cons 49 rfl rfl (gi_cons 50 rfl rfl (gi_cons 51 rfl rfl (gi_cons 17 rfl rfl (gi_cons 18 rfl rfl (gi_cons 77 rfl rfl (gi_cons 78 rfl rfl (gi_cons 79 rfl rfl (gi_cons 80 rfl rfl (gi_cons 81 rfl rfl gi_nil)))))))))))))))))))))))))))))))))))))))))))
set_option maxRecDepth 20000 in
theorem gX10_alike_X9_like : GoodIn wsX10_alike (wsV RX10 253 RX9 yX9_like wsX9_like) := goodIn_app (goodIn_of _ (by decide +kernel)) ggX10_alike_X9_like
theorem dX10_alike_0 : decode cX10_alike 0 = .ok (.aload_n 0, 1) := by decide +kernel
theorem dX10_alike_1 : decode cX10_alike 1 = .ok (.iload_n 1, 1) := by decide +kernel
theorem dX10_alike_2 : decode cX10_alike 2 = .ok (.invokevirtual 195, 3) := by decide +kernel
theorem dX10_alike_5 : decode cX10_alike 5 = .ok (.aload_n 0, 1) := by decide +kernel
theorem dX10_alike_6 : decode cX10_alike 6 = .ok (.iload_n 2, 1) := by decide +kernel
theorem dX10_alike_7 : decode cX10_alike 7 = .ok (.invokevirtual 195, 3) := by decide +kernel
theorem dX10_alike_10 : decode cX10_alike 10 = .ok (.aload_n 0, 1) := by decide +kernel
theorem dX10_alike_11 : decode cX10_alike 11 = .ok (.getfield 63, 3) := by decide +kernel
theorem dX10_alike_14 : decode cX10_alike 14 = .ok (.getfield 107, 3) := by decide +kernel
theorem dX10_alike_17 : decode cX10_alike 17 = .ok (.iload_n 1, 1) := by decide +kernel
theorem dX10_alike_18 : decode cX10_alike 18 = .ok (.aload_n 0, 1) := by decide +kernel
theorem dX10_alike_19 : decode cX10_alike 19 = .ok (.getfield 63, 3) := by decide +kernel
theorem dX10_alike_22 : decode cX10_alike 22 = .ok (.getfield 107, 3) := by decide +kernel
theorem dX10_alike_25 : decode cX10_alike 25 = .ok (.iload_n 2, 1) := by decide +kernel
theorem dX10_alike_26 : decode cX10_alike 26 = .ok (.iconst 0, 1) := by decide +kernel
theorem dX10_alike_27 : decode cX10_alike 27 = .ok (.invokevirtual 253, 3) := by decide +kernel
theorem dX10_alike_30 : decode cX10_alike 30 = .ok (.ifCond .eq 7, 3) := by decide +kernel
theorem dX10_alike_33 : decode cX10_alike 33 = .ok (.iconst 1, 1) := by decide +kernel
theorem dX10_alike_34 : decode cX10_alike 34 = .ok (.goto 4, 3) := by decide +kernel
theorem dX10_alike_37 : decode cX10_alike 37 = .ok (.iconst 0, 1) := by decide +kernel
theorem dX10_alike_38 : decode cX10_alike 38 = .ok (.ireturn, 1) := by decide +kernel
set_option maxRecDepth 100000 in
theorem ggX10_answer_X10_pathAt : GoodIn wsX10_answer wsX10_pathAt := (gi_cons 8 rfl rfl (gi_cons 9 rfl rfl (gi_cons 104 rfl rfl (gi_cons 105 rfl rfl (gi_cons 106 rfl rfl (gi_cons 107 rfl rfl (gi_cons 108 rfl rfl (gi_cons 109 rfl rfl (gi_cons 110 rfl rfl (gi_cons 111 rfl rfl (gi_cons 112 rfl rfl (gi_cons 113 rfl rfl (gi_cons 114 rfl rfl (gi_cons 115 rfl rfl (gi_cons 116 rfl rfl (gi_cons 117 rfl rfl (gi_cons 118 rfl rfl (gi_cons 119 rfl rfl (gi_cons 120 rfl rfl (gi_cons 121 rfl rfl gi_nil))))))))))))))))))))
set_option maxRecDepth 20000 in
theorem gX10_answer_X10_pathAt : GoodIn wsX10_answer (wsV RX10 257 RX10 yX10_pathAt wsX10_pathAt) := goodIn_app (goodIn_of _ (by decide +kernel)) ggX10_answer_X10_pathAt
set_option maxRecDepth 100000 in
theorem ggX10_answer_X4_answersIn : GoodIn wsX10_answer wsX4_answersIn := (gi_cons 14 rfl rfl (gi_cons 15 rfl rfl (gi_cons 16 rfl rfl (gi_cons 17 rfl rfl (gi_cons 18 rfl rfl (gi_cons 13 rfl rfl (gi_cons 19 rfl rfl (gi_cons 20 rfl rfl (gi_cons 21 rfl rfl (gi_cons 22 rfl rfl (gi_cons 23 rfl rfl (gi_cons 24 rfl rfl (gi_cons 25 rfl rfl (gi_cons 26 rfl rfl (gi_cons 27 rfl rfl (gi_cons 28 rfl rfl (gi_cons 29 rfl rfl (gi_cons 30 rfl rfl (gi_cons 31 rfl rfl (gi_cons 7 rfl rfl (gi_cons 32 rfl rfl (gi_cons 33 rfl rfl (gi_cons 34 rfl rfl (gi_cons 35 rfl rfl (gi_cons 36 rfl rfl (gi_cons 37 rfl rfl (gi_cons 38 rfl rfl (gi_cons 39 rfl rfl (gi_cons 40 rfl rfl (gi_cons 41 rfl rfl (gi_cons 42 rfl rfl (gi_cons 43 rfl rfl (gi_cons 44 rfl rfl (gi_cons 45 rfl rfl (gi_cons 46 rfl rfl (gi_cons 47 rfl rfl (gi_cons 48 rfl rfl (gi_cons 49 rfl rfl (gi_cons 50 rfl rfl (gi_cons 51 rfl rfl (gi_cons 52 rfl rfl (gi_cons 53 rfl rfl (gi_cons 54 rfl rfl (gi_cons 55 rfl rfl (gi_cons 56 rfl rfl (gi_cons 57 rfl rfl (gi_cons 58 rfl rfl (gi_cons 59 rfl rfl (gi_cons 60 rfl rfl (gi_cons 61 rfl rfl (gi_cons 62 rfl rfl (gi_cons 63 rfl rfl (gi_cons 64 rfl rfl (gi_cons 65 rfl rfl (gi_cons 66 rfl rfl (gi_cons 67 rfl rfl (gi_cons 68 rfl rfl (gi_cons 69 rfl rfl (gi_cons 70 rfl rfl (gi_cons 71 rfl rfl (gi_cons 72 rfl rfl (gi_cons 73 rfl rfl (gi_cons 74 rfl rfl (gi_cons 75 rfl rfl (gi_cons 76 rfl rfl (gi_cons 77 rfl rfl (gi_cons 78 rfl rfl (gi_cons 79 rfl rfl (gi_cons 80 rfl rfl (gi_cons 81 rfl rfl (gi_cons 82 rfl rfl (gi_cons 83 rfl rfl (gi_cons 84 rfl rfl (gi_cons 85 rfl rfl (gi_cons 86 rfl rfl (gi_cons 87 rfl rfl (gi_cons 88 rfl rfl (gi_cons 89 rfl rfl (gi_cons 129 rfl rfl (gi_cons 130 rfl rfl (gi_cons 131 rfl rfl (gi_cons 132 rfl rfl (gi_cons 133 rfl rfl (gi_cons 134 rfl rfl (gi_cons 135 rfl rfl (gi_cons 136 rfl rfl (gi_cons 137 rfl rfl (gi_cons 138 rfl rfl (gi_cons 139 rfl rfl (gi_cons 140 rfl rfl (gi_cons 141 rfl rfl (gi_cons 142 rfl rfl (gi_cons 143 rfl rfl (gi_cons 144 rfl rfl (gi_cons 145 rfl rfl (gi_cons 146 rfl rfl (gi_cons 147 rfl rfl gi_nil)))))))))))))))))))))))))))))))))))))))))))))))))))))))))))))))))))))))))))))))))))))))))))))))))
set_option maxRecDepth 20000 in
theorem gX10_answer_X4_answersIn : GoodIn wsX10_answer (wsV RX10 263 RX4 yX4_answersIn wsX4_answersIn) := goodIn_app (goodIn_of _ (by decide +kernel)) ggX10_answer_X4_answersIn
set_option maxRecDepth 100000 in
theorem ggX10_answer_J13_bitCount_95d88 : GoodIn wsX10_answer wsJ13_bitCount_95d88 := (gi_cons 93 rfl rfl (gi_cons 94 rfl rfl (gi_cons 95 rfl rfl (gi_cons 96 rfl rfl gi_nil))))
set_option maxRecDepth 20000 in
theorem gX10_answer_J13_bitCount_95d88 : GoodIn wsX10_answer (va_wsS RX10 267 yJ13_bitCount_95d88 wsJ13_bitCount_95d88) := goodIn_app (goodIn_of _ (by decide +kernel)) ggX10_answer_J13_bitCount_95d88
set_option maxRecDepth 100000 in
theorem ggX10_answer_X10_nthOf : GoodIn wsX10_answer wsX10_nthOf := (gi_cons 99 rfl rfl (gi_cons 100 rfl rfl (gi_cons 101 rfl rfl (gi_cons 7 rfl rfl (gi_cons 102 rfl rfl (gi_cons 103 rfl rfl (gi_cons 31 rfl rfl (gi_cons 32 rfl rfl gi_nil))))))))
set_option maxRecDepth 20000 in
theorem gX10_answer_X10_nthOf : GoodIn wsX10_answer (va_wsS RX10 273 yX10_nthOf wsX10_nthOf) := goodIn_app (goodIn_of _ (by decide +kernel)) ggX10_answer_X10_nthOf
theorem dX10_answer_0 : decode cX10_answer 0 = .ok (.aload_n 0, 1) := by decide +kernel
theorem dX10_answer_1 : decode cX10_answer 1 = .ok (.iload_n 1, 1) := by decide +kernel
theorem dX10_answer_2 : decode cX10_answer 2 = .ok (.invokevirtual 257, 3) := by decide +kernel
theorem dX10_answer_5 : decode cX10_answer 5 = .ok (.astore_n 3, 1) := by decide +kernel
theorem dX10_answer_6 : decode cX10_answer 6 = .ok (.aload_n 3, 1) := by decide +kernel
theorem dX10_answer_7 : decode cX10_answer 7 = .ok (.ifnonnull 14, 3) := by decide +kernel
theorem dX10_answer_10 : decode cX10_answer 10 = .ok (.new 149, 3) := by decide +kernel
theorem dX10_answer_13 : decode cX10_answer 13 = .ok (.dup, 1) := by decide +kernel
theorem dX10_answer_14 : decode cX10_answer 14 = .ok (.ldc_w 261, 3) := by decide +kernel
theorem dX10_answer_17 : decode cX10_answer 17 = .ok (.invokespecial 153, 3) := by decide +kernel
theorem dX10_answer_20 : decode cX10_answer 20 = .ok (.athrow, 1) := by decide +kernel
theorem dX10_answer_21 : decode cX10_answer 21 = .ok (.aload_n 3, 1) := by decide +kernel
theorem dX10_answer_22 : decode cX10_answer 22 = .ok (.aload_n 0, 1) := by decide +kernel
theorem dX10_answer_23 : decode cX10_answer 23 = .ok (.getfield 63, 3) := by decide +kernel
theorem dX10_answer_26 : decode cX10_answer 26 = .ok (.getfield 107, 3) := by decide +kernel
theorem dX10_answer_29 : decode cX10_answer 29 = .ok (.bipush 8, 2) := by decide +kernel
theorem dX10_answer_31 : decode cX10_answer 31 = .ok (.invokevirtual 263, 3) := by decide +kernel
theorem dX10_answer_34 : decode cX10_answer 34 = .ok (.lstore 4, 2) := by decide +kernel
theorem dX10_answer_36 : decode cX10_answer 36 = .ok (.iload_n 2, 1) := by decide +kernel
theorem dX10_answer_37 : decode cX10_answer 37 = .ok (.iconst (-1), 1) := by decide +kernel
theorem dX10_answer_38 : decode cX10_answer 38 = .ok (.if_icmp .ne 9, 3) := by decide +kernel
theorem dX10_answer_41 : decode cX10_answer 41 = .ok (.lload 4, 2) := by decide +kernel
theorem dX10_answer_43 : decode cX10_answer 43 = .ok (.invokestatic 267, 3) := by decide +kernel
theorem dX10_answer_46 : decode cX10_answer 46 = .ok (.ireturn, 1) := by decide +kernel
theorem dX10_answer_47 : decode cX10_answer 47 = .ok (.lload 4, 2) := by decide +kernel
theorem dX10_answer_49 : decode cX10_answer 49 = .ok (.iload_n 2, 1) := by decide +kernel
theorem dX10_answer_50 : decode cX10_answer 50 = .ok (.invokestatic 273, 3) := by decide +kernel
theorem dX10_answer_53 : decode cX10_answer 53 = .ok (.istore 6, 2) := by decide +kernel
theorem dX10_answer_55 : decode cX10_answer 55 = .ok (.iload 6, 2) := by decide +kernel
theorem dX10_answer_57 : decode cX10_answer 57 = .ok (.iconst (-1), 1) := by decide +kernel
theorem dX10_answer_58 : decode cX10_answer 58 = .ok (.if_icmp .ne 14, 3) := by decide +kernel
theorem dX10_answer_61 : decode cX10_answer 61 = .ok (.new 149, 3) := by decide +kernel
theorem dX10_answer_64 : decode cX10_answer 64 = .ok (.dup, 1) := by decide +kernel
theorem dX10_answer_65 : decode cX10_answer 65 = .ok (.ldc_w 277, 3) := by decide +kernel
theorem dX10_answer_68 : decode cX10_answer 68 = .ok (.invokespecial 153, 3) := by decide +kernel
theorem dX10_answer_71 : decode cX10_answer 71 = .ok (.athrow, 1) := by decide +kernel
theorem dX10_answer_72 : decode cX10_answer 72 = .ok (.iload 6, 2) := by decide +kernel
theorem dX10_answer_74 : decode cX10_answer 74 = .ok (.ireturn, 1) := by decide +kernel
set_option maxRecDepth 100000 in
theorem ggX10_steps_X10_pathAt : GoodIn wsX10_steps wsX10_pathAt := (gi_cons 8 rfl rfl (gi_cons 9 rfl rfl (gi_cons 111 rfl rfl (gi_cons 112 rfl rfl (gi_cons 113 rfl rfl (gi_cons 114 rfl rfl (gi_cons 115 rfl rfl (gi_cons 116 rfl rfl (gi_cons 117 rfl rfl (gi_cons 118 rfl rfl (gi_cons 119 rfl rfl (gi_cons 120 rfl rfl (gi_cons 121 rfl rfl (gi_cons 122 rfl rfl (gi_cons 123 rfl rfl (gi_cons 124 rfl rfl (gi_cons 125 rfl rfl (gi_cons 126 rfl rfl (gi_cons 127 rfl rfl (gi_cons 128 rfl rfl gi_nil))))))))))))))))))))
set_option maxRecDepth 20000 in
theorem gX10_steps_X10_pathAt : GoodIn wsX10_steps (wsV RX10 257 RX10 yX10_pathAt wsX10_pathAt) := goodIn_app (goodIn_of _ (by decide +kernel)) ggX10_steps_X10_pathAt
set_option maxRecDepth 100000 in
theorem ggX10_steps_X4_answersIn : GoodIn wsX10_steps wsX4_answersIn := (gi_cons 14 rfl rfl (gi_cons 15 rfl rfl (gi_cons 16 rfl rfl (gi_cons 17 rfl rfl (gi_cons 18 rfl rfl (gi_cons 13 rfl rfl (gi_cons 19 rfl rfl (gi_cons 20 rfl rfl (gi_cons 21 rfl rfl (gi_cons 22 rfl rfl (gi_cons 23 rfl rfl (gi_cons 24 rfl rfl (gi_cons 25 rfl rfl (gi_cons 26 rfl rfl (gi_cons 27 rfl rfl (gi_cons 28 rfl rfl (gi_cons 29 rfl rfl (gi_cons 30 rfl rfl (gi_cons 31 rfl rfl (gi_cons 7 rfl rfl (gi_cons 32 rfl rfl (gi_cons 33 rfl rfl (gi_cons 34 rfl rfl (gi_cons 35 rfl rfl (gi_cons 36 rfl rfl (gi_cons 37 rfl rfl (gi_cons 38 rfl rfl (gi_cons 39 rfl rfl (gi_cons 40 rfl rfl (gi_cons 41 rfl rfl (gi_cons 42 rfl rfl (gi_cons 43 rfl rfl (gi_cons 44 rfl rfl (gi_cons 45 rfl rfl (gi_cons 46 rfl rfl (gi_cons 47 rfl rfl (gi_cons 48 rfl rfl (gi_cons 49 rfl rfl (gi_cons 50 rfl rfl (gi_cons 51 rfl rfl (gi_cons 52 rfl rfl (gi_cons 53 rfl rfl (gi_cons 54 rfl rfl (gi_cons 55 rfl rfl (gi_cons 56 rfl rfl (gi_cons 57 rfl rfl (gi_cons 58 rfl rfl (gi_cons 59 rfl rfl (gi_cons 60 rfl rfl (gi_cons 61 rfl rfl (gi_cons 62 rfl rfl (gi_cons 63 rfl rfl (gi_cons 64 rfl rfl (gi_cons 65 rfl rfl (gi_cons 66 rfl rfl (gi_cons 67 rfl rfl (gi_cons 68 rfl rfl (gi_cons 69 rfl rfl (gi_cons 70 rfl rfl (gi_cons 71 rfl rfl (gi_cons 72 rfl rfl (gi_cons 73 rfl rfl (gi_cons 74 rfl rfl (gi_cons 75 rfl rfl (gi_cons 76 rfl rfl (gi_cons 77 rfl rfl (gi_cons 78 rfl rfl (gi_cons 79 rfl rfl (gi_cons 80 rfl rfl (gi_cons 81 rfl rfl (gi_cons 82 rfl rfl (gi_cons 83 rfl rfl (gi_cons 84 rfl rfl (gi_cons 85 rfl rfl (gi_cons 86 rfl rfl (gi_cons 87 rfl rfl (gi_cons 88 rfl rfl (gi_cons 89 rfl rfl (gi_cons 97 rfl rfl (gi_cons 98 rfl rfl (gi_cons 99 rfl rfl (gi_cons 100 rfl rfl (gi_cons 101 rfl rfl (gi_cons 102 rfl rfl (gi_cons 103 rfl rfl (gi_cons 104 rfl rfl (gi_cons 105 rfl rfl (gi_cons 106 rfl rfl (gi_cons 107 rfl rfl (gi_cons 108 rfl rfl (gi_cons 109 rfl rfl (gi_cons 110 rfl rfl (gi_cons 136 rfl rfl (gi_cons 137 rfl rfl (gi_cons 138 rfl rfl (gi_cons 139 rfl rfl (gi_cons 140 rfl rfl gi_nil)))))))))))))))))))))))))))))))))))))))))))))))))))))))))))))))))))))))))))))))))))))))))))))))))
set_option maxRecDepth 20000 in
theorem gX10_steps_X4_answersIn : GoodIn wsX10_steps (wsV RX10 263 RX4 yX4_answersIn wsX4_answersIn) := goodIn_app (goodIn_of _ (by decide +kernel)) ggX10_steps_X4_answersIn
set_option maxRecDepth 100000 in
theorem ggX10_steps_J13_bitCount_95d88 : GoodIn wsX10_steps wsJ13_bitCount_95d88 := (gi_cons 93 rfl rfl (gi_cons 94 rfl rfl (gi_cons 95 rfl rfl (gi_cons 96 rfl rfl gi_nil))))
set_option maxRecDepth 20000 in
theorem gX10_steps_J13_bitCount_95d88 : GoodIn wsX10_steps (va_wsS RX10 267 yJ13_bitCount_95d88 wsJ13_bitCount_95d88) := goodIn_app (goodIn_of _ (by decide +kernel)) ggX10_steps_J13_bitCount_95d88
theorem dX10_steps_0 : decode cX10_steps 0 = .ok (.aload_n 0, 1) := by decide +kernel
theorem dX10_steps_1 : decode cX10_steps 1 = .ok (.iload_n 1, 1) := by decide +kernel
theorem dX10_steps_2 : decode cX10_steps 2 = .ok (.invokevirtual 257, 3) := by decide +kernel
theorem dX10_steps_5 : decode cX10_steps 5 = .ok (.astore_n 3, 1) := by decide +kernel
theorem dX10_steps_6 : decode cX10_steps 6 = .ok (.aload_n 3, 1) := by decide +kernel
theorem dX10_steps_7 : decode cX10_steps 7 = .ok (.ifnonnull 14, 3) := by decide +kernel
theorem dX10_steps_10 : decode cX10_steps 10 = .ok (.new 149, 3) := by decide +kernel
theorem dX10_steps_13 : decode cX10_steps 13 = .ok (.dup, 1) := by decide +kernel
theorem dX10_steps_14 : decode cX10_steps 14 = .ok (.ldc_w 261, 3) := by decide +kernel
theorem dX10_steps_17 : decode cX10_steps 17 = .ok (.invokespecial 153, 3) := by decide +kernel
theorem dX10_steps_20 : decode cX10_steps 20 = .ok (.athrow, 1) := by decide +kernel
theorem dX10_steps_21 : decode cX10_steps 21 = .ok (.iload_n 2, 1) := by decide +kernel
theorem dX10_steps_22 : decode cX10_steps 22 = .ok (.iconst (-1), 1) := by decide +kernel
theorem dX10_steps_23 : decode cX10_steps 23 = .ok (.if_icmp .ne 8, 3) := by decide +kernel
theorem dX10_steps_26 : decode cX10_steps 26 = .ok (.aload_n 3, 1) := by decide +kernel
theorem dX10_steps_27 : decode cX10_steps 27 = .ok (.getfield 279, 3) := by decide +kernel
theorem dX10_steps_30 : decode cX10_steps 30 = .ok (.ireturn, 1) := by decide +kernel
theorem dX10_steps_31 : decode cX10_steps 31 = .ok (.iload_n 2, 1) := by decide +kernel
theorem dX10_steps_32 : decode cX10_steps 32 = .ok (.ifCond .lt 11, 3) := by decide +kernel
theorem dX10_steps_35 : decode cX10_steps 35 = .ok (.iload_n 2, 1) := by decide +kernel
theorem dX10_steps_36 : decode cX10_steps 36 = .ok (.aload_n 3, 1) := by decide +kernel
theorem dX10_steps_37 : decode cX10_steps 37 = .ok (.getfield 279, 3) := by decide +kernel
theorem dX10_steps_40 : decode cX10_steps 40 = .ok (.if_icmp .lt 14, 3) := by decide +kernel
theorem dX10_steps_43 : decode cX10_steps 43 = .ok (.new 149, 3) := by decide +kernel
theorem dX10_steps_46 : decode cX10_steps 46 = .ok (.dup, 1) := by decide +kernel
theorem dX10_steps_47 : decode cX10_steps 47 = .ok (.ldc_w 282, 3) := by decide +kernel
theorem dX10_steps_50 : decode cX10_steps 50 = .ok (.invokespecial 153, 3) := by decide +kernel
theorem dX10_steps_53 : decode cX10_steps 53 = .ok (.athrow, 1) := by decide +kernel
theorem dX10_steps_54 : decode cX10_steps 54 = .ok (.aload_n 3, 1) := by decide +kernel
theorem dX10_steps_55 : decode cX10_steps 55 = .ok (.aload_n 0, 1) := by decide +kernel
theorem dX10_steps_56 : decode cX10_steps 56 = .ok (.getfield 63, 3) := by decide +kernel
theorem dX10_steps_59 : decode cX10_steps 59 = .ok (.getfield 107, 3) := by decide +kernel
theorem dX10_steps_62 : decode cX10_steps 62 = .ok (.iload_n 2, 1) := by decide +kernel
theorem dX10_steps_63 : decode cX10_steps 63 = .ok (.iconst 1, 1) := by decide +kernel
theorem dX10_steps_64 : decode cX10_steps 64 = .ok (.iadd, 1) := by decide +kernel
theorem dX10_steps_65 : decode cX10_steps 65 = .ok (.invokevirtual 263, 3) := by decide +kernel
theorem dX10_steps_68 : decode cX10_steps 68 = .ok (.invokestatic 267, 3) := by decide +kernel
theorem dX10_steps_71 : decode cX10_steps 71 = .ok (.ireturn, 1) := by decide +kernel
set_option maxRecDepth 100000 in
theorem ggX10_row_X3_kindOf : GoodIn wsX10_row wsX3_kindOf := (gi_cons 8 rfl rfl (gi_cons 9 rfl rfl (gi_cons 10 rfl rfl (gi_cons 11 rfl rfl (gi_cons 7 rfl rfl (gi_cons 12 rfl rfl (gi_cons 13 rfl rfl (gi_cons 14 rfl rfl (gi_cons 15 rfl rfl (gi_cons 16 rfl rfl (gi_cons 17 rfl rfl (gi_cons 18 rfl rfl (gi_cons 19 rfl rfl (gi_cons 67 rfl rfl (gi_cons 68 rfl rfl (gi_cons 69 rfl rfl (gi_cons 70 rfl rfl (gi_cons 71 rfl rfl gi_nil))))))))))))))))))
set_option maxRecDepth 20000 in
theorem gX10_row_X3_kindOf : GoodIn wsX10_row (wsV RX10 286 RX3 yX3_kindOf wsX3_kindOf) := goodIn_app (goodIn_of _ (by decide +kernel)) ggX10_row_X3_kindOf
set_option maxRecDepth 100000 in
theorem ggX10_row_X3_stepsOf : GoodIn wsX10_row wsX3_stepsOf := (gi_cons 23 rfl rfl (gi_cons 24 rfl rfl (gi_cons 25 rfl rfl (gi_cons 9 rfl rfl (gi_cons 10 rfl rfl (gi_cons 11 rfl rfl (gi_cons 7 rfl rfl (gi_cons 12 rfl rfl (gi_cons 13 rfl rfl (gi_cons 14 rfl rfl (gi_cons 15 rfl rfl (gi_cons 16 rfl rfl (gi_cons 17 rfl rfl (gi_cons 18 rfl rfl (gi_cons 19 rfl rfl (gi_cons 26 rfl rfl (gi_cons 27 rfl rfl (gi_cons 28 rfl rfl (gi_cons 29 rfl rfl (gi_cons 30 rfl rfl (gi_cons 31 rfl rfl (gi_cons 32 rfl rfl (gi_cons 67 rfl rfl (gi_cons 68 rfl rfl (gi_cons 69 rfl rfl (gi_cons 70 rfl rfl (gi_cons 71 rfl rfl (gi_cons 72 rfl rfl (gi_cons 73 rfl rfl (gi_cons 74 rfl rfl (gi_cons 75 rfl rfl (gi_cons 76 rfl rfl gi_nil))))))))))))))))))))))))))))))))
set_option maxRecDepth 20000 in
theorem gX10_row_X3_stepsOf : GoodIn wsX10_row (wsV RX10 289 RX3 yX3_stepsOf wsX3_stepsOf) := goodIn_app (goodIn_of _ (by decide +kernel)) ggX10_row_X3_stepsOf
set_option maxRecDepth 100000 in
theorem ggX10_row_X3_thingsBefore : GoodIn wsX10_row wsX3_thingsBefore := (gi_cons 36 rfl rfl (gi_cons 25 rfl rfl (gi_cons 9 rfl rfl (gi_cons 10 rfl rfl (gi_cons 11 rfl rfl (gi_cons 7 rfl rfl (gi_cons 12 rfl rfl (gi_cons 13 rfl rfl (gi_cons 14 rfl rfl (gi_cons 37 rfl rfl (gi_cons 38 rfl rfl (gi_cons 39 rfl rfl (gi_cons 29 rfl rfl (gi_cons 40 rfl rfl (gi_cons 31 rfl rfl (gi_cons 41 rfl rfl (gi_cons 42 rfl rfl (gi_cons 43 rfl rfl (gi_cons 44 rfl rfl (gi_cons 32 rfl rfl (gi_cons 67 rfl rfl (gi_cons 68 rfl rfl (gi_cons 69 rfl rfl (gi_cons 70 rfl rfl (gi_cons 71 rfl rfl (gi_cons 72 rfl rfl (gi_cons 73 rfl rfl (gi_cons 74 rfl rfl (gi_cons 75 rfl rfl (gi_cons 76 rfl rfl gi_nil))))))))))))))))))))))))))))))
set_option maxRecDepth 20000 in
theorem gX10_row_X3_thingsBefore : GoodIn wsX10_row (wsV RX10 292 RX3 yX3_thingsBefore wsX3_thingsBefore) := goodIn_app (goodIn_of _ (by decide +kernel)) ggX10_row_X3_thingsBefore
set_option maxRecDepth 100000 in
theorem ggX10_row_X3_thingsAfter : GoodIn wsX10_row wsX3_thingsAfter := (gi_cons 48 rfl rfl (gi_cons 24 rfl rfl (gi_cons 15 rfl rfl (gi_cons 16 rfl rfl (gi_cons 17 rfl rfl (gi_cons 7 rfl rfl (gi_cons 18 rfl rfl (gi_cons 13 rfl rfl (gi_cons 19 rfl rfl (gi_cons 37 rfl rfl (gi_cons 38 rfl rfl (gi_cons 39 rfl rfl (gi_cons 29 rfl rfl (gi_cons 40 rfl rfl (gi_cons 31 rfl rfl (gi_cons 41 rfl rfl (gi_cons 42 rfl rfl (gi_cons 43 rfl rfl (gi_cons 44 rfl rfl (gi_cons 32 rfl rfl (gi_cons 67 rfl rfl (gi_cons 68 rfl rfl (gi_cons 69 rfl rfl (gi_cons 70 rfl rfl (gi_cons 71 rfl rfl (gi_cons 72 rfl rfl (gi_cons 73 rfl rfl (gi_cons 74 rfl rfl (gi_cons 75 rfl rfl (gi_cons 76 rfl rfl gi_nil))))))))))))))))))))))))))))))
set_option maxRecDepth 20000 in
theorem gX10_row_X3_thingsAfter : GoodIn wsX10_row (wsV RX10 295 RX3 yX3_thingsAfter wsX3_thingsAfter) := goodIn_app (goodIn_of _ (by decide +kernel)) ggX10_row_X3_thingsAfter
theorem dX10_row_0 : decode cX10_row 0 = .ok (.iload_n 1, 1) := by decide +kernel
theorem dX10_row_1 : decode cX10_row 1 = .ok (.ifCond .lt 14, 3) := by decide +kernel
theorem dX10_row_4 : decode cX10_row 4 = .ok (.iload_n 1, 1) := by decide +kernel
theorem dX10_row_5 : decode cX10_row 5 = .ok (.aload_n 0, 1) := by decide +kernel
theorem dX10_row_6 : decode cX10_row 6 = .ok (.getfield 82, 3) := by decide +kernel
theorem dX10_row_9 : decode cX10_row 9 = .ok (.getfield 177, 3) := by decide +kernel
theorem dX10_row_12 : decode cX10_row 12 = .ok (.if_icmp .lt 14, 3) := by decide +kernel
theorem dX10_row_15 : decode cX10_row 15 = .ok (.new 149, 3) := by decide +kernel
theorem dX10_row_18 : decode cX10_row 18 = .ok (.dup, 1) := by decide +kernel
theorem dX10_row_19 : decode cX10_row 19 = .ok (.ldc_w 284, 3) := by decide +kernel
theorem dX10_row_22 : decode cX10_row 22 = .ok (.invokespecial 153, 3) := by decide +kernel
theorem dX10_row_25 : decode cX10_row 25 = .ok (.athrow, 1) := by decide +kernel
theorem dX10_row_26 : decode cX10_row 26 = .ok (.iload_n 2, 1) := by decide +kernel
theorem dX10_row_27 : decode cX10_row 27 = .ok (.tableswitch 65 0 3 #[29, 38, 47, 56], 29) := by decide +kernel
theorem dX10_row_56 : decode cX10_row 56 = .ok (.aload_n 0, 1) := by decide +kernel
theorem dX10_row_57 : decode cX10_row 57 = .ok (.getfield 82, 3) := by decide +kernel
theorem dX10_row_60 : decode cX10_row 60 = .ok (.iload_n 1, 1) := by decide +kernel
theorem dX10_row_61 : decode cX10_row 61 = .ok (.invokevirtual 286, 3) := by decide +kernel
theorem dX10_row_64 : decode cX10_row 64 = .ok (.ireturn, 1) := by decide +kernel
theorem dX10_row_65 : decode cX10_row 65 = .ok (.aload_n 0, 1) := by decide +kernel
theorem dX10_row_66 : decode cX10_row 66 = .ok (.getfield 82, 3) := by decide +kernel
theorem dX10_row_69 : decode cX10_row 69 = .ok (.iload_n 1, 1) := by decide +kernel
theorem dX10_row_70 : decode cX10_row 70 = .ok (.invokevirtual 289, 3) := by decide +kernel
theorem dX10_row_73 : decode cX10_row 73 = .ok (.ireturn, 1) := by decide +kernel
theorem dX10_row_74 : decode cX10_row 74 = .ok (.aload_n 0, 1) := by decide +kernel
theorem dX10_row_75 : decode cX10_row 75 = .ok (.getfield 82, 3) := by decide +kernel
theorem dX10_row_78 : decode cX10_row 78 = .ok (.iload_n 1, 1) := by decide +kernel
theorem dX10_row_79 : decode cX10_row 79 = .ok (.invokevirtual 292, 3) := by decide +kernel
theorem dX10_row_82 : decode cX10_row 82 = .ok (.ireturn, 1) := by decide +kernel
theorem dX10_row_83 : decode cX10_row 83 = .ok (.aload_n 0, 1) := by decide +kernel
theorem dX10_row_84 : decode cX10_row 84 = .ok (.getfield 82, 3) := by decide +kernel
theorem dX10_row_87 : decode cX10_row 87 = .ok (.iload_n 1, 1) := by decide +kernel
theorem dX10_row_88 : decode cX10_row 88 = .ok (.invokevirtual 295, 3) := by decide +kernel
theorem dX10_row_91 : decode cX10_row 91 = .ok (.ireturn, 1) := by decide +kernel
theorem dX10_row_92 : decode cX10_row 92 = .ok (.new 149, 3) := by decide +kernel
theorem dX10_row_95 : decode cX10_row 95 = .ok (.dup, 1) := by decide +kernel
theorem dX10_row_96 : decode cX10_row 96 = .ok (.ldc_w 298, 3) := by decide +kernel
theorem dX10_row_99 : decode cX10_row 99 = .ok (.invokespecial 153, 3) := by decide +kernel
theorem dX10_row_102 : decode cX10_row 102 = .ok (.athrow, 1) := by decide +kernel
set_option maxRecDepth 100000 in
theorem ggX10_rowText_X3_tellRow : GoodIn wsX10_rowText wsX3_tellRow := (gi_cons 9 rfl rfl (gi_cons 10 rfl rfl (gi_cons 11 rfl rfl (gi_cons 12 rfl rfl (gi_cons 13 rfl rfl (gi_cons 14 rfl rfl (gi_cons 8 rfl rfl (gi_cons 15 rfl rfl (gi_cons 16 rfl rfl (gi_cons 17 rfl rfl (gi_cons 18 rfl rfl (gi_cons 19 rfl rfl (gi_cons 20 rfl rfl (gi_cons 21 rfl rfl (gi_cons 22 rfl rfl (gi_cons 23 rfl rfl (gi_cons 24 rfl rfl (gi_cons 25 rfl rfl (gi_cons 26 rfl rfl (gi_cons 27 rfl rfl (gi_cons 28 rfl rfl (gi_cons 29 rfl rfl (gi_cons 30 rfl rfl (gi_cons 31 rfl rfl (gi_cons 32 rfl rfl (gi_cons 33 rfl rfl (gi_cons 34 rfl rfl (gi_cons 35 rfl rfl (gi_cons 36 rfl rfl (gi_cons 37 rfl rfl (gi_cons 38 rfl rfl (gi_cons 39 rfl rfl (gi_cons 40 rfl rfl (gi_cons 41 rfl rfl (gi_cons 42 rfl rfl (gi_cons 43 rfl rfl (gi_cons 44 rfl rfl (gi_cons 45 rfl rfl (gi_cons 46 rfl rfl (gi_cons 47 rfl rfl (gi_cons 48 rfl rfl (gi_cons 49 rfl rfl (gi_cons 50 rfl rfl (gi_cons 51 rfl rfl (gi_cons 52 rfl rfl (gi_cons 53 rfl rfl (gi_cons 54 rfl rfl (gi_cons 55 rfl rfl (gi_cons 56 rfl rfl (gi_cons 57 rfl rfl (gi_cons 58 rfl rfl (gi_cons 59 rfl rfl (gi_cons 60 rfl rfl (gi_cons 61 rfl rfl (gi_cons 62 rfl rfl (gi_cons 63 rfl rfl (gi_cons 64 rfl rfl (gi_cons 65 rfl rfl (gi_cons 66 rfl rfl (gi_cons 67 rfl rfl (gi_cons 68 rfl rfl (gi_cons 69 rfl rfl (gi_cons 70 rfl rfl (gi_cons 71 rfl rfl (gi_cons 72 rfl rfl (gi_cons 73 rfl rfl (gi_cons 74 rfl rfl (gi_cons 75 rfl rfl (gi_cons 76 rfl rfl (gi_cons 77 rfl rfl (gi_cons 78 rfl rfl (gi_cons 79 rfl rfl (gi_cons 80 rfl rfl (gi_cons 81 rfl rfl (gi_cons 82 rfl rfl (gi_cons 83 rfl rfl (gi_cons 84 rfl rfl (gi_cons 85 rfl rfl (gi_cons 86 rfl rfl (gi_cons 87 rfl rfl (gi_cons 88 rfl rfl (gi_cons 89 rfl rfl (gi_cons 90 rfl rfl (gi_cons 91 rfl rfl (gi_cons 92 rfl rfl (gi_cons 93 rfl rfl (gi_cons 94 rfl rfl (gi_cons 95 rfl rfl (gi_cons 96 rfl rfl (gi_cons 97 rfl rfl (gi_cons 98 rfl rfl (gi_cons 99 rfl rfl (gi_cons 100 rfl rfl (gi_cons 101 rfl rfl (gi_cons 102 rfl rfl (gi_cons 103 rfl rfl (gi_cons 104 rfl rfl (gi_cons 105 rfl rfl (gi_cons 133 rfl rfl (gi_cons 134 rfl rfl (gi_cons 135 rfl rfl (gi_cons 136 rfl rfl (gi_cons 137 rfl rfl (gi_cons 138 rfl rfl (gi_cons 139 rfl rfl (gi_cons 140 rfl rfl (gi_cons 141 rfl rfl (gi_cons 142 rfl rfl (gi_cons 143 rfl rfl (gi_cons 144 rfl rfl gi_nil))))))))))))))))))))))))))))))))))))))))))))))))))))))))))))))))))))))))))))))))))))))))))))))))))))))))))))))
set_option maxRecDepth 20000 in
theorem gX10_rowText_X3_tellRow : GoodIn wsX10_rowText (wsV RX10 300 RX3 yX3_tellRow wsX3_tellRow) := goodIn_app (goodIn_of _ (by decide +kernel)) ggX10_rowText_X3_tellRow
set_option maxRecDepth 100000 in
theorem ggX10_rowText_X10_ofText : GoodIn wsX10_rowText wsX10_ofText := by
  refine goodIn_ca ?_ (goodIn_sub (fun _ h => List.mem_cons_of_mem _ (List.mem_append_right _ h)) (by decide +kernel))
  exact (gi_cons 110 rfl rfl (gi_cons 1 rfl rfl (gi_cons 2 rfl rfl (gi_cons 4 rfl rfl (gi_cons 111 rfl rfl (gi_cons 112 rfl rfl (gi_cons 113 rfl rfl (gi_cons 30 rfl rfl (gi_cons 114 rfl rfl (gi_cons 32 rfl rfl (gi_cons 37 rfl rfl (gi_cons 115 rfl rfl (gi_cons 116 rfl rfl (gi_cons 117 rfl rfl (gi_cons 118 rfl rfl (gi_cons 119 rfl rfl (gi_cons 120 rfl rfl (gi_cons 121 rfl rfl (gi_cons 122 rfl rfl (gi_cons 123 rfl rfl (gi_cons 124 rfl rfl (gi_cons 125 rfl rfl (gi_cons 126 rfl rfl (gi_cons 127 rfl rfl (gi_cons 128 rfl rfl (gi_cons 129 rfl rfl (gi_cons 130 rfl rfl (gi_cons 131 rfl rfl (gi_cons 132 rfl rfl (gi_cons 138 rfl rfl (gi_cons 139 rfl rfl gi_nil)))))))))))))))))))))))))))))))
set_option maxRecDepth 20000 in
theorem gX10_rowText_X10_ofText : GoodIn wsX10_rowText (wsV RX10 250 RX10 yX10_ofText wsX10_ofText) := goodIn_app (goodIn_of _ (by decide +kernel)) ggX10_rowText_X10_ofText
theorem dX10_rowText_0 : decode cX10_rowText 0 = .ok (.iload_n 1, 1) := by decide +kernel
theorem dX10_rowText_1 : decode cX10_rowText 1 = .ok (.ifCond .lt 14, 3) := by decide +kernel
theorem dX10_rowText_4 : decode cX10_rowText 4 = .ok (.iload_n 1, 1) := by decide +kernel
theorem dX10_rowText_5 : decode cX10_rowText 5 = .ok (.aload_n 0, 1) := by decide +kernel
theorem dX10_rowText_6 : decode cX10_rowText 6 = .ok (.getfield 82, 3) := by decide +kernel
theorem dX10_rowText_9 : decode cX10_rowText 9 = .ok (.getfield 177, 3) := by decide +kernel
theorem dX10_rowText_12 : decode cX10_rowText 12 = .ok (.if_icmp .lt 14, 3) := by decide +kernel
theorem dX10_rowText_15 : decode cX10_rowText 15 = .ok (.new 149, 3) := by decide +kernel
theorem dX10_rowText_18 : decode cX10_rowText 18 = .ok (.dup, 1) := by decide +kernel
theorem dX10_rowText_19 : decode cX10_rowText 19 = .ok (.ldc_w 284, 3) := by decide +kernel
theorem dX10_rowText_22 : decode cX10_rowText 22 = .ok (.invokespecial 153, 3) := by decide +kernel
theorem dX10_rowText_25 : decode cX10_rowText 25 = .ok (.athrow, 1) := by decide +kernel
theorem dX10_rowText_26 : decode cX10_rowText 26 = .ok (.aload_n 0, 1) := by decide +kernel
theorem dX10_rowText_27 : decode cX10_rowText 27 = .ok (.getfield 82, 3) := by decide +kernel
theorem dX10_rowText_30 : decode cX10_rowText 30 = .ok (.iload_n 1, 1) := by decide +kernel
theorem dX10_rowText_31 : decode cX10_rowText 31 = .ok (.aload_n 0, 1) := by decide +kernel
theorem dX10_rowText_32 : decode cX10_rowText 32 = .ok (.getfield 92, 3) := by decide +kernel
theorem dX10_rowText_35 : decode cX10_rowText 35 = .ok (.invokevirtual 300, 3) := by decide +kernel
theorem dX10_rowText_38 : decode cX10_rowText 38 = .ok (.aload_n 0, 1) := by decide +kernel
theorem dX10_rowText_39 : decode cX10_rowText 39 = .ok (.iload_n 2, 1) := by decide +kernel
theorem dX10_rowText_40 : decode cX10_rowText 40 = .ok (.invokevirtual 250, 3) := by decide +kernel
theorem dX10_rowText_43 : decode cX10_rowText 43 = .ok (.ireturn, 1) := by decide +kernel
set_option maxRecDepth 100000 in
theorem ggX10_years_X2_begin : GoodIn wsX10_years wsX2_begin := (gi_cons 11 rfl rfl (gi_cons 12 rfl rfl (gi_cons 299 rfl rfl gi_nil)))
set_option maxRecDepth 20000 in
theorem gX10_years_X2_begin : GoodIn wsX10_years (wsV RX10 367 RX2 yX2_begin wsX2_begin) := goodIn_app (goodIn_of _ (by decide +kernel)) ggX10_years_X2_begin
set_option maxRecDepth 100000 in
theorem ggX10_years_X10_oneYear : GoodIn wsX10_years wsX10_oneYear := (gi_cons 17 rfl rfl (gi_cons 5 rfl rfl (gi_cons 6 rfl rfl (gi_cons 18 rfl rfl (gi_cons 19 rfl rfl (gi_cons 20 rfl rfl (gi_cons 21 rfl rfl (gi_cons 10 rfl rfl (gi_cons 22 rfl rfl (gi_cons 12 rfl rfl (gi_cons 23 rfl rfl (gi_cons 24 rfl rfl (gi_cons 25 rfl rfl (gi_cons 26 rfl rfl (gi_cons 16 rfl rfl (gi_cons 27 rfl rfl (gi_cons 28 rfl rfl (gi_cons 29 rfl rfl (gi_cons 30 rfl rfl (gi_cons 31 rfl rfl (gi_cons 32 rfl rfl (gi_cons 33 rfl rfl (gi_cons 34 rfl rfl (gi_cons 35 rfl rfl (gi_cons 36 rfl rfl (gi_cons 37 rfl rfl (gi_cons 38 rfl rfl (gi_cons 39 rfl rfl (gi_cons 40 rfl rfl (gi_cons 41 rfl rfl (gi_cons 42 rfl rfl (gi_cons 43 rfl rfl (gi_cons 44 rfl rfl (gi_cons 45 rfl rfl (gi_cons 46 rfl rfl (gi_cons 47 rfl rfl (gi_cons 48 rfl rfl (gi_cons 49 rfl rfl (gi_cons 50 rfl rfl (gi_cons 51 rfl rfl (gi_cons 52 rfl rfl (gi_cons 53 rfl rfl (gi_cons 54 rfl rfl (gi_cons 55 rfl rfl (gi_cons 56 rfl rfl (gi_cons 57 rfl rfl (gi_cons 58 rfl rfl (gi_cons 59 rfl rfl (gi_cons 60 rfl rfl (gi_cons 61 rfl rfl (gi_cons 62 rfl rfl (gi_cons 63 rfl rfl (gi_cons 64 rfl rfl (gi_cons 65 rfl rfl (gi_cons 66 rfl rfl (gi_cons 67 rfl rfl (gi_cons 68 rfl rfl (gi_cons 69 rfl rfl (gi_cons 70 rfl rfl (gi_cons 71 rfl rfl (gi_cons 72 rfl rfl (gi_cons 73 rfl rfl (gi_cons 74 rfl rfl (gi_cons 75 rfl rfl (gi_cons 76 rfl rfl (gi_cons 77 rfl rfl (gi_cons 78 rfl rfl (gi_cons 79 rfl rfl (gi_cons 80 rfl rfl (gi_cons 81 rfl rfl (gi_cons 82 rfl rfl (gi_cons 83 rfl rfl (gi_cons 84 rfl rfl (gi_cons 85 rfl rfl (gi_cons 86 rfl rfl (gi_cons 87 rfl rfl (gi_cons 88 rfl rfl (gi_cons 89 rfl rfl (gi_cons 90 rfl rfl (gi_cons 91 rfl rfl (gi_cons 92 rfl rfl (gi_cons 93 rfl rfl (gi_cons 94 rfl rfl (gi_cons 95 rfl rfl (gi_cons 96 rfl rfl (gi_cons 97 rfl rfl (gi_cons 98 rfl rfl (gi_cons 99 rfl rfl (gi_cons 100 rfl rfl (gi_cons 101 rfl rfl (gi_cons 102 rfl rfl (gi_cons 103 rfl rfl (gi_cons 104 rfl rfl (gi_cons 105 rfl rfl (gi_cons 106 rfl rfl (gi_cons 107 rfl rfl (gi_cons 108 rfl rfl (gi_cons 109 rfl rfl (gi_cons 110 rfl rfl (gi_cons 111 rfl rfl (gi_cons 112 rfl rfl (gi_cons 113 rfl rfl (gi_cons 114 rfl rfl (gi_cons 115 rfl rfl (gi_cons 116 rfl rfl (gi_cons 117 rfl rfl (gi_cons 118 rfl rfl (gi_cons 119 rfl rfl (gi_cons 120 rfl rfl (gi_cons 121 rfl rfl (gi_cons 122 rfl rfl (gi_cons 123 rfl rfl (gi_cons 124 rfl rfl (gi_cons 125 rfl rfl (gi_cons 126 rfl rfl (gi_cons 127 rfl rfl (gi_cons 128 rfl rfl (gi_cons 129 rfl rfl (gi_cons 130 rfl rfl (gi_cons 131 rfl rfl (gi_cons 132 rfl rfl (gi_cons 133 rfl rfl (gi_cons 134 rfl rfl (gi_cons 135 rfl rfl (gi_cons 136 rfl rfl (gi_cons 137 rfl rfl (gi_cons 138 rfl rfl (gi_cons 139 rfl rfl (gi_cons 140 rfl rfl (gi_cons 141 rfl rfl (gi_cons 142 rfl rfl (gi_cons 143 rfl rfl (gi_cons 144 rfl rfl (gi_cons 145 rfl rfl (gi_cons 146 rfl rfl (gi_cons 147 rfl rfl (gi_cons 148 rfl rfl (gi_cons 149 rfl rfl (gi_cons 150 rfl rfl (gi_cons 151 rfl rfl (gi_cons 152 rfl rfl (gi_cons 153 rfl rfl (gi_cons 154 rfl rfl (gi_cons 155 rfl rfl (gi_cons 156 rfl rfl (gi_cons 157 rfl rfl (gi_cons 158 rfl rfl (gi_cons 159 rfl rfl (gi_cons 160 rfl rfl (gi_cons 161 rfl rfl (gi_cons 162 rfl rfl (gi_cons 163 rfl rfl (gi_cons 164 rfl rfl (gi_cons 165 rfl rfl (gi_cons 166 rfl rfl (gi_cons 167 rfl rfl (gi_cons 168 rfl rfl (gi_cons 169 rfl rfl (gi_cons 170 rfl rfl (gi_cons 171 rfl rfl (gi_cons 172 rfl rfl (gi_cons 173 rfl rfl (gi_cons 174 rfl rfl (gi_cons 175 rfl rfl (gi_cons 176 rfl rfl (gi_cons 177 rfl rfl (gi_cons 178 rfl rfl (gi_cons 179 rfl rfl (gi_cons 180 rfl rfl (gi_cons 181 rfl rfl (gi_cons 182 rfl rfl (gi_cons 183 rfl rfl (gi_cons 184 rfl rfl (gi_cons 185 rfl rfl (gi_cons 186 rfl rfl (gi_cons 187 rfl rfl (gi_cons 188 rfl rfl (gi_cons 189 rfl rfl (gi_cons 190 rfl rfl (gi_cons 191 rfl rfl (gi_cons 192 rfl rfl (gi_cons 193 rfl rfl (gi_cons 194 rfl rfl (gi_cons 195 rfl rfl (gi_cons 196 rfl rfl (gi_cons 197 rfl rfl (gi_cons 198 rfl rfl (gi_cons 199 rfl rfl (gi_cons 200 rfl rfl (gi_cons 201 rfl rfl (gi_cons 202 rfl rfl (gi_cons 203 rfl rfl (gi_cons 204 rfl rfl (gi_cons 205 rfl rfl (gi_cons 206 rfl rfl (gi_cons 207 rfl rfl (gi_cons 208 rfl rfl (gi_cons 209 rfl rfl (gi_cons 210 rfl rfl (gi_cons 211 rfl rfl (gi_cons 212 rfl rfl (gi_cons 213 rfl rfl (gi_cons 214 rfl rfl (gi_cons 215 rfl rfl (gi_cons 216 rfl rfl (gi_cons 217 rfl rfl (gi_cons 218 rfl rfl (gi_cons 219 rfl rfl (gi_cons 220 rfl rfl (gi_cons 221 rfl rfl (gi_cons 222 rfl rfl (gi_cons 223 rfl rfl (gi_cons 224 rfl rfl (gi_cons 225 rfl rfl (gi_cons 226 rfl rfl (gi_cons 227 rfl rfl (gi_cons 228 rfl rfl (gi_cons 229 rfl rfl (gi_cons 230 rfl rfl (gi_cons 231 rfl rfl (gi_cons 232 rfl rfl (gi_cons 233 rfl rfl (gi_cons 234 rfl rfl (gi_cons 235 rfl rfl (gi_cons 236 rfl rfl (gi_cons 237 rfl rfl (gi_cons 238 rfl rfl (gi_cons 239 rfl rfl (gi_cons 240 rfl rfl (gi_cons 241 rfl rfl (gi_cons 242 rfl rfl (gi_cons 243 rfl rfl (gi_cons 244 rfl rfl (gi_cons 245 rfl rfl (gi_cons 246 rfl rfl (gi_cons 247 rfl rfl (gi_cons 248 rfl rfl (gi_cons 249 rfl rfl (gi_cons 250 rfl rfl (gi_cons 251 rfl rfl (gi_cons 252 rfl rfl (gi_cons 253 rfl rfl (gi_cons 254 rfl rfl (gi_cons 255 rfl rfl (gi_cons 256 rfl rfl (gi_cons 257 rfl rfl (gi_cons 258 rfl rfl (gi_cons 259 rfl rfl (gi_cons 260 rfl rfl (gi_cons 261 rfl rfl (gi_cons 262 rfl rfl (gi_cons 263 rfl rfl (gi_cons 264 rfl rfl (gi_cons 269 rfl rfl (gi_cons 270 rfl rfl (gi_cons 271 rfl rfl (gi_cons 272 rfl rfl (gi_cons 273 rfl rfl (gi_cons 274 rfl rfl (gi_cons 275 rfl rfl (gi_cons 276 rfl rfl (gi_cons 277 rfl rfl (gi_cons 278 rfl rfl (gi_cons 279 rfl rfl (gi_cons 280 rfl rfl (gi_cons 281 rfl rfl (gi_cons 282 rfl rfl (gi_cons 283 rfl rfl (gi_cons 284 rfl rfl (gi_cons 285 rfl rfl (gi_cons 286 rfl rfl (gi_cons 287 rfl rfl (gi_cons 288 rfl rfl (gi_cons 289 rfl rfl (gi_cons 290 rfl rfl (gi_cons 291 rfl rfl (gi_cons 292 rfl rfl (gi_cons 293 rfl rfl (gi_cons 294 rfl rfl (gi_cons 295 rfl rfl (gi_cons 296 rfl rfl (gi_cons 297 rfl rfl (gi_cons 298 rfl rfl (gi_cons 299 rfl rfl (gi_cons 300 rfl rfl (gi_cons 301 rfl rfl (gi_cons 302 rfl rfl (gi_cons 303 rfl rfl (gi_cons 304 rfl rfl (gi_cons 305 rfl rfl (gi_cons 306 rfl rfl (gi_cons 307 rfl rfl (gi_cons 308 rfl rfl (gi_cons 309 rfl rfl (gi_cons 310 rfl rfl (gi_cons 311 rfl rfl (gi_cons 312 rfl rfl (gi_cons 313 rfl rfl (gi_cons 314 rfl rfl (gi_cons 315 rfl rfl (gi_cons 316 rfl rfl (gi_cons 317 rfl rfl gi_nil))))))))))))))))))))))))))))))))))))))))))))))))))))))))))))))))))))))))))))))))))))))))))))))))))))))))))))))))))))))))))))))))))))))))))))))))))))))))))))))))))))))))))))))))))))))))))))))))))))))))))))))))))))))))))))))))))))))))))))))))))))))))))))))))))))))))))))))))))))))))))))))))))))))))))))))
set_option maxRecDepth 20000 in
theorem gX10_years_X10_oneYear : GoodIn wsX10_years (wsV RX10 370 RX10 yX10_oneYear wsX10_oneYear) := goodIn_app (goodIn_of _ (by decide +kernel)) ggX10_years_X10_oneYear
set_option maxRecDepth 100000 in
theorem ggX10_years_X9_sum : GoodIn wsX10_years wsX9_sum := (gi_cons 268 rfl rfl (gi_cons 50 rfl rfl (gi_cons 51 rfl rfl (gi_cons 112 rfl rfl (gi_cons 294 rfl rfl (gi_cons 295 rfl rfl (gi_cons 296 rfl rfl (gi_cons 297 rfl rfl (gi_cons 298 rfl rfl gi_nil)))))))))
set_option maxRecDepth 20000 in
theorem gX10_years_X9_sum : GoodIn wsX10_years (wsV RX10 187 RX9 yX9_sum wsX9_sum) := goodIn_app (goodIn_of _ (by decide +kernel)) ggX10_years_X9_sum
theorem dX10_years_0 : decode cX10_years 0 = .ok (.iload_n 3, 1) := by decide +kernel
theorem dX10_years_1 : decode cX10_years 1 = .ok (.ifCond .lt 8, 3) := by decide +kernel
theorem dX10_years_4 : decode cX10_years 4 = .ok (.iload_n 3, 1) := by decide +kernel
theorem dX10_years_5 : decode cX10_years 5 = .ok (.iconst 2, 1) := by decide +kernel
theorem dX10_years_6 : decode cX10_years 6 = .ok (.if_icmp .le 14, 3) := by decide +kernel
theorem dX10_years_9 : decode cX10_years 9 = .ok (.new 149, 3) := by decide +kernel
theorem dX10_years_12 : decode cX10_years 12 = .ok (.dup, 1) := by decide +kernel
theorem dX10_years_13 : decode cX10_years 13 = .ok (.ldc_w 363, 3) := by decide +kernel
theorem dX10_years_16 : decode cX10_years 16 = .ok (.invokespecial 153, 3) := by decide +kernel
theorem dX10_years_19 : decode cX10_years 19 = .ok (.athrow, 1) := by decide +kernel
theorem dX10_years_20 : decode cX10_years 20 = .ok (.iload_n 2, 1) := by decide +kernel
theorem dX10_years_21 : decode cX10_years 21 = .ok (.ifCond .lt 9, 3) := by decide +kernel
theorem dX10_years_24 : decode cX10_years 24 = .ok (.iload_n 2, 1) := by decide +kernel
theorem dX10_years_25 : decode cX10_years 25 = .ok (.bipush 20, 2) := by decide +kernel
theorem dX10_years_27 : decode cX10_years 27 = .ok (.if_icmp .le 14, 3) := by decide +kernel
theorem dX10_years_30 : decode cX10_years 30 = .ok (.new 124, 3) := by decide +kernel
theorem dX10_years_33 : decode cX10_years 33 = .ok (.dup, 1) := by decide +kernel
theorem dX10_years_34 : decode cX10_years 34 = .ok (.ldc_w 365, 3) := by decide +kernel
theorem dX10_years_37 : decode cX10_years 37 = .ok (.invokespecial 128, 3) := by decide +kernel
theorem dX10_years_40 : decode cX10_years 40 = .ok (.athrow, 1) := by decide +kernel
theorem dX10_years_41 : decode cX10_years 41 = .ok (.aload_n 0, 1) := by decide +kernel
theorem dX10_years_42 : decode cX10_years 42 = .ok (.getfield 103, 3) := by decide +kernel
theorem dX10_years_45 : decode cX10_years 45 = .ok (.iload_n 1, 1) := by decide +kernel
theorem dX10_years_46 : decode cX10_years 46 = .ok (.invokevirtual 367, 3) := by decide +kernel
theorem dX10_years_49 : decode cX10_years 49 = .ok (.iconst 0, 1) := by decide +kernel
theorem dX10_years_50 : decode cX10_years 50 = .ok (.istore 4, 2) := by decide +kernel
theorem dX10_years_52 : decode cX10_years 52 = .ok (.iconst 0, 1) := by decide +kernel
theorem dX10_years_53 : decode cX10_years 53 = .ok (.istore 5, 2) := by decide +kernel
theorem dX10_years_55 : decode cX10_years 55 = .ok (.iload 5, 2) := by decide +kernel
theorem dX10_years_57 : decode cX10_years 57 = .ok (.iload_n 2, 1) := by decide +kernel
theorem dX10_years_58 : decode cX10_years 58 = .ok (.if_icmp .ge 20, 3) := by decide +kernel
theorem dX10_years_61 : decode cX10_years 61 = .ok (.aload_n 0, 1) := by decide +kernel
theorem dX10_years_62 : decode cX10_years 62 = .ok (.invokevirtual 370, 3) := by decide +kernel
theorem dX10_years_65 : decode cX10_years 65 = .ok (.iconst (-1), 1) := by decide +kernel
theorem dX10_years_66 : decode cX10_years 66 = .ok (.if_icmp .eq 6, 3) := by decide +kernel
theorem dX10_years_69 : decode cX10_years 69 = .ok (.iinc 4 1, 3) := by decide +kernel
theorem dX10_years_72 : decode cX10_years 72 = .ok (.iinc 5 1, 3) := by decide +kernel
theorem dX10_years_75 : decode cX10_years 75 = .ok (.goto (-20), 3) := by decide +kernel
theorem dX10_years_78 : decode cX10_years 78 = .ok (.iload_n 3, 1) := by decide +kernel
theorem dX10_years_79 : decode cX10_years 79 = .ok (.iconst 2, 1) := by decide +kernel
theorem dX10_years_80 : decode cX10_years 80 = .ok (.if_icmp .ne 6, 3) := by decide +kernel
theorem dX10_years_83 : decode cX10_years 83 = .ok (.iload 4, 2) := by decide +kernel
theorem dX10_years_85 : decode cX10_years 85 = .ok (.ireturn, 1) := by decide +kernel
theorem dX10_years_86 : decode cX10_years 86 = .ok (.iload_n 3, 1) := by decide +kernel
theorem dX10_years_87 : decode cX10_years 87 = .ok (.ifCond .ne 16, 3) := by decide +kernel
theorem dX10_years_90 : decode cX10_years 90 = .ok (.aload_n 0, 1) := by decide +kernel
theorem dX10_years_91 : decode cX10_years 91 = .ok (.getfield 63, 3) := by decide +kernel
theorem dX10_years_94 : decode cX10_years 94 = .ok (.getfield 107, 3) := by decide +kernel
theorem dX10_years_97 : decode cX10_years 97 = .ok (.getfield 161, 3) := by decide +kernel
theorem dX10_years_100 : decode cX10_years 100 = .ok (.goto 13, 3) := by decide +kernel
theorem dX10_years_103 : decode cX10_years 103 = .ok (.aload_n 0, 1) := by decide +kernel
theorem dX10_years_104 : decode cX10_years 104 = .ok (.getfield 63, 3) := by decide +kernel
theorem dX10_years_107 : decode cX10_years 107 = .ok (.getfield 107, 3) := by decide +kernel
theorem dX10_years_110 : decode cX10_years 110 = .ok (.invokevirtual 187, 3) := by decide +kernel
theorem dX10_years_113 : decode cX10_years 113 = .ok (.ireturn, 1) := by decide +kernel
set_option maxRecDepth 100000 in
theorem ggX10_mustBeThere_X9_has : GoodIn wsX10_mustBeThere wsX9_has := (gi_cons 8 rfl rfl (gi_cons 9 rfl rfl (gi_cons 10 rfl rfl (gi_cons 36 rfl rfl (gi_cons 37 rfl rfl (gi_cons 38 rfl rfl (gi_cons 39 rfl rfl (gi_cons 40 rfl rfl gi_nil))))))))
set_option maxRecDepth 20000 in
theorem gX10_mustBeThere_X9_has : GoodIn wsX10_mustBeThere (wsV RX10 341 RX9 yX9_has wsX9_has) := goodIn_app (goodIn_of _ (by decide +kernel)) ggX10_mustBeThere_X9_has
theorem dX10_mustBeThere_0 : decode cX10_mustBeThere 0 = .ok (.aload_n 0, 1) := by decide +kernel
theorem dX10_mustBeThere_1 : decode cX10_mustBeThere 1 = .ok (.getfield 63, 3) := by decide +kernel
theorem dX10_mustBeThere_4 : decode cX10_mustBeThere 4 = .ok (.getfield 107, 3) := by decide +kernel
theorem dX10_mustBeThere_7 : decode cX10_mustBeThere 7 = .ok (.iload_n 1, 1) := by decide +kernel
theorem dX10_mustBeThere_8 : decode cX10_mustBeThere 8 = .ok (.invokevirtual 341, 3) := by decide +kernel
theorem dX10_mustBeThere_11 : decode cX10_mustBeThere 11 = .ok (.ifCond .ne 14, 3) := by decide +kernel
theorem dX10_mustBeThere_14 : decode cX10_mustBeThere 14 = .ok (.new 149, 3) := by decide +kernel
theorem dX10_mustBeThere_17 : decode cX10_mustBeThere 17 = .ok (.dup, 1) := by decide +kernel
theorem dX10_mustBeThere_18 : decode cX10_mustBeThere 18 = .ok (.ldc_w 404, 3) := by decide +kernel
theorem dX10_mustBeThere_21 : decode cX10_mustBeThere 21 = .ok (.invokespecial 153, 3) := by decide +kernel
theorem dX10_mustBeThere_24 : decode cX10_mustBeThere 24 = .ok (.athrow, 1) := by decide +kernel
theorem dX10_mustBeThere_25 : decode cX10_mustBeThere 25 = .ok (.return_, 1) := by decide +kernel
set_option maxRecDepth 100000 in
theorem ggX10_ofText_X7_byteAt : GoodIn wsX10_ofText wsX7_byteAt := (gi_cons 8 rfl rfl (gi_cons 9 rfl rfl (gi_cons 10 rfl rfl (gi_cons 29 rfl rfl (gi_cons 30 rfl rfl gi_nil)))))
set_option maxRecDepth 20000 in
theorem gX10_ofText_X7_byteAt : GoodIn wsX10_ofText (wsV RX10 411 RX7 yX7_byteAt wsX7_byteAt) := goodIn_app (goodIn_of _ (by decide +kernel)) ggX10_ofText_X7_byteAt
theorem dX10_ofText_0 : decode cX10_ofText 0 = .ok (.iload_n 1, 1) := by decide +kernel
theorem dX10_ofText_1 : decode cX10_ofText 1 = .ok (.iconst (-1), 1) := by decide +kernel
theorem dX10_ofText_2 : decode cX10_ofText 2 = .ok (.if_icmp .ne 11, 3) := by decide +kernel
theorem dX10_ofText_5 : decode cX10_ofText 5 = .ok (.aload_n 0, 1) := by decide +kernel
theorem dX10_ofText_6 : decode cX10_ofText 6 = .ok (.getfield 92, 3) := by decide +kernel
theorem dX10_ofText_9 : decode cX10_ofText 9 = .ok (.getfield 406, 3) := by decide +kernel
theorem dX10_ofText_12 : decode cX10_ofText 12 = .ok (.ireturn, 1) := by decide +kernel
theorem dX10_ofText_13 : decode cX10_ofText 13 = .ok (.iload_n 1, 1) := by decide +kernel
theorem dX10_ofText_14 : decode cX10_ofText 14 = .ok (.ifCond .lt 14, 3) := by decide +kernel
theorem dX10_ofText_17 : decode cX10_ofText 17 = .ok (.iload_n 1, 1) := by decide +kernel
theorem dX10_ofText_18 : decode cX10_ofText 18 = .ok (.aload_n 0, 1) := by decide +kernel
theorem dX10_ofText_19 : decode cX10_ofText 19 = .ok (.getfield 92, 3) := by decide +kernel
theorem dX10_ofText_22 : decode cX10_ofText 22 = .ok (.getfield 406, 3) := by decide +kernel
theorem dX10_ofText_25 : decode cX10_ofText 25 = .ok (.if_icmp .lt 14, 3) := by decide +kernel
theorem dX10_ofText_28 : decode cX10_ofText 28 = .ok (.new 149, 3) := by decide +kernel
theorem dX10_ofText_31 : decode cX10_ofText 31 = .ok (.dup, 1) := by decide +kernel
theorem dX10_ofText_32 : decode cX10_ofText 32 = .ok (.ldc_w 409, 3) := by decide +kernel
theorem dX10_ofText_35 : decode cX10_ofText 35 = .ok (.invokespecial 153, 3) := by decide +kernel
theorem dX10_ofText_38 : decode cX10_ofText 38 = .ok (.athrow, 1) := by decide +kernel
theorem dX10_ofText_39 : decode cX10_ofText 39 = .ok (.aload_n 0, 1) := by decide +kernel
theorem dX10_ofText_40 : decode cX10_ofText 40 = .ok (.getfield 92, 3) := by decide +kernel
theorem dX10_ofText_43 : decode cX10_ofText 43 = .ok (.iload_n 1, 1) := by decide +kernel
theorem dX10_ofText_44 : decode cX10_ofText 44 = .ok (.invokevirtual 411, 3) := by decide +kernel
theorem dX10_ofText_47 : decode cX10_ofText 47 = .ok (.ireturn, 1) := by decide +kernel
