set_option maxRecDepth 100000 in
theorem ggX11_little_X11_kind : GoodIn wsX11_little wsX11_kind := (gi_cons 70 rfl rfl gi_nil)
set_option maxRecDepth 20000 in
theorem gX11_little_X11_kind : GoodIn wsX11_little (va_wsS RX11 253 yX11_kind wsX11_kind) := goodIn_app (goodIn_of _ (by decide +kernel)) ggX11_little_X11_kind
set_option maxRecDepth 100000 in
theorem ggX11_little_X11_byKey : GoodIn wsX11_little wsX11_byKey := (gi_cons 73 rfl rfl (gi_cons 74 rfl rfl (gi_cons 75 rfl rfl (gi_cons 11 rfl rfl (gi_cons 76 rfl rfl gi_nil)))))
set_option maxRecDepth 20000 in
theorem gX11_little_X11_byKey : GoodIn wsX11_little (va_wsS RX11 260 yX11_byKey wsX11_byKey) := goodIn_app (goodIn_of _ (by decide +kernel)) ggX11_little_X11_byKey
set_option maxRecDepth 100000 in
theorem ggX11_little_X11_byPlace : GoodIn wsX11_little wsX11_byPlace := (gi_cons 79 rfl rfl (gi_cons 80 rfl rfl (gi_cons 81 rfl rfl (gi_cons 11 rfl rfl (gi_cons 82 rfl rfl (gi_cons 74 rfl rfl (gi_cons 75 rfl rfl (gi_cons 76 rfl rfl (gi_cons 83 rfl rfl (gi_cons 84 rfl rfl (gi_cons 85 rfl rfl gi_nil)))))))))))
set_option maxRecDepth 20000 in
theorem gX11_little_X11_byPlace : GoodIn wsX11_little (va_wsS RX11 307 yX11_byPlace wsX11_byPlace) := goodIn_app (goodIn_of _ (by decide +kernel)) ggX11_little_X11_byPlace
set_option maxRecDepth 100000 in
theorem ggX11_little_X11_compareWords : GoodIn wsX11_little wsX11_compareWords := (gi_cons 88 rfl rfl (gi_cons 89 rfl rfl (gi_cons 90 rfl rfl (gi_cons 11 rfl rfl (gi_cons 91 rfl rfl gi_nil)))))
set_option maxRecDepth 20000 in
theorem gX11_little_X11_compareWords : GoodIn wsX11_little (va_wsS RX11 331 yX11_compareWords wsX11_compareWords) := goodIn_app (goodIn_of _ (by decide +kernel)) ggX11_little_X11_compareWords
set_option maxRecDepth 100000 in
theorem ggX11_little_X11_isSigned : GoodIn wsX11_little wsX11_isSigned := (gi_cons 94 rfl rfl gi_nil)
set_option maxRecDepth 20000 in
theorem gX11_little_X11_isSigned : GoodIn wsX11_little (va_wsS RX11 334 yX11_isSigned wsX11_isSigned) := goodIn_app (goodIn_of _ (by decide +kernel)) ggX11_little_X11_isSigned
theorem dX11_little_124 : decode cX11_little 124 = .ok (.iload_n 2, 1) := by decide +kernel
theorem dX11_little_125 : decode cX11_little 125 = .ok (.ifCond .eq 31, 3) := by decide +kernel
theorem dX11_little_128 : decode cX11_little 128 = .ok (.aload_n 0, 1) := by decide +kernel
theorem dX11_little_129 : decode cX11_little 129 = .ok (.getfield 9, 3) := by decide +kernel
theorem dX11_little_132 : decode cX11_little 132 = .ok (.iload_n 1, 1) := by decide +kernel
theorem dX11_little_133 : decode cX11_little 133 = .ok (.invokestatic 253, 3) := by decide +kernel
theorem dX11_little_136 : decode cX11_little 136 = .ok (.iconst 3, 1) := by decide +kernel
theorem dX11_little_137 : decode cX11_little 137 = .ok (.if_icmp .ne 15, 3) := by decide +kernel
theorem dX11_little_140 : decode cX11_little 140 = .ok (.aload_n 0, 1) := by decide +kernel
theorem dX11_little_141 : decode cX11_little 141 = .ok (.getfield 9, 3) := by decide +kernel
theorem dX11_little_144 : decode cX11_little 144 = .ok (.iload_n 1, 1) := by decide +kernel
theorem dX11_little_145 : decode cX11_little 145 = .ok (.iload_n 3, 1) := by decide +kernel
theorem dX11_little_146 : decode cX11_little 146 = .ok (.invokestatic 260, 3) := by decide +kernel
theorem dX11_little_149 : decode cX11_little 149 = .ok (.goto 32, 3) := by decide +kernel
theorem dX11_little_152 : decode cX11_little 152 = .ok (.iconst (-1), 1) := by decide +kernel
theorem dX11_little_153 : decode cX11_little 153 = .ok (.goto 28, 3) := by decide +kernel
theorem dX11_little_156 : decode cX11_little 156 = .ok (.aload_n 0, 1) := by decide +kernel
theorem dX11_little_157 : decode cX11_little 157 = .ok (.getfield 9, 3) := by decide +kernel
theorem dX11_little_160 : decode cX11_little 160 = .ok (.iload_n 1, 1) := by decide +kernel
theorem dX11_little_161 : decode cX11_little 161 = .ok (.invokestatic 253, 3) := by decide +kernel
theorem dX11_little_164 : decode cX11_little 164 = .ok (.iconst 2, 1) := by decide +kernel
theorem dX11_little_165 : decode cX11_little 165 = .ok (.if_icmp .ne 15, 3) := by decide +kernel
theorem dX11_little_168 : decode cX11_little 168 = .ok (.aload_n 0, 1) := by decide +kernel
theorem dX11_little_169 : decode cX11_little 169 = .ok (.getfield 9, 3) := by decide +kernel
theorem dX11_little_172 : decode cX11_little 172 = .ok (.iload_n 1, 1) := by decide +kernel
theorem dX11_little_173 : decode cX11_little 173 = .ok (.iload_n 3, 1) := by decide +kernel
theorem dX11_little_174 : decode cX11_little 174 = .ok (.invokestatic 307, 3) := by decide +kernel
theorem dX11_little_177 : decode cX11_little 177 = .ok (.goto 4, 3) := by decide +kernel
theorem dX11_little_180 : decode cX11_little 180 = .ok (.iconst (-1), 1) := by decide +kernel
theorem dX11_little_181 : decode cX11_little 181 = .ok (.istore_n 1, 1) := by decide +kernel
theorem dX11_little_182 : decode cX11_little 182 = .ok (.goto (-121), 3) := by decide +kernel
theorem dX11_little_227 : decode cX11_little 227 = .ok (.iconst 1, 1) := by decide +kernel
theorem dX11_little_228 : decode cX11_little 228 = .ok (.goto 4, 3) := by decide +kernel
theorem dX11_little_284 : decode cX11_little 284 = .ok (.aload_n 0, 1) := by decide +kernel
theorem dX11_little_285 : decode cX11_little 285 = .ok (.getfield 9, 3) := by decide +kernel
theorem dX11_little_288 : decode cX11_little 288 = .ok (.iload_n 1, 1) := by decide +kernel
theorem dX11_little_289 : decode cX11_little 289 = .ok (.invokestatic 253, 3) := by decide +kernel
theorem dX11_little_292 : decode cX11_little 292 = .ok (.iload 4, 2) := by decide +kernel
theorem dX11_little_294 : decode cX11_little 294 = .ok (.ifCond .eq 7, 3) := by decide +kernel
theorem dX11_little_297 : decode cX11_little 297 = .ok (.iconst 1, 1) := by decide +kernel
theorem dX11_little_298 : decode cX11_little 298 = .ok (.goto 4, 3) := by decide +kernel
theorem dX11_little_301 : decode cX11_little 301 = .ok (.iconst 0, 1) := by decide +kernel
theorem dX11_little_302 : decode cX11_little 302 = .ok (.if_icmp .ne 50, 3) := by decide +kernel
theorem dX11_little_305 : decode cX11_little 305 = .ok (.iload_n 3, 1) := by decide +kernel
theorem dX11_little_306 : decode cX11_little 306 = .ok (.iload 4, 2) := by decide +kernel
theorem dX11_little_308 : decode cX11_little 308 = .ok (.ifCond .eq 21, 3) := by decide +kernel
theorem dX11_little_311 : decode cX11_little 311 = .ok (.aload_n 0, 1) := by decide +kernel
theorem dX11_little_312 : decode cX11_little 312 = .ok (.getfield 9, 3) := by decide +kernel
theorem dX11_little_315 : decode cX11_little 315 = .ok (.iconst 4, 1) := by decide +kernel
theorem dX11_little_316 : decode cX11_little 316 = .ok (.iload_n 1, 1) := by decide +kernel
theorem dX11_little_317 : decode cX11_little 317 = .ok (.imul, 1) := by decide +kernel
theorem dX11_little_318 : decode cX11_little 318 = .ok (.iconst 1, 1) := by decide +kernel
theorem dX11_little_319 : decode cX11_little 319 = .ok (.iadd, 1) := by decide +kernel
theorem dX11_little_320 : decode cX11_little 320 = .ok (.iaload, 1) := by decide +kernel
theorem dX11_little_321 : decode cX11_little 321 = .ok (.iload 5, 2) := by decide +kernel
theorem dX11_little_323 : decode cX11_little 323 = .ok (.invokestatic 331, 3) := by decide +kernel
theorem dX11_little_326 : decode cX11_little 326 = .ok (.goto 16, 3) := by decide +kernel
theorem dX11_little_329 : decode cX11_little 329 = .ok (.aload_n 0, 1) := by decide +kernel
theorem dX11_little_330 : decode cX11_little 330 = .ok (.getfield 9, 3) := by decide +kernel
theorem dX11_little_333 : decode cX11_little 333 = .ok (.iconst 4, 1) := by decide +kernel
theorem dX11_little_334 : decode cX11_little 334 = .ok (.iload_n 1, 1) := by decide +kernel
theorem dX11_little_335 : decode cX11_little 335 = .ok (.imul, 1) := by decide +kernel
theorem dX11_little_336 : decode cX11_little 336 = .ok (.iconst 1, 1) := by decide +kernel
theorem dX11_little_337 : decode cX11_little 337 = .ok (.iadd, 1) := by decide +kernel
theorem dX11_little_338 : decode cX11_little 338 = .ok (.iaload, 1) := by decide +kernel
theorem dX11_little_339 : decode cX11_little 339 = .ok (.iload 5, 2) := by decide +kernel
theorem dX11_little_341 : decode cX11_little 341 = .ok (.isub, 1) := by decide +kernel
theorem dX11_little_342 : decode cX11_little 342 = .ok (.invokestatic 334, 3) := by decide +kernel
theorem dX11_little_345 : decode cX11_little 345 = .ok (.ifCond .eq 7, 3) := by decide +kernel
theorem dX11_little_348 : decode cX11_little 348 = .ok (.iconst 1, 1) := by decide +kernel
theorem dX11_little_349 : decode cX11_little 349 = .ok (.goto 4, 3) := by decide +kernel
