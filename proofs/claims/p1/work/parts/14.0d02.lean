set_option maxRecDepth 20000 in
theorem gX11_count_X11_ofKind : GoodIn wsX11_count (wsV RX11 498 RX11 yX11_ofKind wsX11_ofKind) := goodIn_app (goodIn_of _ (by decide +kernel)) ggX11_count_X11_ofKind
set_option maxRecDepth 100000 in
theorem ggX11_count_X11_deepest : GoodIn wsX11_count wsX11_deepest := (gi_cons 24 rfl rfl (gi_cons 13 rfl rfl (gi_cons 25 rfl rfl (gi_cons 26 rfl rfl (gi_cons 27 rfl rfl (gi_cons 28 rfl rfl (gi_cons 8 rfl rfl (gi_cons 9 rfl rfl (gi_cons 10 rfl rfl (gi_cons 11 rfl rfl (gi_cons 12 rfl rfl (gi_cons 29 rfl rfl (gi_cons 30 rfl rfl (gi_cons 31 rfl rfl (gi_cons 32 rfl rfl (gi_cons 33 rfl rfl (gi_cons 34 rfl rfl (gi_cons 255 rfl rfl (gi_cons 256 rfl rfl (gi_cons 257 rfl rfl (gi_cons 258 rfl rfl (gi_cons 259 rfl rfl (gi_cons 260 rfl rfl (gi_cons 261 rfl rfl (gi_cons 262 rfl rfl (gi_cons 263 rfl rfl (gi_cons 264 rfl rfl (gi_cons 265 rfl rfl (gi_cons 266 rfl rfl (gi_cons 267 rfl rfl (gi_cons 268 rfl rfl (gi_cons 269 rfl rfl (gi_cons 270 rfl rfl (gi_cons 271 rfl rfl (gi_cons 272 rfl rfl (gi_cons 273 rfl rfl (gi_cons 274 rfl rfl (gi_cons 275 rfl rfl (gi_cons 276 rfl rfl (gi_cons 277 rfl rfl (gi_cons 278 rfl rfl (gi_cons 279 rfl rfl (gi_cons 280 rfl rfl (gi_cons 281 rfl rfl (gi_cons 282 rfl rfl (gi_cons 283 rfl rfl (gi_cons 284 rfl rfl (gi_cons 285 rfl rfl (gi_cons 286 rfl rfl (gi_cons 287 rfl rfl (gi_cons 288 rfl rfl (gi_cons 289 rfl rfl (gi_cons 290 rfl rfl (gi_cons 291 rfl rfl (gi_cons 292 rfl rfl (gi_cons 293 rfl rfl (gi_cons 294 rfl rfl (gi_cons 295 rfl rfl (gi_cons 296 rfl rfl (gi_cons 297 rfl rfl (gi_cons 298 rfl rfl (gi_cons 299 rfl rfl (gi_cons 300 rfl rfl (gi_cons 301 rfl rfl (gi_cons 302 rfl rfl (gi_cons 303 rfl rfl (gi_cons 304 rfl rfl (gi_cons 305 rfl rfl (gi_cons 306 rfl rfl (gi_cons 307 rfl rfl (gi_cons 308 rfl rfl (gi_cons 309 rfl rfl (gi_cons 310 rfl rfl (gi_cons 311 rfl rfl (gi_cons 312 rfl rfl (gi_cons 313 rfl rfl (gi_cons 314 rfl rfl (gi_cons 315 rfl rfl (gi_cons 316 rfl rfl (gi_cons 317 rfl rfl (gi_cons 318 rfl rfl (gi_cons 319 rfl rfl (gi_cons 320 rfl rfl gi_nil)))))))))))))))))))))))))))))))))))))))))))))))))))))))))))))))))))))))))))))))))))
set_option maxRecDepth 20000 in
theorem gX11_count_X11_deepest : GoodIn wsX11_count (wsV RX11 501 RX11 yX11_deepest wsX11_deepest) := goodIn_app (goodIn_of _ (by decide +kernel)) ggX11_count_X11_deepest
set_option maxRecDepth 100000 in
theorem ggX11_count_X11_pathSet : GoodIn wsX11_count wsX11_pathSet := (gi_cons 38 rfl rfl (gi_cons 39 rfl rfl (gi_cons 40 rfl rfl (gi_cons 41 rfl rfl (gi_cons 11 rfl rfl (gi_cons 42 rfl rfl (gi_cons 43 rfl rfl (gi_cons 44 rfl rfl (gi_cons 45 rfl rfl (gi_cons 46 rfl rfl (gi_cons 255 rfl rfl (gi_cons 256 rfl rfl (gi_cons 257 rfl rfl (gi_cons 258 rfl rfl (gi_cons 259 rfl rfl (gi_cons 260 rfl rfl (gi_cons 261 rfl rfl (gi_cons 262 rfl rfl (gi_cons 263 rfl rfl (gi_cons 264 rfl rfl (gi_cons 265 rfl rfl (gi_cons 266 rfl rfl (gi_cons 267 rfl rfl (gi_cons 268 rfl rfl (gi_cons 269 rfl rfl (gi_cons 270 rfl rfl (gi_cons 271 rfl rfl (gi_cons 272 rfl rfl (gi_cons 273 rfl rfl (gi_cons 274 rfl rfl (gi_cons 275 rfl rfl (gi_cons 276 rfl rfl (gi_cons 277 rfl rfl (gi_cons 278 rfl rfl (gi_cons 279 rfl rfl (gi_cons 280 rfl rfl (gi_cons 281 rfl rfl (gi_cons 282 rfl rfl (gi_cons 283 rfl rfl (gi_cons 284 rfl rfl (gi_cons 285 rfl rfl (gi_cons 286 rfl rfl (gi_cons 287 rfl rfl (gi_cons 288 rfl rfl (gi_cons 289 rfl rfl (gi_cons 290 rfl rfl (gi_cons 291 rfl rfl (gi_cons 292 rfl rfl (gi_cons 293 rfl rfl (gi_cons 294 rfl rfl (gi_cons 295 rfl rfl (gi_cons 296 rfl rfl (gi_cons 297 rfl rfl (gi_cons 298 rfl rfl (gi_cons 299 rfl rfl (gi_cons 300 rfl rfl (gi_cons 301 rfl rfl (gi_cons 302 rfl rfl (gi_cons 303 rfl rfl (gi_cons 304 rfl rfl (gi_cons 305 rfl rfl (gi_cons 306 rfl rfl (gi_cons 307 rfl rfl (gi_cons 308 rfl rfl (gi_cons 309 rfl rfl (gi_cons 310 rfl rfl (gi_cons 311 rfl rfl (gi_cons 312 rfl rfl (gi_cons 313 rfl rfl (gi_cons 314 rfl rfl (gi_cons 315 rfl rfl (gi_cons 316 rfl rfl (gi_cons 317 rfl rfl (gi_cons 318 rfl rfl (gi_cons 319 rfl rfl (gi_cons 320 rfl rfl gi_nil))))))))))))))))))))))))))))))))))))))))))))))))))))))))))))))))))))))))))))
set_option maxRecDepth 20000 in
theorem gX11_count_X11_pathSet : GoodIn wsX11_count (wsV RX11 504 RX11 yX11_pathSet wsX11_pathSet) := goodIn_app (goodIn_of _ (by decide +kernel)) ggX11_count_X11_pathSet
set_option maxRecDepth 100000 in
theorem ggX11_count_X11_unlike : GoodIn wsX11_count wsX11_unlike := (gi_cons 50 rfl rfl (gi_cons 13 rfl rfl (gi_cons 8 rfl rfl (gi_cons 9 rfl rfl (gi_cons 10 rfl rfl (gi_cons 11 rfl rfl (gi_cons 12 rfl rfl (gi_cons 51 rfl rfl (gi_cons 52 rfl rfl (gi_cons 53 rfl rfl (gi_cons 18 rfl rfl (gi_cons 19 rfl rfl (gi_cons 20 rfl rfl (gi_cons 32 rfl rfl (gi_cons 33 rfl rfl (gi_cons 34 rfl rfl (gi_cons 54 rfl rfl (gi_cons 55 rfl rfl (gi_cons 56 rfl rfl (gi_cons 57 rfl rfl (gi_cons 58 rfl rfl (gi_cons 59 rfl rfl (gi_cons 60 rfl rfl (gi_cons 61 rfl rfl (gi_cons 62 rfl rfl (gi_cons 63 rfl rfl (gi_cons 64 rfl rfl (gi_cons 65 rfl rfl (gi_cons 255 rfl rfl (gi_cons 256 rfl rfl (gi_cons 257 rfl rfl (gi_cons 258 rfl rfl (gi_cons 259 rfl rfl (gi_cons 260 rfl rfl (gi_cons 261 rfl rfl (gi_cons 262 rfl rfl (gi_cons 263 rfl rfl (gi_cons 264 rfl rfl (gi_cons 265 rfl rfl (gi_cons 266 rfl rfl (gi_cons 267 rfl rfl (gi_cons 268 rfl rfl (gi_cons 269 rfl rfl (gi_cons 270 rfl rfl (gi_cons 271 rfl rfl (gi_cons 272 rfl rfl (gi_cons 273 rfl rfl (gi_cons 274 rfl rfl (gi_cons 275 rfl rfl (gi_cons 276 rfl rfl (gi_cons 277 rfl rfl (gi_cons 278 rfl rfl (gi_cons 279 rfl rfl (gi_cons 280 rfl rfl (gi_cons 281 rfl rfl (gi_cons 282 rfl rfl (gi_cons 283 rfl rfl (gi_cons 284 rfl rfl (gi_cons 285 rfl rfl (gi_cons 286 rfl rfl (gi_cons 287 rfl rfl (gi_cons 288 rfl rfl (gi_cons 289 rfl rfl (gi_cons 290 rfl rfl (gi_cons 291 rfl rfl (gi_cons 292 rfl rfl (gi_cons 293 rfl rfl (gi_cons 294 rfl rfl (gi_cons 295 rfl rfl (gi_cons 296 rfl rfl (gi_cons 297 rfl rfl (gi_cons 298 rfl rfl (gi_cons 299 rfl rfl (gi_cons 300 rfl rfl (gi_cons 301 rfl rfl (gi_cons 302 rfl rfl (gi_cons 303 rfl rfl (gi_cons 304 rfl rfl (gi_cons 305 rfl rfl (gi_cons 306 rfl rfl (gi_cons 307 rfl rfl (gi_cons 308 rfl rfl (gi_cons 309 rfl rfl (gi_cons 310 rfl rfl (gi_cons 311 rfl rfl (gi_cons 312 rfl rfl (gi_cons 313 rfl rfl (gi_cons 314 rfl rfl (gi_cons 315 rfl rfl (gi_cons 316 rfl rfl (gi_cons 317 rfl rfl (gi_cons 318 rfl rfl (gi_cons 319 rfl rfl (gi_cons 320 rfl rfl gi_nil))))))))))))))))))))))))))))))))))))))))))))))))))))))))))))))))))))))))))))))))))))))))))))))
set_option maxRecDepth 20000 in
theorem gX11_count_X11_unlike : GoodIn wsX11_count (wsV RX11 507 RX11 yX11_unlike wsX11_unlike) := goodIn_app (goodIn_of _ (by decide +kernel)) ggX11_count_X11_unlike
set_option maxRecDepth 100000 in
theorem ggX11_count_X11_sum : GoodIn wsX11_count wsX11_sum := (gi_cons 102 rfl rfl (gi_cons 13 rfl rfl (gi_cons 8 rfl rfl (gi_cons 9 rfl rfl (gi_cons 10 rfl rfl (gi_cons 11 rfl rfl (gi_cons 12 rfl rfl (gi_cons 18 rfl rfl (gi_cons 19 rfl rfl (gi_cons 20 rfl rfl (gi_cons 255 rfl rfl (gi_cons 256 rfl rfl (gi_cons 257 rfl rfl (gi_cons 258 rfl rfl (gi_cons 259 rfl rfl (gi_cons 260 rfl rfl (gi_cons 261 rfl rfl (gi_cons 262 rfl rfl (gi_cons 263 rfl rfl (gi_cons 264 rfl rfl (gi_cons 265 rfl rfl (gi_cons 266 rfl rfl (gi_cons 267 rfl rfl (gi_cons 268 rfl rfl (gi_cons 269 rfl rfl (gi_cons 270 rfl rfl (gi_cons 271 rfl rfl (gi_cons 272 rfl rfl (gi_cons 273 rfl rfl (gi_cons 274 rfl rfl (gi_cons 275 rfl rfl (gi_cons 276 rfl rfl (gi_cons 277 rfl rfl (gi_cons 278 rfl rfl (gi_cons 279 rfl rfl (gi_cons 280 rfl rfl (gi_cons 281 rfl rfl (gi_cons 282 rfl rfl (gi_cons 283 rfl rfl (gi_cons 284 rfl rfl (gi_cons 285 rfl rfl (gi_cons 286 rfl rfl (gi_cons 287 rfl rfl (gi_cons 288 rfl rfl (gi_cons 289 rfl rfl (gi_cons 290 rfl rfl (gi_cons 291 rfl rfl (gi_cons 292 rfl rfl (gi_cons 293 rfl rfl (gi_cons 294 rfl rfl (gi_cons 295 rfl rfl (gi_cons 296 rfl rfl (gi_cons 297 rfl rfl (gi_cons 298 rfl rfl (gi_cons 299 rfl rfl (gi_cons 300 rfl rfl (gi_cons 301 rfl rfl (gi_cons 302 rfl rfl (gi_cons 303 rfl rfl (gi_cons 304 rfl rfl (gi_cons 305 rfl rfl (gi_cons 306 rfl rfl (gi_cons 307 rfl rfl (gi_cons 308 rfl rfl (gi_cons 309 rfl rfl (gi_cons 310 rfl rfl (gi_cons 311 rfl rfl (gi_cons 312 rfl rfl (gi_cons 313 rfl rfl (gi_cons 314 rfl rfl (gi_cons 315 rfl rfl (gi_cons 316 rfl rfl (gi_cons 317 rfl rfl (gi_cons 318 rfl rfl (gi_cons 319 rfl rfl (gi_cons 320 rfl rfl gi_nil))))))))))))))))))))))))))))))))))))))))))))))))))))))))))))))))))))))))))))
set_option maxRecDepth 20000 in
theorem gX11_count_X11_sum : GoodIn wsX11_count (wsV RX11 510 RX11 yX11_sum wsX11_sum) := goodIn_app (goodIn_of _ (by decide +kernel)) ggX11_count_X11_sum
set_option maxRecDepth 100000 in
theorem ggX11_count_X11_fits : GoodIn wsX11_count wsX11_fits := (gi_cons 106 rfl rfl (gi_cons 107 rfl rfl (gi_cons 108 rfl rfl (gi_cons 5 rfl rfl (gi_cons 109 rfl rfl (gi_cons 110 rfl rfl (gi_cons 111 rfl rfl (gi_cons 39 rfl rfl (gi_cons 40 rfl rfl (gi_cons 41 rfl rfl (gi_cons 11 rfl rfl (gi_cons 42 rfl rfl (gi_cons 43 rfl rfl (gi_cons 44 rfl rfl (gi_cons 45 rfl rfl (gi_cons 46 rfl rfl (gi_cons 112 rfl rfl (gi_cons 113 rfl rfl (gi_cons 114 rfl rfl (gi_cons 115 rfl rfl (gi_cons 116 rfl rfl (gi_cons 117 rfl rfl (gi_cons 118 rfl rfl (gi_cons 119 rfl rfl (gi_cons 120 rfl rfl (gi_cons 121 rfl rfl (gi_cons 122 rfl rfl (gi_cons 123 rfl rfl (gi_cons 124 rfl rfl (gi_cons 125 rfl rfl (gi_cons 126 rfl rfl (gi_cons 127 rfl rfl (gi_cons 128 rfl rfl (gi_cons 129 rfl rfl (gi_cons 130 rfl rfl (gi_cons 131 rfl rfl (gi_cons 132 rfl rfl (gi_cons 133 rfl rfl (gi_cons 134 rfl rfl (gi_cons 135 rfl rfl (gi_cons 136 rfl rfl (gi_cons 137 rfl rfl (gi_cons 27 rfl rfl (gi_cons 138 rfl rfl (gi_cons 139 rfl rfl (gi_cons 140 rfl rfl (gi_cons 141 rfl rfl (gi_cons 142 rfl rfl (gi_cons 143 rfl rfl (gi_cons 144 rfl rfl (gi_cons 145 rfl rfl (gi_cons 146 rfl rfl (gi_cons 147 rfl rfl (gi_cons 148 rfl rfl (gi_cons 149 rfl rfl (gi_cons 150 rfl rfl (gi_cons 151 rfl rfl (gi_cons 152 rfl rfl (gi_cons 153 rfl rfl (gi_cons 154 rfl rfl (gi_cons 155 rfl rfl (gi_cons 156 rfl rfl (gi_cons 157 rfl rfl (gi_cons 158 rfl rfl (gi_cons 159 rfl rfl (gi_cons 160 rfl rfl (gi_cons 161 rfl rfl (gi_cons 162 rfl rfl (gi_cons 163 rfl rfl (gi_cons 164 rfl rfl (gi_cons 165 rfl rfl (gi_cons 166 rfl rfl (gi_cons 167 rfl rfl (gi_cons 168 rfl rfl (gi_cons 169 rfl rfl (gi_cons 170 rfl rfl (gi_cons 171 rfl rfl (gi_cons 172 rfl rfl (gi_cons 173 rfl rfl (gi_cons 174 rfl rfl (gi_cons 175 rfl rfl (gi_cons 176 rfl rfl (gi_cons 177 rfl rfl (gi_cons 178 rfl rfl (gi_cons 179 rfl rfl (gi_cons 13 rfl rfl (gi_cons 8 rfl rfl (gi_cons 9 rfl rfl (gi_cons 10 rfl rfl (gi_cons 12 rfl rfl (gi_cons 32 rfl rfl (gi_cons 33 rfl rfl (gi_cons 34 rfl rfl (gi_cons 180 rfl rfl (gi_cons 181 rfl rfl (gi_cons 182 rfl rfl (gi_cons 183 rfl rfl (gi_cons 184 rfl rfl (gi_cons 185 rfl rfl (gi_cons 186 rfl rfl (gi_cons 187 rfl rfl (gi_cons 54 rfl rfl (gi_cons 55 rfl rfl (gi_cons 56 rfl rfl (gi_cons 18 rfl rfl (gi_cons 19 rfl rfl (gi_cons 20 rfl rfl (gi_cons 188 rfl rfl (gi_cons 189 rfl rfl (gi_cons 190 rfl rfl (gi_cons 191 rfl rfl (gi_cons 192 rfl rfl (gi_cons 193 rfl rfl (gi_cons 194 rfl rfl (gi_cons 195 rfl rfl (gi_cons 196 rfl rfl (gi_cons 197 rfl rfl (gi_cons 198 rfl rfl (gi_cons 199 rfl rfl (gi_cons 200 rfl rfl (gi_cons 201 rfl rfl (gi_cons 202 rfl rfl (gi_cons 203 rfl rfl (gi_cons 204 rfl rfl (gi_cons 205 rfl rfl (gi_cons 206 rfl rfl (gi_cons 57 rfl rfl (gi_cons 58 rfl rfl (gi_cons 59 rfl rfl (gi_cons 63 rfl rfl (gi_cons 64 rfl rfl (gi_cons 65 rfl rfl (gi_cons 207 rfl rfl (gi_cons 208 rfl rfl (gi_cons 209 rfl rfl (gi_cons 25 rfl rfl (gi_cons 26 rfl rfl (gi_cons 28 rfl rfl (gi_cons 210 rfl rfl (gi_cons 211 rfl rfl (gi_cons 212 rfl rfl (gi_cons 213 rfl rfl (gi_cons 214 rfl rfl (gi_cons 215 rfl rfl (gi_cons 216 rfl rfl (gi_cons 217 rfl rfl (gi_cons 218 rfl rfl (gi_cons 219 rfl rfl (gi_cons 220 rfl rfl (gi_cons 221 rfl rfl (gi_cons 222 rfl rfl (gi_cons 223 rfl rfl (gi_cons 224 rfl rfl (gi_cons 225 rfl rfl (gi_cons 226 rfl rfl (gi_cons 227 rfl rfl (gi_cons 228 rfl rfl (gi_cons 229 rfl rfl (gi_cons 230 rfl rfl (gi_cons 231 rfl rfl (gi_cons 232 rfl rfl (gi_cons 233 rfl rfl (gi_cons 234 rfl rfl (gi_cons 60 rfl rfl (gi_cons 61 rfl rfl (gi_cons 62 rfl rfl (gi_cons 235 rfl rfl (gi_cons 236 rfl rfl (gi_cons 237 rfl rfl (gi_cons 238 rfl rfl (gi_cons 239 rfl rfl (gi_cons 240 rfl rfl (gi_cons 241 rfl rfl (gi_cons 242 rfl rfl (gi_cons 243 rfl rfl (gi_cons 244 rfl rfl (gi_cons 245 rfl rfl (gi_cons 246 rfl rfl (gi_cons 247 rfl rfl (gi_cons 248 rfl rfl (gi_cons 249 rfl rfl (gi_cons 250 rfl rfl (gi_cons 255 rfl rfl (gi_cons 256 rfl rfl (gi_cons 257 rfl rfl (gi_cons 258 rfl rfl (gi_cons 259 rfl rfl (gi_cons 260 rfl rfl (gi_cons 261 rfl rfl (gi_cons 262 rfl rfl (gi_cons 263 rfl rfl (gi_cons 264 rfl rfl (gi_cons 265 rfl rfl (gi_cons 266 rfl rfl (gi_cons 267 rfl rfl (gi_cons 268 rfl rfl (gi_cons 269 rfl rfl (gi_cons 270 rfl rfl (gi_cons 271 rfl rfl (gi_cons 272 rfl rfl (gi_cons 273 rfl rfl (gi_cons 274 rfl rfl (gi_cons 275 rfl rfl (gi_cons 276 rfl rfl (gi_cons 277 rfl rfl (gi_cons 278 rfl rfl (gi_cons 279 rfl rfl (gi_cons 280 rfl rfl (gi_cons 281 rfl rfl (gi_cons 282 rfl rfl (gi_cons 283 rfl rfl (gi_cons 284 rfl rfl (gi_cons 285 rfl rfl (gi_cons 286 rfl rfl (gi_cons 287 rfl rfl (gi_cons 288 rfl rfl (gi_cons 289 rfl rfl (gi_cons 290 rfl rfl (gi_cons 291 rfl rfl (gi_cons 292 rfl rfl (gi_cons 293 rfl rfl (gi_cons 294 rfl rfl (gi_cons 295 rfl rfl (gi_cons 296 rfl rfl (gi_cons 297 rfl rfl (gi_cons 298 rfl rfl (gi_cons 299 rfl rfl (gi_cons 300 rfl rfl (gi_cons 301 rfl rfl (gi_cons 302 rfl rfl (gi_cons 303 rfl rfl (gi_cons 304 rfl rfl (gi_cons 305 rfl rfl (gi_cons 306 rfl rfl (gi_cons 307 rfl rfl (gi_cons 308 rfl rfl (gi_cons 309 rfl rfl (gi_cons 310 rfl rfl (gi_cons 311 rfl rfl (gi_cons 312 rfl rfl (gi_cons 313 rfl rfl (gi_cons 314 rfl rfl (gi_cons 315 rfl rfl (gi_cons 316 rfl rfl (gi_cons 317 rfl rfl (gi_cons 318 rfl rfl (gi_cons 319 rfl rfl (gi_cons 320 rfl rfl gi_nil))))))))))))))))))))))))))))))))))))))))))))))))))))))))))))))))))))))))))))))))))))))))))))))))))))))))))))))))))))))))))))))))))))))))))))))))))))))))))))))))))))))))))))))))))))))))))))))))))))))))))))))))))))))))))))))))))))))))))))))))))))))))
set_option maxRecDepth 20000 in
theorem gX11_count_X11_fits : GoodIn wsX11_count (wsV RX11 513 RX11 yX11_fits wsX11_fits) := goodIn_app (goodIn_of _ (by decide +kernel)) ggX11_count_X11_fits
set_option maxRecDepth 100000 in
theorem ggX11_count_X11_fail : GoodIn wsX11_count wsX11_fail := (gi_cons 254 rfl rfl (gi_cons 1 rfl rfl (gi_cons 255 rfl rfl (gi_cons 256 rfl rfl (gi_cons 257 rfl rfl (gi_cons 258 rfl rfl (gi_cons 259 rfl rfl (gi_cons 260 rfl rfl (gi_cons 261 rfl rfl (gi_cons 262 rfl rfl (gi_cons 263 rfl rfl (gi_cons 264 rfl rfl (gi_cons 265 rfl rfl (gi_cons 266 rfl rfl (gi_cons 267 rfl rfl (gi_cons 268 rfl rfl (gi_cons 269 rfl rfl (gi_cons 270 rfl rfl (gi_cons 271 rfl rfl (gi_cons 272 rfl rfl (gi_cons 273 rfl rfl (gi_cons 274 rfl rfl (gi_cons 275 rfl rfl (gi_cons 276 rfl rfl (gi_cons 277 rfl rfl (gi_cons 278 rfl rfl (gi_cons 279 rfl rfl (gi_cons 280 rfl rfl (gi_cons 281 rfl rfl (gi_cons 282 rfl rfl (gi_cons 283 rfl rfl (gi_cons 284 rfl rfl (gi_cons 285 rfl rfl (gi_cons 286 rfl rfl (gi_cons 287 rfl rfl (gi_cons 288 rfl rfl (gi_cons 289 rfl rfl (gi_cons 290 rfl rfl (gi_cons 291 rfl rfl (gi_cons 292 rfl rfl (gi_cons 293 rfl rfl (gi_cons 294 rfl rfl (gi_cons 295 rfl rfl (gi_cons 296 rfl rfl (gi_cons 297 rfl rfl (gi_cons 298 rfl rfl (gi_cons 299 rfl rfl (gi_cons 300 rfl rfl (gi_cons 301 rfl rfl (gi_cons 302 rfl rfl (gi_cons 303 rfl rfl (gi_cons 304 rfl rfl (gi_cons 305 rfl rfl (gi_cons 306 rfl rfl (gi_cons 307 rfl rfl (gi_cons 308 rfl rfl (gi_cons 309 rfl rfl (gi_cons 310 rfl rfl (gi_cons 311 rfl rfl (gi_cons 312 rfl rfl (gi_cons 313 rfl rfl (gi_cons 314 rfl rfl (gi_cons 315 rfl rfl (gi_cons 316 rfl rfl (gi_cons 317 rfl rfl (gi_cons 318 rfl rfl (gi_cons 319 rfl rfl (gi_cons 320 rfl rfl gi_nil))))))))))))))))))))))))))))))))))))))))))))))))))))))))))))))))))))
set_option maxRecDepth 20000 in
theorem gX11_count_X11_fail : GoodIn wsX11_count (wsV RX11 226 RX11 yX11_fail wsX11_fail) := goodIn_app (goodIn_of _ (by decide +kernel)) ggX11_count_X11_fail
theorem dX11_count_0 : decode cX11_count 0 = .ok (.aload_n 0, 1) := by decide +kernel
theorem dX11_count_1 : decode cX11_count 1 = .ok (.iconst 0, 1) := by decide +kernel
theorem dX11_count_2 : decode cX11_count 2 = .ok (.putfield 111, 3) := by decide +kernel
theorem dX11_count_5 : decode cX11_count 5 = .ok (.iload_n 1, 1) := by decide +kernel
theorem dX11_count_6 : decode cX11_count 6 = .ok (.tableswitch 173 0 17 #[86, 91, 91, 91, 91, 99, 104, 109, 114, 121, 138, 143, 148, 153, 153, 153, 163, 168], 86) := by decide +kernel
theorem dX11_count_92 : decode cX11_count 92 = .ok (.aload_n 0, 1) := by decide +kernel
theorem dX11_count_93 : decode cX11_count 93 = .ok (.invokevirtual 267, 3) := by decide +kernel
theorem dX11_count_96 : decode cX11_count 96 = .ok (.ireturn, 1) := by decide +kernel
theorem dX11_count_97 : decode cX11_count 97 = .ok (.aload_n 0, 1) := by decide +kernel
theorem dX11_count_98 : decode cX11_count 98 = .ok (.iload_n 1, 1) := by decide +kernel
theorem dX11_count_99 : decode cX11_count 99 = .ok (.iconst 1, 1) := by decide +kernel
theorem dX11_count_100 : decode cX11_count 100 = .ok (.isub, 1) := by decide +kernel
theorem dX11_count_101 : decode cX11_count 101 = .ok (.invokevirtual 498, 3) := by decide +kernel
theorem dX11_count_104 : decode cX11_count 104 = .ok (.ireturn, 1) := by decide +kernel
theorem dX11_count_105 : decode cX11_count 105 = .ok (.aload_n 0, 1) := by decide +kernel
theorem dX11_count_106 : decode cX11_count 106 = .ok (.invokevirtual 501, 3) := by decide +kernel
theorem dX11_count_109 : decode cX11_count 109 = .ok (.ireturn, 1) := by decide +kernel
theorem dX11_count_110 : decode cX11_count 110 = .ok (.aload_n 0, 1) := by decide +kernel
theorem dX11_count_111 : decode cX11_count 111 = .ok (.invokevirtual 504, 3) := by decide +kernel
theorem dX11_count_114 : decode cX11_count 114 = .ok (.ireturn, 1) := by decide +kernel
theorem dX11_count_115 : decode cX11_count 115 = .ok (.aload_n 0, 1) := by decide +kernel
theorem dX11_count_116 : decode cX11_count 116 = .ok (.invokevirtual 507, 3) := by decide +kernel
theorem dX11_count_119 : decode cX11_count 119 = .ok (.ireturn, 1) := by decide +kernel
theorem dX11_count_120 : decode cX11_count 120 = .ok (.aload_n 0, 1) := by decide +kernel
theorem dX11_count_121 : decode cX11_count 121 = .ok (.getfield 69, 3) := by decide +kernel
theorem dX11_count_124 : decode cX11_count 124 = .ok (.iconst 1, 1) := by decide +kernel
theorem dX11_count_125 : decode cX11_count 125 = .ok (.iaload, 1) := by decide +kernel
theorem dX11_count_126 : decode cX11_count 126 = .ok (.ireturn, 1) := by decide +kernel
theorem dX11_count_127 : decode cX11_count 127 = .ok (.aload_n 0, 1) := by decide +kernel
theorem dX11_count_128 : decode cX11_count 128 = .ok (.getfield 238, 3) := by decide +kernel
theorem dX11_count_131 : decode cX11_count 131 = .ok (.ifCond .eq 11, 3) := by decide +kernel
theorem dX11_count_142 : decode cX11_count 142 = .ok (.iconst (-1), 1) := by decide +kernel
theorem dX11_count_143 : decode cX11_count 143 = .ok (.ireturn, 1) := by decide +kernel
theorem dX11_count_144 : decode cX11_count 144 = .ok (.aload_n 0, 1) := by decide +kernel
theorem dX11_count_145 : decode cX11_count 145 = .ok (.getfield 232, 3) := by decide +kernel
theorem dX11_count_148 : decode cX11_count 148 = .ok (.ireturn, 1) := by decide +kernel
theorem dX11_count_149 : decode cX11_count 149 = .ok (.aload_n 0, 1) := by decide +kernel
theorem dX11_count_150 : decode cX11_count 150 = .ok (.getfield 235, 3) := by decide +kernel
theorem dX11_count_153 : decode cX11_count 153 = .ok (.ireturn, 1) := by decide +kernel
theorem dX11_count_154 : decode cX11_count 154 = .ok (.aload_n 0, 1) := by decide +kernel
theorem dX11_count_155 : decode cX11_count 155 = .ok (.getfield 114, 3) := by decide +kernel
theorem dX11_count_158 : decode cX11_count 158 = .ok (.ireturn, 1) := by decide +kernel
theorem dX11_count_159 : decode cX11_count 159 = .ok (.aload_n 0, 1) := by decide +kernel
theorem dX11_count_160 : decode cX11_count 160 = .ok (.getfield 19, 3) := by decide +kernel
theorem dX11_count_163 : decode cX11_count 163 = .ok (.iload_n 1, 1) := by decide +kernel
theorem dX11_count_164 : decode cX11_count 164 = .ok (.bipush 13, 2) := by decide +kernel
theorem dX11_count_166 : decode cX11_count 166 = .ok (.isub, 1) := by decide +kernel
theorem dX11_count_167 : decode cX11_count 167 = .ok (.iaload, 1) := by decide +kernel
theorem dX11_count_168 : decode cX11_count 168 = .ok (.ireturn, 1) := by decide +kernel
theorem dX11_count_169 : decode cX11_count 169 = .ok (.aload_n 0, 1) := by decide +kernel
theorem dX11_count_170 : decode cX11_count 170 = .ok (.invokevirtual 510, 3) := by decide +kernel
theorem dX11_count_173 : decode cX11_count 173 = .ok (.ireturn, 1) := by decide +kernel
theorem dX11_count_174 : decode cX11_count 174 = .ok (.aload_n 0, 1) := by decide +kernel
theorem dX11_count_175 : decode cX11_count 175 = .ok (.invokevirtual 513, 3) := by decide +kernel
theorem dX11_count_178 : decode cX11_count 178 = .ok (.ireturn, 1) := by decide +kernel
theorem dX11_count_179 : decode cX11_count 179 = .ok (.aload_n 0, 1) := by decide +kernel
theorem dX11_count_180 : decode cX11_count 180 = .ok (.iconst 1, 1) := by decide +kernel
theorem dX11_count_181 : decode cX11_count 181 = .ok (.invokevirtual 226, 3) := by decide +kernel
theorem dX11_count_184 : decode cX11_count 184 = .ok (.ireturn, 1) := by decide +kernel
set_option maxRecDepth 100000 in
theorem ggX11_thing_X11_isThing : GoodIn wsX11_thing wsX11_isThing := (gi_cons 7 rfl rfl (gi_cons 8 rfl rfl (gi_cons 9 rfl rfl (gi_cons 10 rfl rfl (gi_cons 6 rfl rfl (gi_cons 11 rfl rfl (gi_cons 2 rfl rfl (gi_cons 12 rfl rfl (gi_cons 13 rfl rfl (gi_cons 14 rfl rfl (gi_cons 202 rfl rfl (gi_cons 203 rfl rfl (gi_cons 204 rfl rfl (gi_cons 205 rfl rfl (gi_cons 206 rfl rfl (gi_cons 207 rfl rfl (gi_cons 208 rfl rfl (gi_cons 209 rfl rfl (gi_cons 210 rfl rfl (gi_cons 211 rfl rfl (gi_cons 212 rfl rfl (gi_cons 213 rfl rfl (gi_cons 214 rfl rfl (gi_cons 215 rfl rfl (gi_cons 216 rfl rfl (gi_cons 217 rfl rfl (gi_cons 218 rfl rfl (gi_cons 219 rfl rfl (gi_cons 220 rfl rfl (gi_cons 221 rfl rfl (gi_cons 222 rfl rfl (gi_cons 223 rfl rfl (gi_cons 224 rfl rfl (gi_cons 225 rfl rfl (gi_cons 226 rfl rfl (gi_cons 227 rfl rfl (gi_cons 228 rfl rfl (gi_cons 229 rfl rfl (gi_cons 230 rfl rfl (gi_cons 231 rfl rfl (gi_cons 232 rfl rfl (gi_cons 233 rfl rfl (gi_cons 234 rfl rfl (gi_cons 235 rfl rfl (gi_cons 236 rfl rfl (gi_cons 237 rfl rfl (gi_cons 238 rfl rfl (gi_cons 239 rfl rfl (gi_cons 240 rfl rfl (gi_cons 241 rfl rfl (gi_cons 242 rfl rfl (gi_cons 243 rfl rfl (gi_cons 244 rfl rfl (gi_cons 245 rfl rfl (gi_cons 246 rfl rfl (gi_cons 247 rfl rfl (gi_cons 248 rfl rfl (gi_cons 249 rfl rfl (gi_cons 250 rfl rfl (gi_cons 251 rfl rfl (gi_cons 252 rfl rfl (gi_cons 253 rfl rfl (gi_cons 254 rfl rfl (gi_cons 255 rfl rfl (gi_cons 256 rfl rfl (gi_cons 257 rfl rfl (gi_cons 258 rfl rfl (gi_cons 259 rfl rfl (gi_cons 260 rfl rfl (gi_cons 261 rfl rfl (gi_cons 262 rfl rfl (gi_cons 263 rfl rfl (gi_cons 264 rfl rfl (gi_cons 265 rfl rfl (gi_cons 266 rfl rfl (gi_cons 267 rfl rfl gi_nil))))))))))))))))))))))))))))))))))))))))))))))))))))))))))))))))))))))))))))
set_option maxRecDepth 20000 in
theorem gX11_thing_X11_isThing : GoodIn wsX11_thing (wsV RX11 420 RX11 yX11_isThing wsX11_isThing) := goodIn_app (goodIn_of _ (by decide +kernel)) ggX11_thing_X11_isThing
set_option maxRecDepth 100000 in
theorem ggX11_thing_X11_fail : GoodIn wsX11_thing wsX11_fail := (gi_cons 18 rfl rfl (gi_cons 1 rfl rfl (gi_cons 202 rfl rfl (gi_cons 203 rfl rfl (gi_cons 204 rfl rfl (gi_cons 205 rfl rfl (gi_cons 206 rfl rfl (gi_cons 207 rfl rfl (gi_cons 208 rfl rfl (gi_cons 209 rfl rfl (gi_cons 210 rfl rfl (gi_cons 211 rfl rfl (gi_cons 212 rfl rfl (gi_cons 213 rfl rfl (gi_cons 214 rfl rfl (gi_cons 215 rfl rfl (gi_cons 216 rfl rfl (gi_cons 217 rfl rfl (gi_cons 218 rfl rfl (gi_cons 219 rfl rfl (gi_cons 220 rfl rfl (gi_cons 221 rfl rfl (gi_cons 222 rfl rfl (gi_cons 223 rfl rfl (gi_cons 224 rfl rfl (gi_cons 225 rfl rfl (gi_cons 226 rfl rfl (gi_cons 227 rfl rfl (gi_cons 228 rfl rfl (gi_cons 229 rfl rfl (gi_cons 230 rfl rfl (gi_cons 231 rfl rfl (gi_cons 232 rfl rfl (gi_cons 233 rfl rfl (gi_cons 234 rfl rfl (gi_cons 235 rfl rfl (gi_cons 236 rfl rfl (gi_cons 237 rfl rfl (gi_cons 238 rfl rfl (gi_cons 239 rfl rfl (gi_cons 240 rfl rfl (gi_cons 241 rfl rfl (gi_cons 242 rfl rfl (gi_cons 243 rfl rfl (gi_cons 244 rfl rfl (gi_cons 245 rfl rfl (gi_cons 246 rfl rfl (gi_cons 247 rfl rfl (gi_cons 248 rfl rfl (gi_cons 249 rfl rfl (gi_cons 250 rfl rfl (gi_cons 251 rfl rfl (gi_cons 252 rfl rfl (gi_cons 253 rfl rfl (gi_cons 254 rfl rfl (gi_cons 255 rfl rfl (gi_cons 256 rfl rfl (gi_cons 257 rfl rfl (gi_cons 258 rfl rfl (gi_cons 259 rfl rfl (gi_cons 260 rfl rfl (gi_cons 261 rfl rfl (gi_cons 262 rfl rfl (gi_cons 263 rfl rfl (gi_cons 264 rfl rfl (gi_cons 265 rfl rfl (gi_cons 266 rfl rfl (gi_cons 267 rfl rfl gi_nil))))))))))))))))))))))))))))))))))))))))))))))))))))))))))))))))))))
set_option maxRecDepth 20000 in
theorem gX11_thing_X11_fail : GoodIn wsX11_thing (wsV RX11 226 RX11 yX11_fail wsX11_fail) := goodIn_app (goodIn_of _ (by decide +kernel)) ggX11_thing_X11_fail
set_option maxRecDepth 100000 in
theorem ggX11_thing_X11_kind : GoodIn wsX11_thing wsX11_kind := (gi_cons 21 rfl rfl gi_nil)
set_option maxRecDepth 20000 in
theorem gX11_thing_X11_kind : GoodIn wsX11_thing (va_wsS RX11 253 yX11_kind wsX11_kind) := goodIn_app (goodIn_of _ (by decide +kernel)) ggX11_thing_X11_kind
set_option maxRecDepth 100000 in
theorem ggX11_thing_X11_parentOf : GoodIn wsX11_thing wsX11_parentOf := (gi_cons 24 rfl rfl (gi_cons 25 rfl rfl (gi_cons 26 rfl rfl (gi_cons 6 rfl rfl (gi_cons 27 rfl rfl gi_nil)))))
set_option maxRecDepth 20000 in
theorem gX11_thing_X11_parentOf : GoodIn wsX11_thing (va_wsS RX11 270 yX11_parentOf wsX11_parentOf) := goodIn_app (goodIn_of _ (by decide +kernel)) ggX11_thing_X11_parentOf
set_option maxRecDepth 100000 in
theorem ggX11_thing_X11_placeOf : GoodIn wsX11_thing wsX11_placeOf := (gi_cons 30 rfl rfl (gi_cons 22 rfl rfl (gi_cons 23 rfl rfl (gi_cons 6 rfl rfl (gi_cons 24 rfl rfl (gi_cons 25 rfl rfl (gi_cons 26 rfl rfl (gi_cons 27 rfl rfl gi_nil))))))))
set_option maxRecDepth 20000 in
theorem gX11_thing_X11_placeOf : GoodIn wsX11_thing (va_wsS RX11 489 yX11_placeOf wsX11_placeOf) := goodIn_app (goodIn_of _ (by decide +kernel)) ggX11_thing_X11_placeOf
set_option maxRecDepth 100000 in
theorem ggX11_thing_X11_depthOf : GoodIn wsX11_thing wsX11_depthOf := (gi_cons 33 rfl rfl (gi_cons 25 rfl rfl (gi_cons 26 rfl rfl (gi_cons 6 rfl rfl (gi_cons 27 rfl rfl gi_nil)))))
set_option maxRecDepth 20000 in
theorem gX11_thing_X11_depthOf : GoodIn wsX11_thing (va_wsS RX11 360 yX11_depthOf wsX11_depthOf) := goodIn_app (goodIn_of _ (by decide +kernel)) ggX11_thing_X11_depthOf
set_option maxRecDepth 100000 in
theorem ggX11_thing_X11_many : GoodIn wsX11_thing wsX11_many := (gi_cons 36 rfl rfl (gi_cons 25 rfl rfl (gi_cons 26 rfl rfl (gi_cons 6 rfl rfl (gi_cons 27 rfl rfl gi_nil)))))
set_option maxRecDepth 20000 in
theorem gX11_thing_X11_many : GoodIn wsX11_thing (va_wsS RX11 246 yX11_many wsX11_many) := goodIn_app (goodIn_of _ (by decide +kernel)) ggX11_thing_X11_many
set_option maxRecDepth 100000 in
theorem ggX11_thing_X11_size : GoodIn wsX11_thing wsX11_size := (gi_cons 27 rfl rfl gi_nil)
set_option maxRecDepth 20000 in
theorem gX11_thing_X11_size : GoodIn wsX11_thing (va_wsS RX11 242 yX11_size wsX11_size) := goodIn_app (goodIn_of _ (by decide +kernel)) ggX11_thing_X11_size
set_option maxRecDepth 100000 in
theorem ggX11_thing_X11_lettersOf : GoodIn wsX11_thing wsX11_lettersOf := (gi_cons 39 rfl rfl gi_nil)
set_option maxRecDepth 20000 in
theorem gX11_thing_X11_lettersOf : GoodIn wsX11_thing (va_wsS RX11 338 yX11_lettersOf wsX11_lettersOf) := goodIn_app (goodIn_of _ (by decide +kernel)) ggX11_thing_X11_lettersOf
set_option maxRecDepth 100000 in
theorem ggX11_thing_X11_twinsOf : GoodIn wsX11_thing wsX11_twinsOf := (gi_cons 43 rfl rfl (gi_cons 2 rfl rfl (gi_cons 8 rfl rfl (gi_cons 9 rfl rfl (gi_cons 10 rfl rfl (gi_cons 6 rfl rfl (gi_cons 11 rfl rfl (gi_cons 44 rfl rfl (gi_cons 45 rfl rfl (gi_cons 46 rfl rfl (gi_cons 19 rfl rfl (gi_cons 20 rfl rfl (gi_cons 21 rfl rfl (gi_cons 25 rfl rfl (gi_cons 26 rfl rfl (gi_cons 27 rfl rfl (gi_cons 47 rfl rfl (gi_cons 48 rfl rfl (gi_cons 49 rfl rfl (gi_cons 34 rfl rfl (gi_cons 35 rfl rfl (gi_cons 36 rfl rfl (gi_cons 50 rfl rfl (gi_cons 51 rfl rfl (gi_cons 52 rfl rfl (gi_cons 53 rfl rfl (gi_cons 54 rfl rfl (gi_cons 55 rfl rfl (gi_cons 202 rfl rfl (gi_cons 203 rfl rfl (gi_cons 204 rfl rfl (gi_cons 205 rfl rfl (gi_cons 206 rfl rfl (gi_cons 207 rfl rfl (gi_cons 208 rfl rfl (gi_cons 209 rfl rfl (gi_cons 210 rfl rfl (gi_cons 211 rfl rfl (gi_cons 212 rfl rfl (gi_cons 213 rfl rfl (gi_cons 214 rfl rfl (gi_cons 215 rfl rfl (gi_cons 216 rfl rfl (gi_cons 217 rfl rfl (gi_cons 218 rfl rfl (gi_cons 219 rfl rfl (gi_cons 220 rfl rfl (gi_cons 221 rfl rfl (gi_cons 222 rfl rfl (gi_cons 223 rfl rfl (gi_cons 224 rfl rfl (gi_cons 225 rfl rfl (gi_cons 226 rfl rfl (gi_cons 227 rfl rfl (gi_cons 228 rfl rfl (gi_cons 229 rfl rfl (gi_cons 230 rfl rfl (gi_cons 231 rfl rfl (gi_cons 232 rfl rfl (gi_cons 233 rfl rfl (gi_cons 234 rfl rfl (gi_cons 235 rfl rfl (gi_cons 236 rfl rfl (gi_cons 237 rfl rfl (gi_cons 238 rfl rfl (gi_cons 239 rfl rfl (gi_cons 240 rfl rfl (gi_cons 241 rfl rfl (gi_cons 242 rfl rfl (gi_cons 243 rfl rfl (gi_cons 244 rfl rfl (gi_cons 245 rfl rfl (gi_cons 246 rfl rfl (gi_cons 247 rfl rfl (gi_cons 248 rfl rfl (gi_cons 249 rfl rfl (gi_cons 250 rfl rfl (gi_cons 251 rfl rfl (gi_cons 252 rfl rfl (gi_cons 253 rfl rfl (gi_cons 254 rfl rfl (gi_cons 255 rfl rfl (gi_cons 256 rfl rfl (gi_cons 257 rfl rfl (gi_cons 258 rfl rfl (gi_cons 259 rfl rfl (gi_cons 260 rfl rfl (gi_cons 261 rfl rfl (gi_cons 262 rfl rfl (gi_cons 263 rfl rfl (gi_cons 264 rfl rfl (gi_cons 265 rfl rfl (gi_cons 266 rfl rfl (gi_cons 267 rfl rfl gi_nil))))))))))))))))))))))))))))))))))))))))))))))))))))))))))))))))))))))))))))))))))))))))))))))
set_option maxRecDepth 20000 in
theorem gX11_thing_X11_twinsOf : GoodIn wsX11_thing (wsV RX11 516 RX11 yX11_twinsOf wsX11_twinsOf) := goodIn_app (goodIn_of _ (by decide +kernel)) ggX11_thing_X11_twinsOf
set_option maxRecDepth 100000 in
theorem ggX11_thing_X11_answers : GoodIn wsX11_thing wsX11_answers := (gi_cons 59 rfl rfl (gi_cons 60 rfl rfl (gi_cons 61 rfl rfl (gi_cons 62 rfl rfl (gi_cons 63 rfl rfl (gi_cons 6 rfl rfl (gi_cons 64 rfl rfl (gi_cons 65 rfl rfl (gi_cons 12 rfl rfl (gi_cons 13 rfl rfl (gi_cons 14 rfl rfl (gi_cons 66 rfl rfl (gi_cons 67 rfl rfl (gi_cons 68 rfl rfl (gi_cons 69 rfl rfl (gi_cons 70 rfl rfl (gi_cons 71 rfl rfl (gi_cons 72 rfl rfl (gi_cons 73 rfl rfl (gi_cons 74 rfl rfl (gi_cons 75 rfl rfl (gi_cons 76 rfl rfl (gi_cons 77 rfl rfl (gi_cons 78 rfl rfl (gi_cons 79 rfl rfl (gi_cons 80 rfl rfl (gi_cons 81 rfl rfl (gi_cons 82 rfl rfl (gi_cons 83 rfl rfl (gi_cons 84 rfl rfl (gi_cons 85 rfl rfl (gi_cons 86 rfl rfl (gi_cons 87 rfl rfl (gi_cons 88 rfl rfl (gi_cons 89 rfl rfl (gi_cons 90 rfl rfl (gi_cons 91 rfl rfl (gi_cons 92 rfl rfl (gi_cons 93 rfl rfl (gi_cons 94 rfl rfl (gi_cons 95 rfl rfl (gi_cons 96 rfl rfl (gi_cons 97 rfl rfl (gi_cons 98 rfl rfl (gi_cons 99 rfl rfl (gi_cons 100 rfl rfl (gi_cons 101 rfl rfl (gi_cons 102 rfl rfl (gi_cons 103 rfl rfl (gi_cons 104 rfl rfl (gi_cons 105 rfl rfl (gi_cons 106 rfl rfl (gi_cons 107 rfl rfl (gi_cons 108 rfl rfl (gi_cons 109 rfl rfl (gi_cons 110 rfl rfl (gi_cons 111 rfl rfl (gi_cons 112 rfl rfl (gi_cons 113 rfl rfl (gi_cons 114 rfl rfl (gi_cons 115 rfl rfl (gi_cons 116 rfl rfl (gi_cons 117 rfl rfl (gi_cons 118 rfl rfl (gi_cons 119 rfl rfl (gi_cons 120 rfl rfl (gi_cons 121 rfl rfl (gi_cons 122 rfl rfl (gi_cons 123 rfl rfl (gi_cons 124 rfl rfl (gi_cons 125 rfl rfl (gi_cons 126 rfl rfl (gi_cons 127 rfl rfl (gi_cons 128 rfl rfl (gi_cons 129 rfl rfl (gi_cons 130 rfl rfl (gi_cons 131 rfl rfl (gi_cons 132 rfl rfl (gi_cons 133 rfl rfl (gi_cons 134 rfl rfl (gi_cons 2 rfl rfl (gi_cons 8 rfl rfl (gi_cons 9 rfl rfl (gi_cons 10 rfl rfl (gi_cons 11 rfl rfl (gi_cons 25 rfl rfl (gi_cons 26 rfl rfl (gi_cons 27 rfl rfl (gi_cons 135 rfl rfl (gi_cons 136 rfl rfl (gi_cons 137 rfl rfl (gi_cons 138 rfl rfl (gi_cons 139 rfl rfl (gi_cons 140 rfl rfl (gi_cons 141 rfl rfl (gi_cons 142 rfl rfl (gi_cons 47 rfl rfl (gi_cons 48 rfl rfl (gi_cons 49 rfl rfl (gi_cons 19 rfl rfl (gi_cons 20 rfl rfl (gi_cons 21 rfl rfl (gi_cons 143 rfl rfl (gi_cons 144 rfl rfl (gi_cons 145 rfl rfl (gi_cons 146 rfl rfl (gi_cons 147 rfl rfl (gi_cons 148 rfl rfl (gi_cons 149 rfl rfl (gi_cons 150 rfl rfl (gi_cons 151 rfl rfl (gi_cons 152 rfl rfl (gi_cons 153 rfl rfl (gi_cons 154 rfl rfl (gi_cons 155 rfl rfl (gi_cons 156 rfl rfl (gi_cons 157 rfl rfl (gi_cons 158 rfl rfl (gi_cons 159 rfl rfl (gi_cons 160 rfl rfl (gi_cons 161 rfl rfl (gi_cons 34 rfl rfl (gi_cons 35 rfl rfl (gi_cons 36 rfl rfl (gi_cons 53 rfl rfl (gi_cons 54 rfl rfl (gi_cons 55 rfl rfl (gi_cons 162 rfl rfl (gi_cons 163 rfl rfl (gi_cons 164 rfl rfl (gi_cons 165 rfl rfl (gi_cons 166 rfl rfl (gi_cons 167 rfl rfl (gi_cons 168 rfl rfl (gi_cons 169 rfl rfl (gi_cons 170 rfl rfl (gi_cons 171 rfl rfl (gi_cons 172 rfl rfl (gi_cons 173 rfl rfl (gi_cons 174 rfl rfl (gi_cons 175 rfl rfl (gi_cons 176 rfl rfl (gi_cons 177 rfl rfl (gi_cons 178 rfl rfl (gi_cons 179 rfl rfl (gi_cons 180 rfl rfl (gi_cons 181 rfl rfl (gi_cons 182 rfl rfl (gi_cons 183 rfl rfl (gi_cons 184 rfl rfl (gi_cons 185 rfl rfl (gi_cons 186 rfl rfl (gi_cons 187 rfl rfl (gi_cons 188 rfl rfl (gi_cons 189 rfl rfl (gi_cons 190 rfl rfl (gi_cons 191 rfl rfl (gi_cons 192 rfl rfl (gi_cons 50 rfl rfl (gi_cons 51 rfl rfl (gi_cons 52 rfl rfl (gi_cons 193 rfl rfl (gi_cons 194 rfl rfl (gi_cons 195 rfl rfl (gi_cons 37 rfl rfl (gi_cons 38 rfl rfl (gi_cons 39 rfl rfl (gi_cons 196 rfl rfl (gi_cons 197 rfl rfl (gi_cons 198 rfl rfl (gi_cons 199 rfl rfl (gi_cons 200 rfl rfl (gi_cons 201 rfl rfl (gi_cons 202 rfl rfl (gi_cons 203 rfl rfl (gi_cons 204 rfl rfl (gi_cons 205 rfl rfl (gi_cons 206 rfl rfl (gi_cons 207 rfl rfl (gi_cons 208 rfl rfl (gi_cons 209 rfl rfl (gi_cons 210 rfl rfl (gi_cons 211 rfl rfl (gi_cons 212 rfl rfl (gi_cons 213 rfl rfl (gi_cons 214 rfl rfl (gi_cons 215 rfl rfl (gi_cons 216 rfl rfl (gi_cons 217 rfl rfl (gi_cons 218 rfl rfl (gi_cons 219 rfl rfl (gi_cons 220 rfl rfl (gi_cons 221 rfl rfl (gi_cons 222 rfl rfl (gi_cons 223 rfl rfl (gi_cons 224 rfl rfl (gi_cons 225 rfl rfl (gi_cons 226 rfl rfl (gi_cons 227 rfl rfl (gi_cons 228 rfl rfl (gi_cons 229 rfl rfl (gi_cons 230 rfl rfl (gi_cons 231 rfl rfl (gi_cons 232 rfl rfl (gi_cons 233 rfl rfl (gi_cons 234 rfl rfl (gi_cons 235 rfl rfl (gi_cons 236 rfl rfl (gi_cons 237 rfl rfl (gi_cons 238 rfl rfl (gi_cons 239 rfl rfl (gi_cons 240 rfl rfl (gi_cons 241 rfl rfl (gi_cons 242 rfl rfl (gi_cons 243 rfl rfl (gi_cons 244 rfl rfl (gi_cons 245 rfl rfl (gi_cons 246 rfl rfl (gi_cons 247 rfl rfl (gi_cons 248 rfl rfl (gi_cons 249 rfl rfl (gi_cons 250 rfl rfl (gi_cons 251 rfl rfl (gi_cons 252 rfl rfl (gi_cons 253 rfl rfl (gi_cons 254 rfl rfl (gi_cons 255 rfl rfl (gi_cons 256 rfl rfl (gi_cons 257 rfl rfl (gi_cons 258 rfl rfl (gi_cons 259 rfl rfl (gi_cons 260 rfl rfl (gi_cons 261 rfl rfl (gi_cons 262 rfl rfl (gi_cons 263 rfl rfl (gi_cons 264 rfl rfl (gi_cons 265 rfl rfl (gi_cons 266 rfl rfl (gi_cons 267 rfl rfl gi_nil)))))))))))))))))))))))))))))))))))))))))))))))))))))))))))))))))))))))))))))))))))))))))))))))))))))))))))))))))))))))))))))))))))))))))))))))))))))))))))))))))))))))))))))))))))))))))))))))))))))))))))))))))))))))))))))))))))))))))))))))
set_option maxRecDepth 20000 in
theorem gX11_thing_X11_answers : GoodIn wsX11_thing (wsV RX11 519 RX11 yX11_answers wsX11_answers) := goodIn_app (goodIn_of _ (by decide +kernel)) ggX11_thing_X11_answers
theorem dX11_thing_0 : decode cX11_thing 0 = .ok (.aload_n 0, 1) := by decide +kernel
theorem dX11_thing_1 : decode cX11_thing 1 = .ok (.iconst 0, 1) := by decide +kernel
theorem dX11_thing_2 : decode cX11_thing 2 = .ok (.putfield 111, 3) := by decide +kernel
theorem dX11_thing_5 : decode cX11_thing 5 = .ok (.aload_n 0, 1) := by decide +kernel
theorem dX11_thing_6 : decode cX11_thing 6 = .ok (.iload_n 1, 1) := by decide +kernel
theorem dX11_thing_7 : decode cX11_thing 7 = .ok (.invokevirtual 420, 3) := by decide +kernel
theorem dX11_thing_10 : decode cX11_thing 10 = .ok (.ifCond .ne 9, 3) := by decide +kernel
theorem dX11_thing_13 : decode cX11_thing 13 = .ok (.aload_n 0, 1) := by decide +kernel
theorem dX11_thing_14 : decode cX11_thing 14 = .ok (.iconst 1, 1) := by decide +kernel
theorem dX11_thing_15 : decode cX11_thing 15 = .ok (.invokevirtual 226, 3) := by decide +kernel
theorem dX11_thing_18 : decode cX11_thing 18 = .ok (.ireturn, 1) := by decide +kernel
theorem dX11_thing_19 : decode cX11_thing 19 = .ok (.iload_n 2, 1) := by decide +kernel
theorem dX11_thing_20 : decode cX11_thing 20 = .ok (.tableswitch 168 0 9 #[56, 65, 74, 83, 92, 101, 114, 142, 156, 162], 56) := by decide +kernel
theorem dX11_thing_76 : decode cX11_thing 76 = .ok (.aload_n 0, 1) := by decide +kernel
theorem dX11_thing_77 : decode cX11_thing 77 = .ok (.getfield 9, 3) := by decide +kernel
theorem dX11_thing_80 : decode cX11_thing 80 = .ok (.iload_n 1, 1) := by decide +kernel
theorem dX11_thing_81 : decode cX11_thing 81 = .ok (.invokestatic 253, 3) := by decide +kernel
theorem dX11_thing_84 : decode cX11_thing 84 = .ok (.ireturn, 1) := by decide +kernel
theorem dX11_thing_85 : decode cX11_thing 85 = .ok (.aload_n 0, 1) := by decide +kernel
theorem dX11_thing_86 : decode cX11_thing 86 = .ok (.getfield 9, 3) := by decide +kernel
theorem dX11_thing_89 : decode cX11_thing 89 = .ok (.iload_n 1, 1) := by decide +kernel
theorem dX11_thing_90 : decode cX11_thing 90 = .ok (.invokestatic 270, 3) := by decide +kernel
theorem dX11_thing_93 : decode cX11_thing 93 = .ok (.ireturn, 1) := by decide +kernel
theorem dX11_thing_94 : decode cX11_thing 94 = .ok (.aload_n 0, 1) := by decide +kernel
theorem dX11_thing_95 : decode cX11_thing 95 = .ok (.getfield 9, 3) := by decide +kernel
theorem dX11_thing_98 : decode cX11_thing 98 = .ok (.iload_n 1, 1) := by decide +kernel
theorem dX11_thing_99 : decode cX11_thing 99 = .ok (.invokestatic 489, 3) := by decide +kernel
theorem dX11_thing_102 : decode cX11_thing 102 = .ok (.ireturn, 1) := by decide +kernel
theorem dX11_thing_103 : decode cX11_thing 103 = .ok (.aload_n 0, 1) := by decide +kernel
theorem dX11_thing_104 : decode cX11_thing 104 = .ok (.getfield 9, 3) := by decide +kernel
theorem dX11_thing_107 : decode cX11_thing 107 = .ok (.iload_n 1, 1) := by decide +kernel
theorem dX11_thing_108 : decode cX11_thing 108 = .ok (.invokestatic 360, 3) := by decide +kernel
theorem dX11_thing_111 : decode cX11_thing 111 = .ok (.ireturn, 1) := by decide +kernel
theorem dX11_thing_112 : decode cX11_thing 112 = .ok (.aload_n 0, 1) := by decide +kernel
theorem dX11_thing_113 : decode cX11_thing 113 = .ok (.getfield 9, 3) := by decide +kernel
theorem dX11_thing_116 : decode cX11_thing 116 = .ok (.iload_n 1, 1) := by decide +kernel
theorem dX11_thing_117 : decode cX11_thing 117 = .ok (.invokestatic 246, 3) := by decide +kernel
theorem dX11_thing_120 : decode cX11_thing 120 = .ok (.ireturn, 1) := by decide +kernel
theorem dX11_thing_121 : decode cX11_thing 121 = .ok (.iload_n 1, 1) := by decide +kernel
theorem dX11_thing_122 : decode cX11_thing 122 = .ok (.aload_n 0, 1) := by decide +kernel
theorem dX11_thing_123 : decode cX11_thing 123 = .ok (.getfield 9, 3) := by decide +kernel
theorem dX11_thing_126 : decode cX11_thing 126 = .ok (.iload_n 1, 1) := by decide +kernel
theorem dX11_thing_127 : decode cX11_thing 127 = .ok (.invokestatic 242, 3) := by decide +kernel
theorem dX11_thing_130 : decode cX11_thing 130 = .ok (.iadd, 1) := by decide +kernel
theorem dX11_thing_131 : decode cX11_thing 131 = .ok (.iconst 1, 1) := by decide +kernel
theorem dX11_thing_132 : decode cX11_thing 132 = .ok (.isub, 1) := by decide +kernel
theorem dX11_thing_133 : decode cX11_thing 133 = .ok (.ireturn, 1) := by decide +kernel
theorem dX11_thing_134 : decode cX11_thing 134 = .ok (.aload_n 0, 1) := by decide +kernel
theorem dX11_thing_135 : decode cX11_thing 135 = .ok (.getfield 9, 3) := by decide +kernel
theorem dX11_thing_138 : decode cX11_thing 138 = .ok (.iload_n 1, 1) := by decide +kernel
theorem dX11_thing_139 : decode cX11_thing 139 = .ok (.invokestatic 253, 3) := by decide +kernel
theorem dX11_thing_142 : decode cX11_thing 142 = .ok (.ifCond .ne 16, 3) := by decide +kernel
theorem dX11_thing_158 : decode cX11_thing 158 = .ok (.sipush (-1000), 3) := by decide +kernel
theorem dX11_thing_161 : decode cX11_thing 161 = .ok (.ireturn, 1) := by decide +kernel
theorem dX11_thing_162 : decode cX11_thing 162 = .ok (.aload_n 0, 1) := by decide +kernel
theorem dX11_thing_163 : decode cX11_thing 163 = .ok (.getfield 9, 3) := by decide +kernel
theorem dX11_thing_166 : decode cX11_thing 166 = .ok (.iconst 4, 1) := by decide +kernel
theorem dX11_thing_167 : decode cX11_thing 167 = .ok (.iload_n 1, 1) := by decide +kernel
theorem dX11_thing_168 : decode cX11_thing 168 = .ok (.imul, 1) := by decide +kernel
theorem dX11_thing_169 : decode cX11_thing 169 = .ok (.iconst 2, 1) := by decide +kernel
theorem dX11_thing_170 : decode cX11_thing 170 = .ok (.iadd, 1) := by decide +kernel
theorem dX11_thing_171 : decode cX11_thing 171 = .ok (.iaload, 1) := by decide +kernel
theorem dX11_thing_172 : decode cX11_thing 172 = .ok (.invokestatic 338, 3) := by decide +kernel
theorem dX11_thing_175 : decode cX11_thing 175 = .ok (.ireturn, 1) := by decide +kernel
theorem dX11_thing_176 : decode cX11_thing 176 = .ok (.aload_n 0, 1) := by decide +kernel
theorem dX11_thing_177 : decode cX11_thing 177 = .ok (.iload_n 1, 1) := by decide +kernel
theorem dX11_thing_178 : decode cX11_thing 178 = .ok (.invokevirtual 516, 3) := by decide +kernel
theorem dX11_thing_181 : decode cX11_thing 181 = .ok (.ireturn, 1) := by decide +kernel
theorem dX11_thing_182 : decode cX11_thing 182 = .ok (.aload_n 0, 1) := by decide +kernel
theorem dX11_thing_183 : decode cX11_thing 183 = .ok (.iload_n 1, 1) := by decide +kernel
theorem dX11_thing_184 : decode cX11_thing 184 = .ok (.invokevirtual 519, 3) := by decide +kernel
theorem dX11_thing_187 : decode cX11_thing 187 = .ok (.ireturn, 1) := by decide +kernel
theorem dX11_thing_188 : decode cX11_thing 188 = .ok (.aload_n 0, 1) := by decide +kernel
theorem dX11_thing_189 : decode cX11_thing 189 = .ok (.iconst 1, 1) := by decide +kernel
theorem dX11_thing_190 : decode cX11_thing 190 = .ok (.invokevirtual 226, 3) := by decide +kernel
theorem dX11_thing_193 : decode cX11_thing 193 = .ok (.ireturn, 1) := by decide +kernel
set_option maxRecDepth 100000 in
theorem ggX11_within_X11_isThing : GoodIn wsX11_within wsX11_isThing := (gi_cons 7 rfl rfl (gi_cons 8 rfl rfl (gi_cons 9 rfl rfl (gi_cons 10 rfl rfl (gi_cons 6 rfl rfl (gi_cons 11 rfl rfl (gi_cons 2 rfl rfl (gi_cons 12 rfl rfl (gi_cons 13 rfl rfl (gi_cons 14 rfl rfl (gi_cons 28 rfl rfl (gi_cons 29 rfl rfl (gi_cons 30 rfl rfl (gi_cons 31 rfl rfl (gi_cons 32 rfl rfl (gi_cons 33 rfl rfl (gi_cons 34 rfl rfl (gi_cons 35 rfl rfl (gi_cons 36 rfl rfl (gi_cons 37 rfl rfl (gi_cons 38 rfl rfl (gi_cons 39 rfl rfl (gi_cons 40 rfl rfl (gi_cons 41 rfl rfl (gi_cons 42 rfl rfl (gi_cons 43 rfl rfl (gi_cons 44 rfl rfl (gi_cons 45 rfl rfl (gi_cons 46 rfl rfl (gi_cons 47 rfl rfl (gi_cons 48 rfl rfl (gi_cons 49 rfl rfl (gi_cons 50 rfl rfl (gi_cons 51 rfl rfl (gi_cons 52 rfl rfl (gi_cons 53 rfl rfl (gi_cons 54 rfl rfl (gi_cons 55 rfl rfl (gi_cons 56 rfl rfl (gi_cons 57 rfl rfl (gi_cons 58 rfl rfl (gi_cons 59 rfl rfl (gi_cons 60 rfl rfl (gi_cons 61 rfl rfl (gi_cons 62 rfl rfl (gi_cons 63 rfl rfl (gi_cons 64 rfl rfl (gi_cons 65 rfl rfl (gi_cons 66 rfl rfl (gi_cons 67 rfl rfl (gi_cons 68 rfl rfl (gi_cons 69 rfl rfl (gi_cons 70 rfl rfl (gi_cons 71 rfl rfl (gi_cons 72 rfl rfl (gi_cons 73 rfl rfl (gi_cons 74 rfl rfl (gi_cons 75 rfl rfl (gi_cons 76 rfl rfl (gi_cons 77 rfl rfl (gi_cons 78 rfl rfl (gi_cons 79 rfl rfl (gi_cons 80 rfl rfl (gi_cons 81 rfl rfl (gi_cons 82 rfl rfl (gi_cons 83 rfl rfl (gi_cons 84 rfl rfl (gi_cons 85 rfl rfl (gi_cons 86 rfl rfl (gi_cons 87 rfl rfl (gi_cons 88 rfl rfl (gi_cons 89 rfl rfl (gi_cons 90 rfl rfl (gi_cons 91 rfl rfl (gi_cons 92 rfl rfl (gi_cons 93 rfl rfl gi_nil))))))))))))))))))))))))))))))))))))))))))))))))))))))))))))))))))))))))))))
set_option maxRecDepth 20000 in
theorem gX11_within_X11_isThing : GoodIn wsX11_within (wsV RX11 420 RX11 yX11_isThing wsX11_isThing) := goodIn_app (goodIn_of _ (by decide +kernel)) ggX11_within_X11_isThing
set_option maxRecDepth 100000 in
theorem ggX11_within_X11_many : GoodIn wsX11_within wsX11_many := (gi_cons 17 rfl rfl (gi_cons 18 rfl rfl (gi_cons 19 rfl rfl (gi_cons 6 rfl rfl (gi_cons 20 rfl rfl gi_nil)))))
set_option maxRecDepth 20000 in
theorem gX11_within_X11_many : GoodIn wsX11_within (va_wsS RX11 246 yX11_many wsX11_many) := goodIn_app (goodIn_of _ (by decide +kernel)) ggX11_within_X11_many
set_option maxRecDepth 100000 in
theorem ggX11_within_X11_isIn : GoodIn wsX11_within wsX11_isIn := (gi_cons 14 rfl rfl gi_nil)
set_option maxRecDepth 20000 in
theorem gX11_within_X11_isIn : GoodIn wsX11_within (va_wsS RX11 219 yX11_isIn wsX11_isIn) := goodIn_app (goodIn_of _ (by decide +kernel)) ggX11_within_X11_isIn
set_option maxRecDepth 100000 in
theorem ggX11_within_X11_fail : GoodIn wsX11_within wsX11_fail := (gi_cons 27 rfl rfl (gi_cons 1 rfl rfl (gi_cons 28 rfl rfl (gi_cons 29 rfl rfl (gi_cons 30 rfl rfl (gi_cons 31 rfl rfl (gi_cons 32 rfl rfl (gi_cons 33 rfl rfl (gi_cons 34 rfl rfl (gi_cons 35 rfl rfl (gi_cons 36 rfl rfl (gi_cons 37 rfl rfl (gi_cons 38 rfl rfl (gi_cons 39 rfl rfl (gi_cons 40 rfl rfl (gi_cons 41 rfl rfl (gi_cons 42 rfl rfl (gi_cons 43 rfl rfl (gi_cons 44 rfl rfl (gi_cons 45 rfl rfl (gi_cons 46 rfl rfl (gi_cons 47 rfl rfl (gi_cons 48 rfl rfl (gi_cons 49 rfl rfl (gi_cons 50 rfl rfl (gi_cons 51 rfl rfl (gi_cons 52 rfl rfl (gi_cons 53 rfl rfl (gi_cons 54 rfl rfl (gi_cons 55 rfl rfl (gi_cons 56 rfl rfl (gi_cons 57 rfl rfl (gi_cons 58 rfl rfl (gi_cons 59 rfl rfl (gi_cons 60 rfl rfl (gi_cons 61 rfl rfl (gi_cons 62 rfl rfl (gi_cons 63 rfl rfl (gi_cons 64 rfl rfl (gi_cons 65 rfl rfl (gi_cons 66 rfl rfl (gi_cons 67 rfl rfl (gi_cons 68 rfl rfl (gi_cons 69 rfl rfl (gi_cons 70 rfl rfl (gi_cons 71 rfl rfl (gi_cons 72 rfl rfl (gi_cons 73 rfl rfl (gi_cons 74 rfl rfl (gi_cons 75 rfl rfl (gi_cons 76 rfl rfl (gi_cons 77 rfl rfl (gi_cons 78 rfl rfl (gi_cons 79 rfl rfl (gi_cons 80 rfl rfl (gi_cons 81 rfl rfl (gi_cons 82 rfl rfl (gi_cons 83 rfl rfl (gi_cons 84 rfl rfl (gi_cons 85 rfl rfl (gi_cons 86 rfl rfl (gi_cons 87 rfl rfl (gi_cons 88 rfl rfl (gi_cons 89 rfl rfl (gi_cons 90 rfl rfl (gi_cons 91 rfl rfl (gi_cons 92 rfl rfl (gi_cons 93 rfl rfl gi_nil))))))))))))))))))))))))))))))))))))))))))))))))))))))))))))))))))))
set_option maxRecDepth 20000 in
theorem gX11_within_X11_fail : GoodIn wsX11_within (wsV RX11 226 RX11 yX11_fail wsX11_fail) := goodIn_app (goodIn_of _ (by decide +kernel)) ggX11_within_X11_fail
theorem dX11_within_0 : decode cX11_within 0 = .ok (.aload_n 0, 1) := by decide +kernel
theorem dX11_within_1 : decode cX11_within 1 = .ok (.iconst 0, 1) := by decide +kernel
theorem dX11_within_2 : decode cX11_within 2 = .ok (.putfield 111, 3) := by decide +kernel
theorem dX11_within_5 : decode cX11_within 5 = .ok (.aload_n 0, 1) := by decide +kernel
theorem dX11_within_6 : decode cX11_within 6 = .ok (.iload_n 1, 1) := by decide +kernel
theorem dX11_within_7 : decode cX11_within 7 = .ok (.invokevirtual 420, 3) := by decide +kernel
theorem dX11_within_10 : decode cX11_within 10 = .ok (.ifCond .eq 33, 3) := by decide +kernel
theorem dX11_within_13 : decode cX11_within 13 = .ok (.iload_n 2, 1) := by decide +kernel
theorem dX11_within_14 : decode cX11_within 14 = .ok (.iconst 0, 1) := by decide +kernel
theorem dX11_within_15 : decode cX11_within 15 = .ok (.aload_n 0, 1) := by decide +kernel
theorem dX11_within_16 : decode cX11_within 16 = .ok (.getfield 9, 3) := by decide +kernel
theorem dX11_within_19 : decode cX11_within 19 = .ok (.iload_n 1, 1) := by decide +kernel
theorem dX11_within_20 : decode cX11_within 20 = .ok (.invokestatic 246, 3) := by decide +kernel
theorem dX11_within_23 : decode cX11_within 23 = .ok (.iconst 1, 1) := by decide +kernel
theorem dX11_within_24 : decode cX11_within 24 = .ok (.isub, 1) := by decide +kernel
theorem dX11_within_25 : decode cX11_within 25 = .ok (.invokestatic 219, 3) := by decide +kernel
theorem dX11_within_28 : decode cX11_within 28 = .ok (.ifCond .eq 15, 3) := by decide +kernel
theorem dX11_within_43 : decode cX11_within 43 = .ok (.aload_n 0, 1) := by decide +kernel
theorem dX11_within_44 : decode cX11_within 44 = .ok (.iconst 1, 1) := by decide +kernel
theorem dX11_within_45 : decode cX11_within 45 = .ok (.invokevirtual 226, 3) := by decide +kernel
theorem dX11_within_48 : decode cX11_within 48 = .ok (.ireturn, 1) := by decide +kernel
set_option maxRecDepth 100000 in
theorem ggX11_alike_X11_isThing : GoodIn wsX11_alike wsX11_isThing := (gi_cons 7 rfl rfl (gi_cons 8 rfl rfl (gi_cons 9 rfl rfl (gi_cons 10 rfl rfl (gi_cons 6 rfl rfl (gi_cons 11 rfl rfl (gi_cons 2 rfl rfl (gi_cons 12 rfl rfl (gi_cons 13 rfl rfl (gi_cons 14 rfl rfl (gi_cons 40 rfl rfl (gi_cons 41 rfl rfl (gi_cons 42 rfl rfl (gi_cons 43 rfl rfl (gi_cons 44 rfl rfl (gi_cons 45 rfl rfl (gi_cons 46 rfl rfl (gi_cons 47 rfl rfl (gi_cons 48 rfl rfl (gi_cons 49 rfl rfl (gi_cons 50 rfl rfl (gi_cons 51 rfl rfl (gi_cons 52 rfl rfl (gi_cons 53 rfl rfl (gi_cons 54 rfl rfl (gi_cons 55 rfl rfl (gi_cons 56 rfl rfl (gi_cons 57 rfl rfl (gi_cons 58 rfl rfl (gi_cons 59 rfl rfl (gi_cons 60 rfl rfl (gi_cons 61 rfl rfl (gi_cons 62 rfl rfl (gi_cons 63 rfl rfl (gi_cons 64 rfl rfl (gi_cons 65 rfl rfl (gi_cons 66 rfl rfl (gi_cons 67 rfl rfl (gi_cons 68 rfl rfl (gi_cons 69 rfl rfl (gi_cons 70 rfl rfl (gi_cons 71 rfl rfl (gi_cons 72 rfl rfl (gi_cons 73 rfl rfl (gi_cons 74 rfl rfl (gi_cons 75 rfl rfl (gi_cons 76 rfl rfl (gi_cons 77 rfl rfl (gi_cons 78 rfl rfl (gi_cons 79 rfl rfl (gi_cons 80 rfl rfl (gi_cons 81 rfl rfl (gi_cons 82 rfl rfl (gi_cons 83 rfl rfl (gi_cons 84 rfl rfl (gi_cons 85 rfl rfl (gi_cons 86 rfl rfl (gi_cons 87 rfl rfl (gi_cons 88 rfl rfl (gi_cons 89 rfl rfl (gi_cons 90 rfl rfl (gi_cons 91 rfl rfl (gi_cons 92 rfl rfl (gi_cons 93 rfl rfl (gi_cons 94 rfl rfl (gi_cons 95 rfl rfl (gi_cons 96 rfl rfl (gi_cons 97 rfl rfl (gi_cons 98 rfl rfl (gi_cons 99 rfl rfl (gi_cons 100 rfl rfl (gi_cons 101 rfl rfl (gi_cons 102 rfl rfl (gi_cons 103 rfl rfl (gi_cons 104 rfl rfl (gi_cons 105 rfl rfl gi_nil))))))))))))))))))))))))))))))))))))))))))))))))))))))))))))))))))))))))))))
set_option maxRecDepth 20000 in
theorem gX11_alike_X11_isThing : GoodIn wsX11_alike (wsV RX11 420 RX11 yX11_isThing wsX11_isThing) := goodIn_app (goodIn_of _ (by decide +kernel)) ggX11_alike_X11_isThing
set_option maxRecDepth 100000 in
theorem ggX11_alike_X11_areLike : GoodIn wsX11_alike wsX11_areLike := (gi_cons 17 rfl rfl (gi_cons 18 rfl rfl (gi_cons 19 rfl rfl (gi_cons 6 rfl rfl (gi_cons 20 rfl rfl (gi_cons 21 rfl rfl (gi_cons 22 rfl rfl (gi_cons 23 rfl rfl (gi_cons 24 rfl rfl (gi_cons 25 rfl rfl (gi_cons 26 rfl rfl (gi_cons 27 rfl rfl (gi_cons 28 rfl rfl (gi_cons 29 rfl rfl (gi_cons 30 rfl rfl (gi_cons 31 rfl rfl (gi_cons 32 rfl rfl (gi_cons 33 rfl rfl (gi_cons 34 rfl rfl (gi_cons 35 rfl rfl (gi_cons 15 rfl rfl (gi_cons 16 rfl rfl gi_nil))))))))))))))))))))))
set_option maxRecDepth 20000 in
theorem gX11_alike_X11_areLike : GoodIn wsX11_alike (va_wsS RX11 263 yX11_areLike wsX11_areLike) := goodIn_app (goodIn_of _ (by decide +kernel)) ggX11_alike_X11_areLike
set_option maxRecDepth 100000 in
theorem ggX11_alike_X11_fail : GoodIn wsX11_alike wsX11_fail := (gi_cons 39 rfl rfl (gi_cons 1 rfl rfl (gi_cons 40 rfl rfl (gi_cons 41 rfl rfl (gi_cons 42 rfl rfl (gi_cons 43 rfl rfl (gi_cons 44 rfl rfl (gi_cons 45 rfl rfl (gi_cons 46 rfl rfl (gi_cons 47 rfl rfl (gi_cons 48 rfl rfl (gi_cons 49 rfl rfl (gi_cons 50 rfl rfl (gi_cons 51 rfl rfl (gi_cons 52 rfl rfl (gi_cons 53 rfl rfl (gi_cons 54 rfl rfl (gi_cons 55 rfl rfl (gi_cons 56 rfl rfl (gi_cons 57 rfl rfl (gi_cons 58 rfl rfl (gi_cons 59 rfl rfl (gi_cons 60 rfl rfl (gi_cons 61 rfl rfl (gi_cons 62 rfl rfl (gi_cons 63 rfl rfl (gi_cons 64 rfl rfl (gi_cons 65 rfl rfl (gi_cons 66 rfl rfl (gi_cons 67 rfl rfl (gi_cons 68 rfl rfl (gi_cons 69 rfl rfl (gi_cons 70 rfl rfl (gi_cons 71 rfl rfl (gi_cons 72 rfl rfl (gi_cons 73 rfl rfl (gi_cons 74 rfl rfl (gi_cons 75 rfl rfl (gi_cons 76 rfl rfl (gi_cons 77 rfl rfl (gi_cons 78 rfl rfl (gi_cons 79 rfl rfl (gi_cons 80 rfl rfl (gi_cons 81 rfl rfl (gi_cons 82 rfl rfl (gi_cons 83 rfl rfl (gi_cons 84 rfl rfl (gi_cons 85 rfl rfl (gi_cons 86 rfl rfl (gi_cons 87 rfl rfl (gi_cons 88 rfl rfl (gi_cons 89 rfl rfl (gi_cons 90 rfl rfl (gi_cons 91 rfl rfl (gi_cons 92 rfl rfl (gi_cons 93 rfl rfl (gi_cons 94 rfl rfl (gi_cons 95 rfl rfl (gi_cons 96 rfl rfl (gi_cons 97 rfl rfl (gi_cons 98 rfl rfl (gi_cons 99 rfl rfl (gi_cons 100 rfl rfl (gi_cons 101 rfl rfl (gi_cons 102 rfl rfl (gi_cons 103 rfl rfl (gi_cons 104 rfl rfl (gi_cons 105 rfl rfl gi_nil))))))))))))))))))))))))))))))))))))))))))))))))))))))))))))))))))))
set_option maxRecDepth 20000 in
theorem gX11_alike_X11_fail : GoodIn wsX11_alike (wsV RX11 226 RX11 yX11_fail wsX11_fail) := goodIn_app (goodIn_of _ (by decide +kernel)) ggX11_alike_X11_fail
theorem dX11_alike_0 : decode cX11_alike 0 = .ok (.aload_n 0, 1) := by decide +kernel
theorem dX11_alike_1 : decode cX11_alike 1 = .ok (.iconst 0, 1) := by decide +kernel
theorem dX11_alike_2 : decode cX11_alike 2 = .ok (.putfield 111, 3) := by decide +kernel
theorem dX11_alike_5 : decode cX11_alike 5 = .ok (.aload_n 0, 1) := by decide +kernel
theorem dX11_alike_6 : decode cX11_alike 6 = .ok (.iload_n 1, 1) := by decide +kernel
theorem dX11_alike_7 : decode cX11_alike 7 = .ok (.invokevirtual 420, 3) := by decide +kernel
theorem dX11_alike_10 : decode cX11_alike 10 = .ok (.ifCond .eq 35, 3) := by decide +kernel
theorem dX11_alike_13 : decode cX11_alike 13 = .ok (.aload_n 0, 1) := by decide +kernel
theorem dX11_alike_14 : decode cX11_alike 14 = .ok (.iload_n 2, 1) := by decide +kernel
theorem dX11_alike_15 : decode cX11_alike 15 = .ok (.invokevirtual 420, 3) := by decide +kernel
theorem dX11_alike_18 : decode cX11_alike 18 = .ok (.ifCond .eq 27, 3) := by decide +kernel
theorem dX11_alike_21 : decode cX11_alike 21 = .ok (.aload_n 0, 1) := by decide +kernel
theorem dX11_alike_22 : decode cX11_alike 22 = .ok (.getfield 9, 3) := by decide +kernel
theorem dX11_alike_25 : decode cX11_alike 25 = .ok (.iload_n 1, 1) := by decide +kernel
theorem dX11_alike_26 : decode cX11_alike 26 = .ok (.aload_n 0, 1) := by decide +kernel
theorem dX11_alike_27 : decode cX11_alike 27 = .ok (.getfield 9, 3) := by decide +kernel
theorem dX11_alike_30 : decode cX11_alike 30 = .ok (.iload_n 2, 1) := by decide +kernel
theorem dX11_alike_31 : decode cX11_alike 31 = .ok (.invokestatic 263, 3) := by decide +kernel
theorem dX11_alike_34 : decode cX11_alike 34 = .ok (.ifCond .eq 7, 3) := by decide +kernel
theorem dX11_alike_37 : decode cX11_alike 37 = .ok (.iconst 1, 1) := by decide +kernel
theorem dX11_alike_38 : decode cX11_alike 38 = .ok (.goto 12, 3) := by decide +kernel
theorem dX11_alike_45 : decode cX11_alike 45 = .ok (.aload_n 0, 1) := by decide +kernel
theorem dX11_alike_46 : decode cX11_alike 46 = .ok (.iconst 1, 1) := by decide +kernel
theorem dX11_alike_47 : decode cX11_alike 47 = .ok (.invokevirtual 226, 3) := by decide +kernel
theorem dX11_alike_50 : decode cX11_alike 50 = .ok (.ireturn, 1) := by decide +kernel
set_option maxRecDepth 100000 in
theorem ggX11_fits_X11_isPath : GoodIn wsX11_fits wsX11_isPath := (gi_cons 11 rfl rfl (gi_cons 12 rfl rfl (gi_cons 13 rfl rfl (gi_cons 14 rfl rfl (gi_cons 10 rfl rfl (gi_cons 15 rfl rfl (gi_cons 182 rfl rfl (gi_cons 183 rfl rfl (gi_cons 184 rfl rfl (gi_cons 185 rfl rfl (gi_cons 186 rfl rfl (gi_cons 187 rfl rfl (gi_cons 188 rfl rfl (gi_cons 189 rfl rfl (gi_cons 190 rfl rfl (gi_cons 191 rfl rfl (gi_cons 192 rfl rfl (gi_cons 193 rfl rfl (gi_cons 194 rfl rfl (gi_cons 195 rfl rfl (gi_cons 196 rfl rfl (gi_cons 197 rfl rfl (gi_cons 198 rfl rfl (gi_cons 199 rfl rfl (gi_cons 200 rfl rfl (gi_cons 201 rfl rfl (gi_cons 202 rfl rfl (gi_cons 203 rfl rfl (gi_cons 204 rfl rfl (gi_cons 205 rfl rfl (gi_cons 206 rfl rfl (gi_cons 207 rfl rfl (gi_cons 208 rfl rfl (gi_cons 209 rfl rfl (gi_cons 210 rfl rfl (gi_cons 211 rfl rfl (gi_cons 212 rfl rfl (gi_cons 213 rfl rfl (gi_cons 214 rfl rfl (gi_cons 215 rfl rfl (gi_cons 216 rfl rfl (gi_cons 217 rfl rfl (gi_cons 218 rfl rfl (gi_cons 219 rfl rfl (gi_cons 220 rfl rfl (gi_cons 221 rfl rfl (gi_cons 222 rfl rfl (gi_cons 223 rfl rfl (gi_cons 224 rfl rfl (gi_cons 225 rfl rfl (gi_cons 226 rfl rfl (gi_cons 227 rfl rfl (gi_cons 228 rfl rfl (gi_cons 229 rfl rfl (gi_cons 230 rfl rfl (gi_cons 231 rfl rfl (gi_cons 232 rfl rfl (gi_cons 233 rfl rfl (gi_cons 234 rfl rfl (gi_cons 235 rfl rfl (gi_cons 236 rfl rfl (gi_cons 237 rfl rfl (gi_cons 238 rfl rfl (gi_cons 239 rfl rfl (gi_cons 240 rfl rfl (gi_cons 241 rfl rfl (gi_cons 242 rfl rfl (gi_cons 243 rfl rfl (gi_cons 244 rfl rfl (gi_cons 245 rfl rfl (gi_cons 246 rfl rfl (gi_cons 247 rfl rfl gi_nil))))))))))))))))))))))))))))))))))))))))))))))))))))))))))))))))))))))))
set_option maxRecDepth 20000 in
theorem gX11_fits_X11_isPath : GoodIn wsX11_fits (wsV RX11 344 RX11 yX11_isPath wsX11_isPath) := goodIn_app (goodIn_of _ (by decide +kernel)) ggX11_fits_X11_isPath
theorem dX11_fits_0 : decode cX11_fits 0 = .ok (.iconst 0, 1) := by decide +kernel
theorem dX11_fits_1 : decode cX11_fits 1 = .ok (.istore_n 1, 1) := by decide +kernel
theorem dX11_fits_2 : decode cX11_fits 2 = .ok (.aload_n 0, 1) := by decide +kernel
theorem dX11_fits_3 : decode cX11_fits 3 = .ok (.iconst 0, 1) := by decide +kernel
theorem dX11_fits_4 : decode cX11_fits 4 = .ok (.putfield 522, 3) := by decide +kernel
theorem dX11_fits_7 : decode cX11_fits 7 = .ok (.iconst 0, 1) := by decide +kernel
theorem dX11_fits_8 : decode cX11_fits 8 = .ok (.istore_n 2, 1) := by decide +kernel
theorem dX11_fits_9 : decode cX11_fits 9 = .ok (.iload_n 2, 1) := by decide +kernel
theorem dX11_fits_10 : decode cX11_fits 10 = .ok (.bipush 60, 2) := by decide +kernel
theorem dX11_fits_12 : decode cX11_fits 12 = .ok (.if_icmp .ge 16, 3) := by decide +kernel
theorem dX11_fits_15 : decode cX11_fits 15 = .ok (.aload_n 0, 1) := by decide +kernel
theorem dX11_fits_16 : decode cX11_fits 16 = .ok (.getfield 87, 3) := by decide +kernel
theorem dX11_fits_19 : decode cX11_fits 19 = .ok (.iload_n 2, 1) := by decide +kernel
theorem dX11_fits_20 : decode cX11_fits 20 = .ok (.iconst 0, 1) := by decide +kernel
theorem dX11_fits_21 : decode cX11_fits 21 = .ok (.iastore, 1) := by decide +kernel
theorem dX11_fits_22 : decode cX11_fits 22 = .ok (.iinc 2 1, 3) := by decide +kernel
theorem dX11_fits_25 : decode cX11_fits 25 = .ok (.goto (-16), 3) := by decide +kernel
theorem dX11_fits_28 : decode cX11_fits 28 = .ok (.iconst 0, 1) := by decide +kernel
theorem dX11_fits_29 : decode cX11_fits 29 = .ok (.istore_n 2, 1) := by decide +kernel
theorem dX11_fits_30 : decode cX11_fits 30 = .ok (.iload_n 2, 1) := by decide +kernel
theorem dX11_fits_31 : decode cX11_fits 31 = .ok (.iconst 4, 1) := by decide +kernel
theorem dX11_fits_32 : decode cX11_fits 32 = .ok (.if_icmp .ge 166, 3) := by decide +kernel
theorem dX11_fits_35 : decode cX11_fits 35 = .ok (.aload_n 0, 1) := by decide +kernel
theorem dX11_fits_36 : decode cX11_fits 36 = .ok (.iload_n 2, 1) := by decide +kernel
theorem dX11_fits_37 : decode cX11_fits 37 = .ok (.invokevirtual 344, 3) := by decide +kernel
theorem dX11_fits_40 : decode cX11_fits 40 = .ok (.ifCond .ne 6, 3) := by decide +kernel
theorem dX11_fits_43 : decode cX11_fits 43 = .ok (.goto 149, 3) := by decide +kernel
theorem dX11_fits_192 : decode cX11_fits 192 = .ok (.iinc 2 1, 3) := by decide +kernel
theorem dX11_fits_195 : decode cX11_fits 195 = .ok (.goto (-165), 3) := by decide +kernel
theorem dX11_fits_198 : decode cX11_fits 198 = .ok (.iload_n 1, 1) := by decide +kernel
theorem dX11_fits_199 : decode cX11_fits 199 = .ok (.ireturn, 1) := by decide +kernel
