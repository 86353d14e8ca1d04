set_option maxRecDepth 100000 in
theorem ggX11_answersOf_X11_things : GoodIn wsX11_answersOf wsX11_things := (gi_cons 7 rfl rfl (gi_cons 2 rfl rfl (gi_cons 11 rfl rfl (gi_cons 12 rfl rfl (gi_cons 13 rfl rfl (gi_cons 14 rfl rfl (gi_cons 15 rfl rfl (gi_cons 16 rfl rfl (gi_cons 17 rfl rfl (gi_cons 18 rfl rfl (gi_cons 19 rfl rfl (gi_cons 20 rfl rfl (gi_cons 21 rfl rfl (gi_cons 22 rfl rfl (gi_cons 23 rfl rfl (gi_cons 24 rfl rfl (gi_cons 25 rfl rfl (gi_cons 26 rfl rfl (gi_cons 27 rfl rfl (gi_cons 28 rfl rfl (gi_cons 29 rfl rfl (gi_cons 30 rfl rfl (gi_cons 31 rfl rfl (gi_cons 32 rfl rfl (gi_cons 33 rfl rfl (gi_cons 34 rfl rfl (gi_cons 35 rfl rfl (gi_cons 36 rfl rfl (gi_cons 37 rfl rfl (gi_cons 38 rfl rfl (gi_cons 39 rfl rfl (gi_cons 40 rfl rfl (gi_cons 41 rfl rfl (gi_cons 42 rfl rfl (gi_cons 43 rfl rfl (gi_cons 44 rfl rfl (gi_cons 45 rfl rfl (gi_cons 46 rfl rfl (gi_cons 47 rfl rfl (gi_cons 48 rfl rfl (gi_cons 49 rfl rfl (gi_cons 50 rfl rfl (gi_cons 51 rfl rfl (gi_cons 52 rfl rfl (gi_cons 53 rfl rfl (gi_cons 54 rfl rfl (gi_cons 55 rfl rfl (gi_cons 56 rfl rfl (gi_cons 57 rfl rfl (gi_cons 58 rfl rfl (gi_cons 59 rfl rfl (gi_cons 60 rfl rfl (gi_cons 61 rfl rfl (gi_cons 62 rfl rfl (gi_cons 63 rfl rfl (gi_cons 64 rfl rfl (gi_cons 65 rfl rfl (gi_cons 66 rfl rfl (gi_cons 67 rfl rfl (gi_cons 68 rfl rfl (gi_cons 69 rfl rfl (gi_cons 70 rfl rfl (gi_cons 71 rfl rfl (gi_cons 72 rfl rfl (gi_cons 73 rfl rfl (gi_cons 74 rfl rfl (gi_cons 75 rfl rfl (gi_cons 76 rfl rfl gi_nil))))))))))))))))))))))))))))))))))))))))))))))))))))))))))))))))))))
set_option maxRecDepth 20000 in
theorem gX11_answersOf_X11_things : GoodIn wsX11_answersOf (wsV RX11 267 RX11 yX11_things wsX11_things) := goodIn_app (goodIn_of _ (by decide +kernel)) ggX11_answersOf_X11_things
set_option maxRecDepth 100000 in
theorem ggX11_answersOf_X11_kind : GoodIn wsX11_answersOf wsX11_kind := (gi_cons 10 rfl rfl gi_nil)
set_option maxRecDepth 20000 in
theorem gX11_answersOf_X11_kind : GoodIn wsX11_answersOf (va_wsS RX11 253 yX11_kind wsX11_kind) := goodIn_app (goodIn_of _ (by decide +kernel)) ggX11_answersOf_X11_kind
theorem dX11_answersOf_0 : decode cX11_answersOf 0 = .ok (.iconst 0, 1) := by decide +kernel
theorem dX11_answersOf_1 : decode cX11_answersOf 1 = .ok (.istore_n 2, 1) := by decide +kernel
theorem dX11_answersOf_2 : decode cX11_answersOf 2 = .ok (.iconst 0, 1) := by decide +kernel
theorem dX11_answersOf_3 : decode cX11_answersOf 3 = .ok (.istore_n 3, 1) := by decide +kernel
theorem dX11_answersOf_4 : decode cX11_answersOf 4 = .ok (.iload_n 3, 1) := by decide +kernel
theorem dX11_answersOf_5 : decode cX11_answersOf 5 = .ok (.aload_n 0, 1) := by decide +kernel
theorem dX11_answersOf_6 : decode cX11_answersOf 6 = .ok (.invokevirtual 267, 3) := by decide +kernel
theorem dX11_answersOf_9 : decode cX11_answersOf 9 = .ok (.if_icmp .ge 42, 3) := by decide +kernel
theorem dX11_answersOf_12 : decode cX11_answersOf 12 = .ok (.iload_n 2, 1) := by decide +kernel
theorem dX11_answersOf_13 : decode cX11_answersOf 13 = .ok (.aload_n 0, 1) := by decide +kernel
theorem dX11_answersOf_14 : decode cX11_answersOf 14 = .ok (.getfield 35, 3) := by decide +kernel
theorem dX11_answersOf_17 : decode cX11_answersOf 17 = .ok (.iload_n 3, 1) := by decide +kernel
theorem dX11_answersOf_18 : decode cX11_answersOf 18 = .ok (.baload, 1) := by decide +kernel
theorem dX11_answersOf_19 : decode cX11_answersOf 19 = .ok (.ifCond .eq 23, 3) := by decide +kernel
theorem dX11_answersOf_22 : decode cX11_answersOf 22 = .ok (.iload_n 1, 1) := by decide +kernel
theorem dX11_answersOf_23 : decode cX11_answersOf 23 = .ok (.aload_n 0, 1) := by decide +kernel
theorem dX11_answersOf_24 : decode cX11_answersOf 24 = .ok (.getfield 9, 3) := by decide +kernel
theorem dX11_answersOf_27 : decode cX11_answersOf 27 = .ok (.iload_n 3, 1) := by decide +kernel
theorem dX11_answersOf_28 : decode cX11_answersOf 28 = .ok (.invokestatic 253, 3) := by decide +kernel
theorem dX11_answersOf_31 : decode cX11_answersOf 31 = .ok (.ishr, 1) := by decide +kernel
theorem dX11_answersOf_32 : decode cX11_answersOf 32 = .ok (.iconst 1, 1) := by decide +kernel
theorem dX11_answersOf_33 : decode cX11_answersOf 33 = .ok (.iand, 1) := by decide +kernel
theorem dX11_answersOf_34 : decode cX11_answersOf 34 = .ok (.iconst 1, 1) := by decide +kernel
theorem dX11_answersOf_35 : decode cX11_answersOf 35 = .ok (.if_icmp .ne 7, 3) := by decide +kernel
theorem dX11_answersOf_38 : decode cX11_answersOf 38 = .ok (.iconst 1, 1) := by decide +kernel
theorem dX11_answersOf_39 : decode cX11_answersOf 39 = .ok (.goto 4, 3) := by decide +kernel
theorem dX11_answersOf_42 : decode cX11_answersOf 42 = .ok (.iconst 0, 1) := by decide +kernel
theorem dX11_answersOf_43 : decode cX11_answersOf 43 = .ok (.iadd, 1) := by decide +kernel
theorem dX11_answersOf_44 : decode cX11_answersOf 44 = .ok (.istore_n 2, 1) := by decide +kernel
theorem dX11_answersOf_45 : decode cX11_answersOf 45 = .ok (.iinc 3 1, 3) := by decide +kernel
theorem dX11_answersOf_48 : decode cX11_answersOf 48 = .ok (.goto (-44), 3) := by decide +kernel
theorem dX11_answersOf_51 : decode cX11_answersOf 51 = .ok (.iload_n 2, 1) := by decide +kernel
theorem dX11_answersOf_52 : decode cX11_answersOf 52 = .ok (.ireturn, 1) := by decide +kernel
set_option maxRecDepth 100000 in
theorem ggX11_outermost_X11_things : GoodIn wsX11_outermost wsX11_things := (gi_cons 7 rfl rfl (gi_cons 2 rfl rfl (gi_cons 11 rfl rfl (gi_cons 12 rfl rfl (gi_cons 13 rfl rfl (gi_cons 14 rfl rfl (gi_cons 15 rfl rfl (gi_cons 16 rfl rfl (gi_cons 17 rfl rfl (gi_cons 18 rfl rfl (gi_cons 19 rfl rfl (gi_cons 20 rfl rfl (gi_cons 21 rfl rfl (gi_cons 22 rfl rfl (gi_cons 23 rfl rfl (gi_cons 24 rfl rfl (gi_cons 25 rfl rfl (gi_cons 26 rfl rfl (gi_cons 27 rfl rfl (gi_cons 28 rfl rfl (gi_cons 29 rfl rfl (gi_cons 30 rfl rfl (gi_cons 31 rfl rfl (gi_cons 32 rfl rfl (gi_cons 33 rfl rfl (gi_cons 34 rfl rfl (gi_cons 35 rfl rfl (gi_cons 36 rfl rfl (gi_cons 37 rfl rfl (gi_cons 38 rfl rfl (gi_cons 39 rfl rfl (gi_cons 40 rfl rfl (gi_cons 41 rfl rfl (gi_cons 42 rfl rfl (gi_cons 43 rfl rfl (gi_cons 44 rfl rfl (gi_cons 45 rfl rfl (gi_cons 46 rfl rfl (gi_cons 47 rfl rfl (gi_cons 48 rfl rfl (gi_cons 49 rfl rfl (gi_cons 50 rfl rfl (gi_cons 51 rfl rfl (gi_cons 52 rfl rfl (gi_cons 53 rfl rfl (gi_cons 54 rfl rfl (gi_cons 55 rfl rfl (gi_cons 56 rfl rfl (gi_cons 57 rfl rfl (gi_cons 58 rfl rfl (gi_cons 59 rfl rfl (gi_cons 60 rfl rfl (gi_cons 61 rfl rfl (gi_cons 62 rfl rfl (gi_cons 63 rfl rfl (gi_cons 64 rfl rfl (gi_cons 65 rfl rfl (gi_cons 66 rfl rfl (gi_cons 67 rfl rfl (gi_cons 68 rfl rfl (gi_cons 69 rfl rfl (gi_cons 70 rfl rfl (gi_cons 71 rfl rfl (gi_cons 72 rfl rfl (gi_cons 73 rfl rfl (gi_cons 74 rfl rfl (gi_cons 75 rfl rfl (gi_cons 76 rfl rfl gi_nil))))))))))))))))))))))))))))))))))))))))))))))))))))))))))))))))))))
set_option maxRecDepth 20000 in
theorem gX11_outermost_X11_things : GoodIn wsX11_outermost (wsV RX11 267 RX11 yX11_things wsX11_things) := goodIn_app (goodIn_of _ (by decide +kernel)) ggX11_outermost_X11_things
set_option maxRecDepth 100000 in
theorem ggX11_outermost_X11_size : GoodIn wsX11_outermost wsX11_size := (gi_cons 10 rfl rfl gi_nil)
set_option maxRecDepth 20000 in
theorem gX11_outermost_X11_size : GoodIn wsX11_outermost (va_wsS RX11 242 yX11_size wsX11_size) := goodIn_app (goodIn_of _ (by decide +kernel)) ggX11_outermost_X11_size
theorem dX11_outermost_0 : decode cX11_outermost 0 = .ok (.iconst 0, 1) := by decide +kernel
theorem dX11_outermost_1 : decode cX11_outermost 1 = .ok (.istore_n 1, 1) := by decide +kernel
theorem dX11_outermost_2 : decode cX11_outermost 2 = .ok (.iconst 0, 1) := by decide +kernel
theorem dX11_outermost_3 : decode cX11_outermost 3 = .ok (.istore_n 2, 1) := by decide +kernel
theorem dX11_outermost_4 : decode cX11_outermost 4 = .ok (.iload_n 2, 1) := by decide +kernel
theorem dX11_outermost_5 : decode cX11_outermost 5 = .ok (.aload_n 0, 1) := by decide +kernel
theorem dX11_outermost_6 : decode cX11_outermost 6 = .ok (.invokevirtual 267, 3) := by decide +kernel
theorem dX11_outermost_9 : decode cX11_outermost 9 = .ok (.if_icmp .ge 47, 3) := by decide +kernel
theorem dX11_outermost_12 : decode cX11_outermost 12 = .ok (.iload_n 1, 1) := by decide +kernel
theorem dX11_outermost_13 : decode cX11_outermost 13 = .ok (.aload_n 0, 1) := by decide +kernel
theorem dX11_outermost_14 : decode cX11_outermost 14 = .ok (.getfield 35, 3) := by decide +kernel
theorem dX11_outermost_17 : decode cX11_outermost 17 = .ok (.iload_n 2, 1) := by decide +kernel
theorem dX11_outermost_18 : decode cX11_outermost 18 = .ok (.baload, 1) := by decide +kernel
theorem dX11_outermost_19 : decode cX11_outermost 19 = .ok (.ifCond .eq 7, 3) := by decide +kernel
theorem dX11_outermost_22 : decode cX11_outermost 22 = .ok (.iconst 1, 1) := by decide +kernel
theorem dX11_outermost_23 : decode cX11_outermost 23 = .ok (.goto 4, 3) := by decide +kernel
theorem dX11_outermost_26 : decode cX11_outermost 26 = .ok (.iconst 0, 1) := by decide +kernel
theorem dX11_outermost_27 : decode cX11_outermost 27 = .ok (.iadd, 1) := by decide +kernel
theorem dX11_outermost_28 : decode cX11_outermost 28 = .ok (.istore_n 1, 1) := by decide +kernel
theorem dX11_outermost_29 : decode cX11_outermost 29 = .ok (.iload_n 2, 1) := by decide +kernel
theorem dX11_outermost_30 : decode cX11_outermost 30 = .ok (.aload_n 0, 1) := by decide +kernel
theorem dX11_outermost_31 : decode cX11_outermost 31 = .ok (.getfield 35, 3) := by decide +kernel
theorem dX11_outermost_34 : decode cX11_outermost 34 = .ok (.iload_n 2, 1) := by decide +kernel
theorem dX11_outermost_35 : decode cX11_outermost 35 = .ok (.baload, 1) := by decide +kernel
theorem dX11_outermost_36 : decode cX11_outermost 36 = .ok (.ifCond .eq 14, 3) := by decide +kernel
theorem dX11_outermost_39 : decode cX11_outermost 39 = .ok (.aload_n 0, 1) := by decide +kernel
theorem dX11_outermost_40 : decode cX11_outermost 40 = .ok (.getfield 9, 3) := by decide +kernel
theorem dX11_outermost_43 : decode cX11_outermost 43 = .ok (.iload_n 2, 1) := by decide +kernel
theorem dX11_outermost_44 : decode cX11_outermost 44 = .ok (.invokestatic 242, 3) := by decide +kernel
theorem dX11_outermost_47 : decode cX11_outermost 47 = .ok (.goto 4, 3) := by decide +kernel
theorem dX11_outermost_50 : decode cX11_outermost 50 = .ok (.iconst 1, 1) := by decide +kernel
theorem dX11_outermost_51 : decode cX11_outermost 51 = .ok (.iadd, 1) := by decide +kernel
theorem dX11_outermost_52 : decode cX11_outermost 52 = .ok (.istore_n 2, 1) := by decide +kernel
theorem dX11_outermost_53 : decode cX11_outermost 53 = .ok (.goto (-49), 3) := by decide +kernel
theorem dX11_outermost_56 : decode cX11_outermost 56 = .ok (.iload_n 1, 1) := by decide +kernel
theorem dX11_outermost_57 : decode cX11_outermost 57 = .ok (.ireturn, 1) := by decide +kernel
set_option maxRecDepth 100000 in
theorem ggX11_changes_X11_goes : GoodIn wsX11_changes wsX11_goes := (gi_cons 9 rfl rfl (gi_cons 3 rfl rfl (gi_cons 10 rfl rfl (gi_cons 11 rfl rfl (gi_cons 12 rfl rfl (gi_cons 13 rfl rfl (gi_cons 14 rfl rfl (gi_cons 15 rfl rfl (gi_cons 8 rfl rfl (gi_cons 16 rfl rfl (gi_cons 17 rfl rfl (gi_cons 18 rfl rfl (gi_cons 19 rfl rfl (gi_cons 20 rfl rfl (gi_cons 21 rfl rfl (gi_cons 22 rfl rfl (gi_cons 23 rfl rfl (gi_cons 24 rfl rfl (gi_cons 25 rfl rfl (gi_cons 26 rfl rfl (gi_cons 27 rfl rfl (gi_cons 28 rfl rfl (gi_cons 29 rfl rfl (gi_cons 30 rfl rfl (gi_cons 31 rfl rfl (gi_cons 32 rfl rfl (gi_cons 33 rfl rfl (gi_cons 34 rfl rfl (gi_cons 35 rfl rfl (gi_cons 36 rfl rfl (gi_cons 37 rfl rfl (gi_cons 38 rfl rfl (gi_cons 39 rfl rfl (gi_cons 40 rfl rfl (gi_cons 41 rfl rfl (gi_cons 42 rfl rfl (gi_cons 43 rfl rfl (gi_cons 44 rfl rfl (gi_cons 45 rfl rfl (gi_cons 46 rfl rfl (gi_cons 47 rfl rfl (gi_cons 48 rfl rfl (gi_cons 49 rfl rfl (gi_cons 50 rfl rfl (gi_cons 51 rfl rfl (gi_cons 52 rfl rfl (gi_cons 53 rfl rfl (gi_cons 54 rfl rfl (gi_cons 55 rfl rfl (gi_cons 56 rfl rfl (gi_cons 57 rfl rfl (gi_cons 58 rfl rfl (gi_cons 59 rfl rfl (gi_cons 60 rfl rfl (gi_cons 61 rfl rfl (gi_cons 62 rfl rfl (gi_cons 63 rfl rfl (gi_cons 64 rfl rfl (gi_cons 65 rfl rfl (gi_cons 66 rfl rfl (gi_cons 67 rfl rfl (gi_cons 68 rfl rfl (gi_cons 69 rfl rfl (gi_cons 70 rfl rfl (gi_cons 71 rfl rfl (gi_cons 72 rfl rfl (gi_cons 73 rfl rfl (gi_cons 74 rfl rfl (gi_cons 75 rfl rfl (gi_cons 76 rfl rfl (gi_cons 77 rfl rfl (gi_cons 78 rfl rfl (gi_cons 79 rfl rfl (gi_cons 80 rfl rfl (gi_cons 81 rfl rfl (gi_cons 82 rfl rfl (gi_cons 83 rfl rfl (gi_cons 84 rfl rfl (gi_cons 85 rfl rfl (gi_cons 86 rfl rfl (gi_cons 87 rfl rfl (gi_cons 88 rfl rfl (gi_cons 89 rfl rfl (gi_cons 90 rfl rfl (gi_cons 91 rfl rfl (gi_cons 92 rfl rfl (gi_cons 93 rfl rfl (gi_cons 94 rfl rfl (gi_cons 95 rfl rfl (gi_cons 96 rfl rfl (gi_cons 97 rfl rfl (gi_cons 98 rfl rfl (gi_cons 99 rfl rfl (gi_cons 100 rfl rfl (gi_cons 101 rfl rfl (gi_cons 102 rfl rfl (gi_cons 103 rfl rfl (gi_cons 104 rfl rfl (gi_cons 105 rfl rfl (gi_cons 106 rfl rfl (gi_cons 107 rfl rfl (gi_cons 108 rfl rfl (gi_cons 109 rfl rfl (gi_cons 110 rfl rfl (gi_cons 111 rfl rfl (gi_cons 112 rfl rfl (gi_cons 113 rfl rfl (gi_cons 114 rfl rfl (gi_cons 115 rfl rfl (gi_cons 116 rfl rfl (gi_cons 117 rfl rfl (gi_cons 118 rfl rfl (gi_cons 119 rfl rfl (gi_cons 120 rfl rfl (gi_cons 121 rfl rfl (gi_cons 122 rfl rfl (gi_cons 123 rfl rfl (gi_cons 124 rfl rfl (gi_cons 125 rfl rfl (gi_cons 126 rfl rfl (gi_cons 127 rfl rfl (gi_cons 128 rfl rfl (gi_cons 129 rfl rfl (gi_cons 130 rfl rfl (gi_cons 131 rfl rfl (gi_cons 132 rfl rfl (gi_cons 133 rfl rfl (gi_cons 134 rfl rfl (gi_cons 135 rfl rfl (gi_cons 136 rfl rfl (gi_cons 137 rfl rfl (gi_cons 138 rfl rfl (gi_cons 139 rfl rfl (gi_cons 140 rfl rfl (gi_cons 141 rfl rfl (gi_cons 142 rfl rfl (gi_cons 143 rfl rfl (gi_cons 144 rfl rfl (gi_cons 145 rfl rfl (gi_cons 146 rfl rfl (gi_cons 147 rfl rfl (gi_cons 148 rfl rfl (gi_cons 149 rfl rfl (gi_cons 150 rfl rfl (gi_cons 151 rfl rfl (gi_cons 152 rfl rfl (gi_cons 153 rfl rfl (gi_cons 154 rfl rfl (gi_cons 155 rfl rfl (gi_cons 156 rfl rfl (gi_cons 157 rfl rfl (gi_cons 158 rfl rfl (gi_cons 159 rfl rfl (gi_cons 160 rfl rfl (gi_cons 161 rfl rfl (gi_cons 162 rfl rfl (gi_cons 163 rfl rfl (gi_cons 164 rfl rfl (gi_cons 165 rfl rfl (gi_cons 166 rfl rfl (gi_cons 167 rfl rfl (gi_cons 168 rfl rfl (gi_cons 223 rfl rfl (gi_cons 224 rfl rfl (gi_cons 225 rfl rfl (gi_cons 226 rfl rfl (gi_cons 227 rfl rfl (gi_cons 228 rfl rfl (gi_cons 229 rfl rfl (gi_cons 230 rfl rfl (gi_cons 231 rfl rfl (gi_cons 232 rfl rfl (gi_cons 233 rfl rfl (gi_cons 234 rfl rfl (gi_cons 235 rfl rfl (gi_cons 236 rfl rfl (gi_cons 237 rfl rfl (gi_cons 238 rfl rfl (gi_cons 239 rfl rfl (gi_cons 240 rfl rfl (gi_cons 241 rfl rfl (gi_cons 242 rfl rfl (gi_cons 243 rfl rfl (gi_cons 244 rfl rfl (gi_cons 245 rfl rfl (gi_cons 246 rfl rfl (gi_cons 247 rfl rfl (gi_cons 248 rfl rfl (gi_cons 249 rfl rfl (gi_cons 250 rfl rfl (gi_cons 251 rfl rfl (gi_cons 252 rfl rfl (gi_cons 253 rfl rfl (gi_cons 254 rfl rfl (gi_cons 255 rfl rfl (gi_cons 256 rfl rfl (gi_cons 257 rfl rfl (gi_cons 258 rfl rfl (gi_cons 259 rfl rfl (gi_cons 260 rfl rfl (gi_cons 261 rfl rfl (gi_cons 262 rfl rfl (gi_cons 263 rfl rfl (gi_cons 264 rfl rfl (gi_cons 265 rfl rfl (gi_cons 266 rfl rfl (gi_cons 267 rfl rfl (gi_cons 268 rfl rfl (gi_cons 269 rfl rfl (gi_cons 270 rfl rfl (gi_cons 271 rfl rfl (gi_cons 272 rfl rfl (gi_cons 273 rfl rfl (gi_cons 274 rfl rfl (gi_cons 275 rfl rfl (gi_cons 276 rfl rfl (gi_cons 277 rfl rfl (gi_cons 278 rfl rfl (gi_cons 279 rfl rfl (gi_cons 280 rfl rfl (gi_cons 281 rfl rfl (gi_cons 282 rfl rfl (gi_cons 283 rfl rfl (gi_cons 284 rfl rfl (gi_cons 285 rfl rfl (gi_cons 286 rfl rfl (gi_cons 287 rfl rfl (gi_cons 288 rfl rfl gi_nil))))))))))))))))))))))))))))))))))))))))))))))))))))))))))))))))))))))))))))))))))))))))))))))))))))))))))))))))))))))))))))))))))))))))))))))))))))))))))))))))))))))))))))))))))))))))))))))))))))))))))))))))))))))))))))))))))))
set_option maxRecDepth 20000 in
theorem gX11_changes_X11_goes : GoodIn wsX11_changes (wsV RX11 347 RX11 yX11_goes wsX11_goes) := goodIn_app (goodIn_of _ (by decide +kernel)) ggX11_changes_X11_goes
set_option maxRecDepth 100000 in
theorem ggX11_changes_X11_outermost : GoodIn wsX11_changes wsX11_outermost := (gi_cons 172 rfl rfl (gi_cons 3 rfl rfl (gi_cons 76 rfl rfl (gi_cons 77 rfl rfl (gi_cons 78 rfl rfl (gi_cons 79 rfl rfl (gi_cons 8 rfl rfl (gi_cons 80 rfl rfl (gi_cons 81 rfl rfl (gi_cons 82 rfl rfl (gi_cons 83 rfl rfl (gi_cons 223 rfl rfl (gi_cons 224 rfl rfl (gi_cons 225 rfl rfl (gi_cons 226 rfl rfl (gi_cons 227 rfl rfl (gi_cons 228 rfl rfl (gi_cons 229 rfl rfl (gi_cons 230 rfl rfl (gi_cons 231 rfl rfl (gi_cons 232 rfl rfl (gi_cons 233 rfl rfl (gi_cons 234 rfl rfl (gi_cons 235 rfl rfl (gi_cons 236 rfl rfl (gi_cons 237 rfl rfl (gi_cons 238 rfl rfl (gi_cons 239 rfl rfl (gi_cons 240 rfl rfl (gi_cons 241 rfl rfl (gi_cons 242 rfl rfl (gi_cons 243 rfl rfl (gi_cons 244 rfl rfl (gi_cons 245 rfl rfl (gi_cons 246 rfl rfl (gi_cons 247 rfl rfl (gi_cons 248 rfl rfl (gi_cons 249 rfl rfl (gi_cons 250 rfl rfl (gi_cons 251 rfl rfl (gi_cons 252 rfl rfl (gi_cons 253 rfl rfl (gi_cons 254 rfl rfl (gi_cons 255 rfl rfl (gi_cons 256 rfl rfl (gi_cons 257 rfl rfl (gi_cons 258 rfl rfl (gi_cons 259 rfl rfl (gi_cons 260 rfl rfl (gi_cons 261 rfl rfl (gi_cons 262 rfl rfl (gi_cons 263 rfl rfl (gi_cons 264 rfl rfl (gi_cons 265 rfl rfl (gi_cons 266 rfl rfl (gi_cons 267 rfl rfl (gi_cons 268 rfl rfl (gi_cons 269 rfl rfl (gi_cons 270 rfl rfl (gi_cons 271 rfl rfl (gi_cons 272 rfl rfl (gi_cons 273 rfl rfl (gi_cons 274 rfl rfl (gi_cons 275 rfl rfl (gi_cons 276 rfl rfl (gi_cons 277 rfl rfl (gi_cons 278 rfl rfl (gi_cons 279 rfl rfl (gi_cons 280 rfl rfl (gi_cons 281 rfl rfl (gi_cons 282 rfl rfl (gi_cons 283 rfl rfl (gi_cons 284 rfl rfl (gi_cons 285 rfl rfl (gi_cons 286 rfl rfl (gi_cons 287 rfl rfl (gi_cons 288 rfl rfl gi_nil)))))))))))))))))))))))))))))))))))))))))))))))))))))))))))))))))))))))))))))
set_option maxRecDepth 20000 in
theorem gX11_changes_X11_outermost : GoodIn wsX11_changes (wsV RX11 394 RX11 yX11_outermost wsX11_outermost) := goodIn_app (goodIn_of _ (by decide +kernel)) ggX11_changes_X11_outermost
set_option maxRecDepth 100000 in
theorem ggX11_changes_X11_answersOf : GoodIn wsX11_changes wsX11_answersOf := (gi_cons 176 rfl rfl (gi_cons 3 rfl rfl (gi_cons 76 rfl rfl (gi_cons 77 rfl rfl (gi_cons 78 rfl rfl (gi_cons 79 rfl rfl (gi_cons 8 rfl rfl (gi_cons 80 rfl rfl (gi_cons 95 rfl rfl (gi_cons 96 rfl rfl (gi_cons 97 rfl rfl (gi_cons 223 rfl rfl (gi_cons 224 rfl rfl (gi_cons 225 rfl rfl (gi_cons 226 rfl rfl (gi_cons 227 rfl rfl (gi_cons 228 rfl rfl (gi_cons 229 rfl rfl (gi_cons 230 rfl rfl (gi_cons 231 rfl rfl (gi_cons 232 rfl rfl (gi_cons 233 rfl rfl (gi_cons 234 rfl rfl (gi_cons 235 rfl rfl (gi_cons 236 rfl rfl (gi_cons 237 rfl rfl (gi_cons 238 rfl rfl (gi_cons 239 rfl rfl (gi_cons 240 rfl rfl (gi_cons 241 rfl rfl (gi_cons 242 rfl rfl (gi_cons 243 rfl rfl (gi_cons 244 rfl rfl (gi_cons 245 rfl rfl (gi_cons 246 rfl rfl (gi_cons 247 rfl rfl (gi_cons 248 rfl rfl (gi_cons 249 rfl rfl (gi_cons 250 rfl rfl (gi_cons 251 rfl rfl (gi_cons 252 rfl rfl (gi_cons 253 rfl rfl (gi_cons 254 rfl rfl (gi_cons 255 rfl rfl (gi_cons 256 rfl rfl (gi_cons 257 rfl rfl (gi_cons 258 rfl rfl (gi_cons 259 rfl rfl (gi_cons 260 rfl rfl (gi_cons 261 rfl rfl (gi_cons 262 rfl rfl (gi_cons 263 rfl rfl (gi_cons 264 rfl rfl (gi_cons 265 rfl rfl (gi_cons 266 rfl rfl (gi_cons 267 rfl rfl (gi_cons 268 rfl rfl (gi_cons 269 rfl rfl (gi_cons 270 rfl rfl (gi_cons 271 rfl rfl (gi_cons 272 rfl rfl (gi_cons 273 rfl rfl (gi_cons 274 rfl rfl (gi_cons 275 rfl rfl (gi_cons 276 rfl rfl (gi_cons 277 rfl rfl (gi_cons 278 rfl rfl (gi_cons 279 rfl rfl (gi_cons 280 rfl rfl (gi_cons 281 rfl rfl (gi_cons 282 rfl rfl (gi_cons 283 rfl rfl (gi_cons 284 rfl rfl (gi_cons 285 rfl rfl (gi_cons 286 rfl rfl (gi_cons 287 rfl rfl (gi_cons 288 rfl rfl gi_nil)))))))))))))))))))))))))))))))))))))))))))))))))))))))))))))))))))))))))))))
set_option maxRecDepth 20000 in
theorem gX11_changes_X11_answersOf : GoodIn wsX11_changes (wsV RX11 397 RX11 yX11_answersOf wsX11_answersOf) := goodIn_app (goodIn_of _ (by decide +kernel)) ggX11_changes_X11_answersOf
set_option maxRecDepth 100000 in
theorem ggX11_changes_X11_emit : GoodIn wsX11_changes wsX11_emit := (gi_cons 180 rfl rfl (gi_cons 3 rfl rfl (gi_cons 1 rfl rfl (gi_cons 181 rfl rfl (gi_cons 76 rfl rfl (gi_cons 4 rfl rfl (gi_cons 182 rfl rfl (gi_cons 2 rfl rfl (gi_cons 31 rfl rfl (gi_cons 32 rfl rfl (gi_cons 33 rfl rfl (gi_cons 34 rfl rfl (gi_cons 126 rfl rfl (gi_cons 127 rfl rfl (gi_cons 128 rfl rfl (gi_cons 183 rfl rfl (gi_cons 184 rfl rfl (gi_cons 185 rfl rfl (gi_cons 8 rfl rfl (gi_cons 186 rfl rfl (gi_cons 187 rfl rfl (gi_cons 188 rfl rfl (gi_cons 189 rfl rfl (gi_cons 190 rfl rfl (gi_cons 81 rfl rfl (gi_cons 82 rfl rfl (gi_cons 83 rfl rfl (gi_cons 95 rfl rfl (gi_cons 96 rfl rfl (gi_cons 97 rfl rfl (gi_cons 92 rfl rfl (gi_cons 93 rfl rfl (gi_cons 94 rfl rfl (gi_cons 191 rfl rfl (gi_cons 192 rfl rfl (gi_cons 193 rfl rfl (gi_cons 194 rfl rfl (gi_cons 195 rfl rfl (gi_cons 196 rfl rfl (gi_cons 117 rfl rfl (gi_cons 118 rfl rfl (gi_cons 119 rfl rfl (gi_cons 120 rfl rfl (gi_cons 121 rfl rfl (gi_cons 122 rfl rfl (gi_cons 197 rfl rfl (gi_cons 198 rfl rfl (gi_cons 199 rfl rfl (gi_cons 200 rfl rfl (gi_cons 201 rfl rfl (gi_cons 202 rfl rfl (gi_cons 203 rfl rfl (gi_cons 204 rfl rfl (gi_cons 157 rfl rfl (gi_cons 158 rfl rfl (gi_cons 159 rfl rfl (gi_cons 160 rfl rfl (gi_cons 161 rfl rfl (gi_cons 162 rfl rfl (gi_cons 177 rfl rfl (gi_cons 178 rfl rfl (gi_cons 179 rfl rfl (gi_cons 154 rfl rfl (gi_cons 155 rfl rfl (gi_cons 156 rfl rfl (gi_cons 223 rfl rfl (gi_cons 224 rfl rfl (gi_cons 225 rfl rfl (gi_cons 226 rfl rfl (gi_cons 227 rfl rfl (gi_cons 228 rfl rfl (gi_cons 229 rfl rfl (gi_cons 230 rfl rfl (gi_cons 231 rfl rfl (gi_cons 232 rfl rfl (gi_cons 233 rfl rfl (gi_cons 234 rfl rfl (gi_cons 235 rfl rfl (gi_cons 236 rfl rfl (gi_cons 237 rfl rfl (gi_cons 238 rfl rfl (gi_cons 239 rfl rfl (gi_cons 240 rfl rfl (gi_cons 241 rfl rfl (gi_cons 242 rfl rfl (gi_cons 243 rfl rfl (gi_cons 244 rfl rfl (gi_cons 245 rfl rfl (gi_cons 246 rfl rfl (gi_cons 247 rfl rfl (gi_cons 248 rfl rfl (gi_cons 249 rfl rfl (gi_cons 250 rfl rfl (gi_cons 251 rfl rfl (gi_cons 252 rfl rfl (gi_cons 253 rfl rfl (gi_cons 254 rfl rfl (gi_cons 255 rfl rfl (gi_cons 256 rfl rfl (gi_cons 257 rfl rfl (gi_cons 258 rfl rfl (gi_cons 259 rfl rfl (gi_cons 260 rfl rfl (gi_cons 261 rfl rfl (gi_cons 262 rfl rfl (gi_cons 263 rfl rfl (gi_cons 264 rfl rfl (gi_cons 265 rfl rfl (gi_cons 266 rfl rfl (gi_cons 267 rfl rfl (gi_cons 268 rfl rfl (gi_cons 269 rfl rfl (gi_cons 270 rfl rfl (gi_cons 271 rfl rfl (gi_cons 272 rfl rfl (gi_cons 273 rfl rfl (gi_cons 274 rfl rfl (gi_cons 275 rfl rfl (gi_cons 276 rfl rfl (gi_cons 277 rfl rfl (gi_cons 278 rfl rfl (gi_cons 279 rfl rfl (gi_cons 280 rfl rfl (gi_cons 281 rfl rfl (gi_cons 282 rfl rfl (gi_cons 283 rfl rfl (gi_cons 284 rfl rfl (gi_cons 285 rfl rfl (gi_cons 286 rfl rfl (gi_cons 287 rfl rfl (gi_cons 288 rfl rfl gi_nil)))))))))))))))))))))))))))))))))))))))))))))))))))))))))))))))))))))))))))))))))))))))))))))))))))))))))))))))))))))))))))))))))))
set_option maxRecDepth 20000 in
theorem gX11_changes_X11_emit : GoodIn wsX11_changes (wsV RX11 388 RX11 yX11_emit wsX11_emit) := goodIn_app (goodIn_of _ (by decide +kernel)) ggX11_changes_X11_emit
set_option maxRecDepth 100000 in
theorem ggX11_changes_X11_becomesTree : GoodIn wsX11_changes wsX11_becomesTree := (gi_cons 208 rfl rfl (gi_cons 4 rfl rfl (gi_cons 76 rfl rfl (gi_cons 182 rfl rfl (gi_cons 209 rfl rfl (gi_cons 210 rfl rfl (gi_cons 211 rfl rfl (gi_cons 8 rfl rfl (gi_cons 212 rfl rfl (gi_cons 213 rfl rfl (gi_cons 214 rfl rfl (gi_cons 215 rfl rfl (gi_cons 81 rfl rfl (gi_cons 82 rfl rfl (gi_cons 83 rfl rfl (gi_cons 216 rfl rfl (gi_cons 217 rfl rfl (gi_cons 218 rfl rfl (gi_cons 219 rfl rfl (gi_cons 220 rfl rfl (gi_cons 221 rfl rfl (gi_cons 222 rfl rfl (gi_cons 223 rfl rfl (gi_cons 224 rfl rfl (gi_cons 225 rfl rfl (gi_cons 226 rfl rfl (gi_cons 227 rfl rfl (gi_cons 228 rfl rfl (gi_cons 229 rfl rfl (gi_cons 230 rfl rfl (gi_cons 231 rfl rfl (gi_cons 232 rfl rfl (gi_cons 233 rfl rfl (gi_cons 234 rfl rfl (gi_cons 235 rfl rfl (gi_cons 236 rfl rfl (gi_cons 237 rfl rfl (gi_cons 238 rfl rfl (gi_cons 239 rfl rfl (gi_cons 240 rfl rfl (gi_cons 241 rfl rfl (gi_cons 242 rfl rfl (gi_cons 243 rfl rfl (gi_cons 244 rfl rfl (gi_cons 245 rfl rfl (gi_cons 246 rfl rfl (gi_cons 247 rfl rfl (gi_cons 248 rfl rfl (gi_cons 249 rfl rfl (gi_cons 250 rfl rfl (gi_cons 251 rfl rfl (gi_cons 252 rfl rfl (gi_cons 253 rfl rfl (gi_cons 254 rfl rfl (gi_cons 255 rfl rfl (gi_cons 256 rfl rfl (gi_cons 257 rfl rfl (gi_cons 258 rfl rfl (gi_cons 259 rfl rfl (gi_cons 260 rfl rfl (gi_cons 261 rfl rfl (gi_cons 262 rfl rfl (gi_cons 263 rfl rfl (gi_cons 264 rfl rfl (gi_cons 265 rfl rfl (gi_cons 266 rfl rfl (gi_cons 267 rfl rfl (gi_cons 268 rfl rfl (gi_cons 269 rfl rfl (gi_cons 270 rfl rfl (gi_cons 271 rfl rfl (gi_cons 272 rfl rfl (gi_cons 273 rfl rfl (gi_cons 274 rfl rfl (gi_cons 275 rfl rfl (gi_cons 276 rfl rfl (gi_cons 277 rfl rfl (gi_cons 278 rfl rfl (gi_cons 279 rfl rfl (gi_cons 280 rfl rfl (gi_cons 281 rfl rfl (gi_cons 282 rfl rfl (gi_cons 283 rfl rfl (gi_cons 284 rfl rfl (gi_cons 285 rfl rfl (gi_cons 286 rfl rfl (gi_cons 287 rfl rfl (gi_cons 288 rfl rfl gi_nil))))))))))))))))))))))))))))))))))))))))))))))))))))))))))))))))))))))))))))))))))))))))
set_option maxRecDepth 20000 in
theorem gX11_changes_X11_becomesTree : GoodIn wsX11_changes (wsV RX11 400 RX11 yX11_becomesTree wsX11_becomesTree) := goodIn_app (goodIn_of _ (by decide +kernel)) ggX11_changes_X11_becomesTree
theorem dX11_changes_0 : decode cX11_changes 0 = .ok (.aload_n 0, 1) := by decide +kernel
theorem dX11_changes_1 : decode cX11_changes 1 = .ok (.iload_n 1, 1) := by decide +kernel
theorem dX11_changes_2 : decode cX11_changes 2 = .ok (.iconst (-1), 1) := by decide +kernel
theorem dX11_changes_3 : decode cX11_changes 3 = .ok (.invokevirtual 347, 3) := by decide +kernel
theorem dX11_changes_6 : decode cX11_changes 6 = .ok (.aload_n 0, 1) := by decide +kernel
theorem dX11_changes_7 : decode cX11_changes 7 = .ok (.iload_n 2, 1) := by decide +kernel
theorem dX11_changes_8 : decode cX11_changes 8 = .ok (.putfield 369, 3) := by decide +kernel
theorem dX11_changes_11 : decode cX11_changes 11 = .ok (.aload_n 0, 1) := by decide +kernel
theorem dX11_changes_12 : decode cX11_changes 12 = .ok (.iload_n 3, 1) := by decide +kernel
theorem dX11_changes_13 : decode cX11_changes 13 = .ok (.putfield 375, 3) := by decide +kernel
theorem dX11_changes_16 : decode cX11_changes 16 = .ok (.iload_n 2, 1) := by decide +kernel
theorem dX11_changes_17 : decode cX11_changes 17 = .ok (.bipush 6, 2) := by decide +kernel
theorem dX11_changes_19 : decode cX11_changes 19 = .ok (.if_icmp .ne 16, 3) := by decide +kernel
theorem dX11_changes_22 : decode cX11_changes 22 = .ok (.aload_n 0, 1) := by decide +kernel
theorem dX11_changes_23 : decode cX11_changes 23 = .ok (.getfield 35, 3) := by decide +kernel
theorem dX11_changes_26 : decode cX11_changes 26 = .ok (.iconst 0, 1) := by decide +kernel
theorem dX11_changes_27 : decode cX11_changes 27 = .ok (.baload, 1) := by decide +kernel
theorem dX11_changes_28 : decode cX11_changes 28 = .ok (.ifCond .eq 7, 3) := by decide +kernel
theorem dX11_changes_31 : decode cX11_changes 31 = .ok (.iconst 1, 1) := by decide +kernel
theorem dX11_changes_32 : decode cX11_changes 32 = .ok (.goto 4, 3) := by decide +kernel
theorem dX11_changes_35 : decode cX11_changes 35 = .ok (.iconst 0, 1) := by decide +kernel
theorem dX11_changes_36 : decode cX11_changes 36 = .ok (.istore 4, 2) := by decide +kernel
theorem dX11_changes_38 : decode cX11_changes 38 = .ok (.iload_n 2, 1) := by decide +kernel
theorem dX11_changes_39 : decode cX11_changes 39 = .ok (.ifCond .ne 10, 3) := by decide +kernel
theorem dX11_changes_42 : decode cX11_changes 42 = .ok (.aload_n 0, 1) := by decide +kernel
theorem dX11_changes_43 : decode cX11_changes 43 = .ok (.invokevirtual 394, 3) := by decide +kernel
theorem dX11_changes_46 : decode cX11_changes 46 = .ok (.goto 52, 3) := by decide +kernel
theorem dX11_changes_49 : decode cX11_changes 49 = .ok (.aload_n 0, 1) := by decide +kernel
theorem dX11_changes_50 : decode cX11_changes 50 = .ok (.iload_n 2, 1) := by decide +kernel
theorem dX11_changes_51 : decode cX11_changes 51 = .ok (.iconst 1, 1) := by decide +kernel
theorem dX11_changes_52 : decode cX11_changes 52 = .ok (.if_icmp .eq 8, 3) := by decide +kernel
theorem dX11_changes_55 : decode cX11_changes 55 = .ok (.iload_n 2, 1) := by decide +kernel
theorem dX11_changes_56 : decode cX11_changes 56 = .ok (.iconst 5, 1) := by decide +kernel
theorem dX11_changes_57 : decode cX11_changes 57 = .ok (.if_icmp .ne 7, 3) := by decide +kernel
theorem dX11_changes_60 : decode cX11_changes 60 = .ok (.iconst 4, 1) := by decide +kernel
theorem dX11_changes_61 : decode cX11_changes 61 = .ok (.goto 34, 3) := by decide +kernel
theorem dX11_changes_64 : decode cX11_changes 64 = .ok (.iload_n 2, 1) := by decide +kernel
theorem dX11_changes_65 : decode cX11_changes 65 = .ok (.iconst 2, 1) := by decide +kernel
theorem dX11_changes_66 : decode cX11_changes 66 = .ok (.if_icmp .ne 8, 3) := by decide +kernel
theorem dX11_changes_69 : decode cX11_changes 69 = .ok (.bipush 8, 2) := by decide +kernel
theorem dX11_changes_71 : decode cX11_changes 71 = .ok (.goto 24, 3) := by decide +kernel
theorem dX11_changes_74 : decode cX11_changes 74 = .ok (.iload_n 2, 1) := by decide +kernel
theorem dX11_changes_75 : decode cX11_changes 75 = .ok (.iconst 3, 1) := by decide +kernel
theorem dX11_changes_76 : decode cX11_changes 76 = .ok (.if_icmp .ne 7, 3) := by decide +kernel
theorem dX11_changes_79 : decode cX11_changes 79 = .ok (.iconst 1, 1) := by decide +kernel
theorem dX11_changes_80 : decode cX11_changes 80 = .ok (.goto 15, 3) := by decide +kernel
theorem dX11_changes_83 : decode cX11_changes 83 = .ok (.iload_n 2, 1) := by decide +kernel
theorem dX11_changes_84 : decode cX11_changes 84 = .ok (.iconst 4, 1) := by decide +kernel
theorem dX11_changes_85 : decode cX11_changes 85 = .ok (.if_icmp .ne 8, 3) := by decide +kernel
theorem dX11_changes_88 : decode cX11_changes 88 = .ok (.bipush 12, 2) := by decide +kernel
theorem dX11_changes_90 : decode cX11_changes 90 = .ok (.goto 5, 3) := by decide +kernel
theorem dX11_changes_93 : decode cX11_changes 93 = .ok (.bipush 15, 2) := by decide +kernel
theorem dX11_changes_95 : decode cX11_changes 95 = .ok (.invokevirtual 397, 3) := by decide +kernel
theorem dX11_changes_98 : decode cX11_changes 98 = .ok (.istore 5, 2) := by decide +kernel
theorem dX11_changes_100 : decode cX11_changes 100 = .ok (.iload 5, 2) := by decide +kernel
theorem dX11_changes_102 : decode cX11_changes 102 = .ok (.ifCond .eq 8, 3) := by decide +kernel
theorem dX11_changes_105 : decode cX11_changes 105 = .ok (.iload 4, 2) := by decide +kernel
theorem dX11_changes_107 : decode cX11_changes 107 = .ok (.ifCond .eq 5, 3) := by decide +kernel
theorem dX11_changes_110 : decode cX11_changes 110 = .ok (.iconst (-1), 1) := by decide +kernel
theorem dX11_changes_111 : decode cX11_changes 111 = .ok (.ireturn, 1) := by decide +kernel
theorem dX11_changes_112 : decode cX11_changes 112 = .ok (.aload_n 0, 1) := by decide +kernel
theorem dX11_changes_113 : decode cX11_changes 113 = .ok (.iconst 0, 1) := by decide +kernel
theorem dX11_changes_114 : decode cX11_changes 114 = .ok (.putfield 353, 3) := by decide +kernel
theorem dX11_changes_117 : decode cX11_changes 117 = .ok (.aload_n 0, 1) := by decide +kernel
theorem dX11_changes_118 : decode cX11_changes 118 = .ok (.iconst 0, 1) := by decide +kernel
theorem dX11_changes_119 : decode cX11_changes 119 = .ok (.iconst 0, 1) := by decide +kernel
theorem dX11_changes_120 : decode cX11_changes 120 = .ok (.invokevirtual 388, 3) := by decide +kernel
theorem dX11_changes_123 : decode cX11_changes 123 = .ok (.aload_n 0, 1) := by decide +kernel
theorem dX11_changes_124 : decode cX11_changes 124 = .ok (.invokevirtual 400, 3) := by decide +kernel
theorem dX11_changes_127 : decode cX11_changes 127 = .ok (.ifCond .eq 8, 3) := by decide +kernel
theorem dX11_changes_130 : decode cX11_changes 130 = .ok (.iload 5, 2) := by decide +kernel
theorem dX11_changes_132 : decode cX11_changes 132 = .ok (.goto 4, 3) := by decide +kernel
theorem dX11_changes_135 : decode cX11_changes 135 = .ok (.iconst (-1), 1) := by decide +kernel
theorem dX11_changes_136 : decode cX11_changes 136 = .ok (.ireturn, 1) := by decide +kernel
set_option maxRecDepth 100000 in
theorem ggX11_isKey_X11_lettersOf : GoodIn wsX11_isKey wsX11_lettersOf := (gi_cons 4 rfl rfl gi_nil)
set_option maxRecDepth 20000 in
theorem gX11_isKey_X11_lettersOf : GoodIn wsX11_isKey (va_wsS RX11 338 yX11_lettersOf wsX11_lettersOf) := goodIn_app (goodIn_of _ (by decide +kernel)) ggX11_isKey_X11_lettersOf
set_option maxRecDepth 100000 in
theorem ggX11_isKey_X11_isIn : GoodIn wsX11_isKey wsX11_isIn := (gi_cons 7 rfl rfl gi_nil)
set_option maxRecDepth 20000 in
theorem gX11_isKey_X11_isIn : GoodIn wsX11_isKey (va_wsS RX11 219 yX11_isIn wsX11_isIn) := goodIn_app (goodIn_of _ (by decide +kernel)) ggX11_isKey_X11_isIn
theorem dX11_isKey_0 : decode cX11_isKey 0 = .ok (.iload_n 0, 1) := by decide +kernel
theorem dX11_isKey_1 : decode cX11_isKey 1 = .ok (.ifCond .le 16, 3) := by decide +kernel
theorem dX11_isKey_4 : decode cX11_isKey 4 = .ok (.iload_n 0, 1) := by decide +kernel
theorem dX11_isKey_5 : decode cX11_isKey 5 = .ok (.invokestatic 338, 3) := by decide +kernel
theorem dX11_isKey_8 : decode cX11_isKey 8 = .ok (.bipush 6, 2) := by decide +kernel
theorem dX11_isKey_10 : decode cX11_isKey 10 = .ok (.if_icmp .gt 7, 3) := by decide +kernel
theorem dX11_isKey_13 : decode cX11_isKey 13 = .ok (.iconst 1, 1) := by decide +kernel
theorem dX11_isKey_14 : decode cX11_isKey 14 = .ok (.goto 4, 3) := by decide +kernel
theorem dX11_isKey_17 : decode cX11_isKey 17 = .ok (.iconst 0, 1) := by decide +kernel
theorem dX11_isKey_18 : decode cX11_isKey 18 = .ok (.istore_n 1, 1) := by decide +kernel
theorem dX11_isKey_19 : decode cX11_isKey 19 = .ok (.iload_n 0, 1) := by decide +kernel
theorem dX11_isKey_20 : decode cX11_isKey 20 = .ok (.istore_n 2, 1) := by decide +kernel
theorem dX11_isKey_21 : decode cX11_isKey 21 = .ok (.iload_n 2, 1) := by decide +kernel
theorem dX11_isKey_22 : decode cX11_isKey 22 = .ok (.ifCond .le 26, 3) := by decide +kernel
theorem dX11_isKey_25 : decode cX11_isKey 25 = .ok (.iload_n 1, 1) := by decide +kernel
theorem dX11_isKey_26 : decode cX11_isKey 26 = .ok (.ifCond .eq 22, 3) := by decide +kernel
theorem dX11_isKey_29 : decode cX11_isKey 29 = .ok (.iload_n 2, 1) := by decide +kernel
theorem dX11_isKey_30 : decode cX11_isKey 30 = .ok (.bipush 32, 2) := by decide +kernel
theorem dX11_isKey_32 : decode cX11_isKey 32 = .ok (.irem, 1) := by decide +kernel
theorem dX11_isKey_33 : decode cX11_isKey 33 = .ok (.iconst 1, 1) := by decide +kernel
theorem dX11_isKey_34 : decode cX11_isKey 34 = .ok (.bipush 26, 2) := by decide +kernel
theorem dX11_isKey_36 : decode cX11_isKey 36 = .ok (.invokestatic 219, 3) := by decide +kernel
theorem dX11_isKey_39 : decode cX11_isKey 39 = .ok (.istore_n 1, 1) := by decide +kernel
theorem dX11_isKey_40 : decode cX11_isKey 40 = .ok (.iload_n 2, 1) := by decide +kernel
theorem dX11_isKey_41 : decode cX11_isKey 41 = .ok (.bipush 32, 2) := by decide +kernel
theorem dX11_isKey_43 : decode cX11_isKey 43 = .ok (.idiv, 1) := by decide +kernel
theorem dX11_isKey_44 : decode cX11_isKey 44 = .ok (.istore_n 2, 1) := by decide +kernel
theorem dX11_isKey_45 : decode cX11_isKey 45 = .ok (.goto (-24), 3) := by decide +kernel
theorem dX11_isKey_48 : decode cX11_isKey 48 = .ok (.iload_n 1, 1) := by decide +kernel
theorem dX11_isKey_49 : decode cX11_isKey 49 = .ok (.ireturn, 1) := by decide +kernel
