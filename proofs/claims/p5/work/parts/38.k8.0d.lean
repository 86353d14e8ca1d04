set_option maxRecDepth 100000 in
theorem ggX11_note_X11_isThing : GoodIn wsX11_note wsX11_isThing := (gi_cons 9 rfl rfl (gi_cons 10 rfl rfl (gi_cons 11 rfl rfl (gi_cons 12 rfl rfl (gi_cons 8 rfl rfl (gi_cons 13 rfl rfl (gi_cons 14 rfl rfl (gi_cons 15 rfl rfl (gi_cons 16 rfl rfl (gi_cons 17 rfl rfl (gi_cons 23 rfl rfl (gi_cons 24 rfl rfl (gi_cons 25 rfl rfl (gi_cons 26 rfl rfl (gi_cons 27 rfl rfl (gi_cons 28 rfl rfl (gi_cons 29 rfl rfl (gi_cons 30 rfl rfl (gi_cons 31 rfl rfl (gi_cons 32 rfl rfl (gi_cons 33 rfl rfl (gi_cons 34 rfl rfl (gi_cons 35 rfl rfl (gi_cons 36 rfl rfl (gi_cons 37 rfl rfl (gi_cons 38 rfl rfl (gi_cons 39 rfl rfl (gi_cons 40 rfl rfl (gi_cons 41 rfl rfl (gi_cons 42 rfl rfl (gi_cons 43 rfl rfl (gi_cons 44 rfl rfl (gi_cons 45 rfl rfl (gi_cons 46 rfl rfl (gi_cons 47 rfl rfl (gi_cons 48 rfl rfl (gi_cons 49 rfl rfl (gi_cons 50 rfl rfl (gi_cons 51 rfl rfl (gi_cons 52 rfl rfl (gi_cons 53 rfl rfl (gi_cons 54 rfl rfl (gi_cons 55 rfl rfl (gi_cons 56 rfl rfl (gi_cons 57 rfl rfl (gi_cons 58 rfl rfl (gi_cons 59 rfl rfl (gi_cons 60 rfl rfl (gi_cons 61 rfl rfl (gi_cons 62 rfl rfl (gi_cons 63 rfl rfl (gi_cons 64 rfl rfl (gi_cons 65 rfl rfl (gi_cons 66 rfl rfl (gi_cons 67 rfl rfl (gi_cons 68 rfl rfl (gi_cons 69 rfl rfl (gi_cons 70 rfl rfl (gi_cons 71 rfl rfl (gi_cons 72 rfl rfl (gi_cons 73 rfl rfl (gi_cons 74 rfl rfl (gi_cons 75 rfl rfl (gi_cons 76 rfl rfl (gi_cons 77 rfl rfl (gi_cons 78 rfl rfl (gi_cons 79 rfl rfl (gi_cons 80 rfl rfl (gi_cons 81 rfl rfl (gi_cons 82 rfl rfl (gi_cons 83 rfl rfl (gi_cons 84 rfl rfl (gi_cons 85 rfl rfl (gi_cons 86 rfl rfl (gi_cons 87 rfl rfl (gi_cons 88 rfl rfl gi_nil))))))))))))))))))))))))))))))))))))))))))))))))))))))))))))))))))))))))))))
set_option maxRecDepth 20000 in
theorem gX11_note_X11_isThing : GoodIn wsX11_note (wsV RX11 420 RX11 yX11_isThing wsX11_isThing) := goodIn_app (goodIn_of _ (by decide +kernel)) ggX11_note_X11_isThing
set_option maxRecDepth 100000 in
theorem ggX11_note_X11_refuse : GoodIn wsX11_note wsX11_refuse := (gi_cons 21 rfl rfl (gi_cons 22 rfl rfl (gi_cons 23 rfl rfl (gi_cons 24 rfl rfl (gi_cons 25 rfl rfl (gi_cons 26 rfl rfl (gi_cons 27 rfl rfl (gi_cons 28 rfl rfl (gi_cons 29 rfl rfl (gi_cons 30 rfl rfl (gi_cons 31 rfl rfl (gi_cons 32 rfl rfl (gi_cons 33 rfl rfl (gi_cons 34 rfl rfl (gi_cons 35 rfl rfl (gi_cons 36 rfl rfl (gi_cons 37 rfl rfl (gi_cons 38 rfl rfl (gi_cons 39 rfl rfl (gi_cons 40 rfl rfl (gi_cons 41 rfl rfl (gi_cons 42 rfl rfl (gi_cons 43 rfl rfl (gi_cons 44 rfl rfl (gi_cons 45 rfl rfl (gi_cons 46 rfl rfl (gi_cons 47 rfl rfl (gi_cons 48 rfl rfl (gi_cons 49 rfl rfl (gi_cons 50 rfl rfl (gi_cons 51 rfl rfl (gi_cons 52 rfl rfl (gi_cons 53 rfl rfl (gi_cons 54 rfl rfl (gi_cons 55 rfl rfl (gi_cons 56 rfl rfl (gi_cons 57 rfl rfl (gi_cons 58 rfl rfl (gi_cons 59 rfl rfl (gi_cons 60 rfl rfl (gi_cons 61 rfl rfl (gi_cons 62 rfl rfl (gi_cons 63 rfl rfl (gi_cons 64 rfl rfl (gi_cons 65 rfl rfl (gi_cons 66 rfl rfl (gi_cons 67 rfl rfl (gi_cons 68 rfl rfl (gi_cons 69 rfl rfl (gi_cons 70 rfl rfl (gi_cons 71 rfl rfl (gi_cons 72 rfl rfl (gi_cons 73 rfl rfl (gi_cons 74 rfl rfl (gi_cons 75 rfl rfl (gi_cons 76 rfl rfl (gi_cons 77 rfl rfl (gi_cons 78 rfl rfl (gi_cons 79 rfl rfl (gi_cons 80 rfl rfl (gi_cons 81 rfl rfl (gi_cons 82 rfl rfl (gi_cons 83 rfl rfl (gi_cons 84 rfl rfl (gi_cons 85 rfl rfl (gi_cons 86 rfl rfl (gi_cons 87 rfl rfl (gi_cons 88 rfl rfl gi_nil))))))))))))))))))))))))))))))))))))))))))))))))))))))))))))))))))))
set_option maxRecDepth 20000 in
theorem gX11_note_X11_refuse : GoodIn wsX11_note (wsV RX11 409 RX11 yX11_refuse wsX11_refuse) := goodIn_app (goodIn_of _ (by decide +kernel)) ggX11_note_X11_refuse
theorem dX11_note_0 : decode cX11_note 0 = .ok (.aload_n 0, 1) := by decide +kernel
theorem dX11_note_1 : decode cX11_note 1 = .ok (.iconst 0, 1) := by decide +kernel
theorem dX11_note_2 : decode cX11_note 2 = .ok (.putfield 111, 3) := by decide +kernel
theorem dX11_note_5 : decode cX11_note 5 = .ok (.aload_n 0, 1) := by decide +kernel
theorem dX11_note_6 : decode cX11_note 6 = .ok (.getfield 235, 3) := by decide +kernel
theorem dX11_note_9 : decode cX11_note 9 = .ok (.bipush 8, 2) := by decide +kernel
theorem dX11_note_11 : decode cX11_note 11 = .ok (.if_icmp .eq 11, 3) := by decide +kernel
theorem dX11_note_14 : decode cX11_note 14 = .ok (.aload_n 0, 1) := by decide +kernel
theorem dX11_note_15 : decode cX11_note 15 = .ok (.iload_n 1, 1) := by decide +kernel
theorem dX11_note_16 : decode cX11_note 16 = .ok (.invokevirtual 420, 3) := by decide +kernel
theorem dX11_note_19 : decode cX11_note 19 = .ok (.ifCond .ne 9, 3) := by decide +kernel
theorem dX11_note_22 : decode cX11_note 22 = .ok (.aload_n 0, 1) := by decide +kernel
theorem dX11_note_23 : decode cX11_note 23 = .ok (.iconst 2, 1) := by decide +kernel
theorem dX11_note_24 : decode cX11_note 24 = .ok (.invokevirtual 409, 3) := by decide +kernel
theorem dX11_note_27 : decode cX11_note 27 = .ok (.ireturn, 1) := by decide +kernel
theorem dX11_note_28 : decode cX11_note 28 = .ok (.aload_n 0, 1) := by decide +kernel
theorem dX11_note_29 : decode cX11_note 29 = .ok (.getfield 81, 3) := by decide +kernel
theorem dX11_note_32 : decode cX11_note 32 = .ok (.aload_n 0, 1) := by decide +kernel
theorem dX11_note_33 : decode cX11_note 33 = .ok (.getfield 235, 3) := by decide +kernel
theorem dX11_note_36 : decode cX11_note 36 = .ok (.iload_n 1, 1) := by decide +kernel
theorem dX11_note_37 : decode cX11_note 37 = .ok (.iastore, 1) := by decide +kernel
theorem dX11_note_38 : decode cX11_note 38 = .ok (.aload_n 0, 1) := by decide +kernel
theorem dX11_note_39 : decode cX11_note 39 = .ok (.getfield 84, 3) := by decide +kernel
theorem dX11_note_42 : decode cX11_note 42 = .ok (.aload_n 0, 1) := by decide +kernel
theorem dX11_note_43 : decode cX11_note 43 = .ok (.getfield 235, 3) := by decide +kernel
theorem dX11_note_46 : decode cX11_note 46 = .ok (.iload_n 2, 1) := by decide +kernel
theorem dX11_note_47 : decode cX11_note 47 = .ok (.ifCond .eq 7, 3) := by decide +kernel
theorem dX11_note_50 : decode cX11_note 50 = .ok (.iconst 1, 1) := by decide +kernel
theorem dX11_note_51 : decode cX11_note 51 = .ok (.goto 4, 3) := by decide +kernel
theorem dX11_note_54 : decode cX11_note 54 = .ok (.iconst 0, 1) := by decide +kernel
theorem dX11_note_55 : decode cX11_note 55 = .ok (.iastore, 1) := by decide +kernel
theorem dX11_note_56 : decode cX11_note 56 = .ok (.aload_n 0, 1) := by decide +kernel
theorem dX11_note_57 : decode cX11_note 57 = .ok (.dup, 1) := by decide +kernel
theorem dX11_note_58 : decode cX11_note 58 = .ok (.getfield 235, 3) := by decide +kernel
theorem dX11_note_61 : decode cX11_note 61 = .ok (.iconst 1, 1) := by decide +kernel
theorem dX11_note_62 : decode cX11_note 62 = .ok (.iadd, 1) := by decide +kernel
theorem dX11_note_63 : decode cX11_note 63 = .ok (.putfield 235, 3) := by decide +kernel
theorem dX11_note_66 : decode cX11_note 66 = .ok (.aload_n 0, 1) := by decide +kernel
theorem dX11_note_67 : decode cX11_note 67 = .ok (.getfield 235, 3) := by decide +kernel
theorem dX11_note_70 : decode cX11_note 70 = .ok (.ireturn, 1) := by decide +kernel
theorem dX11_forget_0 : decode cX11_forget 0 = .ok (.aload_n 0, 1) := by decide +kernel
theorem dX11_forget_1 : decode cX11_forget 1 = .ok (.iconst 0, 1) := by decide +kernel
theorem dX11_forget_2 : decode cX11_forget 2 = .ok (.putfield 111, 3) := by decide +kernel
theorem dX11_forget_5 : decode cX11_forget 5 = .ok (.aload_n 0, 1) := by decide +kernel
theorem dX11_forget_6 : decode cX11_forget 6 = .ok (.iconst 0, 1) := by decide +kernel
theorem dX11_forget_7 : decode cX11_forget 7 = .ok (.putfield 235, 3) := by decide +kernel
theorem dX11_forget_10 : decode cX11_forget 10 = .ok (.return_, 1) := by decide +kernel
set_option maxRecDepth 100000 in
theorem ggX11_look_X11_fits : GoodIn wsX11_look wsX11_fits := (gi_cons 12 rfl rfl (gi_cons 3 rfl rfl (gi_cons 2 rfl rfl (gi_cons 13 rfl rfl (gi_cons 14 rfl rfl (gi_cons 15 rfl rfl (gi_cons 16 rfl rfl (gi_cons 17 rfl rfl (gi_cons 18 rfl rfl (gi_cons 19 rfl rfl (gi_cons 11 rfl rfl (gi_cons 20 rfl rfl (gi_cons 21 rfl rfl (gi_cons 22 rfl rfl (gi_cons 23 rfl rfl (gi_cons 24 rfl rfl (gi_cons 25 rfl rfl (gi_cons 26 rfl rfl (gi_cons 27 rfl rfl (gi_cons 28 rfl rfl (gi_cons 29 rfl rfl (gi_cons 30 rfl rfl (gi_cons 31 rfl rfl (gi_cons 32 rfl rfl (gi_cons 33 rfl rfl (gi_cons 34 rfl rfl (gi_cons 35 rfl rfl (gi_cons 36 rfl rfl (gi_cons 37 rfl rfl (gi_cons 38 rfl rfl (gi_cons 39 rfl rfl (gi_cons 40 rfl rfl (gi_cons 41 rfl rfl (gi_cons 42 rfl rfl (gi_cons 43 rfl rfl (gi_cons 44 rfl rfl (gi_cons 45 rfl rfl (gi_cons 46 rfl rfl (gi_cons 47 rfl rfl (gi_cons 48 rfl rfl (gi_cons 4 rfl rfl (gi_cons 5 rfl rfl (gi_cons 6 rfl rfl (gi_cons 7 rfl rfl (gi_cons 49 rfl rfl (gi_cons 50 rfl rfl (gi_cons 51 rfl rfl (gi_cons 52 rfl rfl (gi_cons 53 rfl rfl (gi_cons 54 rfl rfl (gi_cons 55 rfl rfl (gi_cons 56 rfl rfl (gi_cons 57 rfl rfl (gi_cons 58 rfl rfl (gi_cons 59 rfl rfl (gi_cons 60 rfl rfl (gi_cons 61 rfl rfl (gi_cons 62 rfl rfl (gi_cons 63 rfl rfl (gi_cons 64 rfl rfl (gi_cons 65 rfl rfl (gi_cons 66 rfl rfl (gi_cons 67 rfl rfl (gi_cons 68 rfl rfl (gi_cons 69 rfl rfl (gi_cons 70 rfl rfl (gi_cons 71 rfl rfl (gi_cons 72 rfl rfl (gi_cons 73 rfl rfl (gi_cons 74 rfl rfl (gi_cons 75 rfl rfl (gi_cons 76 rfl rfl (gi_cons 77 rfl rfl (gi_cons 78 rfl rfl (gi_cons 79 rfl rfl (gi_cons 80 rfl rfl (gi_cons 81 rfl rfl (gi_cons 82 rfl rfl (gi_cons 83 rfl rfl (gi_cons 84 rfl rfl (gi_cons 85 rfl rfl (gi_cons 86 rfl rfl (gi_cons 87 rfl rfl (gi_cons 88 rfl rfl (gi_cons 89 rfl rfl (gi_cons 90 rfl rfl (gi_cons 91 rfl rfl (gi_cons 92 rfl rfl (gi_cons 93 rfl rfl (gi_cons 94 rfl rfl (gi_cons 95 rfl rfl (gi_cons 96 rfl rfl (gi_cons 97 rfl rfl (gi_cons 98 rfl rfl (gi_cons 99 rfl rfl (gi_cons 100 rfl rfl (gi_cons 101 rfl rfl (gi_cons 102 rfl rfl (gi_cons 103 rfl rfl (gi_cons 104 rfl rfl (gi_cons 105 rfl rfl (gi_cons 106 rfl rfl (gi_cons 107 rfl rfl (gi_cons 108 rfl rfl (gi_cons 109 rfl rfl (gi_cons 110 rfl rfl (gi_cons 111 rfl rfl (gi_cons 112 rfl rfl (gi_cons 113 rfl rfl (gi_cons 114 rfl rfl (gi_cons 115 rfl rfl (gi_cons 116 rfl rfl (gi_cons 117 rfl rfl (gi_cons 118 rfl rfl (gi_cons 119 rfl rfl (gi_cons 120 rfl rfl (gi_cons 121 rfl rfl (gi_cons 122 rfl rfl (gi_cons 123 rfl rfl (gi_cons 124 rfl rfl (gi_cons 125 rfl rfl (gi_cons 126 rfl rfl (gi_cons 127 rfl rfl (gi_cons 128 rfl rfl (gi_cons 129 rfl rfl (gi_cons 130 rfl rfl (gi_cons 131 rfl rfl (gi_cons 132 rfl rfl (gi_cons 133 rfl rfl (gi_cons 134 rfl rfl (gi_cons 135 rfl rfl (gi_cons 136 rfl rfl (gi_cons 137 rfl rfl (gi_cons 138 rfl rfl (gi_cons 139 rfl rfl (gi_cons 140 rfl rfl (gi_cons 141 rfl rfl (gi_cons 142 rfl rfl (gi_cons 143 rfl rfl (gi_cons 144 rfl rfl (gi_cons 145 rfl rfl (gi_cons 146 rfl rfl (gi_cons 147 rfl rfl (gi_cons 148 rfl rfl (gi_cons 149 rfl rfl (gi_cons 150 rfl rfl (gi_cons 151 rfl rfl (gi_cons 152 rfl rfl (gi_cons 153 rfl rfl (gi_cons 154 rfl rfl (gi_cons 155 rfl rfl (gi_cons 156 rfl rfl (gi_cons 157 rfl rfl (gi_cons 158 rfl rfl (gi_cons 159 rfl rfl (gi_cons 160 rfl rfl (gi_cons 161 rfl rfl (gi_cons 162 rfl rfl (gi_cons 163 rfl rfl (gi_cons 164 rfl rfl (gi_cons 165 rfl rfl (gi_cons 166 rfl rfl (gi_cons 167 rfl rfl (gi_cons 168 rfl rfl (gi_cons 169 rfl rfl (gi_cons 170 rfl rfl (gi_cons 171 rfl rfl (gi_cons 172 rfl rfl (gi_cons 173 rfl rfl (gi_cons 174 rfl rfl (gi_cons 175 rfl rfl (gi_cons 176 rfl rfl (gi_cons 177 rfl rfl (gi_cons 178 rfl rfl (gi_cons 179 rfl rfl (gi_cons 180 rfl rfl (gi_cons 181 rfl rfl (gi_cons 182 rfl rfl (gi_cons 183 rfl rfl (gi_cons 184 rfl rfl (gi_cons 185 rfl rfl (gi_cons 186 rfl rfl (gi_cons 187 rfl rfl (gi_cons 188 rfl rfl (gi_cons 189 rfl rfl (gi_cons 190 rfl rfl (gi_cons 191 rfl rfl (gi_cons 192 rfl rfl (gi_cons 193 rfl rfl (gi_cons 194 rfl rfl (gi_cons 195 rfl rfl (gi_cons 196 rfl rfl (gi_cons 197 rfl rfl (gi_cons 198 rfl rfl (gi_cons 199 rfl rfl (gi_cons 200 rfl rfl (gi_cons 201 rfl rfl (gi_cons 202 rfl rfl (gi_cons 203 rfl rfl (gi_cons 204 rfl rfl (gi_cons 205 rfl rfl (gi_cons 206 rfl rfl (gi_cons 207 rfl rfl (gi_cons 208 rfl rfl (gi_cons 209 rfl rfl (gi_cons 210 rfl rfl (gi_cons 211 rfl rfl (gi_cons 212 rfl rfl (gi_cons 213 rfl rfl (gi_cons 214 rfl rfl (gi_cons 215 rfl rfl (gi_cons 216 rfl rfl (gi_cons 217 rfl rfl (gi_cons 218 rfl rfl (gi_cons 219 rfl rfl (gi_cons 220 rfl rfl (gi_cons 221 rfl rfl (gi_cons 222 rfl rfl (gi_cons 223 rfl rfl (gi_cons 224 rfl rfl (gi_cons 225 rfl rfl (gi_cons 226 rfl rfl (gi_cons 227 rfl rfl (gi_cons 228 rfl rfl (gi_cons 229 rfl rfl (gi_cons 230 rfl rfl (gi_cons 231 rfl rfl (gi_cons 232 rfl rfl (gi_cons 233 rfl rfl (gi_cons 234 rfl rfl (gi_cons 235 rfl rfl (gi_cons 236 rfl rfl (gi_cons 237 rfl rfl (gi_cons 238 rfl rfl (gi_cons 239 rfl rfl (gi_cons 240 rfl rfl (gi_cons 241 rfl rfl (gi_cons 242 rfl rfl (gi_cons 243 rfl rfl (gi_cons 244 rfl rfl (gi_cons 245 rfl rfl (gi_cons 246 rfl rfl (gi_cons 247 rfl rfl (gi_cons 248 rfl rfl (gi_cons 249 rfl rfl (gi_cons 250 rfl rfl (gi_cons 251 rfl rfl (gi_cons 252 rfl rfl gi_nil))))))))))))))))))))))))))))))))))))))))))))))))))))))))))))))))))))))))))))))))))))))))))))))))))))))))))))))))))))))))))))))))))))))))))))))))))))))))))))))))))))))))))))))))))))))))))))))))))))))))))))))))))))))))))))))))))))))))))))))))))))))))
set_option maxRecDepth 20000 in
theorem gX11_look_X11_fits : GoodIn wsX11_look (wsV RX11 513 RX11 yX11_fits wsX11_fits) := goodIn_app (goodIn_of _ (by decide +kernel)) ggX11_look_X11_fits
set_option maxRecDepth 100000 in
theorem ggX11_look_X11_things : GoodIn wsX11_look wsX11_things := (gi_cons 94 rfl rfl (gi_cons 90 rfl rfl (gi_cons 187 rfl rfl (gi_cons 188 rfl rfl (gi_cons 189 rfl rfl (gi_cons 190 rfl rfl (gi_cons 191 rfl rfl (gi_cons 192 rfl rfl (gi_cons 193 rfl rfl (gi_cons 194 rfl rfl (gi_cons 195 rfl rfl (gi_cons 196 rfl rfl (gi_cons 197 rfl rfl (gi_cons 198 rfl rfl (gi_cons 199 rfl rfl (gi_cons 200 rfl rfl (gi_cons 201 rfl rfl (gi_cons 202 rfl rfl (gi_cons 203 rfl rfl (gi_cons 204 rfl rfl (gi_cons 205 rfl rfl (gi_cons 206 rfl rfl (gi_cons 207 rfl rfl (gi_cons 208 rfl rfl (gi_cons 209 rfl rfl (gi_cons 210 rfl rfl (gi_cons 211 rfl rfl (gi_cons 212 rfl rfl (gi_cons 213 rfl rfl (gi_cons 214 rfl rfl (gi_cons 215 rfl rfl (gi_cons 216 rfl rfl (gi_cons 217 rfl rfl (gi_cons 218 rfl rfl (gi_cons 219 rfl rfl (gi_cons 220 rfl rfl (gi_cons 221 rfl rfl (gi_cons 222 rfl rfl (gi_cons 223 rfl rfl (gi_cons 224 rfl rfl (gi_cons 225 rfl rfl (gi_cons 226 rfl rfl (gi_cons 227 rfl rfl (gi_cons 228 rfl rfl (gi_cons 229 rfl rfl (gi_cons 230 rfl rfl (gi_cons 231 rfl rfl (gi_cons 232 rfl rfl (gi_cons 233 rfl rfl (gi_cons 234 rfl rfl (gi_cons 235 rfl rfl (gi_cons 236 rfl rfl (gi_cons 237 rfl rfl (gi_cons 238 rfl rfl (gi_cons 239 rfl rfl (gi_cons 240 rfl rfl (gi_cons 241 rfl rfl (gi_cons 242 rfl rfl (gi_cons 243 rfl rfl (gi_cons 244 rfl rfl (gi_cons 245 rfl rfl (gi_cons 246 rfl rfl (gi_cons 247 rfl rfl (gi_cons 248 rfl rfl (gi_cons 249 rfl rfl (gi_cons 250 rfl rfl (gi_cons 251 rfl rfl (gi_cons 252 rfl rfl gi_nil))))))))))))))))))))))))))))))))))))))))))))))))))))))))))))))))))))
set_option maxRecDepth 20000 in
theorem gX11_look_X11_things : GoodIn wsX11_look (wsV RX11 267 RX11 yX11_things wsX11_things) := goodIn_app (goodIn_of _ (by decide +kernel)) ggX11_look_X11_things
theorem dX11_look_0 : decode cX11_look 0 = .ok (.aload_n 0, 1) := by decide +kernel
theorem dX11_look_1 : decode cX11_look 1 = .ok (.iconst 0, 1) := by decide +kernel
theorem dX11_look_2 : decode cX11_look 2 = .ok (.putfield 111, 3) := by decide +kernel
theorem dX11_look_5 : decode cX11_look 5 = .ok (.aload_n 0, 1) := by decide +kernel
theorem dX11_look_6 : decode cX11_look 6 = .ok (.invokevirtual 513, 3) := by decide +kernel
theorem dX11_look_9 : decode cX11_look 9 = .ok (.istore_n 1, 1) := by decide +kernel
theorem dX11_look_10 : decode cX11_look 10 = .ok (.iconst (-1), 1) := by decide +kernel
theorem dX11_look_11 : decode cX11_look 11 = .ok (.istore_n 2, 1) := by decide +kernel
theorem dX11_look_12 : decode cX11_look 12 = .ok (.iconst 0, 1) := by decide +kernel
theorem dX11_look_13 : decode cX11_look 13 = .ok (.istore_n 3, 1) := by decide +kernel
theorem dX11_look_14 : decode cX11_look 14 = .ok (.iconst 0, 1) := by decide +kernel
theorem dX11_look_15 : decode cX11_look 15 = .ok (.istore 4, 2) := by decide +kernel
theorem dX11_look_17 : decode cX11_look 17 = .ok (.iload 4, 2) := by decide +kernel
theorem dX11_look_19 : decode cX11_look 19 = .ok (.aload_n 0, 1) := by decide +kernel
theorem dX11_look_20 : decode cX11_look 20 = .ok (.invokevirtual 267, 3) := by decide +kernel
theorem dX11_look_23 : decode cX11_look 23 = .ok (.if_icmp .ge 48, 3) := by decide +kernel
theorem dX11_look_26 : decode cX11_look 26 = .ok (.aload_n 0, 1) := by decide +kernel
theorem dX11_look_27 : decode cX11_look 27 = .ok (.getfield 87, 3) := by decide +kernel
theorem dX11_look_30 : decode cX11_look 30 = .ok (.iload 4, 2) := by decide +kernel
theorem dX11_look_32 : decode cX11_look 32 = .ok (.iaload, 1) := by decide +kernel
theorem dX11_look_33 : decode cX11_look 33 = .ok (.aload_n 0, 1) := by decide +kernel
theorem dX11_look_34 : decode cX11_look 34 = .ok (.getfield 522, 3) := by decide +kernel
theorem dX11_look_37 : decode cX11_look 37 = .ok (.aload_n 0, 1) := by decide +kernel
theorem dX11_look_38 : decode cX11_look 38 = .ok (.getfield 87, 3) := by decide +kernel
theorem dX11_look_41 : decode cX11_look 41 = .ok (.iload 4, 2) := by decide +kernel
theorem dX11_look_43 : decode cX11_look 43 = .ok (.iaload, 1) := by decide +kernel
theorem dX11_look_44 : decode cX11_look 44 = .ok (.isub, 1) := by decide +kernel
theorem dX11_look_45 : decode cX11_look 45 = .ok (.invokestatic 153, 3) := by decide +kernel
theorem dX11_look_48 : decode cX11_look 48 = .ok (.istore 5, 2) := by decide +kernel
theorem dX11_look_50 : decode cX11_look 50 = .ok (.iload 5, 2) := by decide +kernel
theorem dX11_look_52 : decode cX11_look 52 = .ok (.iload_n 3, 1) := by decide +kernel
theorem dX11_look_53 : decode cX11_look 53 = .ok (.if_icmp .gt 6, 3) := by decide +kernel
theorem dX11_look_56 : decode cX11_look 56 = .ok (.goto 9, 3) := by decide +kernel
theorem dX11_look_59 : decode cX11_look 59 = .ok (.iload 4, 2) := by decide +kernel
theorem dX11_look_61 : decode cX11_look 61 = .ok (.istore_n 2, 1) := by decide +kernel
theorem dX11_look_62 : decode cX11_look 62 = .ok (.iload 5, 2) := by decide +kernel
theorem dX11_look_64 : decode cX11_look 64 = .ok (.istore_n 3, 1) := by decide +kernel
theorem dX11_look_65 : decode cX11_look 65 = .ok (.iinc 4 1, 3) := by decide +kernel
theorem dX11_look_68 : decode cX11_look 68 = .ok (.goto (-51), 3) := by decide +kernel
theorem dX11_look_71 : decode cX11_look 71 = .ok (.iload_n 2, 1) := by decide +kernel
theorem dX11_look_72 : decode cX11_look 72 = .ok (.ireturn, 1) := by decide +kernel
set_option maxRecDepth 100000 in
theorem ggX11_years_X11_isIn : GoodIn wsX11_years wsX11_isIn := (gi_cons 9 rfl rfl gi_nil)
set_option maxRecDepth 20000 in
theorem gX11_years_X11_isIn : GoodIn wsX11_years (va_wsS RX11 219 yX11_isIn wsX11_isIn) := goodIn_app (goodIn_of _ (by decide +kernel)) ggX11_years_X11_isIn
set_option maxRecDepth 100000 in
theorem ggX11_years_X11_fail : GoodIn wsX11_years wsX11_fail := (gi_cons 13 rfl rfl (gi_cons 1 rfl rfl (gi_cons 285 rfl rfl (gi_cons 286 rfl rfl (gi_cons 287 rfl rfl (gi_cons 288 rfl rfl (gi_cons 289 rfl rfl (gi_cons 290 rfl rfl (gi_cons 291 rfl rfl (gi_cons 292 rfl rfl (gi_cons 293 rfl rfl (gi_cons 294 rfl rfl (gi_cons 295 rfl rfl (gi_cons 296 rfl rfl (gi_cons 297 rfl rfl (gi_cons 298 rfl rfl (gi_cons 299 rfl rfl (gi_cons 300 rfl rfl (gi_cons 301 rfl rfl (gi_cons 302 rfl rfl (gi_cons 303 rfl rfl (gi_cons 304 rfl rfl (gi_cons 305 rfl rfl (gi_cons 306 rfl rfl (gi_cons 307 rfl rfl (gi_cons 308 rfl rfl (gi_cons 309 rfl rfl (gi_cons 310 rfl rfl (gi_cons 311 rfl rfl (gi_cons 312 rfl rfl (gi_cons 313 rfl rfl (gi_cons 314 rfl rfl (gi_cons 315 rfl rfl (gi_cons 316 rfl rfl (gi_cons 317 rfl rfl (gi_cons 318 rfl rfl (gi_cons 319 rfl rfl (gi_cons 320 rfl rfl (gi_cons 321 rfl rfl (gi_cons 322 rfl rfl (gi_cons 323 rfl rfl (gi_cons 324 rfl rfl (gi_cons 325 rfl rfl (gi_cons 326 rfl rfl (gi_cons 327 rfl rfl (gi_cons 328 rfl rfl (gi_cons 329 rfl rfl (gi_cons 330 rfl rfl (gi_cons 331 rfl rfl (gi_cons 332 rfl rfl (gi_cons 333 rfl rfl (gi_cons 334 rfl rfl (gi_cons 335 rfl rfl (gi_cons 336 rfl rfl (gi_cons 337 rfl rfl (gi_cons 338 rfl rfl (gi_cons 339 rfl rfl (gi_cons 340 rfl rfl (gi_cons 341 rfl rfl (gi_cons 342 rfl rfl (gi_cons 343 rfl rfl (gi_cons 344 rfl rfl (gi_cons 345 rfl rfl (gi_cons 346 rfl rfl (gi_cons 347 rfl rfl (gi_cons 348 rfl rfl (gi_cons 349 rfl rfl (gi_cons 350 rfl rfl gi_nil))))))))))))))))))))))))))))))))))))))))))))))))))))))))))))))))))))
set_option maxRecDepth 20000 in
theorem gX11_years_X11_fail : GoodIn wsX11_years (wsV RX11 226 RX11 yX11_fail wsX11_fail) := goodIn_app (goodIn_of _ (by decide +kernel)) ggX11_years_X11_fail
set_option maxRecDepth 100000 in
theorem ggX11_years_X11_copyTo : GoodIn wsX11_years wsX11_copyTo := (gi_cons 16 rfl rfl gi_nil)
set_option maxRecDepth 20000 in
theorem gX11_years_X11_copyTo : GoodIn wsX11_years (va_wsS RX11 532 yX11_copyTo wsX11_copyTo) := goodIn_app (goodIn_of _ (by decide +kernel)) ggX11_years_X11_copyTo
set_option maxRecDepth 100000 in
theorem ggX11_years_X11_happens : GoodIn wsX11_years wsX11_happens := (gi_cons 20 rfl rfl (gi_cons 21 rfl rfl (gi_cons 22 rfl rfl (gi_cons 23 rfl rfl (gi_cons 8 rfl rfl (gi_cons 24 rfl rfl (gi_cons 5 rfl rfl (gi_cons 25 rfl rfl (gi_cons 26 rfl rfl (gi_cons 27 rfl rfl (gi_cons 28 rfl rfl (gi_cons 29 rfl rfl (gi_cons 3 rfl rfl (gi_cons 30 rfl rfl (gi_cons 31 rfl rfl (gi_cons 32 rfl rfl (gi_cons 33 rfl rfl (gi_cons 34 rfl rfl (gi_cons 35 rfl rfl (gi_cons 36 rfl rfl (gi_cons 37 rfl rfl (gi_cons 38 rfl rfl (gi_cons 6 rfl rfl (gi_cons 7 rfl rfl (gi_cons 9 rfl rfl (gi_cons 39 rfl rfl (gi_cons 40 rfl rfl (gi_cons 41 rfl rfl (gi_cons 42 rfl rfl (gi_cons 43 rfl rfl (gi_cons 44 rfl rfl (gi_cons 45 rfl rfl (gi_cons 46 rfl rfl (gi_cons 47 rfl rfl (gi_cons 48 rfl rfl (gi_cons 49 rfl rfl (gi_cons 50 rfl rfl (gi_cons 51 rfl rfl (gi_cons 52 rfl rfl (gi_cons 53 rfl rfl (gi_cons 54 rfl rfl (gi_cons 55 rfl rfl (gi_cons 56 rfl rfl (gi_cons 57 rfl rfl (gi_cons 58 rfl rfl (gi_cons 59 rfl rfl (gi_cons 60 rfl rfl (gi_cons 61 rfl rfl (gi_cons 62 rfl rfl (gi_cons 63 rfl rfl (gi_cons 64 rfl rfl (gi_cons 65 rfl rfl (gi_cons 66 rfl rfl (gi_cons 67 rfl rfl (gi_cons 68 rfl rfl (gi_cons 69 rfl rfl (gi_cons 70 rfl rfl (gi_cons 71 rfl rfl (gi_cons 72 rfl rfl (gi_cons 73 rfl rfl (gi_cons 74 rfl rfl (gi_cons 75 rfl rfl (gi_cons 76 rfl rfl (gi_cons 77 rfl rfl (gi_cons 78 rfl rfl (gi_cons 79 rfl rfl (gi_cons 80 rfl rfl (gi_cons 81 rfl rfl (gi_cons 82 rfl rfl (gi_cons 83 rfl rfl (gi_cons 84 rfl rfl (gi_cons 85 rfl rfl (gi_cons 86 rfl rfl (gi_cons 87 rfl rfl (gi_cons 88 rfl rfl (gi_cons 89 rfl rfl (gi_cons 90 rfl rfl (gi_cons 91 rfl rfl (gi_cons 92 rfl rfl (gi_cons 93 rfl rfl (gi_cons 4 rfl rfl (gi_cons 94 rfl rfl (gi_cons 95 rfl rfl (gi_cons 96 rfl rfl (gi_cons 97 rfl rfl (gi_cons 98 rfl rfl (gi_cons 99 rfl rfl (gi_cons 100 rfl rfl (gi_cons 101 rfl rfl (gi_cons 102 rfl rfl (gi_cons 103 rfl rfl (gi_cons 104 rfl rfl (gi_cons 105 rfl rfl (gi_cons 106 rfl rfl (gi_cons 107 rfl rfl (gi_cons 108 rfl rfl (gi_cons 109 rfl rfl (gi_cons 110 rfl rfl (gi_cons 111 rfl rfl (gi_cons 112 rfl rfl (gi_cons 113 rfl rfl (gi_cons 114 rfl rfl (gi_cons 115 rfl rfl (gi_cons 116 rfl rfl (gi_cons 117 rfl rfl (gi_cons 118 rfl rfl (gi_cons 119 rfl rfl (gi_cons 120 rfl rfl (gi_cons 121 rfl rfl (gi_cons 122 rfl rfl (gi_cons 123 rfl rfl (gi_cons 124 rfl rfl (gi_cons 125 rfl rfl (gi_cons 126 rfl rfl (gi_cons 127 rfl rfl (gi_cons 128 rfl rfl (gi_cons 129 rfl rfl (gi_cons 130 rfl rfl (gi_cons 131 rfl rfl (gi_cons 132 rfl rfl (gi_cons 133 rfl rfl (gi_cons 134 rfl rfl (gi_cons 135 rfl rfl (gi_cons 136 rfl rfl (gi_cons 137 rfl rfl (gi_cons 138 rfl rfl (gi_cons 139 rfl rfl (gi_cons 140 rfl rfl (gi_cons 141 rfl rfl (gi_cons 142 rfl rfl (gi_cons 143 rfl rfl (gi_cons 144 rfl rfl (gi_cons 145 rfl rfl (gi_cons 146 rfl rfl (gi_cons 147 rfl rfl (gi_cons 148 rfl rfl (gi_cons 149 rfl rfl (gi_cons 150 rfl rfl (gi_cons 151 rfl rfl (gi_cons 152 rfl rfl (gi_cons 153 rfl rfl (gi_cons 154 rfl rfl (gi_cons 155 rfl rfl (gi_cons 156 rfl rfl (gi_cons 157 rfl rfl (gi_cons 158 rfl rfl (gi_cons 159 rfl rfl (gi_cons 160 rfl rfl (gi_cons 161 rfl rfl (gi_cons 162 rfl rfl (gi_cons 163 rfl rfl (gi_cons 164 rfl rfl (gi_cons 165 rfl rfl (gi_cons 166 rfl rfl (gi_cons 167 rfl rfl (gi_cons 168 rfl rfl (gi_cons 169 rfl rfl (gi_cons 170 rfl rfl (gi_cons 171 rfl rfl (gi_cons 172 rfl rfl (gi_cons 173 rfl rfl (gi_cons 174 rfl rfl (gi_cons 175 rfl rfl (gi_cons 176 rfl rfl (gi_cons 177 rfl rfl (gi_cons 178 rfl rfl (gi_cons 179 rfl rfl (gi_cons 180 rfl rfl (gi_cons 181 rfl rfl (gi_cons 182 rfl rfl (gi_cons 183 rfl rfl (gi_cons 184 rfl rfl (gi_cons 185 rfl rfl (gi_cons 186 rfl rfl (gi_cons 187 rfl rfl (gi_cons 188 rfl rfl (gi_cons 189 rfl rfl (gi_cons 190 rfl rfl (gi_cons 191 rfl rfl (gi_cons 192 rfl rfl (gi_cons 193 rfl rfl (gi_cons 194 rfl rfl (gi_cons 195 rfl rfl (gi_cons 196 rfl rfl (gi_cons 197 rfl rfl (gi_cons 198 rfl rfl (gi_cons 199 rfl rfl (gi_cons 200 rfl rfl (gi_cons 201 rfl rfl (gi_cons 202 rfl rfl (gi_cons 203 rfl rfl (gi_cons 204 rfl rfl (gi_cons 205 rfl rfl (gi_cons 206 rfl rfl (gi_cons 207 rfl rfl (gi_cons 208 rfl rfl (gi_cons 209 rfl rfl (gi_cons 210 rfl rfl (gi_cons 211 rfl rfl (gi_cons 212 rfl rfl (gi_cons 213 rfl rfl (gi_cons 214 rfl rfl (gi_cons 215 rfl rfl (gi_cons 216 rfl rfl (gi_cons 217 rfl rfl (gi_cons 218 rfl rfl (gi_cons 219 rfl rfl (gi_cons 220 rfl rfl (gi_cons 221 rfl rfl (gi_cons 222 rfl rfl (gi_cons 223 rfl rfl (gi_cons 224 rfl rfl (gi_cons 225 rfl rfl (gi_cons 226 rfl rfl (gi_cons 227 rfl rfl (gi_cons 228 rfl rfl (gi_cons 229 rfl rfl (gi_cons 230 rfl rfl (gi_cons 231 rfl rfl (gi_cons 232 rfl rfl (gi_cons 233 rfl rfl (gi_cons 234 rfl rfl (gi_cons 235 rfl rfl (gi_cons 236 rfl rfl (gi_cons 237 rfl rfl (gi_cons 238 rfl rfl (gi_cons 239 rfl rfl (gi_cons 240 rfl rfl (gi_cons 241 rfl rfl (gi_cons 242 rfl rfl (gi_cons 243 rfl rfl (gi_cons 244 rfl rfl (gi_cons 245 rfl rfl (gi_cons 246 rfl rfl (gi_cons 247 rfl rfl (gi_cons 248 rfl rfl (gi_cons 249 rfl rfl (gi_cons 250 rfl rfl (gi_cons 251 rfl rfl (gi_cons 252 rfl rfl (gi_cons 253 rfl rfl (gi_cons 254 rfl rfl (gi_cons 255 rfl rfl (gi_cons 256 rfl rfl (gi_cons 257 rfl rfl (gi_cons 258 rfl rfl (gi_cons 259 rfl rfl (gi_cons 260 rfl rfl (gi_cons 261 rfl rfl (gi_cons 262 rfl rfl (gi_cons 263 rfl rfl (gi_cons 264 rfl rfl (gi_cons 265 rfl rfl (gi_cons 266 rfl rfl (gi_cons 267 rfl rfl (gi_cons 268 rfl rfl (gi_cons 269 rfl rfl (gi_cons 270 rfl rfl (gi_cons 271 rfl rfl (gi_cons 272 rfl rfl (gi_cons 273 rfl rfl (gi_cons 274 rfl rfl (gi_cons 275 rfl rfl (gi_cons 276 rfl rfl (gi_cons 277 rfl rfl (gi_cons 278 rfl rfl (gi_cons 279 rfl rfl (gi_cons 280 rfl rfl (gi_cons 285 rfl rfl (gi_cons 286 rfl rfl (gi_cons 287 rfl rfl (gi_cons 288 rfl rfl (gi_cons 289 rfl rfl (gi_cons 290 rfl rfl (gi_cons 291 rfl rfl (gi_cons 292 rfl rfl (gi_cons 293 rfl rfl (gi_cons 294 rfl rfl (gi_cons 295 rfl rfl (gi_cons 296 rfl rfl (gi_cons 297 rfl rfl (gi_cons 298 rfl rfl (gi_cons 299 rfl rfl (gi_cons 300 rfl rfl (gi_cons 301 rfl rfl (gi_cons 302 rfl rfl (gi_cons 303 rfl rfl (gi_cons 304 rfl rfl (gi_cons 305 rfl rfl (gi_cons 306 rfl rfl (gi_cons 307 rfl rfl (gi_cons 308 rfl rfl (gi_cons 309 rfl rfl (gi_cons 310 rfl rfl (gi_cons 311 rfl rfl (gi_cons 312 rfl rfl (gi_cons 313 rfl rfl (gi_cons 314 rfl rfl (gi_cons 315 rfl rfl (gi_cons 316 rfl rfl (gi_cons 317 rfl rfl (gi_cons 318 rfl rfl (gi_cons 319 rfl rfl (gi_cons 320 rfl rfl (gi_cons 321 rfl rfl (gi_cons 322 rfl rfl (gi_cons 323 rfl rfl (gi_cons 324 rfl rfl (gi_cons 325 rfl rfl (gi_cons 326 rfl rfl (gi_cons 327 rfl rfl (gi_cons 328 rfl rfl (gi_cons 329 rfl rfl (gi_cons 330 rfl rfl (gi_cons 331 rfl rfl (gi_cons 332 rfl rfl (gi_cons 333 rfl rfl (gi_cons 334 rfl rfl (gi_cons 335 rfl rfl (gi_cons 336 rfl rfl (gi_cons 337 rfl rfl (gi_cons 338 rfl rfl (gi_cons 339 rfl rfl (gi_cons 340 rfl rfl (gi_cons 341 rfl rfl (gi_cons 342 rfl rfl (gi_cons 343 rfl rfl (gi_cons 344 rfl rfl (gi_cons 345 rfl rfl (gi_cons 346 rfl rfl (gi_cons 347 rfl rfl (gi_cons 348 rfl rfl (gi_cons 349 rfl rfl (gi_cons 350 rfl rfl gi_nil))))))))))))))))))))))))))))))))))))))))))))))))))))))))))))))))))))))))))))))))))))))))))))))))))))))))))))))))))))))))))))))))))))))))))))))))))))))))))))))))))))))))))))))))))))))))))))))))))))))))))))))))))))))))))))))))))))))))))))))))))))))))))))))))))))))))))))))))))))))))))))))))))))))))))))))))))))))))))))))))))))))))))))))
set_option maxRecDepth 20000 in
theorem gX11_years_X11_happens : GoodIn wsX11_years (wsV RX11 536 RX11 yX11_happens wsX11_happens) := goodIn_app (goodIn_of _ (by decide +kernel)) ggX11_years_X11_happens
set_option maxRecDepth 100000 in
theorem ggX11_years_X11_things : GoodIn wsX11_years wsX11_things := (gi_cons 29 rfl rfl (gi_cons 3 rfl rfl (gi_cons 285 rfl rfl (gi_cons 286 rfl rfl (gi_cons 287 rfl rfl (gi_cons 288 rfl rfl (gi_cons 289 rfl rfl (gi_cons 290 rfl rfl (gi_cons 291 rfl rfl (gi_cons 292 rfl rfl (gi_cons 293 rfl rfl (gi_cons 294 rfl rfl (gi_cons 295 rfl rfl (gi_cons 296 rfl rfl (gi_cons 297 rfl rfl (gi_cons 298 rfl rfl (gi_cons 299 rfl rfl (gi_cons 300 rfl rfl (gi_cons 301 rfl rfl (gi_cons 302 rfl rfl (gi_cons 303 rfl rfl (gi_cons 304 rfl rfl (gi_cons 305 rfl rfl (gi_cons 306 rfl rfl (gi_cons 307 rfl rfl (gi_cons 308 rfl rfl (gi_cons 309 rfl rfl (gi_cons 310 rfl rfl (gi_cons 311 rfl rfl (gi_cons 312 rfl rfl (gi_cons 313 rfl rfl (gi_cons 314 rfl rfl (gi_cons 315 rfl rfl (gi_cons 316 rfl rfl (gi_cons 317 rfl rfl (gi_cons 318 rfl rfl (gi_cons 319 rfl rfl (gi_cons 320 rfl rfl (gi_cons 321 rfl rfl (gi_cons 322 rfl rfl (gi_cons 323 rfl rfl (gi_cons 324 rfl rfl (gi_cons 325 rfl rfl (gi_cons 326 rfl rfl (gi_cons 327 rfl rfl (gi_cons 328 rfl rfl (gi_cons 329 rfl rfl (gi_cons 330 rfl rfl (gi_cons 331 rfl rfl (gi_cons 332 rfl rfl (gi_cons 333 rfl rfl (gi_cons 334 rfl rfl (gi_cons 335 rfl rfl (gi_cons 336 rfl rfl (gi_cons 337 rfl rfl (gi_cons 338 rfl rfl (gi_cons 339 rfl rfl (gi_cons 340 rfl rfl (gi_cons 341 rfl rfl (gi_cons 342 rfl rfl (gi_cons 343 rfl rfl (gi_cons 344 rfl rfl (gi_cons 345 rfl rfl (gi_cons 346 rfl rfl (gi_cons 347 rfl rfl (gi_cons 348 rfl rfl (gi_cons 349 rfl rfl (gi_cons 350 rfl rfl gi_nil))))))))))))))))))))))))))))))))))))))))))))))))))))))))))))))))))))
set_option maxRecDepth 20000 in
theorem gX11_years_X11_things : GoodIn wsX11_years (wsV RX11 267 RX11 yX11_things wsX11_things) := goodIn_app (goodIn_of _ (by decide +kernel)) ggX11_years_X11_things
set_option maxRecDepth 100000 in
theorem ggX11_years_X11_sum : GoodIn wsX11_years wsX11_sum := (gi_cons 284 rfl rfl (gi_cons 3 rfl rfl (gi_cons 26 rfl rfl (gi_cons 27 rfl rfl (gi_cons 28 rfl rfl (gi_cons 8 rfl rfl (gi_cons 29 rfl rfl (gi_cons 45 rfl rfl (gi_cons 46 rfl rfl (gi_cons 47 rfl rfl (gi_cons 285 rfl rfl (gi_cons 286 rfl rfl (gi_cons 287 rfl rfl (gi_cons 288 rfl rfl (gi_cons 289 rfl rfl (gi_cons 290 rfl rfl (gi_cons 291 rfl rfl (gi_cons 292 rfl rfl (gi_cons 293 rfl rfl (gi_cons 294 rfl rfl (gi_cons 295 rfl rfl (gi_cons 296 rfl rfl (gi_cons 297 rfl rfl (gi_cons 298 rfl rfl (gi_cons 299 rfl rfl (gi_cons 300 rfl rfl (gi_cons 301 rfl rfl (gi_cons 302 rfl rfl (gi_cons 303 rfl rfl (gi_cons 304 rfl rfl (gi_cons 305 rfl rfl (gi_cons 306 rfl rfl (gi_cons 307 rfl rfl (gi_cons 308 rfl rfl (gi_cons 309 rfl rfl (gi_cons 310 rfl rfl (gi_cons 311 rfl rfl (gi_cons 312 rfl rfl (gi_cons 313 rfl rfl (gi_cons 314 rfl rfl (gi_cons 315 rfl rfl (gi_cons 316 rfl rfl (gi_cons 317 rfl rfl (gi_cons 318 rfl rfl (gi_cons 319 rfl rfl (gi_cons 320 rfl rfl (gi_cons 321 rfl rfl (gi_cons 322 rfl rfl (gi_cons 323 rfl rfl (gi_cons 324 rfl rfl (gi_cons 325 rfl rfl (gi_cons 326 rfl rfl (gi_cons 327 rfl rfl (gi_cons 328 rfl rfl (gi_cons 329 rfl rfl (gi_cons 330 rfl rfl (gi_cons 331 rfl rfl (gi_cons 332 rfl rfl (gi_cons 333 rfl rfl (gi_cons 334 rfl rfl (gi_cons 335 rfl rfl (gi_cons 336 rfl rfl (gi_cons 337 rfl rfl (gi_cons 338 rfl rfl (gi_cons 339 rfl rfl (gi_cons 340 rfl rfl (gi_cons 341 rfl rfl (gi_cons 342 rfl rfl (gi_cons 343 rfl rfl (gi_cons 344 rfl rfl (gi_cons 345 rfl rfl (gi_cons 346 rfl rfl (gi_cons 347 rfl rfl (gi_cons 348 rfl rfl (gi_cons 349 rfl rfl (gi_cons 350 rfl rfl gi_nil))))))))))))))))))))))))))))))))))))))))))))))))))))))))))))))))))))))))))))
set_option maxRecDepth 20000 in
theorem gX11_years_X11_sum : GoodIn wsX11_years (wsV RX11 510 RX11 yX11_sum wsX11_sum) := goodIn_app (goodIn_of _ (by decide +kernel)) ggX11_years_X11_sum
theorem dX11_years_0 : decode cX11_years 0 = .ok (.aload_n 0, 1) := by decide +kernel
theorem dX11_years_1 : decode cX11_years 1 = .ok (.iconst 0, 1) := by decide +kernel
theorem dX11_years_2 : decode cX11_years 2 = .ok (.putfield 111, 3) := by decide +kernel
theorem dX11_years_5 : decode cX11_years 5 = .ok (.iload_n 3, 1) := by decide +kernel
theorem dX11_years_6 : decode cX11_years 6 = .ok (.iconst 0, 1) := by decide +kernel
theorem dX11_years_7 : decode cX11_years 7 = .ok (.iconst 2, 1) := by decide +kernel
theorem dX11_years_8 : decode cX11_years 8 = .ok (.invokestatic 219, 3) := by decide +kernel
theorem dX11_years_11 : decode cX11_years 11 = .ok (.ifCond .ne 9, 3) := by decide +kernel
theorem dX11_years_14 : decode cX11_years 14 = .ok (.aload_n 0, 1) := by decide +kernel
theorem dX11_years_15 : decode cX11_years 15 = .ok (.iconst 1, 1) := by decide +kernel
theorem dX11_years_16 : decode cX11_years 16 = .ok (.invokevirtual 226, 3) := by decide +kernel
theorem dX11_years_19 : decode cX11_years 19 = .ok (.ireturn, 1) := by decide +kernel
theorem dX11_years_20 : decode cX11_years 20 = .ok (.iload_n 2, 1) := by decide +kernel
theorem dX11_years_21 : decode cX11_years 21 = .ok (.iconst 0, 1) := by decide +kernel
theorem dX11_years_22 : decode cX11_years 22 = .ok (.bipush 20, 2) := by decide +kernel
theorem dX11_years_24 : decode cX11_years 24 = .ok (.invokestatic 219, 3) := by decide +kernel
theorem dX11_years_27 : decode cX11_years 27 = .ok (.ifCond .ne 9, 3) := by decide +kernel
theorem dX11_years_30 : decode cX11_years 30 = .ok (.aload_n 0, 1) := by decide +kernel
theorem dX11_years_31 : decode cX11_years 31 = .ok (.iconst 2, 1) := by decide +kernel
theorem dX11_years_32 : decode cX11_years 32 = .ok (.invokevirtual 226, 3) := by decide +kernel
theorem dX11_years_35 : decode cX11_years 35 = .ok (.ireturn, 1) := by decide +kernel
theorem dX11_years_36 : decode cX11_years 36 = .ok (.aload_n 0, 1) := by decide +kernel
theorem dX11_years_37 : decode cX11_years 37 = .ok (.getfield 90, 3) := by decide +kernel
theorem dX11_years_40 : decode cX11_years 40 = .ok (.aload_n 0, 1) := by decide +kernel
theorem dX11_years_41 : decode cX11_years 41 = .ok (.getfield 9, 3) := by decide +kernel
theorem dX11_years_44 : decode cX11_years 44 = .ok (.invokestatic 532, 3) := by decide +kernel
theorem dX11_years_47 : decode cX11_years 47 = .ok (.aload_n 0, 1) := by decide +kernel
theorem dX11_years_48 : decode cX11_years 48 = .ok (.iconst 1, 1) := by decide +kernel
theorem dX11_years_49 : decode cX11_years 49 = .ok (.putfield 403, 3) := by decide +kernel
theorem dX11_years_52 : decode cX11_years 52 = .ok (.aload_n 0, 1) := by decide +kernel
theorem dX11_years_53 : decode cX11_years 53 = .ok (.iload_n 1, 1) := by decide +kernel
theorem dX11_years_54 : decode cX11_years 54 = .ok (.putfield 525, 3) := by decide +kernel
theorem dX11_years_57 : decode cX11_years 57 = .ok (.iconst 0, 1) := by decide +kernel
theorem dX11_years_58 : decode cX11_years 58 = .ok (.istore 4, 2) := by decide +kernel
theorem dX11_years_60 : decode cX11_years 60 = .ok (.iconst 0, 1) := by decide +kernel
theorem dX11_years_61 : decode cX11_years 61 = .ok (.istore 5, 2) := by decide +kernel
theorem dX11_years_63 : decode cX11_years 63 = .ok (.iload 5, 2) := by decide +kernel
theorem dX11_years_65 : decode cX11_years 65 = .ok (.iload_n 2, 1) := by decide +kernel
theorem dX11_years_66 : decode cX11_years 66 = .ok (.if_icmp .ge 26, 3) := by decide +kernel
theorem dX11_years_69 : decode cX11_years 69 = .ok (.iload 4, 2) := by decide +kernel
theorem dX11_years_71 : decode cX11_years 71 = .ok (.aload_n 0, 1) := by decide +kernel
theorem dX11_years_72 : decode cX11_years 72 = .ok (.invokevirtual 536, 3) := by decide +kernel
theorem dX11_years_75 : decode cX11_years 75 = .ok (.ifCond .eq 7, 3) := by decide +kernel
theorem dX11_years_78 : decode cX11_years 78 = .ok (.iconst 1, 1) := by decide +kernel
theorem dX11_years_79 : decode cX11_years 79 = .ok (.goto 4, 3) := by decide +kernel
theorem dX11_years_82 : decode cX11_years 82 = .ok (.iconst 0, 1) := by decide +kernel
theorem dX11_years_83 : decode cX11_years 83 = .ok (.iadd, 1) := by decide +kernel
theorem dX11_years_84 : decode cX11_years 84 = .ok (.istore 4, 2) := by decide +kernel
theorem dX11_years_86 : decode cX11_years 86 = .ok (.iinc 5 1, 3) := by decide +kernel
theorem dX11_years_89 : decode cX11_years 89 = .ok (.goto (-26), 3) := by decide +kernel
theorem dX11_years_92 : decode cX11_years 92 = .ok (.aload_n 0, 1) := by decide +kernel
theorem dX11_years_93 : decode cX11_years 93 = .ok (.iconst 0, 1) := by decide +kernel
theorem dX11_years_94 : decode cX11_years 94 = .ok (.putfield 403, 3) := by decide +kernel
theorem dX11_years_97 : decode cX11_years 97 = .ok (.iload_n 3, 1) := by decide +kernel
theorem dX11_years_98 : decode cX11_years 98 = .ok (.ifCond .ne 10, 3) := by decide +kernel
theorem dX11_years_101 : decode cX11_years 101 = .ok (.aload_n 0, 1) := by decide +kernel
theorem dX11_years_102 : decode cX11_years 102 = .ok (.invokevirtual 267, 3) := by decide +kernel
theorem dX11_years_105 : decode cX11_years 105 = .ok (.goto 17, 3) := by decide +kernel
theorem dX11_years_108 : decode cX11_years 108 = .ok (.iload_n 3, 1) := by decide +kernel
theorem dX11_years_109 : decode cX11_years 109 = .ok (.iconst 1, 1) := by decide +kernel
theorem dX11_years_110 : decode cX11_years 110 = .ok (.if_icmp .ne 10, 3) := by decide +kernel
theorem dX11_years_113 : decode cX11_years 113 = .ok (.aload_n 0, 1) := by decide +kernel
theorem dX11_years_114 : decode cX11_years 114 = .ok (.invokevirtual 510, 3) := by decide +kernel
theorem dX11_years_117 : decode cX11_years 117 = .ok (.goto 5, 3) := by decide +kernel
theorem dX11_years_120 : decode cX11_years 120 = .ok (.iload 4, 2) := by decide +kernel
theorem dX11_years_122 : decode cX11_years 122 = .ok (.istore 5, 2) := by decide +kernel
theorem dX11_years_124 : decode cX11_years 124 = .ok (.aload_n 0, 1) := by decide +kernel
theorem dX11_years_125 : decode cX11_years 125 = .ok (.getfield 9, 3) := by decide +kernel
theorem dX11_years_128 : decode cX11_years 128 = .ok (.aload_n 0, 1) := by decide +kernel
theorem dX11_years_129 : decode cX11_years 129 = .ok (.getfield 90, 3) := by decide +kernel
theorem dX11_years_132 : decode cX11_years 132 = .ok (.invokestatic 532, 3) := by decide +kernel
theorem dX11_years_135 : decode cX11_years 135 = .ok (.iload 5, 2) := by decide +kernel
theorem dX11_years_137 : decode cX11_years 137 = .ok (.ireturn, 1) := by decide +kernel
