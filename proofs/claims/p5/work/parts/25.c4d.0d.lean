set_option maxRecDepth 100000 in
theorem ggX11_readStep_X11_copySet : GoodIn wsX11_readStep wsX11_copySet := (gi_cons 146 rfl rfl gi_nil)
set_option maxRecDepth 20000 in
theorem gX11_readStep_X11_copySet : GoodIn wsX11_readStep (va_wsS RX11 303 yX11_copySet wsX11_copySet) := goodIn_app (goodIn_of _ (by decide +kernel)) ggX11_readStep_X11_copySet
theorem dX11_readStep_196 : decode cX11_readStep 196 = .ok (.aload_n 0, 1) := by decide +kernel
theorem dX11_readStep_197 : decode cX11_readStep 197 = .ok (.getfield 35, 3) := by decide +kernel
theorem dX11_readStep_200 : decode cX11_readStep 200 = .ok (.aload_n 0, 1) := by decide +kernel
theorem dX11_readStep_201 : decode cX11_readStep 201 = .ok (.getfield 39, 3) := by decide +kernel
theorem dX11_readStep_204 : decode cX11_readStep 204 = .ok (.invokestatic 303, 3) := by decide +kernel
theorem dX11_copySet_0 : decode cX11_copySet 0 = .ok (.iconst 0, 1) := by decide +kernel
theorem dX11_copySet_1 : decode cX11_copySet 1 = .ok (.istore_n 2, 1) := by decide +kernel
theorem dX11_copySet_2 : decode cX11_copySet 2 = .ok (.iload_n 2, 1) := by decide +kernel
theorem dX11_copySet_3 : decode cX11_copySet 3 = .ok (.aload_n 0, 1) := by decide +kernel
theorem dX11_copySet_4 : decode cX11_copySet 4 = .ok (.arraylength, 1) := by decide +kernel
theorem dX11_copySet_5 : decode cX11_copySet 5 = .ok (.if_icmp .ge 15, 3) := by decide +kernel
theorem dX11_copySet_8 : decode cX11_copySet 8 = .ok (.aload_n 0, 1) := by decide +kernel
theorem dX11_copySet_9 : decode cX11_copySet 9 = .ok (.iload_n 2, 1) := by decide +kernel
theorem dX11_copySet_10 : decode cX11_copySet 10 = .ok (.aload_n 1, 1) := by decide +kernel
theorem dX11_copySet_11 : decode cX11_copySet 11 = .ok (.iload_n 2, 1) := by decide +kernel
theorem dX11_copySet_12 : decode cX11_copySet 12 = .ok (.baload, 1) := by decide +kernel
theorem dX11_copySet_13 : decode cX11_copySet 13 = .ok (.bastore, 1) := by decide +kernel
theorem dX11_copySet_14 : decode cX11_copySet 14 = .ok (.iinc 2 1, 3) := by decide +kernel
theorem dX11_copySet_17 : decode cX11_copySet 17 = .ok (.goto (-15), 3) := by decide +kernel
theorem dX11_copySet_20 : decode cX11_copySet 20 = .ok (.return_, 1) := by decide +kernel
set_option maxRecDepth 100000 in
theorem ggX11_filter_X11_things : GoodIn wsX11_filter wsX11_things := (gi_cons 117 rfl rfl (gi_cons 70 rfl rfl (gi_cons 118 rfl rfl (gi_cons 119 rfl rfl (gi_cons 120 rfl rfl (gi_cons 121 rfl rfl (gi_cons 122 rfl rfl (gi_cons 123 rfl rfl (gi_cons 124 rfl rfl (gi_cons 125 rfl rfl (gi_cons 126 rfl rfl (gi_cons 127 rfl rfl (gi_cons 128 rfl rfl (gi_cons 129 rfl rfl (gi_cons 130 rfl rfl (gi_cons 131 rfl rfl (gi_cons 132 rfl rfl (gi_cons 133 rfl rfl (gi_cons 134 rfl rfl (gi_cons 135 rfl rfl (gi_cons 136 rfl rfl (gi_cons 137 rfl rfl (gi_cons 138 rfl rfl (gi_cons 139 rfl rfl (gi_cons 140 rfl rfl (gi_cons 141 rfl rfl (gi_cons 142 rfl rfl (gi_cons 143 rfl rfl (gi_cons 144 rfl rfl (gi_cons 145 rfl rfl (gi_cons 146 rfl rfl (gi_cons 147 rfl rfl (gi_cons 148 rfl rfl (gi_cons 149 rfl rfl (gi_cons 150 rfl rfl (gi_cons 151 rfl rfl (gi_cons 152 rfl rfl (gi_cons 153 rfl rfl (gi_cons 154 rfl rfl (gi_cons 155 rfl rfl (gi_cons 156 rfl rfl (gi_cons 157 rfl rfl (gi_cons 158 rfl rfl (gi_cons 159 rfl rfl (gi_cons 160 rfl rfl (gi_cons 161 rfl rfl (gi_cons 162 rfl rfl (gi_cons 163 rfl rfl (gi_cons 164 rfl rfl (gi_cons 165 rfl rfl (gi_cons 166 rfl rfl (gi_cons 167 rfl rfl (gi_cons 168 rfl rfl (gi_cons 169 rfl rfl (gi_cons 170 rfl rfl (gi_cons 171 rfl rfl (gi_cons 172 rfl rfl (gi_cons 173 rfl rfl (gi_cons 174 rfl rfl (gi_cons 175 rfl rfl (gi_cons 176 rfl rfl (gi_cons 177 rfl rfl (gi_cons 178 rfl rfl (gi_cons 179 rfl rfl (gi_cons 180 rfl rfl (gi_cons 181 rfl rfl (gi_cons 182 rfl rfl (gi_cons 183 rfl rfl gi_nil))))))))))))))))))))))))))))))))))))))))))))))))))))))))))))))))))))
set_option maxRecDepth 20000 in
theorem gX11_filter_X11_things : GoodIn wsX11_filter (wsV RX11 267 RX11 yX11_things wsX11_things) := goodIn_app (goodIn_of _ (by decide +kernel)) ggX11_filter_X11_things
set_option maxRecDepth 100000 in
theorem ggX11_filter_X11_stepOn : GoodIn wsX11_filter wsX11_stepOn := (gi_cons 36 rfl rfl (gi_cons 6 rfl rfl (gi_cons 3 rfl rfl (gi_cons 21 rfl rfl (gi_cons 37 rfl rfl (gi_cons 38 rfl rfl (gi_cons 39 rfl rfl (gi_cons 40 rfl rfl (gi_cons 41 rfl rfl (gi_cons 42 rfl rfl (gi_cons 43 rfl rfl (gi_cons 44 rfl rfl (gi_cons 22 rfl rfl (gi_cons 23 rfl rfl (gi_cons 24 rfl rfl (gi_cons 11 rfl rfl (gi_cons 25 rfl rfl (gi_cons 26 rfl rfl (gi_cons 27 rfl rfl (gi_cons 28 rfl rfl (gi_cons 45 rfl rfl (gi_cons 46 rfl rfl (gi_cons 47 rfl rfl (gi_cons 48 rfl rfl (gi_cons 49 rfl rfl (gi_cons 50 rfl rfl (gi_cons 118 rfl rfl (gi_cons 119 rfl rfl (gi_cons 120 rfl rfl (gi_cons 121 rfl rfl (gi_cons 122 rfl rfl (gi_cons 123 rfl rfl (gi_cons 124 rfl rfl (gi_cons 125 rfl rfl (gi_cons 126 rfl rfl (gi_cons 127 rfl rfl (gi_cons 128 rfl rfl (gi_cons 129 rfl rfl (gi_cons 130 rfl rfl (gi_cons 131 rfl rfl (gi_cons 132 rfl rfl (gi_cons 133 rfl rfl (gi_cons 134 rfl rfl (gi_cons 135 rfl rfl (gi_cons 136 rfl rfl (gi_cons 137 rfl rfl (gi_cons 138 rfl rfl (gi_cons 139 rfl rfl (gi_cons 140 rfl rfl (gi_cons 141 rfl rfl (gi_cons 142 rfl rfl (gi_cons 143 rfl rfl (gi_cons 144 rfl rfl (gi_cons 145 rfl rfl (gi_cons 146 rfl rfl (gi_cons 147 rfl rfl (gi_cons 148 rfl rfl (gi_cons 149 rfl rfl (gi_cons 150 rfl rfl (gi_cons 151 rfl rfl (gi_cons 152 rfl rfl (gi_cons 153 rfl rfl (gi_cons 154 rfl rfl (gi_cons 155 rfl rfl (gi_cons 156 rfl rfl (gi_cons 157 rfl rfl (gi_cons 158 rfl rfl (gi_cons 159 rfl rfl (gi_cons 160 rfl rfl (gi_cons 161 rfl rfl (gi_cons 162 rfl rfl (gi_cons 163 rfl rfl (gi_cons 164 rfl rfl (gi_cons 165 rfl rfl (gi_cons 166 rfl rfl (gi_cons 167 rfl rfl (gi_cons 168 rfl rfl (gi_cons 169 rfl rfl (gi_cons 170 rfl rfl (gi_cons 171 rfl rfl (gi_cons 172 rfl rfl (gi_cons 173 rfl rfl (gi_cons 174 rfl rfl (gi_cons 175 rfl rfl (gi_cons 176 rfl rfl (gi_cons 177 rfl rfl (gi_cons 178 rfl rfl (gi_cons 179 rfl rfl (gi_cons 180 rfl rfl (gi_cons 181 rfl rfl (gi_cons 182 rfl rfl (gi_cons 183 rfl rfl gi_nil))))))))))))))))))))))))))))))))))))))))))))))))))))))))))))))))))))))))))))))))))))))))))))
set_option maxRecDepth 20000 in
theorem gX11_filter_X11_stepOn : GoodIn wsX11_filter (wsV RX11 168 RX11 yX11_stepOn wsX11_stepOn) := goodIn_app (goodIn_of _ (by decide +kernel)) ggX11_filter_X11_stepOn
theorem dX11_filter_18 : decode cX11_filter 18 = .ok (.aload_n 0, 1) := by decide +kernel
theorem dX11_filter_19 : decode cX11_filter 19 = .ok (.getfield 133, 3) := by decide +kernel
theorem dX11_filter_22 : decode cX11_filter 22 = .ok (.istore_n 1, 1) := by decide +kernel
theorem dX11_filter_23 : decode cX11_filter 23 = .ok (.aload_n 0, 1) := by decide +kernel
theorem dX11_filter_24 : decode cX11_filter 24 = .ok (.getfield 276, 3) := by decide +kernel
theorem dX11_filter_27 : decode cX11_filter 27 = .ok (.istore_n 2, 1) := by decide +kernel
theorem dX11_filter_28 : decode cX11_filter 28 = .ok (.aload_n 0, 1) := by decide +kernel
theorem dX11_filter_29 : decode cX11_filter 29 = .ok (.iconst (-1), 1) := by decide +kernel
theorem dX11_filter_30 : decode cX11_filter 30 = .ok (.putfield 316, 3) := by decide +kernel
theorem dX11_filter_33 : decode cX11_filter 33 = .ok (.aload_n 0, 1) := by decide +kernel
theorem dX11_filter_34 : decode cX11_filter 34 = .ok (.invokevirtual 319, 3) := by decide +kernel
theorem dX11_filter_37 : decode cX11_filter 37 = .ok (.istore_n 3, 1) := by decide +kernel
theorem dX11_filter_38 : decode cX11_filter 38 = .ok (.aload_n 0, 1) := by decide +kernel
theorem dX11_filter_39 : decode cX11_filter 39 = .ok (.getfield 133, 3) := by decide +kernel
theorem dX11_filter_42 : decode cX11_filter 42 = .ok (.istore 4, 2) := by decide +kernel
theorem dX11_filter_44 : decode cX11_filter 44 = .ok (.iconst 0, 1) := by decide +kernel
theorem dX11_filter_45 : decode cX11_filter 45 = .ok (.istore 5, 2) := by decide +kernel
theorem dX11_filter_47 : decode cX11_filter 47 = .ok (.iload 5, 2) := by decide +kernel
theorem dX11_filter_49 : decode cX11_filter 49 = .ok (.aload_n 0, 1) := by decide +kernel
theorem dX11_filter_50 : decode cX11_filter 50 = .ok (.invokevirtual 267, 3) := by decide +kernel
theorem dX11_filter_53 : decode cX11_filter 53 = .ok (.if_icmp .ge 48, 3) := by decide +kernel
theorem dX11_filter_56 : decode cX11_filter 56 = .ok (.aload_n 0, 1) := by decide +kernel
theorem dX11_filter_57 : decode cX11_filter 57 = .ok (.getfield 35, 3) := by decide +kernel
theorem dX11_filter_60 : decode cX11_filter 60 = .ok (.iload 5, 2) := by decide +kernel
theorem dX11_filter_62 : decode cX11_filter 62 = .ok (.baload, 1) := by decide +kernel
theorem dX11_filter_63 : decode cX11_filter 63 = .ok (.ifCond .ne 6, 3) := by decide +kernel
theorem dX11_filter_66 : decode cX11_filter 66 = .ok (.goto 29, 3) := by decide +kernel
theorem dX11_filter_69 : decode cX11_filter 69 = .ok (.aload_n 0, 1) := by decide +kernel
theorem dX11_filter_70 : decode cX11_filter 70 = .ok (.iload_n 1, 1) := by decide +kernel
theorem dX11_filter_71 : decode cX11_filter 71 = .ok (.putfield 126, 3) := by decide +kernel
theorem dX11_filter_74 : decode cX11_filter 74 = .ok (.aload_n 0, 1) := by decide +kernel
theorem dX11_filter_75 : decode cX11_filter 75 = .ok (.invokevirtual 168, 3) := by decide +kernel
theorem dX11_filter_78 : decode cX11_filter 78 = .ok (.aload_n 0, 1) := by decide +kernel
theorem dX11_filter_79 : decode cX11_filter 79 = .ok (.iload 5, 2) := by decide +kernel
theorem dX11_filter_81 : decode cX11_filter 81 = .ok (.putfield 316, 3) := by decide +kernel
theorem dX11_filter_84 : decode cX11_filter 84 = .ok (.aload_n 0, 1) := by decide +kernel
theorem dX11_filter_85 : decode cX11_filter 85 = .ok (.getfield 39, 3) := by decide +kernel
theorem dX11_filter_88 : decode cX11_filter 88 = .ok (.iload 5, 2) := by decide +kernel
theorem dX11_filter_90 : decode cX11_filter 90 = .ok (.aload_n 0, 1) := by decide +kernel
theorem dX11_filter_91 : decode cX11_filter 91 = .ok (.invokevirtual 319, 3) := by decide +kernel
theorem dX11_filter_94 : decode cX11_filter 94 = .ok (.bastore, 1) := by decide +kernel
theorem dX11_filter_95 : decode cX11_filter 95 = .ok (.iinc 5 1, 3) := by decide +kernel
theorem dX11_filter_98 : decode cX11_filter 98 = .ok (.goto (-51), 3) := by decide +kernel
theorem dX11_filter_101 : decode cX11_filter 101 = .ok (.aload_n 0, 1) := by decide +kernel
theorem dX11_filter_102 : decode cX11_filter 102 = .ok (.iload 4, 2) := by decide +kernel
theorem dX11_filter_104 : decode cX11_filter 104 = .ok (.putfield 126, 3) := by decide +kernel
theorem dX11_filter_107 : decode cX11_filter 107 = .ok (.aload_n 0, 1) := by decide +kernel
theorem dX11_filter_108 : decode cX11_filter 108 = .ok (.invokevirtual 168, 3) := by decide +kernel
theorem dX11_filter_111 : decode cX11_filter 111 = .ok (.aload_n 0, 1) := by decide +kernel
theorem dX11_filter_112 : decode cX11_filter 112 = .ok (.iload_n 2, 1) := by decide +kernel
theorem dX11_filter_113 : decode cX11_filter 113 = .ok (.putfield 276, 3) := by decide +kernel
theorem dX11_filter_116 : decode cX11_filter 116 = .ok (.return_, 1) := by decide +kernel
set_option maxRecDepth 100000 in
theorem ggX11_goes_X11_beginText : GoodIn wsX11_goes wsX11_beginText := (gi_cons 9 rfl rfl (gi_cons 10 rfl rfl (gi_cons 11 rfl rfl (gi_cons 12 rfl rfl (gi_cons 13 rfl rfl (gi_cons 14 rfl rfl (gi_cons 15 rfl rfl (gi_cons 16 rfl rfl (gi_cons 17 rfl rfl (gi_cons 8 rfl rfl (gi_cons 18 rfl rfl (gi_cons 19 rfl rfl (gi_cons 20 rfl rfl (gi_cons 21 rfl rfl (gi_cons 22 rfl rfl (gi_cons 23 rfl rfl (gi_cons 24 rfl rfl (gi_cons 25 rfl rfl (gi_cons 26 rfl rfl (gi_cons 27 rfl rfl (gi_cons 28 rfl rfl (gi_cons 29 rfl rfl (gi_cons 30 rfl rfl (gi_cons 31 rfl rfl (gi_cons 32 rfl rfl (gi_cons 33 rfl rfl (gi_cons 34 rfl rfl (gi_cons 35 rfl rfl (gi_cons 36 rfl rfl (gi_cons 37 rfl rfl (gi_cons 38 rfl rfl (gi_cons 162 rfl rfl (gi_cons 163 rfl rfl (gi_cons 164 rfl rfl (gi_cons 165 rfl rfl (gi_cons 166 rfl rfl (gi_cons 167 rfl rfl (gi_cons 168 rfl rfl (gi_cons 169 rfl rfl (gi_cons 170 rfl rfl (gi_cons 171 rfl rfl (gi_cons 172 rfl rfl (gi_cons 173 rfl rfl (gi_cons 174 rfl rfl (gi_cons 175 rfl rfl (gi_cons 176 rfl rfl (gi_cons 177 rfl rfl (gi_cons 178 rfl rfl (gi_cons 179 rfl rfl (gi_cons 180 rfl rfl (gi_cons 181 rfl rfl (gi_cons 182 rfl rfl (gi_cons 183 rfl rfl (gi_cons 184 rfl rfl (gi_cons 185 rfl rfl (gi_cons 186 rfl rfl (gi_cons 187 rfl rfl (gi_cons 188 rfl rfl (gi_cons 189 rfl rfl (gi_cons 190 rfl rfl (gi_cons 191 rfl rfl (gi_cons 192 rfl rfl (gi_cons 193 rfl rfl (gi_cons 194 rfl rfl (gi_cons 195 rfl rfl (gi_cons 196 rfl rfl (gi_cons 197 rfl rfl (gi_cons 198 rfl rfl (gi_cons 199 rfl rfl (gi_cons 200 rfl rfl (gi_cons 201 rfl rfl (gi_cons 202 rfl rfl (gi_cons 203 rfl rfl (gi_cons 204 rfl rfl (gi_cons 205 rfl rfl (gi_cons 206 rfl rfl (gi_cons 207 rfl rfl (gi_cons 208 rfl rfl (gi_cons 209 rfl rfl (gi_cons 210 rfl rfl (gi_cons 211 rfl rfl (gi_cons 212 rfl rfl (gi_cons 213 rfl rfl (gi_cons 214 rfl rfl (gi_cons 215 rfl rfl (gi_cons 216 rfl rfl (gi_cons 217 rfl rfl (gi_cons 218 rfl rfl (gi_cons 219 rfl rfl (gi_cons 220 rfl rfl (gi_cons 221 rfl rfl (gi_cons 222 rfl rfl (gi_cons 223 rfl rfl (gi_cons 224 rfl rfl (gi_cons 225 rfl rfl (gi_cons 226 rfl rfl (gi_cons 227 rfl rfl gi_nil)))))))))))))))))))))))))))))))))))))))))))))))))))))))))))))))))))))))))))))))))))))))))))))))))
set_option maxRecDepth 20000 in
theorem gX11_goes_X11_beginText : GoodIn wsX11_goes (wsV RX11 211 RX11 yX11_beginText wsX11_beginText) := goodIn_app (goodIn_of _ (by decide +kernel)) ggX11_goes_X11_beginText
set_option maxRecDepth 100000 in
theorem ggX11_goes_X11_readPath : GoodIn wsX11_goes wsX11_readPath := (gi_cons 42 rfl rfl (gi_cons 43 rfl rfl (gi_cons 44 rfl rfl (gi_cons 45 rfl rfl (gi_cons 46 rfl rfl (gi_cons 14 rfl rfl (gi_cons 20 rfl rfl (gi_cons 47 rfl rfl (gi_cons 48 rfl rfl (gi_cons 49 rfl rfl (gi_cons 8 rfl rfl (gi_cons 50 rfl rfl (gi_cons 51 rfl rfl (gi_cons 2 rfl rfl (gi_cons 1 rfl rfl (gi_cons 52 rfl rfl (gi_cons 53 rfl rfl (gi_cons 54 rfl rfl (gi_cons 55 rfl rfl (gi_cons 19 rfl rfl (gi_cons 29 rfl rfl (gi_cons 30 rfl rfl (gi_cons 31 rfl rfl (gi_cons 32 rfl rfl (gi_cons 12 rfl rfl (gi_cons 10 rfl rfl (gi_cons 11 rfl rfl (gi_cons 56 rfl rfl (gi_cons 57 rfl rfl (gi_cons 58 rfl rfl (gi_cons 59 rfl rfl (gi_cons 60 rfl rfl (gi_cons 61 rfl rfl (gi_cons 62 rfl rfl (gi_cons 63 rfl rfl (gi_cons 64 rfl rfl (gi_cons 15 rfl rfl (gi_cons 16 rfl rfl (gi_cons 17 rfl rfl (gi_cons 18 rfl rfl (gi_cons 13 rfl rfl (gi_cons 21 rfl rfl (gi_cons 22 rfl rfl (gi_cons 23 rfl rfl (gi_cons 24 rfl rfl (gi_cons 25 rfl rfl (gi_cons 26 rfl rfl (gi_cons 27 rfl rfl (gi_cons 28 rfl rfl (gi_cons 33 rfl rfl (gi_cons 34 rfl rfl (gi_cons 35 rfl rfl (gi_cons 36 rfl rfl (gi_cons 37 rfl rfl (gi_cons 38 rfl rfl (gi_cons 65 rfl rfl (gi_cons 66 rfl rfl (gi_cons 67 rfl rfl (gi_cons 68 rfl rfl (gi_cons 69 rfl rfl (gi_cons 70 rfl rfl (gi_cons 71 rfl rfl (gi_cons 72 rfl rfl (gi_cons 73 rfl rfl (gi_cons 74 rfl rfl (gi_cons 75 rfl rfl (gi_cons 76 rfl rfl (gi_cons 77 rfl rfl (gi_cons 78 rfl rfl (gi_cons 79 rfl rfl (gi_cons 80 rfl rfl (gi_cons 81 rfl rfl (gi_cons 82 rfl rfl (gi_cons 83 rfl rfl (gi_cons 84 rfl rfl (gi_cons 85 rfl rfl (gi_cons 86 rfl rfl (gi_cons 87 rfl rfl (gi_cons 88 rfl rfl (gi_cons 89 rfl rfl (gi_cons 90 rfl rfl (gi_cons 91 rfl rfl (gi_cons 92 rfl rfl (gi_cons 93 rfl rfl (gi_cons 94 rfl rfl (gi_cons 95 rfl rfl (gi_cons 96 rfl rfl (gi_cons 97 rfl rfl (gi_cons 98 rfl rfl (gi_cons 99 rfl rfl (gi_cons 100 rfl rfl (gi_cons 101 rfl rfl (gi_cons 102 rfl rfl (gi_cons 103 rfl rfl (gi_cons 104 rfl rfl (gi_cons 105 rfl rfl (gi_cons 106 rfl rfl (gi_cons 107 rfl rfl (gi_cons 108 rfl rfl (gi_cons 109 rfl rfl (gi_cons 110 rfl rfl (gi_cons 111 rfl rfl (gi_cons 112 rfl rfl (gi_cons 113 rfl rfl (gi_cons 114 rfl rfl (gi_cons 115 rfl rfl (gi_cons 116 rfl rfl (gi_cons 117 rfl rfl (gi_cons 118 rfl rfl (gi_cons 119 rfl rfl (gi_cons 120 rfl rfl (gi_cons 121 rfl rfl (gi_cons 122 rfl rfl (gi_cons 123 rfl rfl (gi_cons 124 rfl rfl (gi_cons 125 rfl rfl (gi_cons 126 rfl rfl (gi_cons 127 rfl rfl (gi_cons 128 rfl rfl (gi_cons 129 rfl rfl (gi_cons 130 rfl rfl (gi_cons 131 rfl rfl (gi_cons 132 rfl rfl (gi_cons 133 rfl rfl (gi_cons 134 rfl rfl (gi_cons 135 rfl rfl (gi_cons 136 rfl rfl (gi_cons 137 rfl rfl (gi_cons 138 rfl rfl (gi_cons 139 rfl rfl (gi_cons 140 rfl rfl (gi_cons 141 rfl rfl (gi_cons 142 rfl rfl (gi_cons 143 rfl rfl (gi_cons 144 rfl rfl (gi_cons 145 rfl rfl (gi_cons 146 rfl rfl (gi_cons 147 rfl rfl (gi_cons 148 rfl rfl (gi_cons 149 rfl rfl (gi_cons 150 rfl rfl (gi_cons 151 rfl rfl (gi_cons 152 rfl rfl (gi_cons 153 rfl rfl (gi_cons 154 rfl rfl (gi_cons 155 rfl rfl (gi_cons 156 rfl rfl (gi_cons 157 rfl rfl (gi_cons 158 rfl rfl (gi_cons 159 rfl rfl (gi_cons 160 rfl rfl (gi_cons 161 rfl rfl (gi_cons 162 rfl rfl (gi_cons 163 rfl rfl (gi_cons 164 rfl rfl (gi_cons 165 rfl rfl (gi_cons 166 rfl rfl (gi_cons 167 rfl rfl (gi_cons 168 rfl rfl (gi_cons 169 rfl rfl (gi_cons 170 rfl rfl (gi_cons 171 rfl rfl (gi_cons 172 rfl rfl (gi_cons 173 rfl rfl (gi_cons 174 rfl rfl (gi_cons 175 rfl rfl (gi_cons 176 rfl rfl (gi_cons 177 rfl rfl (gi_cons 178 rfl rfl (gi_cons 179 rfl rfl (gi_cons 180 rfl rfl (gi_cons 181 rfl rfl (gi_cons 182 rfl rfl (gi_cons 183 rfl rfl (gi_cons 184 rfl rfl (gi_cons 185 rfl rfl (gi_cons 186 rfl rfl (gi_cons 187 rfl rfl (gi_cons 188 rfl rfl (gi_cons 189 rfl rfl (gi_cons 190 rfl rfl (gi_cons 191 rfl rfl (gi_cons 192 rfl rfl (gi_cons 193 rfl rfl (gi_cons 194 rfl rfl (gi_cons 195 rfl rfl (gi_cons 196 rfl rfl (gi_cons 197 rfl rfl (gi_cons 198 rfl rfl (gi_cons 199 rfl rfl (gi_cons 200 rfl rfl (gi_cons 201 rfl rfl (gi_cons 202 rfl rfl (gi_cons 203 rfl rfl (gi_cons 204 rfl rfl (gi_cons 205 rfl rfl (gi_cons 206 rfl rfl (gi_cons 207 rfl rfl (gi_cons 208 rfl rfl (gi_cons 209 rfl rfl (gi_cons 210 rfl rfl (gi_cons 211 rfl rfl (gi_cons 212 rfl rfl (gi_cons 213 rfl rfl (gi_cons 214 rfl rfl (gi_cons 215 rfl rfl (gi_cons 216 rfl rfl (gi_cons 217 rfl rfl (gi_cons 218 rfl rfl (gi_cons 219 rfl rfl (gi_cons 220 rfl rfl (gi_cons 221 rfl rfl (gi_cons 222 rfl rfl (gi_cons 223 rfl rfl (gi_cons 224 rfl rfl (gi_cons 225 rfl rfl (gi_cons 226 rfl rfl (gi_cons 227 rfl rfl gi_nil))))))))))))))))))))))))))))))))))))))))))))))))))))))))))))))))))))))))))))))))))))))))))))))))))))))))))))))))))))))))))))))))))))))))))))))))))))))))))))))))))))))))))))))))))))))))))))))))))))))))))))))))))))))))))
set_option maxRecDepth 20000 in
theorem gX11_goes_X11_readPath : GoodIn wsX11_goes (wsV RX11 341 RX11 yX11_readPath wsX11_readPath) := goodIn_app (goodIn_of _ (by decide +kernel)) ggX11_goes_X11_readPath
theorem dX11_goes_0 : decode cX11_goes 0 = .ok (.iconst 0, 1) := by decide +kernel
theorem dX11_goes_1 : decode cX11_goes 1 = .ok (.istore_n 3, 1) := by decide +kernel
theorem dX11_goes_2 : decode cX11_goes 2 = .ok (.iload_n 3, 1) := by decide +kernel
theorem dX11_goes_3 : decode cX11_goes 3 = .ok (.bipush 60, 2) := by decide +kernel
theorem dX11_goes_5 : decode cX11_goes 5 = .ok (.if_icmp .ge 24, 3) := by decide +kernel
theorem dX11_goes_8 : decode cX11_goes 8 = .ok (.aload_n 0, 1) := by decide +kernel
theorem dX11_goes_9 : decode cX11_goes 9 = .ok (.getfield 35, 3) := by decide +kernel
theorem dX11_goes_12 : decode cX11_goes 12 = .ok (.iload_n 3, 1) := by decide +kernel
theorem dX11_goes_13 : decode cX11_goes 13 = .ok (.iload_n 3, 1) := by decide +kernel
theorem dX11_goes_14 : decode cX11_goes 14 = .ok (.ifCond .ne 7, 3) := by decide +kernel
theorem dX11_goes_17 : decode cX11_goes 17 = .ok (.iconst 1, 1) := by decide +kernel
theorem dX11_goes_18 : decode cX11_goes 18 = .ok (.goto 4, 3) := by decide +kernel
theorem dX11_goes_21 : decode cX11_goes 21 = .ok (.iconst 0, 1) := by decide +kernel
theorem dX11_goes_22 : decode cX11_goes 22 = .ok (.bastore, 1) := by decide +kernel
theorem dX11_goes_23 : decode cX11_goes 23 = .ok (.iinc 3 1, 3) := by decide +kernel
theorem dX11_goes_26 : decode cX11_goes 26 = .ok (.goto (-24), 3) := by decide +kernel
theorem dX11_goes_29 : decode cX11_goes 29 = .ok (.aload_n 0, 1) := by decide +kernel
theorem dX11_goes_30 : decode cX11_goes 30 = .ok (.iconst 1, 1) := by decide +kernel
theorem dX11_goes_31 : decode cX11_goes 31 = .ok (.putfield 300, 3) := by decide +kernel
theorem dX11_goes_34 : decode cX11_goes 34 = .ok (.aload_n 0, 1) := by decide +kernel
theorem dX11_goes_35 : decode cX11_goes 35 = .ok (.aload_n 0, 1) := by decide +kernel
theorem dX11_goes_36 : decode cX11_goes 36 = .ok (.getfield 25, 3) := by decide +kernel
theorem dX11_goes_39 : decode cX11_goes 39 = .ok (.sipush 400, 3) := by decide +kernel
theorem dX11_goes_42 : decode cX11_goes 42 = .ok (.iload_n 1, 1) := by decide +kernel
theorem dX11_goes_43 : decode cX11_goes 43 = .ok (.imul, 1) := by decide +kernel
theorem dX11_goes_44 : decode cX11_goes 44 = .ok (.aload_n 0, 1) := by decide +kernel
theorem dX11_goes_45 : decode cX11_goes 45 = .ok (.getfield 28, 3) := by decide +kernel
theorem dX11_goes_48 : decode cX11_goes 48 = .ok (.iload_n 1, 1) := by decide +kernel
theorem dX11_goes_49 : decode cX11_goes 49 = .ok (.iaload, 1) := by decide +kernel
theorem dX11_goes_50 : decode cX11_goes 50 = .ok (.iconst 1, 1) := by decide +kernel
theorem dX11_goes_51 : decode cX11_goes 51 = .ok (.isub, 1) := by decide +kernel
theorem dX11_goes_52 : decode cX11_goes 52 = .ok (.invokevirtual 211, 3) := by decide +kernel
theorem dX11_goes_55 : decode cX11_goes 55 = .ok (.aload_n 0, 1) := by decide +kernel
theorem dX11_goes_56 : decode cX11_goes 56 = .ok (.iload_n 2, 1) := by decide +kernel
theorem dX11_goes_57 : decode cX11_goes 57 = .ok (.invokevirtual 341, 3) := by decide +kernel
theorem dX11_goes_60 : decode cX11_goes 60 = .ok (.aload_n 0, 1) := by decide +kernel
theorem dX11_goes_61 : decode cX11_goes 61 = .ok (.iconst 0, 1) := by decide +kernel
theorem dX11_goes_62 : decode cX11_goes 62 = .ok (.putfield 300, 3) := by decide +kernel
theorem dX11_goes_65 : decode cX11_goes 65 = .ok (.return_, 1) := by decide +kernel
set_option maxRecDepth 100000 in
theorem ggX11_inSet_X11_things : GoodIn wsX11_inSet wsX11_things := (gi_cons 6 rfl rfl (gi_cons 7 rfl rfl (gi_cons 8 rfl rfl (gi_cons 9 rfl rfl (gi_cons 10 rfl rfl (gi_cons 11 rfl rfl (gi_cons 12 rfl rfl (gi_cons 13 rfl rfl (gi_cons 14 rfl rfl (gi_cons 15 rfl rfl (gi_cons 16 rfl rfl (gi_cons 17 rfl rfl (gi_cons 18 rfl rfl (gi_cons 19 rfl rfl (gi_cons 20 rfl rfl (gi_cons 21 rfl rfl (gi_cons 22 rfl rfl (gi_cons 23 rfl rfl (gi_cons 24 rfl rfl (gi_cons 25 rfl rfl (gi_cons 26 rfl rfl (gi_cons 27 rfl rfl (gi_cons 28 rfl rfl (gi_cons 29 rfl rfl (gi_cons 30 rfl rfl (gi_cons 31 rfl rfl (gi_cons 32 rfl rfl (gi_cons 33 rfl rfl (gi_cons 34 rfl rfl (gi_cons 35 rfl rfl (gi_cons 36 rfl rfl (gi_cons 37 rfl rfl (gi_cons 38 rfl rfl (gi_cons 39 rfl rfl (gi_cons 40 rfl rfl (gi_cons 41 rfl rfl (gi_cons 42 rfl rfl (gi_cons 43 rfl rfl (gi_cons 44 rfl rfl (gi_cons 45 rfl rfl (gi_cons 46 rfl rfl (gi_cons 47 rfl rfl (gi_cons 48 rfl rfl (gi_cons 49 rfl rfl (gi_cons 50 rfl rfl (gi_cons 51 rfl rfl (gi_cons 52 rfl rfl (gi_cons 53 rfl rfl (gi_cons 54 rfl rfl (gi_cons 55 rfl rfl (gi_cons 56 rfl rfl (gi_cons 57 rfl rfl (gi_cons 58 rfl rfl (gi_cons 59 rfl rfl (gi_cons 60 rfl rfl (gi_cons 61 rfl rfl (gi_cons 62 rfl rfl (gi_cons 63 rfl rfl (gi_cons 64 rfl rfl (gi_cons 65 rfl rfl (gi_cons 66 rfl rfl (gi_cons 67 rfl rfl (gi_cons 68 rfl rfl (gi_cons 69 rfl rfl (gi_cons 70 rfl rfl (gi_cons 71 rfl rfl (gi_cons 72 rfl rfl (gi_cons 73 rfl rfl gi_nil))))))))))))))))))))))))))))))))))))))))))))))))))))))))))))))))))))
set_option maxRecDepth 20000 in
theorem gX11_inSet_X11_things : GoodIn wsX11_inSet (wsV RX11 267 RX11 yX11_things wsX11_things) := goodIn_app (goodIn_of _ (by decide +kernel)) ggX11_inSet_X11_things
theorem dX11_inSet_0 : decode cX11_inSet 0 = .ok (.iconst 0, 1) := by decide +kernel
theorem dX11_inSet_1 : decode cX11_inSet 1 = .ok (.istore_n 1, 1) := by decide +kernel
theorem dX11_inSet_2 : decode cX11_inSet 2 = .ok (.iconst 0, 1) := by decide +kernel
theorem dX11_inSet_3 : decode cX11_inSet 3 = .ok (.istore_n 2, 1) := by decide +kernel
theorem dX11_inSet_4 : decode cX11_inSet 4 = .ok (.iload_n 2, 1) := by decide +kernel
theorem dX11_inSet_5 : decode cX11_inSet 5 = .ok (.aload_n 0, 1) := by decide +kernel
theorem dX11_inSet_6 : decode cX11_inSet 6 = .ok (.invokevirtual 267, 3) := by decide +kernel
theorem dX11_inSet_9 : decode cX11_inSet 9 = .ok (.if_icmp .ge 26, 3) := by decide +kernel
theorem dX11_inSet_12 : decode cX11_inSet 12 = .ok (.iload_n 1, 1) := by decide +kernel
theorem dX11_inSet_13 : decode cX11_inSet 13 = .ok (.aload_n 0, 1) := by decide +kernel
theorem dX11_inSet_14 : decode cX11_inSet 14 = .ok (.getfield 35, 3) := by decide +kernel
theorem dX11_inSet_17 : decode cX11_inSet 17 = .ok (.iload_n 2, 1) := by decide +kernel
theorem dX11_inSet_18 : decode cX11_inSet 18 = .ok (.baload, 1) := by decide +kernel
theorem dX11_inSet_19 : decode cX11_inSet 19 = .ok (.ifCond .eq 7, 3) := by decide +kernel
theorem dX11_inSet_22 : decode cX11_inSet 22 = .ok (.iconst 1, 1) := by decide +kernel
theorem dX11_inSet_23 : decode cX11_inSet 23 = .ok (.goto 4, 3) := by decide +kernel
theorem dX11_inSet_26 : decode cX11_inSet 26 = .ok (.iconst 0, 1) := by decide +kernel
theorem dX11_inSet_27 : decode cX11_inSet 27 = .ok (.iadd, 1) := by decide +kernel
theorem dX11_inSet_28 : decode cX11_inSet 28 = .ok (.istore_n 1, 1) := by decide +kernel
theorem dX11_inSet_29 : decode cX11_inSet 29 = .ok (.iinc 2 1, 3) := by decide +kernel
theorem dX11_inSet_32 : decode cX11_inSet 32 = .ok (.goto (-28), 3) := by decide +kernel
theorem dX11_inSet_35 : decode cX11_inSet 35 = .ok (.iload_n 1, 1) := by decide +kernel
theorem dX11_inSet_36 : decode cX11_inSet 36 = .ok (.ireturn, 1) := by decide +kernel
