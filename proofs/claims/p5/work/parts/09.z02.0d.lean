theorem dX10_pathsThatFit_6 : decode cX10_pathsThatFit 6 = .ok (.iconst 0, 1) := by decide +kernel
theorem dX10_pathsThatFit_7 : decode cX10_pathsThatFit 7 = .ok (.istore_n 2, 1) := by decide +kernel
theorem dX10_pathsThatFit_8 : decode cX10_pathsThatFit 8 = .ok (.iload_n 2, 1) := by decide +kernel
theorem dX10_pathsThatFit_9 : decode cX10_pathsThatFit 9 = .ok (.iconst 4, 1) := by decide +kernel
theorem dX10_pathsThatFit_10 : decode cX10_pathsThatFit 10 = .ok (.if_icmp .ge 40, 3) := by decide +kernel
theorem dX10_pathsThatFit_13 : decode cX10_pathsThatFit 13 = .ok (.aload_n 0, 1) := by decide +kernel
theorem dX10_pathsThatFit_14 : decode cX10_pathsThatFit 14 = .ok (.getfield 19, 3) := by decide +kernel
theorem dX10_pathsThatFit_17 : decode cX10_pathsThatFit 17 = .ok (.iload_n 2, 1) := by decide +kernel
theorem dX10_pathsThatFit_18 : decode cX10_pathsThatFit 18 = .ok (.aaload, 1) := by decide +kernel
theorem dX10_pathsThatFit_19 : decode cX10_pathsThatFit 19 = .ok (.ifnull 25, 3) := by decide +kernel
theorem dX10_pathsThatFit_22 : decode cX10_pathsThatFit 22 = .ok (.aload_n 0, 1) := by decide +kernel
theorem dX10_pathsThatFit_23 : decode cX10_pathsThatFit 23 = .ok (.getfield 63, 3) := by decide +kernel
theorem dX10_pathsThatFit_26 : decode cX10_pathsThatFit 26 = .ok (.aload_n 0, 1) := by decide +kernel
theorem dX10_pathsThatFit_27 : decode cX10_pathsThatFit 27 = .ok (.getfield 96, 3) := by decide +kernel
theorem dX10_pathsThatFit_30 : decode cX10_pathsThatFit 30 = .ok (.iload_n 2, 1) := by decide +kernel
theorem dX10_pathsThatFit_31 : decode cX10_pathsThatFit 31 = .ok (.laload, 1) := by decide +kernel
theorem dX10_pathsThatFit_32 : decode cX10_pathsThatFit 32 = .ok (.invokevirtual 400, 3) := by decide +kernel
theorem dX10_pathsThatFit_35 : decode cX10_pathsThatFit 35 = .ok (.ifCond .eq 9, 3) := by decide +kernel
theorem dX10_pathsThatFit_38 : decode cX10_pathsThatFit 38 = .ok (.iload_n 1, 1) := by decide +kernel
theorem dX10_pathsThatFit_39 : decode cX10_pathsThatFit 39 = .ok (.iconst 1, 1) := by decide +kernel
theorem dX10_pathsThatFit_40 : decode cX10_pathsThatFit 40 = .ok (.iload_n 2, 1) := by decide +kernel
theorem dX10_pathsThatFit_41 : decode cX10_pathsThatFit 41 = .ok (.ishl, 1) := by decide +kernel
theorem dX10_pathsThatFit_42 : decode cX10_pathsThatFit 42 = .ok (.ior, 1) := by decide +kernel
theorem dX10_pathsThatFit_43 : decode cX10_pathsThatFit 43 = .ok (.istore_n 1, 1) := by decide +kernel
theorem dX10_pathsThatFit_44 : decode cX10_pathsThatFit 44 = .ok (.iinc 2 1, 3) := by decide +kernel
theorem dX10_pathsThatFit_47 : decode cX10_pathsThatFit 47 = .ok (.goto (-39), 3) := by decide +kernel
theorem dX10_pathsThatFit_50 : decode cX10_pathsThatFit 50 = .ok (.iload_n 1, 1) := by decide +kernel
theorem dX10_pathsThatFit_51 : decode cX10_pathsThatFit 51 = .ok (.ireturn, 1) := by decide +kernel
set_option maxRecDepth 20000 in
theorem gX10_image_X6_takeAll : GoodIn wsX10_image (wsV RX10 373 RX6 yX6_takeAll wsX6_takeAll) := goodIn_app (goodIn_of _ (by decide +kernel)) ggX10_image_X6_takeAll
theorem dX10_image_0 : decode cX10_image 0 = .ok (.aload_n 0, 1) := by decide +kernel
theorem dX10_image_1 : decode cX10_image 1 = .ok (.getfield 67, 3) := by decide +kernel
theorem dX10_image_4 : decode cX10_image 4 = .ok (.aload_n 0, 1) := by decide +kernel
theorem dX10_image_5 : decode cX10_image 5 = .ok (.getfield 63, 3) := by decide +kernel
theorem dX10_image_8 : decode cX10_image 8 = .ok (.invokevirtual 373, 3) := by decide +kernel
theorem dX10_image_11 : decode cX10_image 11 = .ok (.aload_n 0, 1) := by decide +kernel
theorem dX10_image_12 : decode cX10_image 12 = .ok (.iconst 1, 1) := by decide +kernel
theorem dX10_image_13 : decode cX10_image 13 = .ok (.putfield 145, 3) := by decide +kernel
theorem dX10_image_16 : decode cX10_image 16 = .ok (.return_, 1) := by decide +kernel
set_option maxRecDepth 20000 in
theorem gX10_count_X9_countKind : GoodIn wsX10_count (wsV RX10 164 RX9 yX9_countKind wsX9_countKind) := goodIn_app (goodIn_of _ (by decide +kernel)) ggX10_count_X9_countKind
set_option maxRecDepth 20000 in
theorem gX10_count_X9_deepest : GoodIn wsX10_count (wsV RX10 167 RX9 yX9_deepest wsX9_deepest) := goodIn_app (goodIn_of _ (by decide +kernel)) ggX10_count_X9_deepest
set_option maxRecDepth 20000 in
theorem gX10_count_X10_pathsThere : GoodIn wsX10_count (wsV RX10 171 RX10 yX10_pathsThere wsX10_pathsThere) := goodIn_app (goodIn_of _ (by decide +kernel)) ggX10_count_X10_pathsThere
set_option maxRecDepth 20000 in
theorem gX10_count_X9_unlike : GoodIn wsX10_count (wsV RX10 174 RX9 yX9_unlike wsX9_unlike) := goodIn_app (goodIn_of _ (by decide +kernel)) ggX10_count_X9_unlike
set_option maxRecDepth 20000 in
theorem gX10_count_X3_compare : GoodIn wsX10_count (wsV RX10 180 RX3 yX3_compare wsX3_compare) := goodIn_app (goodIn_of _ (by decide +kernel)) ggX10_count_X3_compare
set_option maxRecDepth 20000 in
theorem gX10_count_X6_refusedOf : GoodIn wsX10_count (wsV RX10 184 RX6 yX6_refusedOf wsX6_refusedOf) := goodIn_app (goodIn_of _ (by decide +kernel)) ggX10_count_X6_refusedOf
set_option maxRecDepth 20000 in
theorem gX10_count_X9_sum : GoodIn wsX10_count (wsV RX10 187 RX9 yX9_sum wsX9_sum) := goodIn_app (goodIn_of _ (by decide +kernel)) ggX10_count_X9_sum
set_option maxRecDepth 20000 in
theorem gX10_count_X10_pathsThatFit : GoodIn wsX10_count (wsV RX10 190 RX10 yX10_pathsThatFit wsX10_pathsThatFit) := goodIn_app (goodIn_of _ (by decide +kernel)) ggX10_count_X10_pathsThatFit
theorem dX10_count_0 : decode cX10_count 0 = .ok (.iload_n 1, 1) := by decide +kernel
theorem dX10_count_1 : decode cX10_count 1 = .ok (.tableswitch 229 0 17 #[87, 98, 98, 98, 98, 112, 123, 128, 139, 147, 180, 188, 196, 201, 201, 201, 213, 224], 87) := by decide +kernel
theorem dX10_count_88 : decode cX10_count 88 = .ok (.aload_n 0, 1) := by decide +kernel
theorem dX10_count_89 : decode cX10_count 89 = .ok (.getfield 63, 3) := by decide +kernel
theorem dX10_count_92 : decode cX10_count 92 = .ok (.getfield 107, 3) := by decide +kernel
theorem dX10_count_95 : decode cX10_count 95 = .ok (.getfield 161, 3) := by decide +kernel
theorem dX10_count_98 : decode cX10_count 98 = .ok (.ireturn, 1) := by decide +kernel
theorem dX10_count_99 : decode cX10_count 99 = .ok (.aload_n 0, 1) := by decide +kernel
theorem dX10_count_100 : decode cX10_count 100 = .ok (.getfield 63, 3) := by decide +kernel
theorem dX10_count_103 : decode cX10_count 103 = .ok (.getfield 107, 3) := by decide +kernel
theorem dX10_count_106 : decode cX10_count 106 = .ok (.iload_n 1, 1) := by decide +kernel
theorem dX10_count_107 : decode cX10_count 107 = .ok (.iconst 1, 1) := by decide +kernel
theorem dX10_count_108 : decode cX10_count 108 = .ok (.isub, 1) := by decide +kernel
theorem dX10_count_109 : decode cX10_count 109 = .ok (.invokevirtual 164, 3) := by decide +kernel
theorem dX10_count_112 : decode cX10_count 112 = .ok (.ireturn, 1) := by decide +kernel
theorem dX10_count_113 : decode cX10_count 113 = .ok (.aload_n 0, 1) := by decide +kernel
theorem dX10_count_114 : decode cX10_count 114 = .ok (.getfield 63, 3) := by decide +kernel
theorem dX10_count_117 : decode cX10_count 117 = .ok (.getfield 107, 3) := by decide +kernel
theorem dX10_count_120 : decode cX10_count 120 = .ok (.invokevirtual 167, 3) := by decide +kernel
theorem dX10_count_123 : decode cX10_count 123 = .ok (.ireturn, 1) := by decide +kernel
theorem dX10_count_124 : decode cX10_count 124 = .ok (.aload_n 0, 1) := by decide +kernel
theorem dX10_count_125 : decode cX10_count 125 = .ok (.invokevirtual 171, 3) := by decide +kernel
theorem dX10_count_128 : decode cX10_count 128 = .ok (.ireturn, 1) := by decide +kernel
theorem dX10_count_129 : decode cX10_count 129 = .ok (.aload_n 0, 1) := by decide +kernel
theorem dX10_count_130 : decode cX10_count 130 = .ok (.getfield 63, 3) := by decide +kernel
theorem dX10_count_133 : decode cX10_count 133 = .ok (.getfield 107, 3) := by decide +kernel
theorem dX10_count_136 : decode cX10_count 136 = .ok (.invokevirtual 174, 3) := by decide +kernel
theorem dX10_count_139 : decode cX10_count 139 = .ok (.ireturn, 1) := by decide +kernel
theorem dX10_count_140 : decode cX10_count 140 = .ok (.aload_n 0, 1) := by decide +kernel
theorem dX10_count_141 : decode cX10_count 141 = .ok (.getfield 82, 3) := by decide +kernel
theorem dX10_count_144 : decode cX10_count 144 = .ok (.getfield 177, 3) := by decide +kernel
theorem dX10_count_147 : decode cX10_count 147 = .ok (.ireturn, 1) := by decide +kernel
theorem dX10_count_148 : decode cX10_count 148 = .ok (.aload_n 0, 1) := by decide +kernel
theorem dX10_count_149 : decode cX10_count 149 = .ok (.getfield 145, 3) := by decide +kernel
theorem dX10_count_152 : decode cX10_count 152 = .ok (.ifCond .eq 27, 3) := by decide +kernel
theorem dX10_count_155 : decode cX10_count 155 = .ok (.aload_n 0, 1) := by decide +kernel
theorem dX10_count_156 : decode cX10_count 156 = .ok (.getfield 86, 3) := by decide +kernel
theorem dX10_count_159 : decode cX10_count 159 = .ok (.aload_n 0, 1) := by decide +kernel
theorem dX10_count_160 : decode cX10_count 160 = .ok (.getfield 67, 3) := by decide +kernel
theorem dX10_count_163 : decode cX10_count 163 = .ok (.getfield 107, 3) := by decide +kernel
theorem dX10_count_166 : decode cX10_count 166 = .ok (.aload_n 0, 1) := by decide +kernel
theorem dX10_count_167 : decode cX10_count 167 = .ok (.getfield 63, 3) := by decide +kernel
theorem dX10_count_170 : decode cX10_count 170 = .ok (.getfield 107, 3) := by decide +kernel
theorem dX10_count_173 : decode cX10_count 173 = .ok (.invokevirtual 180, 3) := by decide +kernel
theorem dX10_count_176 : decode cX10_count 176 = .ok (.goto 4, 3) := by decide +kernel
theorem dX10_count_179 : decode cX10_count 179 = .ok (.iconst (-1), 1) := by decide +kernel
theorem dX10_count_180 : decode cX10_count 180 = .ok (.ireturn, 1) := by decide +kernel
theorem dX10_count_181 : decode cX10_count 181 = .ok (.aload_n 0, 1) := by decide +kernel
theorem dX10_count_182 : decode cX10_count 182 = .ok (.getfield 63, 3) := by decide +kernel
theorem dX10_count_185 : decode cX10_count 185 = .ok (.getfield 139, 3) := by decide +kernel
theorem dX10_count_188 : decode cX10_count 188 = .ok (.ireturn, 1) := by decide +kernel
theorem dX10_count_189 : decode cX10_count 189 = .ok (.aload_n 0, 1) := by decide +kernel
theorem dX10_count_190 : decode cX10_count 190 = .ok (.getfield 63, 3) := by decide +kernel
theorem dX10_count_193 : decode cX10_count 193 = .ok (.getfield 142, 3) := by decide +kernel
theorem dX10_count_196 : decode cX10_count 196 = .ok (.ireturn, 1) := by decide +kernel
theorem dX10_count_197 : decode cX10_count 197 = .ok (.aload_n 0, 1) := by decide +kernel
theorem dX10_count_198 : decode cX10_count 198 = .ok (.getfield 114, 3) := by decide +kernel
theorem dX10_count_201 : decode cX10_count 201 = .ok (.ireturn, 1) := by decide +kernel
theorem dX10_count_202 : decode cX10_count 202 = .ok (.aload_n 0, 1) := by decide +kernel
theorem dX10_count_203 : decode cX10_count 203 = .ok (.getfield 63, 3) := by decide +kernel
theorem dX10_count_206 : decode cX10_count 206 = .ok (.iload_n 1, 1) := by decide +kernel
theorem dX10_count_207 : decode cX10_count 207 = .ok (.bipush 13, 2) := by decide +kernel
theorem dX10_count_209 : decode cX10_count 209 = .ok (.isub, 1) := by decide +kernel
theorem dX10_count_210 : decode cX10_count 210 = .ok (.invokevirtual 184, 3) := by decide +kernel
theorem dX10_count_213 : decode cX10_count 213 = .ok (.ireturn, 1) := by decide +kernel
theorem dX10_count_214 : decode cX10_count 214 = .ok (.aload_n 0, 1) := by decide +kernel
theorem dX10_count_215 : decode cX10_count 215 = .ok (.getfield 63, 3) := by decide +kernel
theorem dX10_count_218 : decode cX10_count 218 = .ok (.getfield 107, 3) := by decide +kernel
theorem dX10_count_221 : decode cX10_count 221 = .ok (.invokevirtual 187, 3) := by decide +kernel
theorem dX10_count_224 : decode cX10_count 224 = .ok (.ireturn, 1) := by decide +kernel
theorem dX10_count_225 : decode cX10_count 225 = .ok (.aload_n 0, 1) := by decide +kernel
theorem dX10_count_226 : decode cX10_count 226 = .ok (.invokevirtual 190, 3) := by decide +kernel
theorem dX10_count_229 : decode cX10_count 229 = .ok (.ireturn, 1) := by decide +kernel
theorem dX10_count_230 : decode cX10_count 230 = .ok (.new 149, 3) := by decide +kernel
theorem dX10_count_233 : decode cX10_count 233 = .ok (.dup, 1) := by decide +kernel
theorem dX10_count_234 : decode cX10_count 234 = .ok (.ldc 193, 2) := by decide +kernel
theorem dX10_count_236 : decode cX10_count 236 = .ok (.invokespecial 153, 3) := by decide +kernel
theorem dX10_count_239 : decode cX10_count 239 = .ok (.athrow, 1) := by decide +kernel
set_option maxRecDepth 20000 in
theorem gX10_thing_X10_mustBeThere : GoodIn wsX10_thing (wsV RX10 195 RX10 yX10_mustBeThere wsX10_mustBeThere) := goodIn_app (goodIn_of _ (by decide +kernel)) ggX10_thing_X10_mustBeThere
set_option maxRecDepth 20000 in
theorem gX10_thing_X9_kindAt : GoodIn wsX10_thing (wsV RX10 198 RX9 yX9_kindAt wsX9_kindAt) := goodIn_app (goodIn_of _ (by decide +kernel)) ggX10_thing_X9_kindAt
set_option maxRecDepth 20000 in
theorem gX10_thing_X9_parentOf : GoodIn wsX10_thing (wsV RX10 201 RX9 yX9_parentOf wsX9_parentOf) := goodIn_app (goodIn_of _ (by decide +kernel)) ggX10_thing_X9_parentOf
set_option maxRecDepth 20000 in
theorem gX10_thing_X9_placeOf : GoodIn wsX10_thing (wsV RX10 204 RX9 yX9_placeOf wsX9_placeOf) := goodIn_app (goodIn_of _ (by decide +kernel)) ggX10_thing_X9_placeOf
set_option maxRecDepth 20000 in
theorem gX10_thing_X9_depthAt : GoodIn wsX10_thing (wsV RX10 207 RX9 yX9_depthAt wsX9_depthAt) := goodIn_app (goodIn_of _ (by decide +kernel)) ggX10_thing_X9_depthAt
set_option maxRecDepth 20000 in
theorem gX10_thing_X9_childCount : GoodIn wsX10_thing (wsV RX10 210 RX9 yX9_childCount wsX9_childCount) := goodIn_app (goodIn_of _ (by decide +kernel)) ggX10_thing_X9_childCount
set_option maxRecDepth 20000 in
theorem gX10_thing_X9_end : GoodIn wsX10_thing (wsV RX10 213 RX9 yX9_end wsX9_end) := goodIn_app (goodIn_of _ (by decide +kernel)) ggX10_thing_X9_end
set_option maxRecDepth 20000 in
theorem gX10_thing_X9_valueAt : GoodIn wsX10_thing (wsV RX10 216 RX9 yX9_valueAt wsX9_valueAt) := goodIn_app (goodIn_of _ (by decide +kernel)) ggX10_thing_X9_valueAt
set_option maxRecDepth 20000 in
theorem gX10_thing_X9_keyAt : GoodIn wsX10_thing (wsV RX10 219 RX9 yX9_keyAt wsX9_keyAt) := goodIn_app (goodIn_of _ (by decide +kernel)) ggX10_thing_X9_keyAt
set_option maxRecDepth 20000 in
theorem gX10_thing_X10_lettersOf : GoodIn wsX10_thing (va_wsS RX10 222 yX10_lettersOf wsX10_lettersOf) := goodIn_app (goodIn_of _ (by decide +kernel)) ggX10_thing_X10_lettersOf
set_option maxRecDepth 20000 in
theorem gX10_thing_X9_twinsOf : GoodIn wsX10_thing (wsV RX10 225 RX9 yX9_twinsOf wsX9_twinsOf) := goodIn_app (goodIn_of _ (by decide +kernel)) ggX10_thing_X9_twinsOf
set_option maxRecDepth 20000 in
theorem gX10_thing_X10_pathsAnswering : GoodIn wsX10_thing (wsV RX10 228 RX10 yX10_pathsAnswering wsX10_pathsAnswering) := goodIn_app (goodIn_of _ (by decide +kernel)) ggX10_thing_X10_pathsAnswering
theorem dX10_thing_0 : decode cX10_thing 0 = .ok (.aload_n 0, 1) := by decide +kernel
theorem dX10_thing_1 : decode cX10_thing 1 = .ok (.iload_n 1, 1) := by decide +kernel
theorem dX10_thing_2 : decode cX10_thing 2 = .ok (.invokevirtual 195, 3) := by decide +kernel
theorem dX10_thing_5 : decode cX10_thing 5 = .ok (.iload_n 2, 1) := by decide +kernel
theorem dX10_thing_6 : decode cX10_thing 6 = .ok (.tableswitch 191 0 9 #[54, 66, 78, 90, 102, 114, 126, 158, 173, 185], 54) := by decide +kernel
theorem dX10_thing_60 : decode cX10_thing 60 = .ok (.aload_n 0, 1) := by decide +kernel
theorem dX10_thing_61 : decode cX10_thing 61 = .ok (.getfield 63, 3) := by decide +kernel
theorem dX10_thing_64 : decode cX10_thing 64 = .ok (.getfield 107, 3) := by decide +kernel
theorem dX10_thing_67 : decode cX10_thing 67 = .ok (.iload_n 1, 1) := by decide +kernel
theorem dX10_thing_68 : decode cX10_thing 68 = .ok (.invokevirtual 198, 3) := by decide +kernel
theorem dX10_thing_71 : decode cX10_thing 71 = .ok (.ireturn, 1) := by decide +kernel
theorem dX10_thing_72 : decode cX10_thing 72 = .ok (.aload_n 0, 1) := by decide +kernel
theorem dX10_thing_73 : decode cX10_thing 73 = .ok (.getfield 63, 3) := by decide +kernel
theorem dX10_thing_76 : decode cX10_thing 76 = .ok (.getfield 107, 3) := by decide +kernel
theorem dX10_thing_79 : decode cX10_thing 79 = .ok (.iload_n 1, 1) := by decide +kernel
theorem dX10_thing_80 : decode cX10_thing 80 = .ok (.invokevirtual 201, 3) := by decide +kernel
theorem dX10_thing_83 : decode cX10_thing 83 = .ok (.ireturn, 1) := by decide +kernel
theorem dX10_thing_84 : decode cX10_thing 84 = .ok (.aload_n 0, 1) := by decide +kernel
theorem dX10_thing_85 : decode cX10_thing 85 = .ok (.getfield 63, 3) := by decide +kernel
theorem dX10_thing_88 : decode cX10_thing 88 = .ok (.getfield 107, 3) := by decide +kernel
theorem dX10_thing_91 : decode cX10_thing 91 = .ok (.iload_n 1, 1) := by decide +kernel
theorem dX10_thing_92 : decode cX10_thing 92 = .ok (.invokevirtual 204, 3) := by decide +kernel
theorem dX10_thing_95 : decode cX10_thing 95 = .ok (.ireturn, 1) := by decide +kernel
theorem dX10_thing_96 : decode cX10_thing 96 = .ok (.aload_n 0, 1) := by decide +kernel
theorem dX10_thing_97 : decode cX10_thing 97 = .ok (.getfield 63, 3) := by decide +kernel
theorem dX10_thing_100 : decode cX10_thing 100 = .ok (.getfield 107, 3) := by decide +kernel
theorem dX10_thing_103 : decode cX10_thing 103 = .ok (.iload_n 1, 1) := by decide +kernel
theorem dX10_thing_104 : decode cX10_thing 104 = .ok (.invokevirtual 207, 3) := by decide +kernel
theorem dX10_thing_107 : decode cX10_thing 107 = .ok (.ireturn, 1) := by decide +kernel
theorem dX10_thing_108 : decode cX10_thing 108 = .ok (.aload_n 0, 1) := by decide +kernel
theorem dX10_thing_109 : decode cX10_thing 109 = .ok (.getfield 63, 3) := by decide +kernel
theorem dX10_thing_112 : decode cX10_thing 112 = .ok (.getfield 107, 3) := by decide +kernel
theorem dX10_thing_115 : decode cX10_thing 115 = .ok (.iload_n 1, 1) := by decide +kernel
theorem dX10_thing_116 : decode cX10_thing 116 = .ok (.invokevirtual 210, 3) := by decide +kernel
theorem dX10_thing_119 : decode cX10_thing 119 = .ok (.ireturn, 1) := by decide +kernel
theorem dX10_thing_120 : decode cX10_thing 120 = .ok (.aload_n 0, 1) := by decide +kernel
theorem dX10_thing_121 : decode cX10_thing 121 = .ok (.getfield 63, 3) := by decide +kernel
theorem dX10_thing_124 : decode cX10_thing 124 = .ok (.getfield 107, 3) := by decide +kernel
theorem dX10_thing_127 : decode cX10_thing 127 = .ok (.iload_n 1, 1) := by decide +kernel
theorem dX10_thing_128 : decode cX10_thing 128 = .ok (.invokevirtual 213, 3) := by decide +kernel
theorem dX10_thing_131 : decode cX10_thing 131 = .ok (.ireturn, 1) := by decide +kernel
theorem dX10_thing_132 : decode cX10_thing 132 = .ok (.aload_n 0, 1) := by decide +kernel
theorem dX10_thing_133 : decode cX10_thing 133 = .ok (.getfield 63, 3) := by decide +kernel
theorem dX10_thing_136 : decode cX10_thing 136 = .ok (.getfield 107, 3) := by decide +kernel
theorem dX10_thing_139 : decode cX10_thing 139 = .ok (.iload_n 1, 1) := by decide +kernel
theorem dX10_thing_140 : decode cX10_thing 140 = .ok (.invokevirtual 198, 3) := by decide +kernel
theorem dX10_thing_143 : decode cX10_thing 143 = .ok (.ifCond .ne 17, 3) := by decide +kernel
theorem dX10_thing_146 : decode cX10_thing 146 = .ok (.aload_n 0, 1) := by decide +kernel
theorem dX10_thing_147 : decode cX10_thing 147 = .ok (.getfield 63, 3) := by decide +kernel
theorem dX10_thing_150 : decode cX10_thing 150 = .ok (.getfield 107, 3) := by decide +kernel
theorem dX10_thing_153 : decode cX10_thing 153 = .ok (.iload_n 1, 1) := by decide +kernel
theorem dX10_thing_154 : decode cX10_thing 154 = .ok (.invokevirtual 216, 3) := by decide +kernel
theorem dX10_thing_157 : decode cX10_thing 157 = .ok (.goto 6, 3) := by decide +kernel
theorem dX10_thing_160 : decode cX10_thing 160 = .ok (.sipush (-1000), 3) := by decide +kernel
theorem dX10_thing_163 : decode cX10_thing 163 = .ok (.ireturn, 1) := by decide +kernel
theorem dX10_thing_164 : decode cX10_thing 164 = .ok (.aload_n 0, 1) := by decide +kernel
theorem dX10_thing_165 : decode cX10_thing 165 = .ok (.getfield 63, 3) := by decide +kernel
theorem dX10_thing_168 : decode cX10_thing 168 = .ok (.getfield 107, 3) := by decide +kernel
theorem dX10_thing_171 : decode cX10_thing 171 = .ok (.iload_n 1, 1) := by decide +kernel
theorem dX10_thing_172 : decode cX10_thing 172 = .ok (.invokevirtual 219, 3) := by decide +kernel
theorem dX10_thing_175 : decode cX10_thing 175 = .ok (.invokestatic 222, 3) := by decide +kernel
theorem dX10_thing_178 : decode cX10_thing 178 = .ok (.ireturn, 1) := by decide +kernel
theorem dX10_thing_179 : decode cX10_thing 179 = .ok (.aload_n 0, 1) := by decide +kernel
theorem dX10_thing_180 : decode cX10_thing 180 = .ok (.getfield 63, 3) := by decide +kernel
theorem dX10_thing_183 : decode cX10_thing 183 = .ok (.getfield 107, 3) := by decide +kernel
theorem dX10_thing_186 : decode cX10_thing 186 = .ok (.iload_n 1, 1) := by decide +kernel
theorem dX10_thing_187 : decode cX10_thing 187 = .ok (.invokevirtual 225, 3) := by decide +kernel
theorem dX10_thing_190 : decode cX10_thing 190 = .ok (.ireturn, 1) := by decide +kernel
theorem dX10_thing_191 : decode cX10_thing 191 = .ok (.aload_n 0, 1) := by decide +kernel
theorem dX10_thing_192 : decode cX10_thing 192 = .ok (.iload_n 1, 1) := by decide +kernel
theorem dX10_thing_193 : decode cX10_thing 193 = .ok (.invokevirtual 228, 3) := by decide +kernel
theorem dX10_thing_196 : decode cX10_thing 196 = .ok (.ireturn, 1) := by decide +kernel
theorem dX10_thing_197 : decode cX10_thing 197 = .ok (.new 149, 3) := by decide +kernel
theorem dX10_thing_200 : decode cX10_thing 200 = .ok (.dup, 1) := by decide +kernel
theorem dX10_thing_201 : decode cX10_thing 201 = .ok (.ldc 231, 2) := by decide +kernel
theorem dX10_thing_203 : decode cX10_thing 203 = .ok (.invokespecial 153, 3) := by decide +kernel
theorem dX10_thing_206 : decode cX10_thing 206 = .ok (.athrow, 1) := by decide +kernel
set_option maxRecDepth 20000 in
theorem gX10_tree_X10_tapeHas : GoodIn wsX10_tree (wsV RX10 120 RX10 yX10_tapeHas wsX10_tapeHas) := goodIn_app (goodIn_of _ (by decide +kernel)) ggX10_tree_X10_tapeHas
set_option maxRecDepth 20000 in
theorem gX10_tree_X10_readData : GoodIn wsX10_tree (wsV RX10 131 RX10 yX10_readData wsX10_readData) := goodIn_app (goodIn_of _ (by decide +kernel)) ggX10_tree_X10_readData
set_option maxRecDepth 20000 in
theorem gX10_tree_X9_become : GoodIn wsX10_tree (wsV RX10 135 RX9 yX9_become wsX9_become) := goodIn_app (goodIn_of _ (by decide +kernel)) ggX10_tree_X9_become
theorem dX10_tree_0 : decode cX10_tree 0 = .ok (.aload_n 0, 1) := by decide +kernel
theorem dX10_tree_1 : decode cX10_tree 1 = .ok (.iload_n 1, 1) := by decide +kernel
theorem dX10_tree_2 : decode cX10_tree 2 = .ok (.invokevirtual 120, 3) := by decide +kernel
theorem dX10_tree_5 : decode cX10_tree 5 = .ok (.ifCond .ne 13, 3) := by decide +kernel
theorem dX10_tree_8 : decode cX10_tree 8 = .ok (.new 124, 3) := by decide +kernel
theorem dX10_tree_11 : decode cX10_tree 11 = .ok (.dup, 1) := by decide +kernel
theorem dX10_tree_12 : decode cX10_tree 12 = .ok (.ldc 126, 2) := by decide +kernel
theorem dX10_tree_14 : decode cX10_tree 14 = .ok (.invokespecial 128, 3) := by decide +kernel
theorem dX10_tree_17 : decode cX10_tree 17 = .ok (.athrow, 1) := by decide +kernel
theorem dX10_tree_18 : decode cX10_tree 18 = .ok (.aload_n 0, 1) := by decide +kernel
theorem dX10_tree_19 : decode cX10_tree 19 = .ok (.iload_n 1, 1) := by decide +kernel
theorem dX10_tree_20 : decode cX10_tree 20 = .ok (.invokevirtual 131, 3) := by decide +kernel
theorem dX10_tree_23 : decode cX10_tree 23 = .ok (.istore_n 2, 1) := by decide +kernel
theorem dX10_tree_24 : decode cX10_tree 24 = .ok (.iload_n 2, 1) := by decide +kernel
theorem dX10_tree_25 : decode cX10_tree 25 = .ok (.ifCond .ne 38, 3) := by decide +kernel
theorem dX10_tree_28 : decode cX10_tree 28 = .ok (.aload_n 0, 1) := by decide +kernel
theorem dX10_tree_29 : decode cX10_tree 29 = .ok (.getfield 63, 3) := by decide +kernel
theorem dX10_tree_32 : decode cX10_tree 32 = .ok (.getfield 107, 3) := by decide +kernel
theorem dX10_tree_35 : decode cX10_tree 35 = .ok (.aload_n 0, 1) := by decide +kernel
theorem dX10_tree_36 : decode cX10_tree 36 = .ok (.getfield 56, 3) := by decide +kernel
theorem dX10_tree_39 : decode cX10_tree 39 = .ok (.invokevirtual 135, 3) := by decide +kernel
theorem dX10_tree_42 : decode cX10_tree 42 = .ok (.aload_n 0, 1) := by decide +kernel
theorem dX10_tree_43 : decode cX10_tree 43 = .ok (.getfield 63, 3) := by decide +kernel
theorem dX10_tree_46 : decode cX10_tree 46 = .ok (.iconst 0, 1) := by decide +kernel
theorem dX10_tree_47 : decode cX10_tree 47 = .ok (.putfield 139, 3) := by decide +kernel
theorem dX10_tree_50 : decode cX10_tree 50 = .ok (.aload_n 0, 1) := by decide +kernel
theorem dX10_tree_51 : decode cX10_tree 51 = .ok (.getfield 63, 3) := by decide +kernel
theorem dX10_tree_54 : decode cX10_tree 54 = .ok (.iconst 0, 1) := by decide +kernel
theorem dX10_tree_55 : decode cX10_tree 55 = .ok (.putfield 142, 3) := by decide +kernel
theorem dX10_tree_58 : decode cX10_tree 58 = .ok (.aload_n 0, 1) := by decide +kernel
theorem dX10_tree_59 : decode cX10_tree 59 = .ok (.iconst 0, 1) := by decide +kernel
theorem dX10_tree_60 : decode cX10_tree 60 = .ok (.putfield 145, 3) := by decide +kernel
theorem dX10_tree_63 : decode cX10_tree 63 = .ok (.iload_n 2, 1) := by decide +kernel
theorem dX10_tree_64 : decode cX10_tree 64 = .ok (.ireturn, 1) := by decide +kernel
set_option maxRecDepth 20000 in
theorem gX10_path_X10_tapeHas : GoodIn wsX10_path (wsV RX10 120 RX10 yX10_tapeHas wsX10_tapeHas) := goodIn_app (goodIn_of _ (by decide +kernel)) ggX10_path_X10_tapeHas
set_option maxRecDepth 20000 in
theorem gX10_path_X5_read : GoodIn wsX10_path (wsV RX10 154 RX5 yX5_read wsX5_read) := goodIn_app (goodIn_of _ (by decide +kernel)) ggX10_path_X5_read
set_option maxRecDepth 20000 in
theorem gX10_path_X10_textWasRead : GoodIn wsX10_path (wsV RX10 158 RX10 yX10_textWasRead wsX10_textWasRead) := goodIn_app (goodIn_of _ (by decide +kernel)) ggX10_path_X10_textWasRead
set_option maxRecDepth 20000 in
theorem gX10_path_X4_init_n23 : GoodIn wsX10_path (wsX4_init) := ggX10_path_X4_init
theorem dX10_path_0 : decode cX10_path 0 = .ok (.iload_n 1, 1) := by decide +kernel
theorem dX10_path_1 : decode cX10_path 1 = .ok (.ifCond .lt 8, 3) := by decide +kernel
theorem dX10_path_4 : decode cX10_path 4 = .ok (.iload_n 1, 1) := by decide +kernel
theorem dX10_path_5 : decode cX10_path 5 = .ok (.iconst 4, 1) := by decide +kernel
theorem dX10_path_6 : decode cX10_path 6 = .ok (.if_icmp .lt 13, 3) := by decide +kernel
theorem dX10_path_9 : decode cX10_path 9 = .ok (.new 149, 3) := by decide +kernel
theorem dX10_path_12 : decode cX10_path 12 = .ok (.dup, 1) := by decide +kernel
theorem dX10_path_13 : decode cX10_path 13 = .ok (.ldc 151, 2) := by decide +kernel
theorem dX10_path_15 : decode cX10_path 15 = .ok (.invokespecial 153, 3) := by decide +kernel
theorem dX10_path_18 : decode cX10_path 18 = .ok (.athrow, 1) := by decide +kernel
theorem dX10_path_19 : decode cX10_path 19 = .ok (.aload_n 0, 1) := by decide +kernel
theorem dX10_path_20 : decode cX10_path 20 = .ok (.iload_n 2, 1) := by decide +kernel
theorem dX10_path_21 : decode cX10_path 21 = .ok (.invokevirtual 120, 3) := by decide +kernel
theorem dX10_path_24 : decode cX10_path 24 = .ok (.ifCond .ne 13, 3) := by decide +kernel
theorem dX10_path_27 : decode cX10_path 27 = .ok (.new 124, 3) := by decide +kernel
theorem dX10_path_30 : decode cX10_path 30 = .ok (.dup, 1) := by decide +kernel
theorem dX10_path_31 : decode cX10_path 31 = .ok (.ldc 126, 2) := by decide +kernel
theorem dX10_path_33 : decode cX10_path 33 = .ok (.invokespecial 128, 3) := by decide +kernel
theorem dX10_path_36 : decode cX10_path 36 = .ok (.athrow, 1) := by decide +kernel
theorem dX10_path_37 : decode cX10_path 37 = .ok (.aload_n 0, 1) := by decide +kernel
theorem dX10_path_38 : decode cX10_path 38 = .ok (.getfield 47, 3) := by decide +kernel
theorem dX10_path_41 : decode cX10_path 41 = .ok (.aload_n 0, 1) := by decide +kernel
theorem dX10_path_42 : decode cX10_path 42 = .ok (.getfield 9, 3) := by decide +kernel
theorem dX10_path_45 : decode cX10_path 45 = .ok (.iload_n 2, 1) := by decide +kernel
theorem dX10_path_46 : decode cX10_path 46 = .ok (.aload_n 0, 1) := by decide +kernel
theorem dX10_path_47 : decode cX10_path 47 = .ok (.getfield 24, 3) := by decide +kernel
theorem dX10_path_50 : decode cX10_path 50 = .ok (.invokevirtual 154, 3) := by decide +kernel
theorem dX10_path_53 : decode cX10_path 53 = .ok (.istore_n 3, 1) := by decide +kernel
theorem dX10_path_54 : decode cX10_path 54 = .ok (.aload_n 0, 1) := by decide +kernel
theorem dX10_path_55 : decode cX10_path 55 = .ok (.iload_n 3, 1) := by decide +kernel
theorem dX10_path_56 : decode cX10_path 56 = .ok (.invokevirtual 158, 3) := by decide +kernel
theorem dX10_path_59 : decode cX10_path 59 = .ok (.iload_n 3, 1) := by decide +kernel
theorem dX10_path_60 : decode cX10_path 60 = .ok (.ifCond .ne 42, 3) := by decide +kernel
theorem dX10_path_63 : decode cX10_path 63 = .ok (.aload_n 0, 1) := by decide +kernel
theorem dX10_path_64 : decode cX10_path 64 = .ok (.getfield 19, 3) := by decide +kernel
theorem dX10_path_67 : decode cX10_path 67 = .ok (.iload_n 1, 1) := by decide +kernel
theorem dX10_path_68 : decode cX10_path 68 = .ok (.aaload, 1) := by decide +kernel
theorem dX10_path_69 : decode cX10_path 69 = .ok (.astore 4, 2) := by decide +kernel
theorem dX10_path_71 : decode cX10_path 71 = .ok (.aload_n 0, 1) := by decide +kernel
theorem dX10_path_72 : decode cX10_path 72 = .ok (.getfield 19, 3) := by decide +kernel
theorem dX10_path_75 : decode cX10_path 75 = .ok (.iload_n 1, 1) := by decide +kernel
theorem dX10_path_76 : decode cX10_path 76 = .ok (.aload_n 0, 1) := by decide +kernel
theorem dX10_path_77 : decode cX10_path 77 = .ok (.getfield 24, 3) := by decide +kernel
theorem dX10_path_80 : decode cX10_path 80 = .ok (.aastore, 1) := by decide +kernel
theorem dX10_path_81 : decode cX10_path 81 = .ok (.aload_n 0, 1) := by decide +kernel
theorem dX10_path_82 : decode cX10_path 82 = .ok (.aload 4, 2) := by decide +kernel
