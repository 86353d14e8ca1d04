set_option maxRecDepth 100000 in
theorem ggX9_like_X9_kindAt : GoodIn wsX9_like wsX9_kindAt := (gi_cons 5 rfl rfl (gi_cons 6 rfl rfl (gi_cons 7 rfl rfl (gi_cons 38 rfl rfl (gi_cons 39 rfl rfl (gi_cons 40 rfl rfl (gi_cons 41 rfl rfl (gi_cons 42 rfl rfl gi_nil))))))))
set_option maxRecDepth 20000 in
theorem gX9_like_X9_kindAt : GoodIn wsX9_like (wsV RX9 38 RX9 yX9_kindAt wsX9_kindAt) := goodIn_app (goodIn_of _ (by decide +kernel)) ggX9_like_X9_kindAt
set_option maxRecDepth 100000 in
theorem ggX9_like_X9_valueAt : GoodIn wsX9_like wsX9_valueAt := (gi_cons 11 rfl rfl (gi_cons 6 rfl rfl (gi_cons 12 rfl rfl (gi_cons 38 rfl rfl (gi_cons 39 rfl rfl (gi_cons 40 rfl rfl (gi_cons 41 rfl rfl (gi_cons 42 rfl rfl gi_nil))))))))
set_option maxRecDepth 20000 in
theorem gX9_like_X9_valueAt : GoodIn wsX9_like (wsV RX9 41 RX9 yX9_valueAt wsX9_valueAt) := goodIn_app (goodIn_of _ (by decide +kernel)) ggX9_like_X9_valueAt
set_option maxRecDepth 100000 in
theorem ggX9_like_X9_sizeOf : GoodIn wsX9_like wsX9_sizeOf := (gi_cons 16 rfl rfl (gi_cons 6 rfl rfl (gi_cons 17 rfl rfl (gi_cons 18 rfl rfl (gi_cons 19 rfl rfl (gi_cons 4 rfl rfl (gi_cons 20 rfl rfl (gi_cons 21 rfl rfl (gi_cons 38 rfl rfl (gi_cons 39 rfl rfl (gi_cons 40 rfl rfl (gi_cons 41 rfl rfl (gi_cons 42 rfl rfl gi_nil)))))))))))))
set_option maxRecDepth 20000 in
theorem gX9_like_X9_sizeOf : GoodIn wsX9_like (wsV RX9 44 RX9 yX9_sizeOf wsX9_sizeOf) := goodIn_app (goodIn_of _ (by decide +kernel)) ggX9_like_X9_sizeOf
set_option maxRecDepth 100000 in
theorem ggX9_like_X9_childCount : GoodIn wsX9_like wsX9_childCount := (gi_cons 25 rfl rfl (gi_cons 6 rfl rfl (gi_cons 21 rfl rfl (gi_cons 38 rfl rfl (gi_cons 39 rfl rfl (gi_cons 40 rfl rfl (gi_cons 41 rfl rfl (gi_cons 42 rfl rfl gi_nil))))))))
set_option maxRecDepth 20000 in
theorem gX9_like_X9_childCount : GoodIn wsX9_like (wsV RX9 47 RX9 yX9_childCount wsX9_childCount) := goodIn_app (goodIn_of _ (by decide +kernel)) ggX9_like_X9_childCount
set_option maxRecDepth 100000 in
theorem ggX9_like_X9_keyAt : GoodIn wsX9_like wsX9_keyAt := (gi_cons 29 rfl rfl (gi_cons 6 rfl rfl (gi_cons 30 rfl rfl (gi_cons 38 rfl rfl (gi_cons 39 rfl rfl (gi_cons 40 rfl rfl (gi_cons 41 rfl rfl (gi_cons 42 rfl rfl gi_nil))))))))
set_option maxRecDepth 20000 in
theorem gX9_like_X9_keyAt : GoodIn wsX9_like (wsV RX9 50 RX9 yX9_keyAt wsX9_keyAt) := goodIn_app (goodIn_of _ (by decide +kernel)) ggX9_like_X9_keyAt
set_option maxRecDepth 100000 in
theorem ggX9_like_X9_childBy : GoodIn wsX9_like wsX9_childBy := (gi_cons 34 rfl rfl (gi_cons 6 rfl rfl (gi_cons 7 rfl rfl (gi_cons 21 rfl rfl (gi_cons 30 rfl rfl (gi_cons 38 rfl rfl (gi_cons 39 rfl rfl (gi_cons 40 rfl rfl (gi_cons 41 rfl rfl (gi_cons 42 rfl rfl gi_nil))))))))))
set_option maxRecDepth 20000 in
theorem gX9_like_X9_childBy : GoodIn wsX9_like (wsV RX9 53 RX9 yX9_childBy wsX9_childBy) := goodIn_app (goodIn_of _ (by decide +kernel)) ggX9_like_X9_childBy
set_option maxRecDepth 100000 in
theorem ggX9_like_X9_like : GoodIn wsX9_like wsX9_like := (gi_cons 0 rfl rfl (gi_cons 1 rfl rfl (gi_cons 2 rfl rfl (gi_cons 3 rfl rfl (gi_cons 4 rfl rfl (gi_cons 5 rfl rfl (gi_cons 6 rfl rfl (gi_cons 7 rfl rfl (gi_cons 8 rfl rfl (gi_cons 9 rfl rfl (gi_cons 10 rfl rfl (gi_cons 11 rfl rfl (gi_cons 12 rfl rfl (gi_cons 13 rfl rfl (gi_cons 14 rfl rfl (gi_cons 15 rfl rfl (gi_cons 16 rfl rfl (gi_cons 17 rfl rfl (gi_cons 18 rfl rfl (gi_cons 19 rfl rfl (gi_cons 20 rfl rfl (gi_cons 21 rfl rfl (gi_cons 22 rfl rfl (gi_cons 23 rfl rfl (gi_cons 24 rfl rfl (gi_cons 25 rfl rfl (gi_cons 26 rfl rfl (gi_cons 27 rfl rfl (gi_cons 28 rfl rfl (gi_cons 29 rfl rfl (gi_cons 30 rfl rfl (gi_cons 31 rfl rfl (gi_cons 32 rfl rfl (gi_cons 33 rfl rfl (gi_cons 34 rfl rfl (gi_cons 35 rfl rfl (gi_cons 36 rfl rfl (gi_cons 37 rfl rfl (gi_cons 38 rfl rfl (gi_cons 39 rfl rfl (gi_cons 40 rfl rfl (gi_cons 41 rfl rfl (gi_cons 42 rfl rfl gi_nil)))))))))))))))))))))))))))))))))))))))))))
set_option maxRecDepth 20000 in
theorem gX9_like_X9_like : GoodIn wsX9_like (wsV RX9 56 RX9 yX9_like wsX9_like) := goodIn_app (goodIn_of _ (by decide +kernel)) ggX9_like_X9_like
set_option maxRecDepth 100000 in
theorem ggX9_like_X9_end : GoodIn wsX9_like wsX9_end := (gi_cons 20 rfl rfl (gi_cons 6 rfl rfl (gi_cons 21 rfl rfl (gi_cons 38 rfl rfl (gi_cons 39 rfl rfl (gi_cons 40 rfl rfl (gi_cons 41 rfl rfl (gi_cons 42 rfl rfl gi_nil))))))))
set_option maxRecDepth 20000 in
theorem gX9_like_X9_end : GoodIn wsX9_like (wsV RX9 28 RX9 yX9_end wsX9_end) := goodIn_app (goodIn_of _ (by decide +kernel)) ggX9_like_X9_end
theorem dX9_like_0 : decode cX9_like 0 = .ok (.aload_n 0, 1) := by decide +kernel
theorem dX9_like_1 : decode cX9_like 1 = .ok (.iload_n 1, 1) := by decide +kernel
theorem dX9_like_2 : decode cX9_like 2 = .ok (.invokevirtual 38, 3) := by decide +kernel
theorem dX9_like_5 : decode cX9_like 5 = .ok (.istore 5, 2) := by decide +kernel
theorem dX9_like_7 : decode cX9_like 7 = .ok (.iload 5, 2) := by decide +kernel
theorem dX9_like_9 : decode cX9_like 9 = .ok (.ifCond .lt 20, 3) := by decide +kernel
theorem dX9_like_12 : decode cX9_like 12 = .ok (.iload 5, 2) := by decide +kernel
theorem dX9_like_14 : decode cX9_like 14 = .ok (.aload_n 2, 1) := by decide +kernel
theorem dX9_like_15 : decode cX9_like 15 = .ok (.iload_n 3, 1) := by decide +kernel
theorem dX9_like_16 : decode cX9_like 16 = .ok (.invokevirtual 38, 3) := by decide +kernel
theorem dX9_like_19 : decode cX9_like 19 = .ok (.if_icmp .ne 10, 3) := by decide +kernel
theorem dX9_like_22 : decode cX9_like 22 = .ok (.iload 4, 2) := by decide +kernel
theorem dX9_like_24 : decode cX9_like 24 = .ok (.bipush 16, 2) := by decide +kernel
theorem dX9_like_26 : decode cX9_like 26 = .ok (.if_icmp .le 5, 3) := by decide +kernel
theorem dX9_like_29 : decode cX9_like 29 = .ok (.iconst 0, 1) := by decide +kernel
theorem dX9_like_30 : decode cX9_like 30 = .ok (.ireturn, 1) := by decide +kernel
theorem dX9_like_31 : decode cX9_like 31 = .ok (.iload 5, 2) := by decide +kernel
theorem dX9_like_33 : decode cX9_like 33 = .ok (.ifCond .eq 9, 3) := by decide +kernel
theorem dX9_like_36 : decode cX9_like 36 = .ok (.iload 5, 2) := by decide +kernel
theorem dX9_like_38 : decode cX9_like 38 = .ok (.iconst 1, 1) := by decide +kernel
theorem dX9_like_39 : decode cX9_like 39 = .ok (.if_icmp .ne 22, 3) := by decide +kernel
theorem dX9_like_42 : decode cX9_like 42 = .ok (.aload_n 0, 1) := by decide +kernel
theorem dX9_like_43 : decode cX9_like 43 = .ok (.iload_n 1, 1) := by decide +kernel
theorem dX9_like_44 : decode cX9_like 44 = .ok (.invokevirtual 41, 3) := by decide +kernel
theorem dX9_like_47 : decode cX9_like 47 = .ok (.aload_n 2, 1) := by decide +kernel
theorem dX9_like_48 : decode cX9_like 48 = .ok (.iload_n 3, 1) := by decide +kernel
theorem dX9_like_49 : decode cX9_like 49 = .ok (.invokevirtual 41, 3) := by decide +kernel
theorem dX9_like_52 : decode cX9_like 52 = .ok (.if_icmp .ne 7, 3) := by decide +kernel
theorem dX9_like_55 : decode cX9_like 55 = .ok (.iconst 1, 1) := by decide +kernel
theorem dX9_like_56 : decode cX9_like 56 = .ok (.goto 4, 3) := by decide +kernel
theorem dX9_like_59 : decode cX9_like 59 = .ok (.iconst 0, 1) := by decide +kernel
theorem dX9_like_60 : decode cX9_like 60 = .ok (.ireturn, 1) := by decide +kernel
theorem dX9_like_61 : decode cX9_like 61 = .ok (.aload_n 0, 1) := by decide +kernel
theorem dX9_like_62 : decode cX9_like 62 = .ok (.iload_n 1, 1) := by decide +kernel
theorem dX9_like_63 : decode cX9_like 63 = .ok (.invokevirtual 44, 3) := by decide +kernel
theorem dX9_like_66 : decode cX9_like 66 = .ok (.aload_n 2, 1) := by decide +kernel
theorem dX9_like_67 : decode cX9_like 67 = .ok (.iload_n 3, 1) := by decide +kernel
theorem dX9_like_68 : decode cX9_like 68 = .ok (.invokevirtual 44, 3) := by decide +kernel
theorem dX9_like_71 : decode cX9_like 71 = .ok (.if_icmp .eq 5, 3) := by decide +kernel
theorem dX9_like_74 : decode cX9_like 74 = .ok (.iconst 0, 1) := by decide +kernel
theorem dX9_like_75 : decode cX9_like 75 = .ok (.ireturn, 1) := by decide +kernel
theorem dX9_like_76 : decode cX9_like 76 = .ok (.aload_n 0, 1) := by decide +kernel
theorem dX9_like_77 : decode cX9_like 77 = .ok (.iload_n 1, 1) := by decide +kernel
theorem dX9_like_78 : decode cX9_like 78 = .ok (.invokevirtual 47, 3) := by decide +kernel
theorem dX9_like_81 : decode cX9_like 81 = .ok (.istore 6, 2) := by decide +kernel
theorem dX9_like_83 : decode cX9_like 83 = .ok (.iload 6, 2) := by decide +kernel
theorem dX9_like_85 : decode cX9_like 85 = .ok (.aload_n 2, 1) := by decide +kernel
theorem dX9_like_86 : decode cX9_like 86 = .ok (.iload_n 3, 1) := by decide +kernel
theorem dX9_like_87 : decode cX9_like 87 = .ok (.invokevirtual 47, 3) := by decide +kernel
theorem dX9_like_90 : decode cX9_like 90 = .ok (.if_icmp .eq 5, 3) := by decide +kernel
theorem dX9_like_93 : decode cX9_like 93 = .ok (.iconst 0, 1) := by decide +kernel
theorem dX9_like_94 : decode cX9_like 94 = .ok (.ireturn, 1) := by decide +kernel
theorem dX9_like_95 : decode cX9_like 95 = .ok (.iload_n 1, 1) := by decide +kernel
theorem dX9_like_96 : decode cX9_like 96 = .ok (.iconst 1, 1) := by decide +kernel
theorem dX9_like_97 : decode cX9_like 97 = .ok (.iadd, 1) := by decide +kernel
theorem dX9_like_98 : decode cX9_like 98 = .ok (.istore 7, 2) := by decide +kernel
theorem dX9_like_100 : decode cX9_like 100 = .ok (.iload_n 3, 1) := by decide +kernel
theorem dX9_like_101 : decode cX9_like 101 = .ok (.iconst 1, 1) := by decide +kernel
theorem dX9_like_102 : decode cX9_like 102 = .ok (.iadd, 1) := by decide +kernel
theorem dX9_like_103 : decode cX9_like 103 = .ok (.istore 8, 2) := by decide +kernel
theorem dX9_like_105 : decode cX9_like 105 = .ok (.iconst 0, 1) := by decide +kernel
theorem dX9_like_106 : decode cX9_like 106 = .ok (.istore 9, 2) := by decide +kernel
theorem dX9_like_108 : decode cX9_like 108 = .ok (.iload 9, 2) := by decide +kernel
theorem dX9_like_110 : decode cX9_like 110 = .ok (.iload 6, 2) := by decide +kernel
theorem dX9_like_112 : decode cX9_like 112 = .ok (.if_icmp .ge 71, 3) := by decide +kernel
theorem dX9_like_115 : decode cX9_like 115 = .ok (.iload 5, 2) := by decide +kernel
theorem dX9_like_117 : decode cX9_like 117 = .ok (.iconst 3, 1) := by decide +kernel
theorem dX9_like_118 : decode cX9_like 118 = .ok (.if_icmp .ne 17, 3) := by decide +kernel
theorem dX9_like_121 : decode cX9_like 121 = .ok (.aload_n 2, 1) := by decide +kernel
theorem dX9_like_122 : decode cX9_like 122 = .ok (.iload_n 3, 1) := by decide +kernel
theorem dX9_like_123 : decode cX9_like 123 = .ok (.aload_n 0, 1) := by decide +kernel
theorem dX9_like_124 : decode cX9_like 124 = .ok (.iload 7, 2) := by decide +kernel
theorem dX9_like_126 : decode cX9_like 126 = .ok (.invokevirtual 50, 3) := by decide +kernel
theorem dX9_like_129 : decode cX9_like 129 = .ok (.invokevirtual 53, 3) := by decide +kernel
theorem dX9_like_132 : decode cX9_like 132 = .ok (.goto 5, 3) := by decide +kernel
theorem dX9_like_135 : decode cX9_like 135 = .ok (.iload 8, 2) := by decide +kernel
theorem dX9_like_137 : decode cX9_like 137 = .ok (.istore 10, 2) := by decide +kernel
theorem dX9_like_139 : decode cX9_like 139 = .ok (.aload_n 0, 1) := by decide +kernel
theorem dX9_like_140 : decode cX9_like 140 = .ok (.iload 7, 2) := by decide +kernel
theorem dX9_like_142 : decode cX9_like 142 = .ok (.aload_n 2, 1) := by decide +kernel
theorem dX9_like_143 : decode cX9_like 143 = .ok (.iload 10, 2) := by decide +kernel
theorem dX9_like_145 : decode cX9_like 145 = .ok (.iload 4, 2) := by decide +kernel
theorem dX9_like_147 : decode cX9_like 147 = .ok (.iconst 1, 1) := by decide +kernel
theorem dX9_like_148 : decode cX9_like 148 = .ok (.iadd, 1) := by decide +kernel
theorem dX9_like_149 : decode cX9_like 149 = .ok (.invokevirtual 56, 3) := by decide +kernel
theorem dX9_like_152 : decode cX9_like 152 = .ok (.ifCond .ne 5, 3) := by decide +kernel
theorem dX9_like_155 : decode cX9_like 155 = .ok (.iconst 0, 1) := by decide +kernel
theorem dX9_like_156 : decode cX9_like 156 = .ok (.ireturn, 1) := by decide +kernel
theorem dX9_like_157 : decode cX9_like 157 = .ok (.aload_n 0, 1) := by decide +kernel
theorem dX9_like_158 : decode cX9_like 158 = .ok (.iload 7, 2) := by decide +kernel
theorem dX9_like_160 : decode cX9_like 160 = .ok (.invokevirtual 28, 3) := by decide +kernel
theorem dX9_like_163 : decode cX9_like 163 = .ok (.iconst 1, 1) := by decide +kernel
theorem dX9_like_164 : decode cX9_like 164 = .ok (.iadd, 1) := by decide +kernel
theorem dX9_like_165 : decode cX9_like 165 = .ok (.istore 7, 2) := by decide +kernel
theorem dX9_like_167 : decode cX9_like 167 = .ok (.aload_n 2, 1) := by decide +kernel
theorem dX9_like_168 : decode cX9_like 168 = .ok (.iload 8, 2) := by decide +kernel
theorem dX9_like_170 : decode cX9_like 170 = .ok (.invokevirtual 28, 3) := by decide +kernel
theorem dX9_like_173 : decode cX9_like 173 = .ok (.iconst 1, 1) := by decide +kernel
theorem dX9_like_174 : decode cX9_like 174 = .ok (.iadd, 1) := by decide +kernel
theorem dX9_like_175 : decode cX9_like 175 = .ok (.istore 8, 2) := by decide +kernel
theorem dX9_like_177 : decode cX9_like 177 = .ok (.iinc 9 1, 3) := by decide +kernel
theorem dX9_like_180 : decode cX9_like 180 = .ok (.goto (-72), 3) := by decide +kernel
theorem dX9_like_183 : decode cX9_like 183 = .ok (.iconst 1, 1) := by decide +kernel
theorem dX9_like_184 : decode cX9_like 184 = .ok (.ireturn, 1) := by decide +kernel
set_option maxRecDepth 100000 in
theorem ggX9_twinsOf_X9_like : GoodIn wsX9_twinsOf wsX9_like := (gi_cons 6 rfl rfl (gi_cons 7 rfl rfl (gi_cons 8 rfl rfl (gi_cons 9 rfl rfl (gi_cons 5 rfl rfl (gi_cons 10 rfl rfl (gi_cons 1 rfl rfl (gi_cons 11 rfl rfl (gi_cons 12 rfl rfl (gi_cons 13 rfl rfl (gi_cons 14 rfl rfl (gi_cons 15 rfl rfl (gi_cons 16 rfl rfl (gi_cons 17 rfl rfl (gi_cons 18 rfl rfl (gi_cons 19 rfl rfl (gi_cons 20 rfl rfl (gi_cons 21 rfl rfl (gi_cons 22 rfl rfl (gi_cons 23 rfl rfl (gi_cons 24 rfl rfl (gi_cons 25 rfl rfl (gi_cons 26 rfl rfl (gi_cons 27 rfl rfl (gi_cons 28 rfl rfl (gi_cons 29 rfl rfl (gi_cons 30 rfl rfl (gi_cons 31 rfl rfl (gi_cons 32 rfl rfl (gi_cons 33 rfl rfl (gi_cons 34 rfl rfl (gi_cons 35 rfl rfl (gi_cons 36 rfl rfl (gi_cons 37 rfl rfl (gi_cons 38 rfl rfl (gi_cons 2 rfl rfl (gi_cons 3 rfl rfl (gi_cons 4 rfl rfl (gi_cons 39 rfl rfl (gi_cons 40 rfl rfl (gi_cons 41 rfl rfl (gi_cons 42 rfl rfl (gi_cons 43 rfl rfl gi_nil)))))))))))))))))))))))))))))))))))))))))))
set_option maxRecDepth 20000 in
theorem gX9_twinsOf_X9_like : GoodIn wsX9_twinsOf (wsV RX9 56 RX9 yX9_like wsX9_like) := goodIn_app (goodIn_of _ (by decide +kernel)) ggX9_twinsOf_X9_like
theorem dX9_twinsOf_0 : decode cX9_twinsOf 0 = .ok (.iconst 0, 1) := by decide +kernel
theorem dX9_twinsOf_1 : decode cX9_twinsOf 1 = .ok (.istore_n 2, 1) := by decide +kernel
theorem dX9_twinsOf_2 : decode cX9_twinsOf 2 = .ok (.iconst 0, 1) := by decide +kernel
theorem dX9_twinsOf_3 : decode cX9_twinsOf 3 = .ok (.istore_n 3, 1) := by decide +kernel
theorem dX9_twinsOf_4 : decode cX9_twinsOf 4 = .ok (.iload_n 3, 1) := by decide +kernel
theorem dX9_twinsOf_5 : decode cX9_twinsOf 5 = .ok (.aload_n 0, 1) := by decide +kernel
theorem dX9_twinsOf_6 : decode cX9_twinsOf 6 = .ok (.getfield 24, 3) := by decide +kernel
theorem dX9_twinsOf_9 : decode cX9_twinsOf 9 = .ok (.if_icmp .ge 28, 3) := by decide +kernel
theorem dX9_twinsOf_12 : decode cX9_twinsOf 12 = .ok (.iload_n 3, 1) := by decide +kernel
theorem dX9_twinsOf_13 : decode cX9_twinsOf 13 = .ok (.iload_n 1, 1) := by decide +kernel
theorem dX9_twinsOf_14 : decode cX9_twinsOf 14 = .ok (.if_icmp .eq 17, 3) := by decide +kernel
theorem dX9_twinsOf_17 : decode cX9_twinsOf 17 = .ok (.aload_n 0, 1) := by decide +kernel
theorem dX9_twinsOf_18 : decode cX9_twinsOf 18 = .ok (.iload_n 1, 1) := by decide +kernel
theorem dX9_twinsOf_19 : decode cX9_twinsOf 19 = .ok (.aload_n 0, 1) := by decide +kernel
theorem dX9_twinsOf_20 : decode cX9_twinsOf 20 = .ok (.iload_n 3, 1) := by decide +kernel
theorem dX9_twinsOf_21 : decode cX9_twinsOf 21 = .ok (.iconst 0, 1) := by decide +kernel
theorem dX9_twinsOf_22 : decode cX9_twinsOf 22 = .ok (.invokevirtual 56, 3) := by decide +kernel
theorem dX9_twinsOf_25 : decode cX9_twinsOf 25 = .ok (.ifCond .eq 6, 3) := by decide +kernel
theorem dX9_twinsOf_28 : decode cX9_twinsOf 28 = .ok (.iinc 2 1, 3) := by decide +kernel
theorem dX9_twinsOf_31 : decode cX9_twinsOf 31 = .ok (.iinc 3 1, 3) := by decide +kernel
theorem dX9_twinsOf_34 : decode cX9_twinsOf 34 = .ok (.goto (-30), 3) := by decide +kernel
theorem dX9_twinsOf_37 : decode cX9_twinsOf 37 = .ok (.iload_n 2, 1) := by decide +kernel
theorem dX9_twinsOf_38 : decode cX9_twinsOf 38 = .ok (.ireturn, 1) := by decide +kernel
set_option maxRecDepth 100000 in
theorem ggX9_unlike_X9_like : GoodIn wsX9_unlike wsX9_like := (gi_cons 6 rfl rfl (gi_cons 7 rfl rfl (gi_cons 8 rfl rfl (gi_cons 9 rfl rfl (gi_cons 5 rfl rfl (gi_cons 10 rfl rfl (gi_cons 1 rfl rfl (gi_cons 11 rfl rfl (gi_cons 12 rfl rfl (gi_cons 13 rfl rfl (gi_cons 14 rfl rfl (gi_cons 15 rfl rfl (gi_cons 16 rfl rfl (gi_cons 17 rfl rfl (gi_cons 18 rfl rfl (gi_cons 19 rfl rfl (gi_cons 20 rfl rfl (gi_cons 21 rfl rfl (gi_cons 22 rfl rfl (gi_cons 23 rfl rfl (gi_cons 24 rfl rfl (gi_cons 25 rfl rfl (gi_cons 26 rfl rfl (gi_cons 27 rfl rfl (gi_cons 28 rfl rfl (gi_cons 29 rfl rfl (gi_cons 30 rfl rfl (gi_cons 31 rfl rfl (gi_cons 32 rfl rfl (gi_cons 33 rfl rfl (gi_cons 34 rfl rfl (gi_cons 35 rfl rfl (gi_cons 36 rfl rfl (gi_cons 37 rfl rfl (gi_cons 38 rfl rfl (gi_cons 2 rfl rfl (gi_cons 3 rfl rfl (gi_cons 4 rfl rfl (gi_cons 39 rfl rfl (gi_cons 40 rfl rfl (gi_cons 41 rfl rfl (gi_cons 42 rfl rfl (gi_cons 43 rfl rfl gi_nil)))))))))))))))))))))))))))))))))))))))))))
set_option maxRecDepth 20000 in
theorem gX9_unlike_X9_like : GoodIn wsX9_unlike (wsV RX9 56 RX9 yX9_like wsX9_like) := goodIn_app (goodIn_of _ (by decide +kernel)) ggX9_unlike_X9_like
theorem dX9_unlike_0 : decode cX9_unlike 0 = .ok (.iconst 0, 1) := by decide +kernel
theorem dX9_unlike_1 : decode cX9_unlike 1 = .ok (.istore_n 1, 1) := by decide +kernel
theorem dX9_unlike_2 : decode cX9_unlike 2 = .ok (.iconst 0, 1) := by decide +kernel
theorem dX9_unlike_3 : decode cX9_unlike 3 = .ok (.istore_n 2, 1) := by decide +kernel
theorem dX9_unlike_4 : decode cX9_unlike 4 = .ok (.iload_n 2, 1) := by decide +kernel
theorem dX9_unlike_5 : decode cX9_unlike 5 = .ok (.aload_n 0, 1) := by decide +kernel
theorem dX9_unlike_6 : decode cX9_unlike 6 = .ok (.getfield 24, 3) := by decide +kernel
theorem dX9_unlike_9 : decode cX9_unlike 9 = .ok (.if_icmp .ge 55, 3) := by decide +kernel
theorem dX9_unlike_12 : decode cX9_unlike 12 = .ok (.iconst 1, 1) := by decide +kernel
theorem dX9_unlike_13 : decode cX9_unlike 13 = .ok (.istore_n 3, 1) := by decide +kernel
theorem dX9_unlike_14 : decode cX9_unlike 14 = .ok (.iconst 0, 1) := by decide +kernel
theorem dX9_unlike_15 : decode cX9_unlike 15 = .ok (.istore 4, 2) := by decide +kernel
theorem dX9_unlike_17 : decode cX9_unlike 17 = .ok (.iload 4, 2) := by decide +kernel
theorem dX9_unlike_19 : decode cX9_unlike 19 = .ok (.iload_n 2, 1) := by decide +kernel
theorem dX9_unlike_20 : decode cX9_unlike 20 = .ok (.if_icmp .ge 31, 3) := by decide +kernel
theorem dX9_unlike_23 : decode cX9_unlike 23 = .ok (.iload_n 3, 1) := by decide +kernel
theorem dX9_unlike_24 : decode cX9_unlike 24 = .ok (.ifCond .eq 27, 3) := by decide +kernel
theorem dX9_unlike_27 : decode cX9_unlike 27 = .ok (.aload_n 0, 1) := by decide +kernel
theorem dX9_unlike_28 : decode cX9_unlike 28 = .ok (.iload 4, 2) := by decide +kernel
theorem dX9_unlike_30 : decode cX9_unlike 30 = .ok (.aload_n 0, 1) := by decide +kernel
theorem dX9_unlike_31 : decode cX9_unlike 31 = .ok (.iload_n 2, 1) := by decide +kernel
theorem dX9_unlike_32 : decode cX9_unlike 32 = .ok (.iconst 0, 1) := by decide +kernel
theorem dX9_unlike_33 : decode cX9_unlike 33 = .ok (.invokevirtual 56, 3) := by decide +kernel
theorem dX9_unlike_36 : decode cX9_unlike 36 = .ok (.ifCond .ne 7, 3) := by decide +kernel
theorem dX9_unlike_39 : decode cX9_unlike 39 = .ok (.iconst 1, 1) := by decide +kernel
theorem dX9_unlike_40 : decode cX9_unlike 40 = .ok (.goto 4, 3) := by decide +kernel
theorem dX9_unlike_43 : decode cX9_unlike 43 = .ok (.iconst 0, 1) := by decide +kernel
theorem dX9_unlike_44 : decode cX9_unlike 44 = .ok (.istore_n 3, 1) := by decide +kernel
theorem dX9_unlike_45 : decode cX9_unlike 45 = .ok (.iinc 4 1, 3) := by decide +kernel
theorem dX9_unlike_48 : decode cX9_unlike 48 = .ok (.goto (-31), 3) := by decide +kernel
theorem dX9_unlike_51 : decode cX9_unlike 51 = .ok (.iload_n 3, 1) := by decide +kernel
theorem dX9_unlike_52 : decode cX9_unlike 52 = .ok (.ifCond .eq 6, 3) := by decide +kernel
theorem dX9_unlike_55 : decode cX9_unlike 55 = .ok (.iinc 1 1, 3) := by decide +kernel
theorem dX9_unlike_58 : decode cX9_unlike 58 = .ok (.iinc 2 1, 3) := by decide +kernel
theorem dX9_unlike_61 : decode cX9_unlike 61 = .ok (.goto (-57), 3) := by decide +kernel
theorem dX9_unlike_64 : decode cX9_unlike 64 = .ok (.iload_n 1, 1) := by decide +kernel
theorem dX9_unlike_65 : decode cX9_unlike 65 = .ok (.ireturn, 1) := by decide +kernel
theorem dX9_become_0 : decode cX9_become 0 = .ok (.aload_n 1, 1) := by decide +kernel
theorem dX9_become_1 : decode cX9_become 1 = .ok (.getfield 24, 3) := by decide +kernel
theorem dX9_become_4 : decode cX9_become 4 = .ok (.istore_n 2, 1) := by decide +kernel
theorem dX9_become_5 : decode cX9_become 5 = .ok (.iload_n 2, 1) := by decide +kernel
theorem dX9_become_6 : decode cX9_become 6 = .ok (.ifCond .lt 82, 3) := by decide +kernel
theorem dX9_become_9 : decode cX9_become 9 = .ok (.iload_n 2, 1) := by decide +kernel
theorem dX9_become_10 : decode cX9_become 10 = .ok (.aload_n 0, 1) := by decide +kernel
theorem dX9_become_11 : decode cX9_become 11 = .ok (.getfield 9, 3) := by decide +kernel
theorem dX9_become_14 : decode cX9_become 14 = .ok (.arraylength, 1) := by decide +kernel
theorem dX9_become_15 : decode cX9_become 15 = .ok (.if_icmp .gt 73, 3) := by decide +kernel
theorem dX9_become_18 : decode cX9_become 18 = .ok (.iload_n 2, 1) := by decide +kernel
theorem dX9_become_19 : decode cX9_become 19 = .ok (.aload_n 1, 1) := by decide +kernel
theorem dX9_become_20 : decode cX9_become 20 = .ok (.getfield 9, 3) := by decide +kernel
theorem dX9_become_23 : decode cX9_become 23 = .ok (.arraylength, 1) := by decide +kernel
theorem dX9_become_24 : decode cX9_become 24 = .ok (.if_icmp .gt 64, 3) := by decide +kernel
theorem dX9_become_27 : decode cX9_become 27 = .ok (.aload_n 1, 1) := by decide +kernel
theorem dX9_become_28 : decode cX9_become 28 = .ok (.getfield 9, 3) := by decide +kernel
theorem dX9_become_31 : decode cX9_become 31 = .ok (.iconst 0, 1) := by decide +kernel
theorem dX9_become_32 : decode cX9_become 32 = .ok (.aload_n 0, 1) := by decide +kernel
theorem dX9_become_33 : decode cX9_become 33 = .ok (.getfield 9, 3) := by decide +kernel
theorem dX9_become_36 : decode cX9_become 36 = .ok (.iconst 0, 1) := by decide +kernel
theorem dX9_become_37 : decode cX9_become 37 = .ok (.iload_n 2, 1) := by decide +kernel
theorem dX9_become_38 : decode cX9_become 38 = .ok (.invokestatic 60, 3) := by decide +kernel
theorem dX9_become_41 : decode cX9_become 41 = .ok (.aload_n 1, 1) := by decide +kernel
theorem dX9_become_42 : decode cX9_become 42 = .ok (.getfield 15, 3) := by decide +kernel
theorem dX9_become_45 : decode cX9_become 45 = .ok (.iconst 0, 1) := by decide +kernel
theorem dX9_become_46 : decode cX9_become 46 = .ok (.aload_n 0, 1) := by decide +kernel
theorem dX9_become_47 : decode cX9_become 47 = .ok (.getfield 15, 3) := by decide +kernel
theorem dX9_become_50 : decode cX9_become 50 = .ok (.iconst 0, 1) := by decide +kernel
theorem dX9_become_51 : decode cX9_become 51 = .ok (.iload_n 2, 1) := by decide +kernel
theorem dX9_become_52 : decode cX9_become 52 = .ok (.invokestatic 60, 3) := by decide +kernel
theorem dX9_become_55 : decode cX9_become 55 = .ok (.aload_n 1, 1) := by decide +kernel
theorem dX9_become_56 : decode cX9_become 56 = .ok (.getfield 18, 3) := by decide +kernel
theorem dX9_become_59 : decode cX9_become 59 = .ok (.iconst 0, 1) := by decide +kernel
theorem dX9_become_60 : decode cX9_become 60 = .ok (.aload_n 0, 1) := by decide +kernel
theorem dX9_become_61 : decode cX9_become 61 = .ok (.getfield 18, 3) := by decide +kernel
theorem dX9_become_64 : decode cX9_become 64 = .ok (.iconst 0, 1) := by decide +kernel
theorem dX9_become_65 : decode cX9_become 65 = .ok (.iload_n 2, 1) := by decide +kernel
theorem dX9_become_66 : decode cX9_become 66 = .ok (.invokestatic 60, 3) := by decide +kernel
theorem dX9_become_69 : decode cX9_become 69 = .ok (.aload_n 1, 1) := by decide +kernel
theorem dX9_become_70 : decode cX9_become 70 = .ok (.getfield 21, 3) := by decide +kernel
theorem dX9_become_73 : decode cX9_become 73 = .ok (.iconst 0, 1) := by decide +kernel
theorem dX9_become_74 : decode cX9_become 74 = .ok (.aload_n 0, 1) := by decide +kernel
theorem dX9_become_75 : decode cX9_become 75 = .ok (.getfield 21, 3) := by decide +kernel
theorem dX9_become_78 : decode cX9_become 78 = .ok (.iconst 0, 1) := by decide +kernel
theorem dX9_become_79 : decode cX9_become 79 = .ok (.iload_n 2, 1) := by decide +kernel
theorem dX9_become_80 : decode cX9_become 80 = .ok (.invokestatic 60, 3) := by decide +kernel
theorem dX9_become_83 : decode cX9_become 83 = .ok (.aload_n 0, 1) := by decide +kernel
theorem dX9_become_84 : decode cX9_become 84 = .ok (.iload_n 2, 1) := by decide +kernel
theorem dX9_become_85 : decode cX9_become 85 = .ok (.putfield 24, 3) := by decide +kernel
theorem dX9_become_88 : decode cX9_become 88 = .ok (.return_, 1) := by decide +kernel
theorem dX9_copyFrom_0 : decode cX9_copyFrom 0 = .ok (.iload 4, 2) := by decide +kernel
theorem dX9_copyFrom_2 : decode cX9_copyFrom 2 = .ok (.ifCond .le 95, 3) := by decide +kernel
theorem dX9_copyFrom_5 : decode cX9_copyFrom 5 = .ok (.iload_n 2, 1) := by decide +kernel
theorem dX9_copyFrom_6 : decode cX9_copyFrom 6 = .ok (.ifCond .lt 91, 3) := by decide +kernel
theorem dX9_copyFrom_9 : decode cX9_copyFrom 9 = .ok (.iload_n 3, 1) := by decide +kernel
theorem dX9_copyFrom_10 : decode cX9_copyFrom 10 = .ok (.ifCond .lt 87, 3) := by decide +kernel
theorem dX9_copyFrom_13 : decode cX9_copyFrom 13 = .ok (.iload_n 2, 1) := by decide +kernel
theorem dX9_copyFrom_14 : decode cX9_copyFrom 14 = .ok (.iload 4, 2) := by decide +kernel
theorem dX9_copyFrom_16 : decode cX9_copyFrom 16 = .ok (.iadd, 1) := by decide +kernel
theorem dX9_copyFrom_17 : decode cX9_copyFrom 17 = .ok (.aload_n 1, 1) := by decide +kernel
theorem dX9_copyFrom_18 : decode cX9_copyFrom 18 = .ok (.getfield 9, 3) := by decide +kernel
theorem dX9_copyFrom_21 : decode cX9_copyFrom 21 = .ok (.arraylength, 1) := by decide +kernel
theorem dX9_copyFrom_22 : decode cX9_copyFrom 22 = .ok (.if_icmp .gt 75, 3) := by decide +kernel
theorem dX9_copyFrom_25 : decode cX9_copyFrom 25 = .ok (.iload_n 3, 1) := by decide +kernel
theorem dX9_copyFrom_26 : decode cX9_copyFrom 26 = .ok (.iload 4, 2) := by decide +kernel
theorem dX9_copyFrom_28 : decode cX9_copyFrom 28 = .ok (.iadd, 1) := by decide +kernel
theorem dX9_copyFrom_29 : decode cX9_copyFrom 29 = .ok (.aload_n 0, 1) := by decide +kernel
theorem dX9_copyFrom_30 : decode cX9_copyFrom 30 = .ok (.getfield 9, 3) := by decide +kernel
theorem dX9_copyFrom_33 : decode cX9_copyFrom 33 = .ok (.arraylength, 1) := by decide +kernel
theorem dX9_copyFrom_34 : decode cX9_copyFrom 34 = .ok (.if_icmp .gt 63, 3) := by decide +kernel
theorem dX9_copyFrom_37 : decode cX9_copyFrom 37 = .ok (.aload_n 1, 1) := by decide +kernel
theorem dX9_copyFrom_38 : decode cX9_copyFrom 38 = .ok (.getfield 9, 3) := by decide +kernel
theorem dX9_copyFrom_41 : decode cX9_copyFrom 41 = .ok (.iload_n 2, 1) := by decide +kernel
theorem dX9_copyFrom_42 : decode cX9_copyFrom 42 = .ok (.aload_n 0, 1) := by decide +kernel
theorem dX9_copyFrom_43 : decode cX9_copyFrom 43 = .ok (.getfield 9, 3) := by decide +kernel
theorem dX9_copyFrom_46 : decode cX9_copyFrom 46 = .ok (.iload_n 3, 1) := by decide +kernel
theorem dX9_copyFrom_47 : decode cX9_copyFrom 47 = .ok (.iload 4, 2) := by decide +kernel
theorem dX9_copyFrom_49 : decode cX9_copyFrom 49 = .ok (.invokestatic 60, 3) := by decide +kernel
theorem dX9_copyFrom_52 : decode cX9_copyFrom 52 = .ok (.aload_n 1, 1) := by decide +kernel
theorem dX9_copyFrom_53 : decode cX9_copyFrom 53 = .ok (.getfield 15, 3) := by decide +kernel
theorem dX9_copyFrom_56 : decode cX9_copyFrom 56 = .ok (.iload_n 2, 1) := by decide +kernel
theorem dX9_copyFrom_57 : decode cX9_copyFrom 57 = .ok (.aload_n 0, 1) := by decide +kernel
theorem dX9_copyFrom_58 : decode cX9_copyFrom 58 = .ok (.getfield 15, 3) := by decide +kernel
theorem dX9_copyFrom_61 : decode cX9_copyFrom 61 = .ok (.iload_n 3, 1) := by decide +kernel
theorem dX9_copyFrom_62 : decode cX9_copyFrom 62 = .ok (.iload 4, 2) := by decide +kernel
theorem dX9_copyFrom_64 : decode cX9_copyFrom 64 = .ok (.invokestatic 60, 3) := by decide +kernel
theorem dX9_copyFrom_67 : decode cX9_copyFrom 67 = .ok (.aload_n 1, 1) := by decide +kernel
theorem dX9_copyFrom_68 : decode cX9_copyFrom 68 = .ok (.getfield 18, 3) := by decide +kernel
theorem dX9_copyFrom_71 : decode cX9_copyFrom 71 = .ok (.iload_n 2, 1) := by decide +kernel
theorem dX9_copyFrom_72 : decode cX9_copyFrom 72 = .ok (.aload_n 0, 1) := by decide +kernel
theorem dX9_copyFrom_73 : decode cX9_copyFrom 73 = .ok (.getfield 18, 3) := by decide +kernel
theorem dX9_copyFrom_76 : decode cX9_copyFrom 76 = .ok (.iload_n 3, 1) := by decide +kernel
theorem dX9_copyFrom_77 : decode cX9_copyFrom 77 = .ok (.iload 4, 2) := by decide +kernel
theorem dX9_copyFrom_79 : decode cX9_copyFrom 79 = .ok (.invokestatic 60, 3) := by decide +kernel
theorem dX9_copyFrom_82 : decode cX9_copyFrom 82 = .ok (.aload_n 1, 1) := by decide +kernel
theorem dX9_copyFrom_83 : decode cX9_copyFrom 83 = .ok (.getfield 21, 3) := by decide +kernel
theorem dX9_copyFrom_86 : decode cX9_copyFrom 86 = .ok (.iload_n 2, 1) := by decide +kernel
theorem dX9_copyFrom_87 : decode cX9_copyFrom 87 = .ok (.aload_n 0, 1) := by decide +kernel
theorem dX9_copyFrom_88 : decode cX9_copyFrom 88 = .ok (.getfield 21, 3) := by decide +kernel
theorem dX9_copyFrom_91 : decode cX9_copyFrom 91 = .ok (.iload_n 3, 1) := by decide +kernel
theorem dX9_copyFrom_92 : decode cX9_copyFrom 92 = .ok (.iload 4, 2) := by decide +kernel
theorem dX9_copyFrom_94 : decode cX9_copyFrom 94 = .ok (.invokestatic 60, 3) := by decide +kernel
theorem dX9_copyFrom_97 : decode cX9_copyFrom 97 = .ok (.return_, 1) := by decide +kernel
