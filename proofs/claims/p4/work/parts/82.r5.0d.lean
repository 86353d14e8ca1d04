set_option maxRecDepth 100000 in
theorem ggX10_tree_X10_tapeHas : GoodIn wsX10_tree wsX10_tapeHas := (gi_cons 10 rfl rfl (gi_cons 11 rfl rfl (gi_cons 155 rfl rfl (gi_cons 156 rfl rfl (gi_cons 157 rfl rfl (gi_cons 158 rfl rfl (gi_cons 159 rfl rfl (gi_cons 160 rfl rfl (gi_cons 161 rfl rfl (gi_cons 162 rfl rfl (gi_cons 163 rfl rfl (gi_cons 164 rfl rfl (gi_cons 165 rfl rfl (gi_cons 166 rfl rfl (gi_cons 167 rfl rfl (gi_cons 168 rfl rfl (gi_cons 169 rfl rfl (gi_cons 170 rfl rfl (gi_cons 171 rfl rfl (gi_cons 172 rfl rfl gi_nil))))))))))))))))))))
set_option maxRecDepth 20000 in
theorem gX10_tree_X10_tapeHas : GoodIn wsX10_tree (wsV RX10 120 RX10 yX10_tapeHas wsX10_tapeHas) := goodIn_app (goodIn_of _ (by decide +kernel)) ggX10_tree_X10_tapeHas
set_option maxRecDepth 100000 in
theorem ggX10_tree_X10_readData : GoodIn wsX10_tree wsX10_readData := (gi_cons 15 rfl rfl (gi_cons 16 rfl rfl (gi_cons 17 rfl rfl (gi_cons 4 rfl rfl (gi_cons 18 rfl rfl (gi_cons 19 rfl rfl (gi_cons 20 rfl rfl (gi_cons 21 rfl rfl (gi_cons 22 rfl rfl (gi_cons 23 rfl rfl (gi_cons 24 rfl rfl (gi_cons 25 rfl rfl (gi_cons 26 rfl rfl (gi_cons 27 rfl rfl (gi_cons 28 rfl rfl (gi_cons 29 rfl rfl (gi_cons 30 rfl rfl (gi_cons 31 rfl rfl (gi_cons 32 rfl rfl (gi_cons 33 rfl rfl (gi_cons 34 rfl rfl (gi_cons 35 rfl rfl (gi_cons 36 rfl rfl (gi_cons 37 rfl rfl (gi_cons 38 rfl rfl (gi_cons 39 rfl rfl (gi_cons 40 rfl rfl (gi_cons 41 rfl rfl (gi_cons 42 rfl rfl (gi_cons 43 rfl rfl (gi_cons 44 rfl rfl (gi_cons 45 rfl rfl (gi_cons 46 rfl rfl (gi_cons 47 rfl rfl (gi_cons 48 rfl rfl (gi_cons 49 rfl rfl (gi_cons 50 rfl rfl (gi_cons 51 rfl rfl (gi_cons 52 rfl rfl (gi_cons 53 rfl rfl (gi_cons 54 rfl rfl (gi_cons 55 rfl rfl (gi_cons 56 rfl rfl (gi_cons 57 rfl rfl (gi_cons 58 rfl rfl (gi_cons 59 rfl rfl (gi_cons 60 rfl rfl (gi_cons 61 rfl rfl (gi_cons 62 rfl rfl (gi_cons 63 rfl rfl (gi_cons 64 rfl rfl (gi_cons 65 rfl rfl (gi_cons 66 rfl rfl (gi_cons 67 rfl rfl (gi_cons 68 rfl rfl (gi_cons 69 rfl rfl (gi_cons 70 rfl rfl (gi_cons 71 rfl rfl (gi_cons 72 rfl rfl (gi_cons 73 rfl rfl (gi_cons 74 rfl rfl (gi_cons 75 rfl rfl (gi_cons 76 rfl rfl (gi_cons 77 rfl rfl (gi_cons 78 rfl rfl (gi_cons 79 rfl rfl (gi_cons 80 rfl rfl (gi_cons 81 rfl rfl (gi_cons 82 rfl rfl (gi_cons 83 rfl rfl (gi_cons 84 rfl rfl (gi_cons 85 rfl rfl (gi_cons 86 rfl rfl (gi_cons 87 rfl rfl (gi_cons 88 rfl rfl (gi_cons 89 rfl rfl (gi_cons 90 rfl rfl (gi_cons 91 rfl rfl (gi_cons 92 rfl rfl (gi_cons 93 rfl rfl (gi_cons 94 rfl rfl (gi_cons 95 rfl rfl (gi_cons 96 rfl rfl (gi_cons 97 rfl rfl (gi_cons 98 rfl rfl (gi_cons 99 rfl rfl (gi_cons 100 rfl rfl (gi_cons 101 rfl rfl (gi_cons 102 rfl rfl (gi_cons 103 rfl rfl (gi_cons 9 rfl rfl (gi_cons 104 rfl rfl (gi_cons 105 rfl rfl (gi_cons 106 rfl rfl (gi_cons 107 rfl rfl (gi_cons 108 rfl rfl (gi_cons 109 rfl rfl (gi_cons 110 rfl rfl (gi_cons 111 rfl rfl (gi_cons 112 rfl rfl (gi_cons 113 rfl rfl (gi_cons 114 rfl rfl (gi_cons 115 rfl rfl (gi_cons 116 rfl rfl (gi_cons 117 rfl rfl (gi_cons 118 rfl rfl (gi_cons 119 rfl rfl (gi_cons 120 rfl rfl (gi_cons 121 rfl rfl (gi_cons 122 rfl rfl (gi_cons 123 rfl rfl (gi_cons 124 rfl rfl (gi_cons 125 rfl rfl (gi_cons 126 rfl rfl (gi_cons 127 rfl rfl (gi_cons 128 rfl rfl (gi_cons 129 rfl rfl (gi_cons 130 rfl rfl (gi_cons 131 rfl rfl (gi_cons 132 rfl rfl (gi_cons 133 rfl rfl (gi_cons 134 rfl rfl (gi_cons 135 rfl rfl (gi_cons 136 rfl rfl (gi_cons 137 rfl rfl (gi_cons 138 rfl rfl (gi_cons 11 rfl rfl (gi_cons 139 rfl rfl (gi_cons 140 rfl rfl (gi_cons 3 rfl rfl (gi_cons 141 rfl rfl (gi_cons 142 rfl rfl (gi_cons 143 rfl rfl (gi_cons 144 rfl rfl (gi_cons 145 rfl rfl (gi_cons 146 rfl rfl (gi_cons 155 rfl rfl (gi_cons 156 rfl rfl (gi_cons 157 rfl rfl (gi_cons 158 rfl rfl (gi_cons 159 rfl rfl (gi_cons 160 rfl rfl (gi_cons 161 rfl rfl (gi_cons 162 rfl rfl (gi_cons 163 rfl rfl (gi_cons 164 rfl rfl (gi_cons 165 rfl rfl (gi_cons 166 rfl rfl (gi_cons 167 rfl rfl (gi_cons 168 rfl rfl (gi_cons 169 rfl rfl (gi_cons 170 rfl rfl (gi_cons 171 rfl rfl (gi_cons 172 rfl rfl (gi_cons 180 rfl rfl (gi_cons 181 rfl rfl (gi_cons 182 rfl rfl (gi_cons 183 rfl rfl (gi_cons 184 rfl rfl (gi_cons 185 rfl rfl (gi_cons 186 rfl rfl (gi_cons 187 rfl rfl (gi_cons 188 rfl rfl (gi_cons 189 rfl rfl (gi_cons 190 rfl rfl (gi_cons 191 rfl rfl (gi_cons 192 rfl rfl (gi_cons 193 rfl rfl (gi_cons 194 rfl rfl (gi_cons 173 rfl rfl (gi_cons 174 rfl rfl (gi_cons 175 rfl rfl (gi_cons 176 rfl rfl (gi_cons 177 rfl rfl (gi_cons 178 rfl rfl (gi_cons 179 rfl rfl gi_nil))))))))))))))))))))))))))))))))))))))))))))))))))))))))))))))))))))))))))))))))))))))))))))))))))))))))))))))))))))))))))))))))))))))))))))))))))))))))))))))))))))))))))))))))
set_option maxRecDepth 20000 in
theorem gX10_tree_X10_readData : GoodIn wsX10_tree (wsV RX10 131 RX10 yX10_readData wsX10_readData) := goodIn_app (goodIn_of _ (by decide +kernel)) ggX10_tree_X10_readData
set_option maxRecDepth 100000 in
theorem ggX10_tree_X9_become : GoodIn wsX10_tree wsX9_become := (gi_cons 150 rfl rfl (gi_cons 68 rfl rfl (gi_cons 110 rfl rfl (gi_cons 151 rfl rfl (gi_cons 152 rfl rfl (gi_cons 153 rfl rfl (gi_cons 154 rfl rfl (gi_cons 111 rfl rfl (gi_cons 112 rfl rfl (gi_cons 113 rfl rfl (gi_cons 190 rfl rfl (gi_cons 191 rfl rfl (gi_cons 192 rfl rfl (gi_cons 193 rfl rfl (gi_cons 194 rfl rfl gi_nil)))))))))))))))
set_option maxRecDepth 20000 in
theorem gX10_tree_X9_become : GoodIn wsX10_tree (wsV RX10 135 RX9 yX9_become wsX9_become) := goodIn_app (goodIn_of _ (by decide +kernel)) ggX10_tree_X9_become
theorem dX10_tree_0 : decode cX10_tree 0 = .ok (.aload_n 0, 1) := by decide +kernel
theorem dX10_tree_1 : decode cX10_tree 1 = .ok (.iload_n 1, 1) := by decide +kernel
theorem dX10_tree_2 : decode cX10_tree 2 = .ok (.invokevirtual 120, 3) := by decide +kernel
theorem dX10_tree_5 : decode cX10_tree 5 = .ok (.ifCond .ne 13, 3) := by decide +kernel
theorem dX10_tree_8 : decode cX10_tree 8 = .ok (.new 124, 3) := by decide +kernel
theorem dX10_tree_11 : decode cX10_tree 11 = .ok (.dup, 1) := by decide +kernel
theorem dX10_tree_12 : decode cX10_tree 12 = .ok (.ldc 126, 2) := by decide +kernel
theorem dX10_tree_14 : decode cX10_tree 14 = .ok (.invokespecial 128, 3) := by decide +kernel
theorem dX10_tree_17 : decode cX10_tree 17 = .ok (.athrow, 1) := by decide +kernel
theorem dX10_tree_18 : decode cX10_tree 18 = .ok (.aload_n 0, 1) := by decide +kernel
theorem dX10_tree_19 : decode cX10_tree 19 = .ok (.iload_n 1, 1) := by decide +kernel
theorem dX10_tree_20 : decode cX10_tree 20 = .ok (.invokevirtual 131, 3) := by decide +kernel
theorem dX10_tree_23 : decode cX10_tree 23 = .ok (.istore_n 2, 1) := by decide +kernel
theorem dX10_tree_24 : decode cX10_tree 24 = .ok (.iload_n 2, 1) := by decide +kernel
theorem dX10_tree_25 : decode cX10_tree 25 = .ok (.ifCond .ne 38, 3) := by decide +kernel
theorem dX10_tree_28 : decode cX10_tree 28 = .ok (.aload_n 0, 1) := by decide +kernel
theorem dX10_tree_29 : decode cX10_tree 29 = .ok (.getfield 63, 3) := by decide +kernel
theorem dX10_tree_32 : decode cX10_tree 32 = .ok (.getfield 107, 3) := by decide +kernel
theorem dX10_tree_35 : decode cX10_tree 35 = .ok (.aload_n 0, 1) := by decide +kernel
theorem dX10_tree_36 : decode cX10_tree 36 = .ok (.getfield 56, 3) := by decide +kernel
theorem dX10_tree_39 : decode cX10_tree 39 = .ok (.invokevirtual 135, 3) := by decide +kernel
theorem dX10_tree_42 : decode cX10_tree 42 = .ok (.aload_n 0, 1) := by decide +kernel
theorem dX10_tree_43 : decode cX10_tree 43 = .ok (.getfield 63, 3) := by decide +kernel
theorem dX10_tree_46 : decode cX10_tree 46 = .ok (.iconst 0, 1) := by decide +kernel
theorem dX10_tree_47 : decode cX10_tree 47 = .ok (.putfield 139, 3) := by decide +kernel
theorem dX10_tree_50 : decode cX10_tree 50 = .ok (.aload_n 0, 1) := by decide +kernel
theorem dX10_tree_51 : decode cX10_tree 51 = .ok (.getfield 63, 3) := by decide +kernel
theorem dX10_tree_54 : decode cX10_tree 54 = .ok (.iconst 0, 1) := by decide +kernel
theorem dX10_tree_55 : decode cX10_tree 55 = .ok (.putfield 142, 3) := by decide +kernel
theorem dX10_tree_58 : decode cX10_tree 58 = .ok (.aload_n 0, 1) := by decide +kernel
theorem dX10_tree_59 : decode cX10_tree 59 = .ok (.iconst 0, 1) := by decide +kernel
theorem dX10_tree_60 : decode cX10_tree 60 = .ok (.putfield 145, 3) := by decide +kernel
theorem dX10_tree_63 : decode cX10_tree 63 = .ok (.iload_n 2, 1) := by decide +kernel
theorem dX10_tree_64 : decode cX10_tree 64 = .ok (.ireturn, 1) := by decide +kernel
