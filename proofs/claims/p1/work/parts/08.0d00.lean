set_option maxRecDepth 100000 in
theorem ggX0_moveThing_X9_has : GoodIn wsX0_moveThing wsX9_has := (gi_cons 7 rfl rfl (gi_cons 8 rfl rfl (gi_cons 9 rfl rfl (gi_cons 114 rfl rfl (gi_cons 115 rfl rfl (gi_cons 116 rfl rfl (gi_cons 117 rfl rfl (gi_cons 118 rfl rfl gi_nil))))))))
set_option maxRecDepth 20000 in
theorem gX0_moveThing_X9_has : GoodIn wsX0_moveThing (wsV RX0 159 RX9 yX9_has wsX9_has) := goodIn_app (goodIn_of _ (by decide +kernel)) ggX0_moveThing_X9_has
theorem dX0_moveThing_0 : decode cX0_moveThing 0 = .ok (.aload_n 0, 1) := by decide +kernel
theorem dX0_moveThing_1 : decode cX0_moveThing 1 = .ok (.getfield 27, 3) := by decide +kernel
theorem dX0_moveThing_4 : decode cX0_moveThing 4 = .ok (.getfield 44, 3) := by decide +kernel
theorem dX0_moveThing_7 : decode cX0_moveThing 7 = .ok (.astore 4, 2) := by decide +kernel
theorem dX0_moveThing_9 : decode cX0_moveThing 9 = .ok (.iload_n 1, 1) := by decide +kernel
theorem dX0_moveThing_10 : decode cX0_moveThing 10 = .ok (.ifCond .eq 21, 3) := by decide +kernel
theorem dX0_moveThing_13 : decode cX0_moveThing 13 = .ok (.aload 4, 2) := by decide +kernel
theorem dX0_moveThing_15 : decode cX0_moveThing 15 = .ok (.iload_n 1, 1) := by decide +kernel
theorem dX0_moveThing_16 : decode cX0_moveThing 16 = .ok (.invokevirtual 159, 3) := by decide +kernel
theorem dX0_moveThing_19 : decode cX0_moveThing 19 = .ok (.ifCond .eq 12, 3) := by decide +kernel
theorem dX0_moveThing_31 : decode cX0_moveThing 31 = .ok (.iconst (-1), 1) := by decide +kernel
theorem dX0_moveThing_32 : decode cX0_moveThing 32 = .ok (.ireturn, 1) := by decide +kernel
theorem dX0_layOn_0 : decode cX0_layOn 0 = .ok (.aload_n 1, 1) := by decide +kernel
theorem dX0_layOn_1 : decode cX0_layOn 1 = .ok (.getfield 172, 3) := by decide +kernel
theorem dX0_layOn_4 : decode cX0_layOn 4 = .ok (.iconst 1, 1) := by decide +kernel
theorem dX0_layOn_5 : decode cX0_layOn 5 = .ok (.if_icmp .ge 5, 3) := by decide +kernel
theorem dX0_layOn_8 : decode cX0_layOn 8 = .ok (.iconst (-1), 1) := by decide +kernel
theorem dX0_layOn_9 : decode cX0_layOn 9 = .ok (.ireturn, 1) := by decide +kernel
theorem dX6_refuse_0 : decode cX6_refuse 0 = .ok (.iload_n 1, 1) := by decide +kernel
theorem dX6_refuse_1 : decode cX6_refuse 1 = .ok (.ifCond .lt 22, 3) := by decide +kernel
theorem dX6_refuse_4 : decode cX6_refuse 4 = .ok (.iload_n 1, 1) := by decide +kernel
theorem dX6_refuse_5 : decode cX6_refuse 5 = .ok (.aload_n 0, 1) := by decide +kernel
theorem dX6_refuse_6 : decode cX6_refuse 6 = .ok (.getfield 32, 3) := by decide +kernel
theorem dX6_refuse_9 : decode cX6_refuse 9 = .ok (.arraylength, 1) := by decide +kernel
theorem dX6_refuse_10 : decode cX6_refuse 10 = .ok (.if_icmp .ge 13, 3) := by decide +kernel
theorem dX6_refuse_13 : decode cX6_refuse 13 = .ok (.aload_n 0, 1) := by decide +kernel
theorem dX6_refuse_14 : decode cX6_refuse 14 = .ok (.getfield 32, 3) := by decide +kernel
theorem dX6_refuse_17 : decode cX6_refuse 17 = .ok (.iload_n 1, 1) := by decide +kernel
theorem dX6_refuse_18 : decode cX6_refuse 18 = .ok (.dup2, 1) := by decide +kernel
theorem dX6_refuse_19 : decode cX6_refuse 19 = .ok (.iaload, 1) := by decide +kernel
theorem dX6_refuse_20 : decode cX6_refuse 20 = .ok (.iconst 1, 1) := by decide +kernel
theorem dX6_refuse_21 : decode cX6_refuse 21 = .ok (.iadd, 1) := by decide +kernel
theorem dX6_refuse_22 : decode cX6_refuse 22 = .ok (.iastore, 1) := by decide +kernel
theorem dX6_refuse_23 : decode cX6_refuse 23 = .ok (.return_, 1) := by decide +kernel
theorem dX6_refusedOf_0 : decode cX6_refusedOf 0 = .ok (.iload_n 1, 1) := by decide +kernel
theorem dX6_refusedOf_1 : decode cX6_refusedOf 1 = .ok (.ifCond .lt 12, 3) := by decide +kernel
theorem dX6_refusedOf_4 : decode cX6_refusedOf 4 = .ok (.iload_n 1, 1) := by decide +kernel
theorem dX6_refusedOf_5 : decode cX6_refusedOf 5 = .ok (.aload_n 0, 1) := by decide +kernel
theorem dX6_refusedOf_6 : decode cX6_refusedOf 6 = .ok (.getfield 32, 3) := by decide +kernel
theorem dX6_refusedOf_9 : decode cX6_refusedOf 9 = .ok (.arraylength, 1) := by decide +kernel
theorem dX6_refusedOf_10 : decode cX6_refusedOf 10 = .ok (.if_icmp .lt 7, 3) := by decide +kernel
theorem dX6_refusedOf_17 : decode cX6_refusedOf 17 = .ok (.aload_n 0, 1) := by decide +kernel
theorem dX6_refusedOf_18 : decode cX6_refusedOf 18 = .ok (.getfield 32, 3) := by decide +kernel
theorem dX6_refusedOf_21 : decode cX6_refusedOf 21 = .ok (.iload_n 1, 1) := by decide +kernel
theorem dX6_refusedOf_22 : decode cX6_refusedOf 22 = .ok (.iaload, 1) := by decide +kernel
theorem dX6_refusedOf_23 : decode cX6_refusedOf 23 = .ok (.ireturn, 1) := by decide +kernel
theorem dX6_stepBack_0 : decode cX6_stepBack 0 = .ok (.aload_n 0, 1) := by decide +kernel
theorem dX6_stepBack_1 : decode cX6_stepBack 1 = .ok (.getfield 35, 3) := by decide +kernel
theorem dX6_stepBack_4 : decode cX6_stepBack 4 = .ok (.iconst 1, 1) := by decide +kernel
theorem dX6_stepBack_5 : decode cX6_stepBack 5 = .ok (.if_icmp .lt 12, 3) := by decide +kernel
theorem dX6_stepBack_17 : decode cX6_stepBack 17 = .ok (.iconst (-1), 1) := by decide +kernel
theorem dX6_stepBack_18 : decode cX6_stepBack 18 = .ok (.ireturn, 1) := by decide +kernel
theorem dX6_notes_0 : decode cX6_notes 0 = .ok (.aload_n 0, 1) := by decide +kernel
theorem dX6_notes_1 : decode cX6_notes 1 = .ok (.getfield 46, 3) := by decide +kernel
theorem dX6_notes_4 : decode cX6_notes 4 = .ok (.ifCond .lt 12, 3) := by decide +kernel
theorem dX6_notes_7 : decode cX6_notes 7 = .ok (.aload_n 0, 1) := by decide +kernel
theorem dX6_notes_8 : decode cX6_notes 8 = .ok (.getfield 46, 3) := by decide +kernel
theorem dX6_notes_11 : decode cX6_notes 11 = .ok (.bipush 8, 2) := by decide +kernel
theorem dX6_notes_13 : decode cX6_notes 13 = .ok (.if_icmp .lt 5, 3) := by decide +kernel
theorem dX6_notes_18 : decode cX6_notes 18 = .ok (.aload_n 0, 1) := by decide +kernel
theorem dX6_notes_19 : decode cX6_notes 19 = .ok (.getfield 24, 3) := by decide +kernel
theorem dX6_notes_22 : decode cX6_notes 22 = .ok (.aload_n 0, 1) := by decide +kernel
theorem dX6_notes_23 : decode cX6_notes 23 = .ok (.getfield 46, 3) := by decide +kernel
theorem dX6_notes_26 : decode cX6_notes 26 = .ok (.iload_n 1, 1) := by decide +kernel
theorem dX6_notes_27 : decode cX6_notes 27 = .ok (.iastore, 1) := by decide +kernel
theorem dX6_notes_28 : decode cX6_notes 28 = .ok (.aload_n 0, 1) := by decide +kernel
theorem dX6_notes_29 : decode cX6_notes 29 = .ok (.getfield 28, 3) := by decide +kernel
theorem dX6_notes_32 : decode cX6_notes 32 = .ok (.aload_n 0, 1) := by decide +kernel
theorem dX6_notes_33 : decode cX6_notes 33 = .ok (.getfield 46, 3) := by decide +kernel
theorem dX6_notes_36 : decode cX6_notes 36 = .ok (.iload_n 2, 1) := by decide +kernel
theorem dX6_notes_37 : decode cX6_notes 37 = .ok (.bastore, 1) := by decide +kernel
theorem dX6_notes_38 : decode cX6_notes 38 = .ok (.aload_n 0, 1) := by decide +kernel
theorem dX6_notes_39 : decode cX6_notes 39 = .ok (.dup, 1) := by decide +kernel
theorem dX6_notes_40 : decode cX6_notes 40 = .ok (.getfield 46, 3) := by decide +kernel
theorem dX6_notes_43 : decode cX6_notes 43 = .ok (.iconst 1, 1) := by decide +kernel
theorem dX6_notes_44 : decode cX6_notes 44 = .ok (.iadd, 1) := by decide +kernel
theorem dX6_notes_45 : decode cX6_notes 45 = .ok (.putfield 46, 3) := by decide +kernel
theorem dX6_notes_48 : decode cX6_notes 48 = .ok (.iconst 1, 1) := by decide +kernel
theorem dX6_notes_49 : decode cX6_notes 49 = .ok (.ireturn, 1) := by decide +kernel
set_option maxRecDepth 100000 in
theorem ggX10_feed_X10_layBytes : GoodIn wsX10_feed wsX10_layBytes := (gi_cons 6 rfl rfl (gi_cons 1 rfl rfl (gi_cons 7 rfl rfl (gi_cons 8 rfl rfl (gi_cons 9 rfl rfl (gi_cons 10 rfl rfl (gi_cons 11 rfl rfl (gi_cons 12 rfl rfl (gi_cons 13 rfl rfl (gi_cons 14 rfl rfl (gi_cons 15 rfl rfl (gi_cons 16 rfl rfl (gi_cons 17 rfl rfl (gi_cons 18 rfl rfl (gi_cons 19 rfl rfl (gi_cons 20 rfl rfl (gi_cons 21 rfl rfl (gi_cons 22 rfl rfl (gi_cons 23 rfl rfl (gi_cons 24 rfl rfl (gi_cons 25 rfl rfl gi_nil)))))))))))))))))))))
set_option maxRecDepth 20000 in
theorem gX10_feed_X10_layBytes : GoodIn wsX10_feed (wsV RX10 117 RX10 yX10_layBytes wsX10_layBytes) := goodIn_app (goodIn_of _ (by decide +kernel)) ggX10_feed_X10_layBytes
theorem dX10_feed_0 : decode cX10_feed 0 = .ok (.aload_n 0, 1) := by decide +kernel
theorem dX10_feed_1 : decode cX10_feed 1 = .ok (.getfield 114, 3) := by decide +kernel
theorem dX10_feed_4 : decode cX10_feed 4 = .ok (.bipush 20, 2) := by decide +kernel
theorem dX10_feed_6 : decode cX10_feed 6 = .ok (.iadd, 1) := by decide +kernel
theorem dX10_feed_7 : decode cX10_feed 7 = .ok (.sipush 400, 3) := by decide +kernel
theorem dX10_feed_10 : decode cX10_feed 10 = .ok (.if_icmp .le 5, 3) := by decide +kernel
theorem dX10_feed_15 : decode cX10_feed 15 = .ok (.aload_n 0, 1) := by decide +kernel
theorem dX10_feed_16 : decode cX10_feed 16 = .ok (.iload_n 1, 1) := by decide +kernel
theorem dX10_feed_17 : decode cX10_feed 17 = .ok (.invokevirtual 117, 3) := by decide +kernel
theorem dX10_feed_20 : decode cX10_feed 20 = .ok (.aload_n 0, 1) := by decide +kernel
theorem dX10_feed_21 : decode cX10_feed 21 = .ok (.iload_n 2, 1) := by decide +kernel
theorem dX10_feed_22 : decode cX10_feed 22 = .ok (.invokevirtual 117, 3) := by decide +kernel
theorem dX10_feed_25 : decode cX10_feed 25 = .ok (.aload_n 0, 1) := by decide +kernel
theorem dX10_feed_26 : decode cX10_feed 26 = .ok (.iload_n 3, 1) := by decide +kernel
theorem dX10_feed_27 : decode cX10_feed 27 = .ok (.invokevirtual 117, 3) := by decide +kernel
theorem dX10_feed_30 : decode cX10_feed 30 = .ok (.aload_n 0, 1) := by decide +kernel
theorem dX10_feed_31 : decode cX10_feed 31 = .ok (.iload 4, 2) := by decide +kernel
theorem dX10_feed_33 : decode cX10_feed 33 = .ok (.invokevirtual 117, 3) := by decide +kernel
theorem dX10_feed_36 : decode cX10_feed 36 = .ok (.aload_n 0, 1) := by decide +kernel
theorem dX10_feed_37 : decode cX10_feed 37 = .ok (.iload 5, 2) := by decide +kernel
theorem dX10_feed_39 : decode cX10_feed 39 = .ok (.invokevirtual 117, 3) := by decide +kernel
theorem dX10_feed_42 : decode cX10_feed 42 = .ok (.aload_n 0, 1) := by decide +kernel
theorem dX10_feed_43 : decode cX10_feed 43 = .ok (.getfield 114, 3) := by decide +kernel
theorem dX10_feed_46 : decode cX10_feed 46 = .ok (.ireturn, 1) := by decide +kernel
theorem dX10_fault_0 : decode cX10_fault 0 = .ok (.aload_n 0, 1) := by decide +kernel
theorem dX10_fault_1 : decode cX10_fault 1 = .ok (.getfield 13, 3) := by decide +kernel
theorem dX10_fault_4 : decode cX10_fault 4 = .ok (.ireturn, 1) := by decide +kernel
set_option maxRecDepth 100000 in
theorem ggX10_add_X10_adding : GoodIn wsX10_add wsX10_adding := (gi_cons 5 rfl rfl (gi_cons 6 rfl rfl (gi_cons 7 rfl rfl (gi_cons 8 rfl rfl (gi_cons 9 rfl rfl (gi_cons 10 rfl rfl (gi_cons 4 rfl rfl (gi_cons 11 rfl rfl (gi_cons 12 rfl rfl (gi_cons 13 rfl rfl (gi_cons 14 rfl rfl (gi_cons 15 rfl rfl (gi_cons 16 rfl rfl (gi_cons 17 rfl rfl (gi_cons 18 rfl rfl (gi_cons 19 rfl rfl (gi_cons 20 rfl rfl (gi_cons 21 rfl rfl (gi_cons 22 rfl rfl (gi_cons 23 rfl rfl (gi_cons 24 rfl rfl (gi_cons 25 rfl rfl (gi_cons 26 rfl rfl (gi_cons 27 rfl rfl (gi_cons 28 rfl rfl (gi_cons 29 rfl rfl (gi_cons 30 rfl rfl (gi_cons 31 rfl rfl (gi_cons 32 rfl rfl (gi_cons 33 rfl rfl (gi_cons 34 rfl rfl (gi_cons 35 rfl rfl (gi_cons 36 rfl rfl (gi_cons 37 rfl rfl (gi_cons 38 rfl rfl (gi_cons 39 rfl rfl (gi_cons 40 rfl rfl (gi_cons 41 rfl rfl (gi_cons 42 rfl rfl (gi_cons 43 rfl rfl (gi_cons 44 rfl rfl (gi_cons 45 rfl rfl (gi_cons 46 rfl rfl (gi_cons 47 rfl rfl (gi_cons 48 rfl rfl (gi_cons 49 rfl rfl (gi_cons 50 rfl rfl (gi_cons 51 rfl rfl (gi_cons 52 rfl rfl (gi_cons 53 rfl rfl (gi_cons 54 rfl rfl (gi_cons 55 rfl rfl (gi_cons 56 rfl rfl (gi_cons 57 rfl rfl (gi_cons 58 rfl rfl (gi_cons 59 rfl rfl (gi_cons 60 rfl rfl (gi_cons 61 rfl rfl (gi_cons 62 rfl rfl (gi_cons 63 rfl rfl (gi_cons 64 rfl rfl (gi_cons 65 rfl rfl (gi_cons 66 rfl rfl (gi_cons 67 rfl rfl (gi_cons 68 rfl rfl (gi_cons 69 rfl rfl (gi_cons 70 rfl rfl (gi_cons 71 rfl rfl (gi_cons 72 rfl rfl (gi_cons 73 rfl rfl (gi_cons 74 rfl rfl (gi_cons 75 rfl rfl (gi_cons 76 rfl rfl (gi_cons 77 rfl rfl (gi_cons 78 rfl rfl (gi_cons 79 rfl rfl (gi_cons 80 rfl rfl (gi_cons 81 rfl rfl (gi_cons 82 rfl rfl (gi_cons 83 rfl rfl (gi_cons 84 rfl rfl (gi_cons 85 rfl rfl (gi_cons 86 rfl rfl (gi_cons 87 rfl rfl (gi_cons 88 rfl rfl (gi_cons 89 rfl rfl (gi_cons 90 rfl rfl (gi_cons 91 rfl rfl (gi_cons 92 rfl rfl (gi_cons 93 rfl rfl (gi_cons 94 rfl rfl (gi_cons 95 rfl rfl (gi_cons 96 rfl rfl (gi_cons 97 rfl rfl (gi_cons 98 rfl rfl (gi_cons 99 rfl rfl (gi_cons 100 rfl rfl (gi_cons 101 rfl rfl (gi_cons 102 rfl rfl (gi_cons 103 rfl rfl (gi_cons 104 rfl rfl (gi_cons 105 rfl rfl (gi_cons 106 rfl rfl (gi_cons 107 rfl rfl (gi_cons 108 rfl rfl (gi_cons 109 rfl rfl (gi_cons 110 rfl rfl (gi_cons 111 rfl rfl (gi_cons 112 rfl rfl (gi_cons 113 rfl rfl (gi_cons 114 rfl rfl (gi_cons 115 rfl rfl (gi_cons 116 rfl rfl (gi_cons 117 rfl rfl (gi_cons 118 rfl rfl (gi_cons 119 rfl rfl (gi_cons 120 rfl rfl (gi_cons 121 rfl rfl (gi_cons 122 rfl rfl (gi_cons 123 rfl rfl (gi_cons 124 rfl rfl (gi_cons 125 rfl rfl (gi_cons 126 rfl rfl (gi_cons 127 rfl rfl (gi_cons 128 rfl rfl (gi_cons 129 rfl rfl (gi_cons 130 rfl rfl (gi_cons 131 rfl rfl (gi_cons 132 rfl rfl (gi_cons 133 rfl rfl (gi_cons 134 rfl rfl (gi_cons 135 rfl rfl (gi_cons 136 rfl rfl (gi_cons 137 rfl rfl (gi_cons 138 rfl rfl (gi_cons 139 rfl rfl (gi_cons 140 rfl rfl (gi_cons 141 rfl rfl (gi_cons 142 rfl rfl (gi_cons 143 rfl rfl (gi_cons 144 rfl rfl (gi_cons 145 rfl rfl (gi_cons 146 rfl rfl (gi_cons 147 rfl rfl (gi_cons 148 rfl rfl (gi_cons 149 rfl rfl (gi_cons 150 rfl rfl (gi_cons 151 rfl rfl (gi_cons 152 rfl rfl (gi_cons 153 rfl rfl (gi_cons 154 rfl rfl (gi_cons 155 rfl rfl (gi_cons 156 rfl rfl (gi_cons 157 rfl rfl (gi_cons 158 rfl rfl (gi_cons 159 rfl rfl (gi_cons 160 rfl rfl (gi_cons 161 rfl rfl (gi_cons 162 rfl rfl (gi_cons 172 rfl rfl (gi_cons 173 rfl rfl (gi_cons 174 rfl rfl (gi_cons 175 rfl rfl (gi_cons 176 rfl rfl (gi_cons 177 rfl rfl (gi_cons 178 rfl rfl (gi_cons 179 rfl rfl (gi_cons 180 rfl rfl (gi_cons 181 rfl rfl (gi_cons 182 rfl rfl (gi_cons 183 rfl rfl (gi_cons 184 rfl rfl (gi_cons 185 rfl rfl (gi_cons 186 rfl rfl (gi_cons 187 rfl rfl (gi_cons 188 rfl rfl (gi_cons 189 rfl rfl (gi_cons 190 rfl rfl (gi_cons 191 rfl rfl (gi_cons 192 rfl rfl (gi_cons 193 rfl rfl (gi_cons 194 rfl rfl (gi_cons 195 rfl rfl (gi_cons 196 rfl rfl (gi_cons 197 rfl rfl (gi_cons 198 rfl rfl (gi_cons 199 rfl rfl (gi_cons 200 rfl rfl (gi_cons 201 rfl rfl (gi_cons 202 rfl rfl (gi_cons 203 rfl rfl (gi_cons 204 rfl rfl (gi_cons 205 rfl rfl (gi_cons 206 rfl rfl (gi_cons 207 rfl rfl (gi_cons 208 rfl rfl (gi_cons 209 rfl rfl (gi_cons 210 rfl rfl (gi_cons 211 rfl rfl (gi_cons 212 rfl rfl (gi_cons 213 rfl rfl (gi_cons 214 rfl rfl (gi_cons 215 rfl rfl (gi_cons 216 rfl rfl (gi_cons 217 rfl rfl (gi_cons 218 rfl rfl (gi_cons 219 rfl rfl gi_nil)))))))))))))))))))))))))))))))))))))))))))))))))))))))))))))))))))))))))))))))))))))))))))))))))))))))))))))))))))))))))))))))))))))))))))))))))))))))))))))))))))))))))))))))))))))))))))))))))))))))))))))))
set_option maxRecDepth 20000 in
theorem gX10_add_X10_adding : GoodIn wsX10_add (wsV RX10 324 RX10 yX10_adding wsX10_adding) := goodIn_app (goodIn_of _ (by decide +kernel)) ggX10_add_X10_adding
set_option maxRecDepth 100000 in
theorem ggX10_add_X10_actDone : GoodIn wsX10_add wsX10_actDone := (gi_cons 166 rfl rfl (gi_cons 7 rfl rfl (gi_cons 167 rfl rfl (gi_cons 168 rfl rfl (gi_cons 169 rfl rfl (gi_cons 137 rfl rfl (gi_cons 170 rfl rfl (gi_cons 171 rfl rfl (gi_cons 172 rfl rfl (gi_cons 173 rfl rfl (gi_cons 174 rfl rfl (gi_cons 175 rfl rfl (gi_cons 176 rfl rfl (gi_cons 177 rfl rfl (gi_cons 178 rfl rfl (gi_cons 179 rfl rfl (gi_cons 180 rfl rfl (gi_cons 181 rfl rfl (gi_cons 182 rfl rfl (gi_cons 183 rfl rfl (gi_cons 184 rfl rfl (gi_cons 185 rfl rfl (gi_cons 186 rfl rfl (gi_cons 187 rfl rfl (gi_cons 188 rfl rfl (gi_cons 189 rfl rfl (gi_cons 190 rfl rfl (gi_cons 191 rfl rfl (gi_cons 192 rfl rfl (gi_cons 193 rfl rfl (gi_cons 194 rfl rfl (gi_cons 195 rfl rfl (gi_cons 196 rfl rfl gi_nil)))))))))))))))))))))))))))))))))
set_option maxRecDepth 20000 in
theorem gX10_add_X10_actDone : GoodIn wsX10_add (wsV RX10 311 RX10 yX10_actDone wsX10_actDone) := goodIn_app (goodIn_of _ (by decide +kernel)) ggX10_add_X10_actDone
theorem dX10_add_0 : decode cX10_add 0 = .ok (.aload_n 0, 1) := by decide +kernel
theorem dX10_add_1 : decode cX10_add 1 = .ok (.aload_n 0, 1) := by decide +kernel
theorem dX10_add_2 : decode cX10_add 2 = .ok (.iload_n 1, 1) := by decide +kernel
theorem dX10_add_3 : decode cX10_add 3 = .ok (.iload_n 2, 1) := by decide +kernel
theorem dX10_add_4 : decode cX10_add 4 = .ok (.invokevirtual 324, 3) := by decide +kernel
theorem dX10_add_7 : decode cX10_add 7 = .ok (.invokevirtual 311, 3) := by decide +kernel
theorem dX10_add_10 : decode cX10_add 10 = .ok (.ireturn, 1) := by decide +kernel
set_option maxRecDepth 100000 in
theorem ggX10_change_X10_changing : GoodIn wsX10_change wsX10_changing := (gi_cons 5 rfl rfl (gi_cons 6 rfl rfl (gi_cons 7 rfl rfl (gi_cons 8 rfl rfl (gi_cons 9 rfl rfl (gi_cons 10 rfl rfl (gi_cons 4 rfl rfl (gi_cons 11 rfl rfl (gi_cons 12 rfl rfl (gi_cons 13 rfl rfl (gi_cons 14 rfl rfl (gi_cons 15 rfl rfl (gi_cons 16 rfl rfl (gi_cons 17 rfl rfl (gi_cons 18 rfl rfl (gi_cons 19 rfl rfl (gi_cons 20 rfl rfl (gi_cons 21 rfl rfl (gi_cons 22 rfl rfl (gi_cons 23 rfl rfl (gi_cons 24 rfl rfl (gi_cons 25 rfl rfl (gi_cons 26 rfl rfl (gi_cons 27 rfl rfl (gi_cons 28 rfl rfl (gi_cons 29 rfl rfl (gi_cons 30 rfl rfl (gi_cons 31 rfl rfl (gi_cons 32 rfl rfl (gi_cons 33 rfl rfl (gi_cons 34 rfl rfl (gi_cons 35 rfl rfl (gi_cons 36 rfl rfl (gi_cons 37 rfl rfl (gi_cons 38 rfl rfl (gi_cons 39 rfl rfl (gi_cons 40 rfl rfl (gi_cons 41 rfl rfl (gi_cons 42 rfl rfl (gi_cons 43 rfl rfl (gi_cons 44 rfl rfl (gi_cons 45 rfl rfl (gi_cons 46 rfl rfl (gi_cons 47 rfl rfl (gi_cons 48 rfl rfl (gi_cons 49 rfl rfl (gi_cons 50 rfl rfl (gi_cons 51 rfl rfl (gi_cons 52 rfl rfl (gi_cons 53 rfl rfl (gi_cons 54 rfl rfl (gi_cons 55 rfl rfl (gi_cons 56 rfl rfl (gi_cons 57 rfl rfl (gi_cons 58 rfl rfl (gi_cons 59 rfl rfl (gi_cons 60 rfl rfl (gi_cons 61 rfl rfl (gi_cons 62 rfl rfl (gi_cons 63 rfl rfl (gi_cons 64 rfl rfl (gi_cons 65 rfl rfl (gi_cons 66 rfl rfl (gi_cons 67 rfl rfl (gi_cons 68 rfl rfl (gi_cons 69 rfl rfl (gi_cons 70 rfl rfl (gi_cons 71 rfl rfl (gi_cons 72 rfl rfl (gi_cons 73 rfl rfl (gi_cons 74 rfl rfl (gi_cons 75 rfl rfl (gi_cons 76 rfl rfl (gi_cons 77 rfl rfl (gi_cons 78 rfl rfl (gi_cons 79 rfl rfl (gi_cons 80 rfl rfl (gi_cons 81 rfl rfl (gi_cons 82 rfl rfl (gi_cons 83 rfl rfl (gi_cons 84 rfl rfl (gi_cons 85 rfl rfl (gi_cons 86 rfl rfl (gi_cons 87 rfl rfl (gi_cons 88 rfl rfl (gi_cons 89 rfl rfl (gi_cons 90 rfl rfl (gi_cons 91 rfl rfl (gi_cons 92 rfl rfl (gi_cons 93 rfl rfl (gi_cons 94 rfl rfl (gi_cons 95 rfl rfl (gi_cons 96 rfl rfl (gi_cons 97 rfl rfl (gi_cons 98 rfl rfl (gi_cons 99 rfl rfl (gi_cons 100 rfl rfl (gi_cons 101 rfl rfl (gi_cons 102 rfl rfl (gi_cons 103 rfl rfl (gi_cons 104 rfl rfl (gi_cons 105 rfl rfl (gi_cons 106 rfl rfl (gi_cons 107 rfl rfl (gi_cons 108 rfl rfl (gi_cons 109 rfl rfl (gi_cons 110 rfl rfl (gi_cons 111 rfl rfl (gi_cons 112 rfl rfl (gi_cons 113 rfl rfl (gi_cons 114 rfl rfl (gi_cons 115 rfl rfl (gi_cons 116 rfl rfl (gi_cons 117 rfl rfl (gi_cons 118 rfl rfl (gi_cons 119 rfl rfl (gi_cons 120 rfl rfl (gi_cons 121 rfl rfl (gi_cons 122 rfl rfl (gi_cons 123 rfl rfl (gi_cons 124 rfl rfl (gi_cons 125 rfl rfl (gi_cons 126 rfl rfl (gi_cons 127 rfl rfl (gi_cons 128 rfl rfl (gi_cons 129 rfl rfl (gi_cons 130 rfl rfl (gi_cons 131 rfl rfl (gi_cons 132 rfl rfl (gi_cons 133 rfl rfl (gi_cons 134 rfl rfl (gi_cons 135 rfl rfl (gi_cons 136 rfl rfl (gi_cons 137 rfl rfl (gi_cons 138 rfl rfl (gi_cons 139 rfl rfl (gi_cons 140 rfl rfl (gi_cons 141 rfl rfl (gi_cons 142 rfl rfl (gi_cons 143 rfl rfl (gi_cons 144 rfl rfl (gi_cons 145 rfl rfl (gi_cons 146 rfl rfl (gi_cons 147 rfl rfl (gi_cons 148 rfl rfl (gi_cons 149 rfl rfl (gi_cons 150 rfl rfl (gi_cons 151 rfl rfl (gi_cons 152 rfl rfl (gi_cons 153 rfl rfl (gi_cons 154 rfl rfl (gi_cons 155 rfl rfl (gi_cons 156 rfl rfl (gi_cons 157 rfl rfl (gi_cons 158 rfl rfl (gi_cons 159 rfl rfl (gi_cons 160 rfl rfl (gi_cons 161 rfl rfl (gi_cons 162 rfl rfl (gi_cons 163 rfl rfl (gi_cons 164 rfl rfl (gi_cons 165 rfl rfl (gi_cons 166 rfl rfl (gi_cons 167 rfl rfl (gi_cons 168 rfl rfl (gi_cons 169 rfl rfl (gi_cons 170 rfl rfl (gi_cons 171 rfl rfl (gi_cons 172 rfl rfl (gi_cons 173 rfl rfl (gi_cons 174 rfl rfl (gi_cons 175 rfl rfl (gi_cons 176 rfl rfl (gi_cons 177 rfl rfl (gi_cons 178 rfl rfl (gi_cons 179 rfl rfl (gi_cons 180 rfl rfl (gi_cons 181 rfl rfl (gi_cons 182 rfl rfl (gi_cons 183 rfl rfl (gi_cons 184 rfl rfl (gi_cons 185 rfl rfl (gi_cons 186 rfl rfl (gi_cons 187 rfl rfl (gi_cons 188 rfl rfl (gi_cons 189 rfl rfl (gi_cons 190 rfl rfl (gi_cons 191 rfl rfl (gi_cons 192 rfl rfl (gi_cons 193 rfl rfl (gi_cons 194 rfl rfl (gi_cons 195 rfl rfl (gi_cons 196 rfl rfl (gi_cons 197 rfl rfl (gi_cons 198 rfl rfl (gi_cons 199 rfl rfl (gi_cons 200 rfl rfl (gi_cons 201 rfl rfl (gi_cons 202 rfl rfl (gi_cons 203 rfl rfl (gi_cons 204 rfl rfl (gi_cons 205 rfl rfl (gi_cons 206 rfl rfl (gi_cons 207 rfl rfl (gi_cons 208 rfl rfl (gi_cons 209 rfl rfl (gi_cons 210 rfl rfl (gi_cons 211 rfl rfl (gi_cons 212 rfl rfl (gi_cons 222 rfl rfl (gi_cons 223 rfl rfl (gi_cons 224 rfl rfl (gi_cons 225 rfl rfl (gi_cons 226 rfl rfl (gi_cons 227 rfl rfl (gi_cons 228 rfl rfl (gi_cons 229 rfl rfl (gi_cons 230 rfl rfl (gi_cons 231 rfl rfl (gi_cons 232 rfl rfl (gi_cons 233 rfl rfl (gi_cons 234 rfl rfl (gi_cons 235 rfl rfl (gi_cons 236 rfl rfl (gi_cons 237 rfl rfl (gi_cons 238 rfl rfl (gi_cons 239 rfl rfl (gi_cons 240 rfl rfl (gi_cons 241 rfl rfl (gi_cons 242 rfl rfl (gi_cons 243 rfl rfl (gi_cons 244 rfl rfl (gi_cons 245 rfl rfl (gi_cons 246 rfl rfl (gi_cons 247 rfl rfl (gi_cons 248 rfl rfl (gi_cons 249 rfl rfl (gi_cons 250 rfl rfl (gi_cons 251 rfl rfl (gi_cons 252 rfl rfl (gi_cons 253 rfl rfl (gi_cons 254 rfl rfl (gi_cons 255 rfl rfl (gi_cons 256 rfl rfl (gi_cons 257 rfl rfl (gi_cons 258 rfl rfl (gi_cons 259 rfl rfl (gi_cons 260 rfl rfl (gi_cons 261 rfl rfl (gi_cons 262 rfl rfl (gi_cons 263 rfl rfl (gi_cons 264 rfl rfl (gi_cons 265 rfl rfl (gi_cons 266 rfl rfl (gi_cons 267 rfl rfl (gi_cons 268 rfl rfl (gi_cons 269 rfl rfl gi_nil)))))))))))))))))))))))))))))))))))))))))))))))))))))))))))))))))))))))))))))))))))))))))))))))))))))))))))))))))))))))))))))))))))))))))))))))))))))))))))))))))))))))))))))))))))))))))))))))))))))))))))))))))))))))))))))))))))))))))))))))))))))))))))))))))
set_option maxRecDepth 20000 in
theorem gX10_change_X10_changing : GoodIn wsX10_change (wsV RX10 327 RX10 yX10_changing wsX10_changing) := goodIn_app (goodIn_of _ (by decide +kernel)) ggX10_change_X10_changing
set_option maxRecDepth 100000 in
theorem ggX10_change_X10_actDone : GoodIn wsX10_change wsX10_actDone := (gi_cons 216 rfl rfl (gi_cons 6 rfl rfl (gi_cons 217 rfl rfl (gi_cons 218 rfl rfl (gi_cons 219 rfl rfl (gi_cons 136 rfl rfl (gi_cons 220 rfl rfl (gi_cons 221 rfl rfl (gi_cons 222 rfl rfl (gi_cons 223 rfl rfl (gi_cons 224 rfl rfl (gi_cons 225 rfl rfl (gi_cons 226 rfl rfl (gi_cons 227 rfl rfl (gi_cons 228 rfl rfl (gi_cons 229 rfl rfl (gi_cons 230 rfl rfl (gi_cons 231 rfl rfl (gi_cons 232 rfl rfl (gi_cons 233 rfl rfl (gi_cons 234 rfl rfl (gi_cons 235 rfl rfl (gi_cons 236 rfl rfl (gi_cons 237 rfl rfl (gi_cons 238 rfl rfl (gi_cons 239 rfl rfl (gi_cons 240 rfl rfl (gi_cons 241 rfl rfl (gi_cons 242 rfl rfl (gi_cons 243 rfl rfl (gi_cons 244 rfl rfl (gi_cons 245 rfl rfl (gi_cons 246 rfl rfl gi_nil)))))))))))))))))))))))))))))))))
set_option maxRecDepth 20000 in
theorem gX10_change_X10_actDone : GoodIn wsX10_change (wsV RX10 311 RX10 yX10_actDone wsX10_actDone) := goodIn_app (goodIn_of _ (by decide +kernel)) ggX10_change_X10_actDone
theorem dX10_change_0 : decode cX10_change 0 = .ok (.aload_n 0, 1) := by decide +kernel
theorem dX10_change_1 : decode cX10_change 1 = .ok (.aload_n 0, 1) := by decide +kernel
theorem dX10_change_2 : decode cX10_change 2 = .ok (.iload_n 1, 1) := by decide +kernel
theorem dX10_change_3 : decode cX10_change 3 = .ok (.iload_n 2, 1) := by decide +kernel
theorem dX10_change_4 : decode cX10_change 4 = .ok (.invokevirtual 327, 3) := by decide +kernel
theorem dX10_change_7 : decode cX10_change 7 = .ok (.invokevirtual 311, 3) := by decide +kernel
theorem dX10_change_10 : decode cX10_change 10 = .ok (.ireturn, 1) := by decide +kernel
set_option maxRecDepth 100000 in
theorem ggX10_move_X0_moveThing : GoodIn wsX10_move wsX0_moveThing := (gi_cons 6 rfl rfl (gi_cons 7 rfl rfl (gi_cons 8 rfl rfl (gi_cons 9 rfl rfl (gi_cons 10 rfl rfl (gi_cons 11 rfl rfl (gi_cons 12 rfl rfl (gi_cons 13 rfl rfl (gi_cons 14 rfl rfl (gi_cons 15 rfl rfl (gi_cons 16 rfl rfl (gi_cons 17 rfl rfl (gi_cons 18 rfl rfl (gi_cons 19 rfl rfl (gi_cons 20 rfl rfl (gi_cons 21 rfl rfl (gi_cons 22 rfl rfl (gi_cons 23 rfl rfl (gi_cons 5 rfl rfl (gi_cons 24 rfl rfl (gi_cons 25 rfl rfl (gi_cons 26 rfl rfl (gi_cons 27 rfl rfl (gi_cons 28 rfl rfl (gi_cons 29 rfl rfl (gi_cons 30 rfl rfl (gi_cons 31 rfl rfl (gi_cons 32 rfl rfl (gi_cons 33 rfl rfl (gi_cons 34 rfl rfl (gi_cons 35 rfl rfl (gi_cons 36 rfl rfl (gi_cons 37 rfl rfl (gi_cons 38 rfl rfl (gi_cons 39 rfl rfl (gi_cons 40 rfl rfl (gi_cons 41 rfl rfl (gi_cons 42 rfl rfl (gi_cons 43 rfl rfl (gi_cons 44 rfl rfl (gi_cons 45 rfl rfl (gi_cons 46 rfl rfl (gi_cons 47 rfl rfl (gi_cons 48 rfl rfl (gi_cons 49 rfl rfl (gi_cons 50 rfl rfl (gi_cons 51 rfl rfl (gi_cons 52 rfl rfl (gi_cons 53 rfl rfl (gi_cons 54 rfl rfl (gi_cons 55 rfl rfl (gi_cons 56 rfl rfl (gi_cons 57 rfl rfl (gi_cons 58 rfl rfl (gi_cons 59 rfl rfl (gi_cons 60 rfl rfl (gi_cons 61 rfl rfl (gi_cons 62 rfl rfl (gi_cons 63 rfl rfl (gi_cons 64 rfl rfl (gi_cons 65 rfl rfl (gi_cons 66 rfl rfl (gi_cons 67 rfl rfl (gi_cons 68 rfl rfl (gi_cons 69 rfl rfl (gi_cons 70 rfl rfl (gi_cons 71 rfl rfl (gi_cons 72 rfl rfl (gi_cons 73 rfl rfl (gi_cons 74 rfl rfl (gi_cons 75 rfl rfl (gi_cons 76 rfl rfl (gi_cons 77 rfl rfl (gi_cons 78 rfl rfl (gi_cons 79 rfl rfl (gi_cons 80 rfl rfl (gi_cons 81 rfl rfl (gi_cons 82 rfl rfl (gi_cons 83 rfl rfl (gi_cons 84 rfl rfl (gi_cons 85 rfl rfl (gi_cons 86 rfl rfl (gi_cons 87 rfl rfl (gi_cons 88 rfl rfl (gi_cons 89 rfl rfl (gi_cons 90 rfl rfl (gi_cons 91 rfl rfl (gi_cons 92 rfl rfl (gi_cons 93 rfl rfl (gi_cons 94 rfl rfl (gi_cons 95 rfl rfl (gi_cons 96 rfl rfl (gi_cons 97 rfl rfl (gi_cons 98 rfl rfl (gi_cons 99 rfl rfl (gi_cons 100 rfl rfl (gi_cons 101 rfl rfl (gi_cons 102 rfl rfl (gi_cons 103 rfl rfl (gi_cons 104 rfl rfl (gi_cons 105 rfl rfl (gi_cons 106 rfl rfl (gi_cons 107 rfl rfl (gi_cons 136 rfl rfl (gi_cons 137 rfl rfl (gi_cons 138 rfl rfl (gi_cons 139 rfl rfl (gi_cons 140 rfl rfl (gi_cons 141 rfl rfl (gi_cons 142 rfl rfl (gi_cons 143 rfl rfl (gi_cons 144 rfl rfl (gi_cons 145 rfl rfl (gi_cons 146 rfl rfl (gi_cons 147 rfl rfl (gi_cons 148 rfl rfl (gi_cons 149 rfl rfl (gi_cons 150 rfl rfl (gi_cons 151 rfl rfl gi_nil)))))))))))))))))))))))))))))))))))))))))))))))))))))))))))))))))))))))))))))))))))))))))))))))))))))))))))))))))))))))
set_option maxRecDepth 20000 in
theorem gX10_move_X0_moveThing : GoodIn wsX10_move (wsV RX10 330 RX0 yX0_moveThing wsX0_moveThing) := goodIn_app (goodIn_of _ (by decide +kernel)) ggX10_move_X0_moveThing
set_option maxRecDepth 100000 in
theorem ggX10_move_X10_actDone : GoodIn wsX10_move wsX10_actDone := (gi_cons 111 rfl rfl (gi_cons 112 rfl rfl (gi_cons 113 rfl rfl (gi_cons 114 rfl rfl (gi_cons 115 rfl rfl (gi_cons 89 rfl rfl (gi_cons 116 rfl rfl (gi_cons 117 rfl rfl (gi_cons 118 rfl rfl (gi_cons 119 rfl rfl (gi_cons 120 rfl rfl (gi_cons 121 rfl rfl (gi_cons 122 rfl rfl (gi_cons 123 rfl rfl (gi_cons 124 rfl rfl (gi_cons 125 rfl rfl (gi_cons 126 rfl rfl (gi_cons 127 rfl rfl (gi_cons 128 rfl rfl (gi_cons 129 rfl rfl (gi_cons 130 rfl rfl (gi_cons 131 rfl rfl (gi_cons 132 rfl rfl (gi_cons 133 rfl rfl (gi_cons 134 rfl rfl (gi_cons 135 rfl rfl (gi_cons 140 rfl rfl (gi_cons 141 rfl rfl (gi_cons 142 rfl rfl (gi_cons 143 rfl rfl (gi_cons 144 rfl rfl (gi_cons 145 rfl rfl (gi_cons 146 rfl rfl gi_nil)))))))))))))))))))))))))))))))))
set_option maxRecDepth 20000 in
theorem gX10_move_X10_actDone : GoodIn wsX10_move (wsV RX10 311 RX10 yX10_actDone wsX10_actDone) := goodIn_app (goodIn_of _ (by decide +kernel)) ggX10_move_X10_actDone
theorem dX10_move_0 : decode cX10_move 0 = .ok (.aload_n 0, 1) := by decide +kernel
theorem dX10_move_1 : decode cX10_move 1 = .ok (.aload_n 0, 1) := by decide +kernel
theorem dX10_move_2 : decode cX10_move 2 = .ok (.getfield 75, 3) := by decide +kernel
theorem dX10_move_5 : decode cX10_move 5 = .ok (.iload_n 1, 1) := by decide +kernel
theorem dX10_move_6 : decode cX10_move 6 = .ok (.iload_n 2, 1) := by decide +kernel
theorem dX10_move_7 : decode cX10_move 7 = .ok (.iload_n 3, 1) := by decide +kernel
theorem dX10_move_8 : decode cX10_move 8 = .ok (.invokevirtual 330, 3) := by decide +kernel
theorem dX10_move_11 : decode cX10_move 11 = .ok (.invokevirtual 311, 3) := by decide +kernel
theorem dX10_move_14 : decode cX10_move 14 = .ok (.ireturn, 1) := by decide +kernel
theorem dX10_keep_0 : decode cX10_keep 0 = .ok (.aload_n 0, 1) := by decide +kernel
theorem dX10_keep_1 : decode cX10_keep 1 = .ok (.getfield 145, 3) := by decide +kernel
theorem dX10_keep_4 : decode cX10_keep 4 = .ok (.ifCond .eq 27, 3) := by decide +kernel
theorem dX10_keep_31 : decode cX10_keep 31 = .ok (.iconst (-1), 1) := by decide +kernel
theorem dX10_keep_32 : decode cX10_keep 32 = .ok (.ireturn, 1) := by decide +kernel
set_option maxRecDepth 100000 in
theorem ggX10_apply_X0_layOn : GoodIn wsX10_apply wsX0_layOn := (gi_cons 7 rfl rfl (gi_cons 8 rfl rfl (gi_cons 9 rfl rfl (gi_cons 10 rfl rfl (gi_cons 11 rfl rfl (gi_cons 12 rfl rfl (gi_cons 13 rfl rfl (gi_cons 14 rfl rfl (gi_cons 15 rfl rfl (gi_cons 16 rfl rfl (gi_cons 17 rfl rfl (gi_cons 18 rfl rfl (gi_cons 19 rfl rfl (gi_cons 20 rfl rfl (gi_cons 21 rfl rfl (gi_cons 22 rfl rfl (gi_cons 23 rfl rfl (gi_cons 24 rfl rfl (gi_cons 25 rfl rfl (gi_cons 26 rfl rfl (gi_cons 27 rfl rfl (gi_cons 28 rfl rfl (gi_cons 29 rfl rfl (gi_cons 30 rfl rfl (gi_cons 31 rfl rfl (gi_cons 32 rfl rfl (gi_cons 33 rfl rfl (gi_cons 34 rfl rfl (gi_cons 35 rfl rfl (gi_cons 36 rfl rfl (gi_cons 37 rfl rfl (gi_cons 38 rfl rfl (gi_cons 39 rfl rfl (gi_cons 40 rfl rfl (gi_cons 41 rfl rfl (gi_cons 42 rfl rfl (gi_cons 43 rfl rfl (gi_cons 44 rfl rfl (gi_cons 45 rfl rfl (gi_cons 46 rfl rfl (gi_cons 47 rfl rfl (gi_cons 48 rfl rfl (gi_cons 49 rfl rfl (gi_cons 50 rfl rfl (gi_cons 51 rfl rfl (gi_cons 52 rfl rfl (gi_cons 53 rfl rfl (gi_cons 54 rfl rfl (gi_cons 55 rfl rfl (gi_cons 56 rfl rfl (gi_cons 57 rfl rfl (gi_cons 58 rfl rfl (gi_cons 59 rfl rfl (gi_cons 60 rfl rfl (gi_cons 61 rfl rfl (gi_cons 62 rfl rfl (gi_cons 63 rfl rfl (gi_cons 64 rfl rfl (gi_cons 65 rfl rfl (gi_cons 66 rfl rfl (gi_cons 67 rfl rfl (gi_cons 68 rfl rfl (gi_cons 69 rfl rfl (gi_cons 70 rfl rfl (gi_cons 71 rfl rfl (gi_cons 72 rfl rfl (gi_cons 73 rfl rfl (gi_cons 74 rfl rfl (gi_cons 75 rfl rfl (gi_cons 76 rfl rfl (gi_cons 77 rfl rfl (gi_cons 78 rfl rfl (gi_cons 79 rfl rfl (gi_cons 80 rfl rfl (gi_cons 81 rfl rfl (gi_cons 82 rfl rfl (gi_cons 83 rfl rfl (gi_cons 84 rfl rfl (gi_cons 85 rfl rfl (gi_cons 86 rfl rfl (gi_cons 87 rfl rfl (gi_cons 88 rfl rfl (gi_cons 89 rfl rfl (gi_cons 90 rfl rfl (gi_cons 91 rfl rfl (gi_cons 92 rfl rfl (gi_cons 93 rfl rfl (gi_cons 94 rfl rfl (gi_cons 95 rfl rfl (gi_cons 96 rfl rfl (gi_cons 97 rfl rfl (gi_cons 98 rfl rfl (gi_cons 99 rfl rfl (gi_cons 100 rfl rfl (gi_cons 101 rfl rfl (gi_cons 102 rfl rfl (gi_cons 103 rfl rfl (gi_cons 104 rfl rfl (gi_cons 105 rfl rfl (gi_cons 106 rfl rfl (gi_cons 107 rfl rfl (gi_cons 108 rfl rfl (gi_cons 109 rfl rfl (gi_cons 110 rfl rfl (gi_cons 111 rfl rfl (gi_cons 112 rfl rfl (gi_cons 113 rfl rfl (gi_cons 114 rfl rfl (gi_cons 115 rfl rfl (gi_cons 116 rfl rfl (gi_cons 117 rfl rfl (gi_cons 118 rfl rfl (gi_cons 119 rfl rfl (gi_cons 120 rfl rfl (gi_cons 121 rfl rfl (gi_cons 122 rfl rfl (gi_cons 123 rfl rfl (gi_cons 124 rfl rfl (gi_cons 125 rfl rfl (gi_cons 126 rfl rfl (gi_cons 127 rfl rfl (gi_cons 128 rfl rfl (gi_cons 129 rfl rfl (gi_cons 130 rfl rfl (gi_cons 131 rfl rfl (gi_cons 132 rfl rfl (gi_cons 133 rfl rfl (gi_cons 134 rfl rfl (gi_cons 135 rfl rfl (gi_cons 136 rfl rfl (gi_cons 137 rfl rfl (gi_cons 6 rfl rfl (gi_cons 138 rfl rfl (gi_cons 139 rfl rfl (gi_cons 140 rfl rfl (gi_cons 141 rfl rfl (gi_cons 142 rfl rfl (gi_cons 143 rfl rfl (gi_cons 144 rfl rfl (gi_cons 145 rfl rfl (gi_cons 146 rfl rfl (gi_cons 147 rfl rfl (gi_cons 148 rfl rfl (gi_cons 149 rfl rfl (gi_cons 150 rfl rfl (gi_cons 151 rfl rfl (gi_cons 152 rfl rfl (gi_cons 153 rfl rfl (gi_cons 154 rfl rfl (gi_cons 155 rfl rfl (gi_cons 156 rfl rfl (gi_cons 157 rfl rfl (gi_cons 158 rfl rfl (gi_cons 159 rfl rfl (gi_cons 160 rfl rfl (gi_cons 161 rfl rfl (gi_cons 162 rfl rfl (gi_cons 163 rfl rfl (gi_cons 164 rfl rfl (gi_cons 165 rfl rfl (gi_cons 166 rfl rfl (gi_cons 167 rfl rfl (gi_cons 168 rfl rfl (gi_cons 198 rfl rfl (gi_cons 199 rfl rfl (gi_cons 200 rfl rfl (gi_cons 201 rfl rfl (gi_cons 202 rfl rfl (gi_cons 203 rfl rfl (gi_cons 204 rfl rfl (gi_cons 205 rfl rfl (gi_cons 206 rfl rfl (gi_cons 207 rfl rfl (gi_cons 208 rfl rfl (gi_cons 209 rfl rfl (gi_cons 210 rfl rfl (gi_cons 211 rfl rfl (gi_cons 212 rfl rfl (gi_cons 213 rfl rfl (gi_cons 214 rfl rfl (gi_cons 215 rfl rfl (gi_cons 216 rfl rfl (gi_cons 217 rfl rfl (gi_cons 218 rfl rfl gi_nil))))))))))))))))))))))))))))))))))))))))))))))))))))))))))))))))))))))))))))))))))))))))))))))))))))))))))))))))))))))))))))))))))))))))))))))))))))))))))))))))))))))))))))))))))))))))
set_option maxRecDepth 20000 in
theorem gX10_apply_X0_layOn : GoodIn wsX10_apply (wsV RX10 334 RX0 yX0_layOn wsX0_layOn) := goodIn_app (goodIn_of _ (by decide +kernel)) ggX10_apply_X0_layOn
set_option maxRecDepth 100000 in
theorem ggX10_apply_X10_actDone : GoodIn wsX10_apply wsX10_actDone := (gi_cons 173 rfl rfl (gi_cons 174 rfl rfl (gi_cons 175 rfl rfl (gi_cons 176 rfl rfl (gi_cons 177 rfl rfl (gi_cons 150 rfl rfl (gi_cons 178 rfl rfl (gi_cons 179 rfl rfl (gi_cons 180 rfl rfl (gi_cons 181 rfl rfl (gi_cons 182 rfl rfl (gi_cons 183 rfl rfl (gi_cons 184 rfl rfl (gi_cons 185 rfl rfl (gi_cons 186 rfl rfl (gi_cons 187 rfl rfl (gi_cons 188 rfl rfl (gi_cons 189 rfl rfl (gi_cons 190 rfl rfl (gi_cons 191 rfl rfl (gi_cons 192 rfl rfl (gi_cons 193 rfl rfl (gi_cons 194 rfl rfl (gi_cons 195 rfl rfl (gi_cons 196 rfl rfl (gi_cons 197 rfl rfl (gi_cons 207 rfl rfl (gi_cons 208 rfl rfl (gi_cons 209 rfl rfl (gi_cons 210 rfl rfl (gi_cons 211 rfl rfl (gi_cons 212 rfl rfl (gi_cons 213 rfl rfl gi_nil)))))))))))))))))))))))))))))))))
set_option maxRecDepth 20000 in
theorem gX10_apply_X10_actDone : GoodIn wsX10_apply (wsV RX10 311 RX10 yX10_actDone wsX10_actDone) := goodIn_app (goodIn_of _ (by decide +kernel)) ggX10_apply_X10_actDone
theorem dX10_apply_0 : decode cX10_apply 0 = .ok (.aload_n 0, 1) := by decide +kernel
theorem dX10_apply_1 : decode cX10_apply 1 = .ok (.aload_n 0, 1) := by decide +kernel
theorem dX10_apply_2 : decode cX10_apply 2 = .ok (.getfield 75, 3) := by decide +kernel
theorem dX10_apply_5 : decode cX10_apply 5 = .ok (.aload_n 0, 1) := by decide +kernel
theorem dX10_apply_6 : decode cX10_apply 6 = .ok (.getfield 82, 3) := by decide +kernel
theorem dX10_apply_9 : decode cX10_apply 9 = .ok (.iload_n 1, 1) := by decide +kernel
theorem dX10_apply_10 : decode cX10_apply 10 = .ok (.invokevirtual 334, 3) := by decide +kernel
theorem dX10_apply_13 : decode cX10_apply 13 = .ok (.invokevirtual 311, 3) := by decide +kernel
theorem dX10_apply_16 : decode cX10_apply 16 = .ok (.ireturn, 1) := by decide +kernel
set_option maxRecDepth 100000 in
theorem ggX10_undo_X6_stepBack : GoodIn wsX10_undo wsX6_stepBack := (gi_cons 6 rfl rfl (gi_cons 7 rfl rfl (gi_cons 8 rfl rfl (gi_cons 9 rfl rfl (gi_cons 10 rfl rfl (gi_cons 11 rfl rfl (gi_cons 12 rfl rfl (gi_cons 13 rfl rfl (gi_cons 14 rfl rfl (gi_cons 15 rfl rfl (gi_cons 16 rfl rfl (gi_cons 17 rfl rfl (gi_cons 18 rfl rfl (gi_cons 19 rfl rfl (gi_cons 20 rfl rfl (gi_cons 21 rfl rfl (gi_cons 22 rfl rfl (gi_cons 23 rfl rfl (gi_cons 42 rfl rfl (gi_cons 43 rfl rfl (gi_cons 44 rfl rfl (gi_cons 45 rfl rfl (gi_cons 46 rfl rfl (gi_cons 47 rfl rfl (gi_cons 48 rfl rfl (gi_cons 49 rfl rfl (gi_cons 50 rfl rfl (gi_cons 51 rfl rfl (gi_cons 52 rfl rfl (gi_cons 53 rfl rfl gi_nil))))))))))))))))))))))))))))))
set_option maxRecDepth 20000 in
theorem gX10_undo_X6_stepBack : GoodIn wsX10_undo (wsV RX10 338 RX6 yX6_stepBack wsX6_stepBack) := goodIn_app (goodIn_of _ (by decide +kernel)) ggX10_undo_X6_stepBack
theorem dX10_undo_0 : decode cX10_undo 0 = .ok (.aload_n 0, 1) := by decide +kernel
theorem dX10_undo_1 : decode cX10_undo 1 = .ok (.getfield 63, 3) := by decide +kernel
theorem dX10_undo_4 : decode cX10_undo 4 = .ok (.invokevirtual 338, 3) := by decide +kernel
theorem dX10_undo_7 : decode cX10_undo 7 = .ok (.ireturn, 1) := by decide +kernel
set_option maxRecDepth 100000 in
theorem ggX10_note_X9_has : GoodIn wsX10_note wsX9_has := (gi_cons 6 rfl rfl (gi_cons 7 rfl rfl (gi_cons 8 rfl rfl (gi_cons 47 rfl rfl (gi_cons 48 rfl rfl (gi_cons 49 rfl rfl (gi_cons 50 rfl rfl (gi_cons 51 rfl rfl gi_nil))))))))
set_option maxRecDepth 20000 in
theorem gX10_note_X9_has : GoodIn wsX10_note (wsV RX10 341 RX9 yX9_has wsX9_has) := goodIn_app (goodIn_of _ (by decide +kernel)) ggX10_note_X9_has
set_option maxRecDepth 100000 in
theorem ggX10_note_X6_notes : GoodIn wsX10_note wsX6_notes := (gi_cons 13 rfl rfl (gi_cons 14 rfl rfl (gi_cons 15 rfl rfl (gi_cons 16 rfl rfl (gi_cons 40 rfl rfl (gi_cons 41 rfl rfl (gi_cons 42 rfl rfl (gi_cons 43 rfl rfl (gi_cons 44 rfl rfl (gi_cons 45 rfl rfl (gi_cons 46 rfl rfl gi_nil)))))))))))
set_option maxRecDepth 20000 in
theorem gX10_note_X6_notes : GoodIn wsX10_note (wsV RX10 344 RX6 yX6_notes wsX6_notes) := goodIn_app (goodIn_of _ (by decide +kernel)) ggX10_note_X6_notes
set_option maxRecDepth 100000 in
theorem ggX10_note_X6_refuse : GoodIn wsX10_note wsX6_refuse := (gi_cons 20 rfl rfl (gi_cons 21 rfl rfl (gi_cons 40 rfl rfl (gi_cons 41 rfl rfl (gi_cons 42 rfl rfl (gi_cons 43 rfl rfl (gi_cons 44 rfl rfl (gi_cons 45 rfl rfl (gi_cons 46 rfl rfl gi_nil)))))))))
set_option maxRecDepth 20000 in
theorem gX10_note_X6_refuse : GoodIn wsX10_note (wsV RX10 348 RX6 yX6_refuse wsX6_refuse) := goodIn_app (goodIn_of _ (by decide +kernel)) ggX10_note_X6_refuse
theorem dX10_note_0 : decode cX10_note 0 = .ok (.aload_n 0, 1) := by decide +kernel
theorem dX10_note_1 : decode cX10_note 1 = .ok (.getfield 63, 3) := by decide +kernel
theorem dX10_note_4 : decode cX10_note 4 = .ok (.getfield 107, 3) := by decide +kernel
theorem dX10_note_7 : decode cX10_note 7 = .ok (.iload_n 1, 1) := by decide +kernel
theorem dX10_note_8 : decode cX10_note 8 = .ok (.invokevirtual 341, 3) := by decide +kernel
theorem dX10_note_11 : decode cX10_note 11 = .ok (.ifCond .eq 15, 3) := by decide +kernel
theorem dX10_note_14 : decode cX10_note 14 = .ok (.aload_n 0, 1) := by decide +kernel
theorem dX10_note_15 : decode cX10_note 15 = .ok (.getfield 63, 3) := by decide +kernel
theorem dX10_note_18 : decode cX10_note 18 = .ok (.iload_n 1, 1) := by decide +kernel
theorem dX10_note_19 : decode cX10_note 19 = .ok (.iload_n 2, 1) := by decide +kernel
theorem dX10_note_20 : decode cX10_note 20 = .ok (.invokevirtual 344, 3) := by decide +kernel
theorem dX10_note_23 : decode cX10_note 23 = .ok (.ifCond .ne 13, 3) := by decide +kernel
theorem dX10_note_26 : decode cX10_note 26 = .ok (.aload_n 0, 1) := by decide +kernel
theorem dX10_note_27 : decode cX10_note 27 = .ok (.getfield 63, 3) := by decide +kernel
theorem dX10_note_30 : decode cX10_note 30 = .ok (.iconst 2, 1) := by decide +kernel
theorem dX10_note_31 : decode cX10_note 31 = .ok (.invokevirtual 348, 3) := by decide +kernel
theorem dX10_note_34 : decode cX10_note 34 = .ok (.iconst (-1), 1) := by decide +kernel
theorem dX10_note_35 : decode cX10_note 35 = .ok (.ireturn, 1) := by decide +kernel
theorem dX10_note_36 : decode cX10_note 36 = .ok (.aload_n 0, 1) := by decide +kernel
theorem dX10_note_37 : decode cX10_note 37 = .ok (.getfield 63, 3) := by decide +kernel
theorem dX10_note_40 : decode cX10_note 40 = .ok (.getfield 142, 3) := by decide +kernel
theorem dX10_note_43 : decode cX10_note 43 = .ok (.ireturn, 1) := by decide +kernel
theorem dX10_forget_0 : decode cX10_forget 0 = .ok (.aload_n 0, 1) := by decide +kernel
theorem dX10_forget_1 : decode cX10_forget 1 = .ok (.getfield 63, 3) := by decide +kernel
theorem dX10_forget_4 : decode cX10_forget 4 = .ok (.iconst 0, 1) := by decide +kernel
theorem dX10_forget_5 : decode cX10_forget 5 = .ok (.putfield 142, 3) := by decide +kernel
theorem dX10_forget_8 : decode cX10_forget 8 = .ok (.return_, 1) := by decide +kernel
theorem dX10_restore_0 : decode cX10_restore 0 = .ok (.aload_n 0, 1) := by decide +kernel
theorem dX10_restore_1 : decode cX10_restore 1 = .ok (.getfield 145, 3) := by decide +kernel
theorem dX10_restore_4 : decode cX10_restore 4 = .ok (.ifCond .eq 14, 3) := by decide +kernel
theorem dX10_restore_18 : decode cX10_restore 18 = .ok (.aload_n 0, 1) := by decide +kernel
theorem dX10_restore_19 : decode cX10_restore 19 = .ok (.getfield 145, 3) := by decide +kernel
theorem dX10_restore_22 : decode cX10_restore 22 = .ok (.ireturn, 1) := by decide +kernel
theorem dX10_layBytes_0 : decode cX10_layBytes 0 = .ok (.bipush 24, 2) := by decide +kernel
theorem dX10_layBytes_2 : decode cX10_layBytes 2 = .ok (.istore_n 2, 1) := by decide +kernel
theorem dX10_layBytes_3 : decode cX10_layBytes 3 = .ok (.iload_n 2, 1) := by decide +kernel
theorem dX10_layBytes_4 : decode cX10_layBytes 4 = .ok (.ifCond .lt 52, 3) := by decide +kernel
theorem dX10_layBytes_7 : decode cX10_layBytes 7 = .ok (.aload_n 0, 1) := by decide +kernel
theorem dX10_layBytes_8 : decode cX10_layBytes 8 = .ok (.getfield 114, 3) := by decide +kernel
theorem dX10_layBytes_11 : decode cX10_layBytes 11 = .ok (.ifCond .lt 39, 3) := by decide +kernel
theorem dX10_layBytes_14 : decode cX10_layBytes 14 = .ok (.aload_n 0, 1) := by decide +kernel
theorem dX10_layBytes_15 : decode cX10_layBytes 15 = .ok (.getfield 114, 3) := by decide +kernel
theorem dX10_layBytes_18 : decode cX10_layBytes 18 = .ok (.sipush 400, 3) := by decide +kernel
theorem dX10_layBytes_21 : decode cX10_layBytes 21 = .ok (.if_icmp .ge 29, 3) := by decide +kernel
theorem dX10_layBytes_24 : decode cX10_layBytes 24 = .ok (.aload_n 0, 1) := by decide +kernel
theorem dX10_layBytes_25 : decode cX10_layBytes 25 = .ok (.getfield 9, 3) := by decide +kernel
theorem dX10_layBytes_28 : decode cX10_layBytes 28 = .ok (.aload_n 0, 1) := by decide +kernel
theorem dX10_layBytes_29 : decode cX10_layBytes 29 = .ok (.getfield 114, 3) := by decide +kernel
theorem dX10_layBytes_32 : decode cX10_layBytes 32 = .ok (.iload_n 1, 1) := by decide +kernel
theorem dX10_layBytes_33 : decode cX10_layBytes 33 = .ok (.iload_n 2, 1) := by decide +kernel
theorem dX10_layBytes_34 : decode cX10_layBytes 34 = .ok (.iushr, 1) := by decide +kernel
theorem dX10_layBytes_35 : decode cX10_layBytes 35 = .ok (.sipush 255, 3) := by decide +kernel
theorem dX10_layBytes_38 : decode cX10_layBytes 38 = .ok (.iand, 1) := by decide +kernel
theorem dX10_layBytes_39 : decode cX10_layBytes 39 = .ok (.iastore, 1) := by decide +kernel
theorem dX10_layBytes_40 : decode cX10_layBytes 40 = .ok (.aload_n 0, 1) := by decide +kernel
theorem dX10_layBytes_41 : decode cX10_layBytes 41 = .ok (.dup, 1) := by decide +kernel
theorem dX10_layBytes_42 : decode cX10_layBytes 42 = .ok (.getfield 114, 3) := by decide +kernel
theorem dX10_layBytes_45 : decode cX10_layBytes 45 = .ok (.iconst 1, 1) := by decide +kernel
theorem dX10_layBytes_46 : decode cX10_layBytes 46 = .ok (.iadd, 1) := by decide +kernel
theorem dX10_layBytes_47 : decode cX10_layBytes 47 = .ok (.putfield 114, 3) := by decide +kernel
theorem dX10_layBytes_50 : decode cX10_layBytes 50 = .ok (.iinc 2 (-8), 3) := by decide +kernel
theorem dX10_layBytes_53 : decode cX10_layBytes 53 = .ok (.goto (-50), 3) := by decide +kernel
theorem dX10_layBytes_56 : decode cX10_layBytes 56 = .ok (.return_, 1) := by decide +kernel
theorem dX10_tapeHas_0 : decode cX10_tapeHas 0 = .ok (.iload_n 1, 1) := by decide +kernel
theorem dX10_tapeHas_1 : decode cX10_tapeHas 1 = .ok (.ifCond .lt 15, 3) := by decide +kernel
theorem dX10_tapeHas_4 : decode cX10_tapeHas 4 = .ok (.iload_n 1, 1) := by decide +kernel
theorem dX10_tapeHas_5 : decode cX10_tapeHas 5 = .ok (.aload_n 0, 1) := by decide +kernel
theorem dX10_tapeHas_6 : decode cX10_tapeHas 6 = .ok (.getfield 114, 3) := by decide +kernel
theorem dX10_tapeHas_9 : decode cX10_tapeHas 9 = .ok (.if_icmp .gt 7, 3) := by decide +kernel
theorem dX10_tapeHas_12 : decode cX10_tapeHas 12 = .ok (.iconst 1, 1) := by decide +kernel
theorem dX10_tapeHas_13 : decode cX10_tapeHas 13 = .ok (.goto 4, 3) := by decide +kernel
theorem dX10_tapeHas_16 : decode cX10_tapeHas 16 = .ok (.iconst 0, 1) := by decide +kernel
theorem dX10_tapeHas_17 : decode cX10_tapeHas 17 = .ok (.ireturn, 1) := by decide +kernel
set_option maxRecDepth 100000 in
theorem ggX10_actDone_X6_refuse : GoodIn wsX10_actDone wsX6_refuse := (gi_cons 6 rfl rfl (gi_cons 7 rfl rfl (gi_cons 26 rfl rfl (gi_cons 27 rfl rfl (gi_cons 28 rfl rfl (gi_cons 29 rfl rfl (gi_cons 30 rfl rfl (gi_cons 31 rfl rfl (gi_cons 32 rfl rfl gi_nil)))))))))
set_option maxRecDepth 20000 in
theorem gX10_actDone_X6_refuse : GoodIn wsX10_actDone (wsV RX10 348 RX6 yX6_refuse wsX6_refuse) := goodIn_app (goodIn_of _ (by decide +kernel)) ggX10_actDone_X6_refuse
theorem dX10_actDone_0 : decode cX10_actDone 0 = .ok (.iload_n 1, 1) := by decide +kernel
theorem dX10_actDone_1 : decode cX10_actDone 1 = .ok (.iconst (-1), 1) := by decide +kernel
theorem dX10_actDone_2 : decode cX10_actDone 2 = .ok (.if_icmp .ne 11, 3) := by decide +kernel
theorem dX10_actDone_5 : decode cX10_actDone 5 = .ok (.aload_n 0, 1) := by decide +kernel
theorem dX10_actDone_6 : decode cX10_actDone 6 = .ok (.getfield 63, 3) := by decide +kernel
theorem dX10_actDone_9 : decode cX10_actDone 9 = .ok (.iconst 1, 1) := by decide +kernel
theorem dX10_actDone_10 : decode cX10_actDone 10 = .ok (.invokevirtual 348, 3) := by decide +kernel
theorem dX10_actDone_13 : decode cX10_actDone 13 = .ok (.iload_n 1, 1) := by decide +kernel
theorem dX10_actDone_14 : decode cX10_actDone 14 = .ok (.ireturn, 1) := by decide +kernel
set_option maxRecDepth 100000 in
theorem ggX10_adding_X10_pathAt : GoodIn wsX10_adding wsX10_pathAt := (gi_cons 7 rfl rfl (gi_cons 8 rfl rfl (gi_cons 159 rfl rfl (gi_cons 160 rfl rfl (gi_cons 161 rfl rfl (gi_cons 162 rfl rfl (gi_cons 163 rfl rfl (gi_cons 164 rfl rfl (gi_cons 165 rfl rfl (gi_cons 166 rfl rfl (gi_cons 167 rfl rfl (gi_cons 168 rfl rfl (gi_cons 169 rfl rfl (gi_cons 170 rfl rfl (gi_cons 171 rfl rfl (gi_cons 172 rfl rfl (gi_cons 173 rfl rfl (gi_cons 174 rfl rfl (gi_cons 175 rfl rfl (gi_cons 176 rfl rfl gi_nil))))))))))))))))))))
set_option maxRecDepth 20000 in
theorem gX10_adding_X10_pathAt : GoodIn wsX10_adding (wsV RX10 257 RX10 yX10_pathAt wsX10_pathAt) := goodIn_app (goodIn_of _ (by decide +kernel)) ggX10_adding_X10_pathAt
theorem dX10_adding_0 : decode cX10_adding 0 = .ok (.aload_n 0, 1) := by decide +kernel
theorem dX10_adding_1 : decode cX10_adding 1 = .ok (.iload_n 1, 1) := by decide +kernel
theorem dX10_adding_2 : decode cX10_adding 2 = .ok (.invokevirtual 257, 3) := by decide +kernel
theorem dX10_adding_5 : decode cX10_adding 5 = .ok (.astore_n 3, 1) := by decide +kernel
theorem dX10_adding_6 : decode cX10_adding 6 = .ok (.aload_n 3, 1) := by decide +kernel
theorem dX10_adding_7 : decode cX10_adding 7 = .ok (.ifnull 17, 3) := by decide +kernel
theorem dX10_adding_24 : decode cX10_adding 24 = .ok (.iconst (-1), 1) := by decide +kernel
theorem dX10_adding_25 : decode cX10_adding 25 = .ok (.ireturn, 1) := by decide +kernel
set_option maxRecDepth 100000 in
theorem ggX10_changing_X10_pathAt : GoodIn wsX10_changing wsX10_pathAt := (gi_cons 7 rfl rfl (gi_cons 8 rfl rfl (gi_cons 209 rfl rfl (gi_cons 210 rfl rfl (gi_cons 211 rfl rfl (gi_cons 212 rfl rfl (gi_cons 213 rfl rfl (gi_cons 214 rfl rfl (gi_cons 215 rfl rfl (gi_cons 216 rfl rfl (gi_cons 217 rfl rfl (gi_cons 218 rfl rfl (gi_cons 219 rfl rfl (gi_cons 220 rfl rfl (gi_cons 221 rfl rfl (gi_cons 222 rfl rfl (gi_cons 223 rfl rfl (gi_cons 224 rfl rfl (gi_cons 225 rfl rfl (gi_cons 226 rfl rfl gi_nil))))))))))))))))))))
set_option maxRecDepth 20000 in
theorem gX10_changing_X10_pathAt : GoodIn wsX10_changing (wsV RX10 257 RX10 yX10_pathAt wsX10_pathAt) := goodIn_app (goodIn_of _ (by decide +kernel)) ggX10_changing_X10_pathAt
theorem dX10_changing_0 : decode cX10_changing 0 = .ok (.aload_n 0, 1) := by decide +kernel
theorem dX10_changing_1 : decode cX10_changing 1 = .ok (.iload_n 1, 1) := by decide +kernel
theorem dX10_changing_2 : decode cX10_changing 2 = .ok (.invokevirtual 257, 3) := by decide +kernel
theorem dX10_changing_5 : decode cX10_changing 5 = .ok (.astore_n 3, 1) := by decide +kernel
theorem dX10_changing_6 : decode cX10_changing 6 = .ok (.aload_n 3, 1) := by decide +kernel
theorem dX10_changing_7 : decode cX10_changing 7 = .ok (.ifnull 12, 3) := by decide +kernel
theorem dX10_changing_19 : decode cX10_changing 19 = .ok (.iconst (-1), 1) := by decide +kernel
theorem dX10_changing_20 : decode cX10_changing 20 = .ok (.ireturn, 1) := by decide +kernel
theorem dX10_pathAt_0 : decode cX10_pathAt 0 = .ok (.iload_n 1, 1) := by decide +kernel
theorem dX10_pathAt_1 : decode cX10_pathAt 1 = .ok (.ifCond .lt 8, 3) := by decide +kernel
theorem dX10_pathAt_4 : decode cX10_pathAt 4 = .ok (.iload_n 1, 1) := by decide +kernel
theorem dX10_pathAt_5 : decode cX10_pathAt 5 = .ok (.iconst 4, 1) := by decide +kernel
theorem dX10_pathAt_6 : decode cX10_pathAt 6 = .ok (.if_icmp .lt 7, 3) := by decide +kernel
theorem dX10_pathAt_9 : decode cX10_pathAt 9 = .ok (.aconst_null, 1) := by decide +kernel
theorem dX10_pathAt_10 : decode cX10_pathAt 10 = .ok (.goto 9, 3) := by decide +kernel
theorem dX10_pathAt_13 : decode cX10_pathAt 13 = .ok (.aload_n 0, 1) := by decide +kernel
theorem dX10_pathAt_14 : decode cX10_pathAt 14 = .ok (.getfield 19, 3) := by decide +kernel
theorem dX10_pathAt_17 : decode cX10_pathAt 17 = .ok (.iload_n 1, 1) := by decide +kernel
theorem dX10_pathAt_18 : decode cX10_pathAt 18 = .ok (.aaload, 1) := by decide +kernel
theorem dX10_pathAt_19 : decode cX10_pathAt 19 = .ok (.areturn, 1) := by decide +kernel
theorem dX10_pathsThere_0 : decode cX10_pathsThere 0 = .ok (.iconst 0, 1) := by decide +kernel
theorem dX10_pathsThere_1 : decode cX10_pathsThere 1 = .ok (.istore_n 1, 1) := by decide +kernel
theorem dX10_pathsThere_2 : decode cX10_pathsThere 2 = .ok (.iconst 0, 1) := by decide +kernel
theorem dX10_pathsThere_3 : decode cX10_pathsThere 3 = .ok (.istore_n 2, 1) := by decide +kernel
theorem dX10_pathsThere_4 : decode cX10_pathsThere 4 = .ok (.iload_n 2, 1) := by decide +kernel
theorem dX10_pathsThere_5 : decode cX10_pathsThere 5 = .ok (.iconst 4, 1) := by decide +kernel
theorem dX10_pathsThere_6 : decode cX10_pathsThere 6 = .ok (.if_icmp .ge 24, 3) := by decide +kernel
theorem dX10_pathsThere_9 : decode cX10_pathsThere 9 = .ok (.aload_n 0, 1) := by decide +kernel
theorem dX10_pathsThere_10 : decode cX10_pathsThere 10 = .ok (.getfield 19, 3) := by decide +kernel
theorem dX10_pathsThere_13 : decode cX10_pathsThere 13 = .ok (.iload_n 2, 1) := by decide +kernel
theorem dX10_pathsThere_14 : decode cX10_pathsThere 14 = .ok (.aaload, 1) := by decide +kernel
theorem dX10_pathsThere_15 : decode cX10_pathsThere 15 = .ok (.ifnull 9, 3) := by decide +kernel
theorem dX10_pathsThere_24 : decode cX10_pathsThere 24 = .ok (.iinc 2 1, 3) := by decide +kernel
theorem dX10_pathsThere_27 : decode cX10_pathsThere 27 = .ok (.goto (-23), 3) := by decide +kernel
theorem dX10_pathsThere_30 : decode cX10_pathsThere 30 = .ok (.iload_n 1, 1) := by decide +kernel
theorem dX10_pathsThere_31 : decode cX10_pathsThere 31 = .ok (.ireturn, 1) := by decide +kernel
theorem dX10_findAnswers_0 : decode cX10_findAnswers 0 = .ok (.iconst 0, 1) := by decide +kernel
theorem dX10_findAnswers_1 : decode cX10_findAnswers 1 = .ok (.istore_n 1, 1) := by decide +kernel
theorem dX10_findAnswers_2 : decode cX10_findAnswers 2 = .ok (.iload_n 1, 1) := by decide +kernel
theorem dX10_findAnswers_3 : decode cX10_findAnswers 3 = .ok (.iconst 4, 1) := by decide +kernel
theorem dX10_findAnswers_4 : decode cX10_findAnswers 4 = .ok (.if_icmp .ge 43, 3) := by decide +kernel
theorem dX10_findAnswers_7 : decode cX10_findAnswers 7 = .ok (.aload_n 0, 1) := by decide +kernel
theorem dX10_findAnswers_8 : decode cX10_findAnswers 8 = .ok (.getfield 19, 3) := by decide +kernel
theorem dX10_findAnswers_11 : decode cX10_findAnswers 11 = .ok (.iload_n 1, 1) := by decide +kernel
theorem dX10_findAnswers_12 : decode cX10_findAnswers 12 = .ok (.aaload, 1) := by decide +kernel
theorem dX10_findAnswers_13 : decode cX10_findAnswers 13 = .ok (.astore_n 2, 1) := by decide +kernel
theorem dX10_findAnswers_14 : decode cX10_findAnswers 14 = .ok (.aload_n 0, 1) := by decide +kernel
theorem dX10_findAnswers_15 : decode cX10_findAnswers 15 = .ok (.getfield 96, 3) := by decide +kernel
theorem dX10_findAnswers_18 : decode cX10_findAnswers 18 = .ok (.iload_n 1, 1) := by decide +kernel
theorem dX10_findAnswers_19 : decode cX10_findAnswers 19 = .ok (.aload_n 2, 1) := by decide +kernel
theorem dX10_findAnswers_20 : decode cX10_findAnswers 20 = .ok (.ifnonnull 7, 3) := by decide +kernel
theorem dX10_findAnswers_23 : decode cX10_findAnswers 23 = .ok (.lconst 0, 1) := by decide +kernel
theorem dX10_findAnswers_24 : decode cX10_findAnswers 24 = .ok (.goto 16, 3) := by decide +kernel
theorem dX10_findAnswers_40 : decode cX10_findAnswers 40 = .ok (.lastore, 1) := by decide +kernel
theorem dX10_findAnswers_41 : decode cX10_findAnswers 41 = .ok (.iinc 1 1, 3) := by decide +kernel
theorem dX10_findAnswers_44 : decode cX10_findAnswers 44 = .ok (.goto (-42), 3) := by decide +kernel
theorem dX10_findAnswers_47 : decode cX10_findAnswers 47 = .ok (.return_, 1) := by decide +kernel
theorem dX10_foundAmong_0 : decode cX10_foundAmong 0 = .ok (.iconst 0, 1) := by decide +kernel
theorem dX10_foundAmong_1 : decode cX10_foundAmong 1 = .ok (.istore_n 3, 1) := by decide +kernel
theorem dX10_foundAmong_2 : decode cX10_foundAmong 2 = .ok (.iconst 0, 1) := by decide +kernel
theorem dX10_foundAmong_3 : decode cX10_foundAmong 3 = .ok (.istore 4, 2) := by decide +kernel
theorem dX10_foundAmong_5 : decode cX10_foundAmong 5 = .ok (.iload 4, 2) := by decide +kernel
theorem dX10_foundAmong_7 : decode cX10_foundAmong 7 = .ok (.iconst 4, 1) := by decide +kernel
theorem dX10_foundAmong_8 : decode cX10_foundAmong 8 = .ok (.if_icmp .ge 35, 3) := by decide +kernel
theorem dX10_foundAmong_11 : decode cX10_foundAmong 11 = .ok (.iload_n 2, 1) := by decide +kernel
theorem dX10_foundAmong_12 : decode cX10_foundAmong 12 = .ok (.iload 4, 2) := by decide +kernel
theorem dX10_foundAmong_14 : decode cX10_foundAmong 14 = .ok (.iushr, 1) := by decide +kernel
theorem dX10_foundAmong_15 : decode cX10_foundAmong 15 = .ok (.iconst 1, 1) := by decide +kernel
theorem dX10_foundAmong_16 : decode cX10_foundAmong 16 = .ok (.iand, 1) := by decide +kernel
theorem dX10_foundAmong_17 : decode cX10_foundAmong 17 = .ok (.ifCond .eq 20, 3) := by decide +kernel
theorem dX10_foundAmong_37 : decode cX10_foundAmong 37 = .ok (.iinc 4 1, 3) := by decide +kernel
theorem dX10_foundAmong_40 : decode cX10_foundAmong 40 = .ok (.goto (-35), 3) := by decide +kernel
theorem dX10_foundAmong_43 : decode cX10_foundAmong 43 = .ok (.iload_n 3, 1) := by decide +kernel
theorem dX10_foundAmong_44 : decode cX10_foundAmong 44 = .ok (.ireturn, 1) := by decide +kernel
set_option maxRecDepth 100000 in
theorem ggX10_pathsAnswering_X10_findAnswers : GoodIn wsX10_pathsAnswering wsX10_findAnswers := (gi_cons 5 rfl rfl (gi_cons 6 rfl rfl (gi_cons 7 rfl rfl (gi_cons 8 rfl rfl (gi_cons 9 rfl rfl (gi_cons 10 rfl rfl (gi_cons 11 rfl rfl (gi_cons 12 rfl rfl (gi_cons 13 rfl rfl (gi_cons 14 rfl rfl (gi_cons 15 rfl rfl (gi_cons 16 rfl rfl (gi_cons 17 rfl rfl (gi_cons 18 rfl rfl (gi_cons 19 rfl rfl (gi_cons 20 rfl rfl (gi_cons 21 rfl rfl (gi_cons 22 rfl rfl (gi_cons 23 rfl rfl (gi_cons 24 rfl rfl (gi_cons 25 rfl rfl (gi_cons 26 rfl rfl (gi_cons 27 rfl rfl (gi_cons 28 rfl rfl (gi_cons 29 rfl rfl (gi_cons 30 rfl rfl (gi_cons 4 rfl rfl (gi_cons 31 rfl rfl (gi_cons 32 rfl rfl (gi_cons 33 rfl rfl (gi_cons 34 rfl rfl (gi_cons 35 rfl rfl (gi_cons 36 rfl rfl (gi_cons 37 rfl rfl (gi_cons 38 rfl rfl (gi_cons 39 rfl rfl (gi_cons 40 rfl rfl (gi_cons 41 rfl rfl (gi_cons 42 rfl rfl (gi_cons 43 rfl rfl (gi_cons 44 rfl rfl (gi_cons 45 rfl rfl (gi_cons 46 rfl rfl (gi_cons 47 rfl rfl (gi_cons 48 rfl rfl (gi_cons 49 rfl rfl (gi_cons 50 rfl rfl (gi_cons 51 rfl rfl (gi_cons 52 rfl rfl (gi_cons 53 rfl rfl (gi_cons 54 rfl rfl (gi_cons 55 rfl rfl (gi_cons 56 rfl rfl (gi_cons 57 rfl rfl (gi_cons 58 rfl rfl (gi_cons 59 rfl rfl (gi_cons 60 rfl rfl (gi_cons 61 rfl rfl (gi_cons 62 rfl rfl (gi_cons 63 rfl rfl (gi_cons 64 rfl rfl (gi_cons 65 rfl rfl (gi_cons 66 rfl rfl (gi_cons 67 rfl rfl (gi_cons 68 rfl rfl (gi_cons 69 rfl rfl (gi_cons 70 rfl rfl (gi_cons 71 rfl rfl (gi_cons 72 rfl rfl (gi_cons 73 rfl rfl (gi_cons 74 rfl rfl (gi_cons 75 rfl rfl (gi_cons 76 rfl rfl (gi_cons 77 rfl rfl (gi_cons 78 rfl rfl (gi_cons 79 rfl rfl (gi_cons 80 rfl rfl (gi_cons 81 rfl rfl (gi_cons 82 rfl rfl (gi_cons 83 rfl rfl (gi_cons 84 rfl rfl (gi_cons 85 rfl rfl (gi_cons 86 rfl rfl (gi_cons 87 rfl rfl (gi_cons 88 rfl rfl (gi_cons 101 rfl rfl (gi_cons 102 rfl rfl (gi_cons 103 rfl rfl (gi_cons 104 rfl rfl (gi_cons 105 rfl rfl (gi_cons 106 rfl rfl (gi_cons 107 rfl rfl (gi_cons 108 rfl rfl (gi_cons 109 rfl rfl (gi_cons 110 rfl rfl (gi_cons 111 rfl rfl (gi_cons 112 rfl rfl (gi_cons 113 rfl rfl (gi_cons 114 rfl rfl (gi_cons 115 rfl rfl (gi_cons 116 rfl rfl (gi_cons 117 rfl rfl (gi_cons 118 rfl rfl (gi_cons 119 rfl rfl (gi_cons 120 rfl rfl (gi_cons 121 rfl rfl (gi_cons 122 rfl rfl (gi_cons 123 rfl rfl (gi_cons 124 rfl rfl (gi_cons 125 rfl rfl (gi_cons 126 rfl rfl (gi_cons 127 rfl rfl (gi_cons 128 rfl rfl (gi_cons 129 rfl rfl (gi_cons 130 rfl rfl (gi_cons 131 rfl rfl (gi_cons 132 rfl rfl (gi_cons 133 rfl rfl (gi_cons 134 rfl rfl (gi_cons 135 rfl rfl (gi_cons 136 rfl rfl (gi_cons 137 rfl rfl (gi_cons 138 rfl rfl (gi_cons 139 rfl rfl (gi_cons 140 rfl rfl (gi_cons 141 rfl rfl (gi_cons 142 rfl rfl (gi_cons 143 rfl rfl (gi_cons 144 rfl rfl gi_nil)))))))))))))))))))))))))))))))))))))))))))))))))))))))))))))))))))))))))))))))))))))))))))))))))))))))))))))))))))))))))))))))))
set_option maxRecDepth 20000 in
theorem gX10_pathsAnswering_X10_findAnswers : GoodIn wsX10_pathsAnswering (wsV RX10 397 RX10 yX10_findAnswers wsX10_findAnswers) := goodIn_app (goodIn_of _ (by decide +kernel)) ggX10_pathsAnswering_X10_findAnswers
set_option maxRecDepth 100000 in
theorem ggX10_pathsAnswering_X10_pathsThere : GoodIn wsX10_pathsAnswering wsX10_pathsThere := (gi_cons 92 rfl rfl (gi_cons 6 rfl rfl (gi_cons 101 rfl rfl (gi_cons 102 rfl rfl (gi_cons 103 rfl rfl (gi_cons 104 rfl rfl (gi_cons 105 rfl rfl (gi_cons 106 rfl rfl (gi_cons 107 rfl rfl (gi_cons 108 rfl rfl (gi_cons 109 rfl rfl (gi_cons 110 rfl rfl (gi_cons 111 rfl rfl (gi_cons 112 rfl rfl (gi_cons 113 rfl rfl (gi_cons 114 rfl rfl (gi_cons 115 rfl rfl (gi_cons 116 rfl rfl (gi_cons 117 rfl rfl (gi_cons 118 rfl rfl gi_nil))))))))))))))))))))
set_option maxRecDepth 20000 in
theorem gX10_pathsAnswering_X10_pathsThere : GoodIn wsX10_pathsAnswering (wsV RX10 171 RX10 yX10_pathsThere wsX10_pathsThere) := goodIn_app (goodIn_of _ (by decide +kernel)) ggX10_pathsAnswering_X10_pathsThere
set_option maxRecDepth 100000 in
theorem ggX10_pathsAnswering_X10_foundAmong : GoodIn wsX10_pathsAnswering wsX10_foundAmong := (gi_cons 96 rfl rfl (gi_cons 7 rfl rfl (gi_cons 97 rfl rfl (gi_cons 98 rfl rfl (gi_cons 4 rfl rfl (gi_cons 99 rfl rfl (gi_cons 100 rfl rfl (gi_cons 30 rfl rfl (gi_cons 31 rfl rfl (gi_cons 101 rfl rfl (gi_cons 102 rfl rfl (gi_cons 103 rfl rfl (gi_cons 104 rfl rfl (gi_cons 105 rfl rfl (gi_cons 106 rfl rfl (gi_cons 107 rfl rfl (gi_cons 108 rfl rfl (gi_cons 109 rfl rfl (gi_cons 110 rfl rfl (gi_cons 111 rfl rfl (gi_cons 112 rfl rfl (gi_cons 113 rfl rfl (gi_cons 114 rfl rfl (gi_cons 115 rfl rfl (gi_cons 116 rfl rfl (gi_cons 117 rfl rfl (gi_cons 118 rfl rfl gi_nil)))))))))))))))))))))))))))
set_option maxRecDepth 20000 in
theorem gX10_pathsAnswering_X10_foundAmong : GoodIn wsX10_pathsAnswering (wsV RX10 355 RX10 yX10_foundAmong wsX10_foundAmong) := goodIn_app (goodIn_of _ (by decide +kernel)) ggX10_pathsAnswering_X10_foundAmong
theorem dX10_pathsAnswering_0 : decode cX10_pathsAnswering 0 = .ok (.aload_n 0, 1) := by decide +kernel
theorem dX10_pathsAnswering_1 : decode cX10_pathsAnswering 1 = .ok (.invokevirtual 397, 3) := by decide +kernel
theorem dX10_pathsAnswering_4 : decode cX10_pathsAnswering 4 = .ok (.aload_n 0, 1) := by decide +kernel
theorem dX10_pathsAnswering_5 : decode cX10_pathsAnswering 5 = .ok (.iload_n 1, 1) := by decide +kernel
theorem dX10_pathsAnswering_6 : decode cX10_pathsAnswering 6 = .ok (.aload_n 0, 1) := by decide +kernel
theorem dX10_pathsAnswering_7 : decode cX10_pathsAnswering 7 = .ok (.invokevirtual 171, 3) := by decide +kernel
theorem dX10_pathsAnswering_10 : decode cX10_pathsAnswering 10 = .ok (.invokevirtual 355, 3) := by decide +kernel
theorem dX10_pathsAnswering_13 : decode cX10_pathsAnswering 13 = .ok (.ireturn, 1) := by decide +kernel
set_option maxRecDepth 100000 in
theorem ggX10_pathsThatFit_X10_findAnswers : GoodIn wsX10_pathsThatFit wsX10_findAnswers := (gi_cons 8 rfl rfl (gi_cons 1 rfl rfl (gi_cons 3 rfl rfl (gi_cons 2 rfl rfl (gi_cons 9 rfl rfl (gi_cons 10 rfl rfl (gi_cons 11 rfl rfl (gi_cons 12 rfl rfl (gi_cons 13 rfl rfl (gi_cons 14 rfl rfl (gi_cons 15 rfl rfl (gi_cons 16 rfl rfl (gi_cons 17 rfl rfl (gi_cons 18 rfl rfl (gi_cons 19 rfl rfl (gi_cons 20 rfl rfl (gi_cons 21 rfl rfl (gi_cons 22 rfl rfl (gi_cons 23 rfl rfl (gi_cons 24 rfl rfl (gi_cons 25 rfl rfl (gi_cons 26 rfl rfl (gi_cons 27 rfl rfl (gi_cons 28 rfl rfl (gi_cons 29 rfl rfl (gi_cons 30 rfl rfl (gi_cons 7 rfl rfl (gi_cons 31 rfl rfl (gi_cons 32 rfl rfl (gi_cons 33 rfl rfl (gi_cons 34 rfl rfl (gi_cons 35 rfl rfl (gi_cons 36 rfl rfl (gi_cons 37 rfl rfl (gi_cons 38 rfl rfl (gi_cons 39 rfl rfl (gi_cons 40 rfl rfl (gi_cons 41 rfl rfl (gi_cons 42 rfl rfl (gi_cons 43 rfl rfl (gi_cons 44 rfl rfl (gi_cons 45 rfl rfl (gi_cons 46 rfl rfl (gi_cons 47 rfl rfl (gi_cons 48 rfl rfl (gi_cons 49 rfl rfl (gi_cons 50 rfl rfl (gi_cons 51 rfl rfl (gi_cons 52 rfl rfl (gi_cons 53 rfl rfl (gi_cons 54 rfl rfl (gi_cons 55 rfl rfl (gi_cons 56 rfl rfl (gi_cons 57 rfl rfl (gi_cons 58 rfl rfl (gi_cons 59 rfl rfl (gi_cons 60 rfl rfl (gi_cons 61 rfl rfl (gi_cons 62 rfl rfl (gi_cons 63 rfl rfl (gi_cons 64 rfl rfl (gi_cons 65 rfl rfl (gi_cons 66 rfl rfl (gi_cons 67 rfl rfl (gi_cons 68 rfl rfl (gi_cons 69 rfl rfl (gi_cons 70 rfl rfl (gi_cons 71 rfl rfl (gi_cons 72 rfl rfl (gi_cons 73 rfl rfl (gi_cons 74 rfl rfl (gi_cons 75 rfl rfl (gi_cons 76 rfl rfl (gi_cons 77 rfl rfl (gi_cons 78 rfl rfl (gi_cons 79 rfl rfl (gi_cons 80 rfl rfl (gi_cons 81 rfl rfl (gi_cons 82 rfl rfl (gi_cons 83 rfl rfl (gi_cons 84 rfl rfl (gi_cons 85 rfl rfl (gi_cons 86 rfl rfl (gi_cons 87 rfl rfl (gi_cons 88 rfl rfl (gi_cons 100 rfl rfl (gi_cons 101 rfl rfl (gi_cons 102 rfl rfl (gi_cons 103 rfl rfl (gi_cons 104 rfl rfl (gi_cons 105 rfl rfl (gi_cons 106 rfl rfl (gi_cons 107 rfl rfl (gi_cons 108 rfl rfl (gi_cons 109 rfl rfl (gi_cons 110 rfl rfl (gi_cons 111 rfl rfl (gi_cons 112 rfl rfl (gi_cons 113 rfl rfl (gi_cons 114 rfl rfl (gi_cons 115 rfl rfl (gi_cons 116 rfl rfl (gi_cons 117 rfl rfl (gi_cons 118 rfl rfl (gi_cons 119 rfl rfl (gi_cons 120 rfl rfl (gi_cons 121 rfl rfl (gi_cons 122 rfl rfl (gi_cons 123 rfl rfl (gi_cons 124 rfl rfl (gi_cons 125 rfl rfl (gi_cons 126 rfl rfl (gi_cons 127 rfl rfl (gi_cons 128 rfl rfl (gi_cons 129 rfl rfl (gi_cons 130 rfl rfl (gi_cons 131 rfl rfl (gi_cons 132 rfl rfl (gi_cons 133 rfl rfl (gi_cons 134 rfl rfl (gi_cons 135 rfl rfl (gi_cons 136 rfl rfl (gi_cons 137 rfl rfl (gi_cons 138 rfl rfl (gi_cons 139 rfl rfl (gi_cons 140 rfl rfl (gi_cons 141 rfl rfl (gi_cons 142 rfl rfl (gi_cons 143 rfl rfl gi_nil)))))))))))))))))))))))))))))))))))))))))))))))))))))))))))))))))))))))))))))))))))))))))))))))))))))))))))))))))))))))))))))))))
set_option maxRecDepth 20000 in
theorem gX10_pathsThatFit_X10_findAnswers : GoodIn wsX10_pathsThatFit (wsV RX10 397 RX10 yX10_findAnswers wsX10_findAnswers) := goodIn_app (goodIn_of _ (by decide +kernel)) ggX10_pathsThatFit_X10_findAnswers
theorem dX10_pathsThatFit_0 : decode cX10_pathsThatFit 0 = .ok (.aload_n 0, 1) := by decide +kernel
theorem dX10_pathsThatFit_1 : decode cX10_pathsThatFit 1 = .ok (.invokevirtual 397, 3) := by decide +kernel
theorem dX10_pathsThatFit_4 : decode cX10_pathsThatFit 4 = .ok (.iconst 0, 1) := by decide +kernel
theorem dX10_pathsThatFit_5 : decode cX10_pathsThatFit 5 = .ok (.istore_n 1, 1) := by decide +kernel
theorem dX10_pathsThatFit_6 : decode cX10_pathsThatFit 6 = .ok (.iconst 0, 1) := by decide +kernel
theorem dX10_pathsThatFit_7 : decode cX10_pathsThatFit 7 = .ok (.istore_n 2, 1) := by decide +kernel
theorem dX10_pathsThatFit_8 : decode cX10_pathsThatFit 8 = .ok (.iload_n 2, 1) := by decide +kernel
theorem dX10_pathsThatFit_9 : decode cX10_pathsThatFit 9 = .ok (.iconst 4, 1) := by decide +kernel
theorem dX10_pathsThatFit_10 : decode cX10_pathsThatFit 10 = .ok (.if_icmp .ge 40, 3) := by decide +kernel
theorem dX10_pathsThatFit_13 : decode cX10_pathsThatFit 13 = .ok (.aload_n 0, 1) := by decide +kernel
theorem dX10_pathsThatFit_14 : decode cX10_pathsThatFit 14 = .ok (.getfield 19, 3) := by decide +kernel
theorem dX10_pathsThatFit_17 : decode cX10_pathsThatFit 17 = .ok (.iload_n 2, 1) := by decide +kernel
theorem dX10_pathsThatFit_18 : decode cX10_pathsThatFit 18 = .ok (.aaload, 1) := by decide +kernel
theorem dX10_pathsThatFit_19 : decode cX10_pathsThatFit 19 = .ok (.ifnull 25, 3) := by decide +kernel
theorem dX10_pathsThatFit_44 : decode cX10_pathsThatFit 44 = .ok (.iinc 2 1, 3) := by decide +kernel
theorem dX10_pathsThatFit_47 : decode cX10_pathsThatFit 47 = .ok (.goto (-39), 3) := by decide +kernel
theorem dX10_pathsThatFit_50 : decode cX10_pathsThatFit 50 = .ok (.iload_n 1, 1) := by decide +kernel
theorem dX10_pathsThatFit_51 : decode cX10_pathsThatFit 51 = .ok (.ireturn, 1) := by decide +kernel
