theorem dX11_feed_0 : decode cX11_feed 0 = .ok (.aload_n 0, 1) := by decide +kernel
theorem dX11_feed_1 : decode cX11_feed 1 = .ok (.iconst 0, 1) := by decide +kernel
theorem dX11_feed_2 : decode cX11_feed 2 = .ok (.putfield 111, 3) := by decide +kernel
theorem dX11_feed_5 : decode cX11_feed 5 = .ok (.aload_n 0, 1) := by decide +kernel
theorem dX11_feed_6 : decode cX11_feed 6 = .ok (.getfield 114, 3) := by decide +kernel
theorem dX11_feed_9 : decode cX11_feed 9 = .ok (.bipush 20, 2) := by decide +kernel
theorem dX11_feed_11 : decode cX11_feed 11 = .ok (.iadd, 1) := by decide +kernel
theorem dX11_feed_12 : decode cX11_feed 12 = .ok (.sipush 400, 3) := by decide +kernel
theorem dX11_feed_15 : decode cX11_feed 15 = .ok (.if_icmp .le 5, 3) := by decide +kernel
theorem dX11_feed_18 : decode cX11_feed 18 = .ok (.iconst (-1), 1) := by decide +kernel
theorem dX11_feed_19 : decode cX11_feed 19 = .ok (.ireturn, 1) := by decide +kernel
theorem dX11_feed_20 : decode cX11_feed 20 = .ok (.iconst 0, 1) := by decide +kernel
theorem dX11_feed_21 : decode cX11_feed 21 = .ok (.istore 6, 2) := by decide +kernel
theorem dX11_feed_23 : decode cX11_feed 23 = .ok (.iload 6, 2) := by decide +kernel
theorem dX11_feed_25 : decode cX11_feed 25 = .ok (.bipush 20, 2) := by decide +kernel
theorem dX11_feed_27 : decode cX11_feed 27 = .ok (.if_icmp .ge 93, 3) := by decide +kernel
theorem dX11_feed_30 : decode cX11_feed 30 = .ok (.iload 6, 2) := by decide +kernel
theorem dX11_feed_32 : decode cX11_feed 32 = .ok (.iconst 4, 1) := by decide +kernel
theorem dX11_feed_33 : decode cX11_feed 33 = .ok (.if_icmp .ge 7, 3) := by decide +kernel
theorem dX11_feed_36 : decode cX11_feed 36 = .ok (.iload_n 1, 1) := by decide +kernel
theorem dX11_feed_37 : decode cX11_feed 37 = .ok (.goto 39, 3) := by decide +kernel
theorem dX11_feed_40 : decode cX11_feed 40 = .ok (.iload 6, 2) := by decide +kernel
theorem dX11_feed_42 : decode cX11_feed 42 = .ok (.bipush 8, 2) := by decide +kernel
theorem dX11_feed_44 : decode cX11_feed 44 = .ok (.if_icmp .ge 7, 3) := by decide +kernel
theorem dX11_feed_47 : decode cX11_feed 47 = .ok (.iload_n 2, 1) := by decide +kernel
theorem dX11_feed_48 : decode cX11_feed 48 = .ok (.goto 28, 3) := by decide +kernel
theorem dX11_feed_51 : decode cX11_feed 51 = .ok (.iload 6, 2) := by decide +kernel
theorem dX11_feed_53 : decode cX11_feed 53 = .ok (.bipush 12, 2) := by decide +kernel
theorem dX11_feed_55 : decode cX11_feed 55 = .ok (.if_icmp .ge 7, 3) := by decide +kernel
theorem dX11_feed_58 : decode cX11_feed 58 = .ok (.iload_n 3, 1) := by decide +kernel
theorem dX11_feed_59 : decode cX11_feed 59 = .ok (.goto 17, 3) := by decide +kernel
theorem dX11_feed_62 : decode cX11_feed 62 = .ok (.iload 6, 2) := by decide +kernel
theorem dX11_feed_64 : decode cX11_feed 64 = .ok (.bipush 16, 2) := by decide +kernel
theorem dX11_feed_66 : decode cX11_feed 66 = .ok (.if_icmp .ge 8, 3) := by decide +kernel
theorem dX11_feed_69 : decode cX11_feed 69 = .ok (.iload 4, 2) := by decide +kernel
theorem dX11_feed_71 : decode cX11_feed 71 = .ok (.goto 5, 3) := by decide +kernel
theorem dX11_feed_74 : decode cX11_feed 74 = .ok (.iload 5, 2) := by decide +kernel
theorem dX11_feed_76 : decode cX11_feed 76 = .ok (.istore 7, 2) := by decide +kernel
theorem dX11_feed_78 : decode cX11_feed 78 = .ok (.aload_n 0, 1) := by decide +kernel
theorem dX11_feed_79 : decode cX11_feed 79 = .ok (.getfield 22, 3) := by decide +kernel
theorem dX11_feed_82 : decode cX11_feed 82 = .ok (.aload_n 0, 1) := by decide +kernel
theorem dX11_feed_83 : decode cX11_feed 83 = .ok (.getfield 114, 3) := by decide +kernel
theorem dX11_feed_86 : decode cX11_feed 86 = .ok (.iload 7, 2) := by decide +kernel
theorem dX11_feed_88 : decode cX11_feed 88 = .ok (.bipush 24, 2) := by decide +kernel
theorem dX11_feed_90 : decode cX11_feed 90 = .ok (.bipush 8, 2) := by decide +kernel
theorem dX11_feed_92 : decode cX11_feed 92 = .ok (.iload 6, 2) := by decide +kernel
theorem dX11_feed_94 : decode cX11_feed 94 = .ok (.iconst 4, 1) := by decide +kernel
theorem dX11_feed_95 : decode cX11_feed 95 = .ok (.irem, 1) := by decide +kernel
theorem dX11_feed_96 : decode cX11_feed 96 = .ok (.imul, 1) := by decide +kernel
theorem dX11_feed_97 : decode cX11_feed 97 = .ok (.isub, 1) := by decide +kernel
theorem dX11_feed_98 : decode cX11_feed 98 = .ok (.ishr, 1) := by decide +kernel
theorem dX11_feed_99 : decode cX11_feed 99 = .ok (.sipush 255, 3) := by decide +kernel
theorem dX11_feed_102 : decode cX11_feed 102 = .ok (.iand, 1) := by decide +kernel
theorem dX11_feed_103 : decode cX11_feed 103 = .ok (.iastore, 1) := by decide +kernel
theorem dX11_feed_104 : decode cX11_feed 104 = .ok (.aload_n 0, 1) := by decide +kernel
theorem dX11_feed_105 : decode cX11_feed 105 = .ok (.dup, 1) := by decide +kernel
theorem dX11_feed_106 : decode cX11_feed 106 = .ok (.getfield 114, 3) := by decide +kernel
theorem dX11_feed_109 : decode cX11_feed 109 = .ok (.iconst 1, 1) := by decide +kernel
theorem dX11_feed_110 : decode cX11_feed 110 = .ok (.iadd, 1) := by decide +kernel
theorem dX11_feed_111 : decode cX11_feed 111 = .ok (.putfield 114, 3) := by decide +kernel
theorem dX11_feed_114 : decode cX11_feed 114 = .ok (.iinc 6 1, 3) := by decide +kernel
theorem dX11_feed_117 : decode cX11_feed 117 = .ok (.goto (-94), 3) := by decide +kernel
theorem dX11_feed_120 : decode cX11_feed 120 = .ok (.aload_n 0, 1) := by decide +kernel
theorem dX11_feed_121 : decode cX11_feed 121 = .ok (.getfield 114, 3) := by decide +kernel
theorem dX11_feed_124 : decode cX11_feed 124 = .ok (.ireturn, 1) := by decide +kernel
set_option maxRecDepth 100000 in
theorem ggX11_tree_X11_isTape : GoodIn wsX11_tree wsX11_isTape := (gi_cons 14 rfl rfl (gi_cons 2 rfl rfl (gi_cons 15 rfl rfl (gi_cons 16 rfl rfl (gi_cons 13 rfl rfl (gi_cons 17 rfl rfl (gi_cons 110 rfl rfl (gi_cons 111 rfl rfl (gi_cons 112 rfl rfl (gi_cons 113 rfl rfl (gi_cons 114 rfl rfl (gi_cons 115 rfl rfl (gi_cons 116 rfl rfl (gi_cons 117 rfl rfl (gi_cons 118 rfl rfl (gi_cons 119 rfl rfl (gi_cons 120 rfl rfl (gi_cons 121 rfl rfl (gi_cons 122 rfl rfl (gi_cons 123 rfl rfl (gi_cons 124 rfl rfl (gi_cons 125 rfl rfl (gi_cons 126 rfl rfl (gi_cons 127 rfl rfl (gi_cons 128 rfl rfl (gi_cons 129 rfl rfl (gi_cons 130 rfl rfl (gi_cons 131 rfl rfl (gi_cons 132 rfl rfl (gi_cons 133 rfl rfl (gi_cons 134 rfl rfl (gi_cons 135 rfl rfl (gi_cons 136 rfl rfl (gi_cons 137 rfl rfl (gi_cons 138 rfl rfl (gi_cons 139 rfl rfl (gi_cons 140 rfl rfl (gi_cons 141 rfl rfl (gi_cons 142 rfl rfl (gi_cons 143 rfl rfl (gi_cons 144 rfl rfl (gi_cons 145 rfl rfl (gi_cons 146 rfl rfl (gi_cons 147 rfl rfl (gi_cons 148 rfl rfl (gi_cons 149 rfl rfl (gi_cons 150 rfl rfl (gi_cons 151 rfl rfl (gi_cons 152 rfl rfl (gi_cons 153 rfl rfl (gi_cons 154 rfl rfl (gi_cons 155 rfl rfl (gi_cons 156 rfl rfl (gi_cons 157 rfl rfl (gi_cons 158 rfl rfl (gi_cons 159 rfl rfl (gi_cons 160 rfl rfl (gi_cons 161 rfl rfl (gi_cons 162 rfl rfl (gi_cons 163 rfl rfl (gi_cons 164 rfl rfl (gi_cons 165 rfl rfl (gi_cons 166 rfl rfl (gi_cons 167 rfl rfl (gi_cons 168 rfl rfl (gi_cons 169 rfl rfl (gi_cons 170 rfl rfl (gi_cons 171 rfl rfl (gi_cons 172 rfl rfl (gi_cons 173 rfl rfl (gi_cons 174 rfl rfl (gi_cons 175 rfl rfl gi_nil))))))))))))))))))))))))))))))))))))))))))))))))))))))))))))))))))))))))
set_option maxRecDepth 20000 in
theorem gX11_tree_X11_isTape : GoodIn wsX11_tree (wsV RX11 223 RX11 yX11_isTape wsX11_isTape) := goodIn_app (goodIn_of _ (by decide +kernel)) ggX11_tree_X11_isTape
set_option maxRecDepth 100000 in
theorem ggX11_tree_X11_fail : GoodIn wsX11_tree wsX11_fail := (gi_cons 21 rfl rfl (gi_cons 1 rfl rfl (gi_cons 110 rfl rfl (gi_cons 111 rfl rfl (gi_cons 112 rfl rfl (gi_cons 113 rfl rfl (gi_cons 114 rfl rfl (gi_cons 115 rfl rfl (gi_cons 116 rfl rfl (gi_cons 117 rfl rfl (gi_cons 118 rfl rfl (gi_cons 119 rfl rfl (gi_cons 120 rfl rfl (gi_cons 121 rfl rfl (gi_cons 122 rfl rfl (gi_cons 123 rfl rfl (gi_cons 124 rfl rfl (gi_cons 125 rfl rfl (gi_cons 126 rfl rfl (gi_cons 127 rfl rfl (gi_cons 128 rfl rfl (gi_cons 129 rfl rfl (gi_cons 130 rfl rfl (gi_cons 131 rfl rfl (gi_cons 132 rfl rfl (gi_cons 133 rfl rfl (gi_cons 134 rfl rfl (gi_cons 135 rfl rfl (gi_cons 136 rfl rfl (gi_cons 137 rfl rfl (gi_cons 138 rfl rfl (gi_cons 139 rfl rfl (gi_cons 140 rfl rfl (gi_cons 141 rfl rfl (gi_cons 142 rfl rfl (gi_cons 143 rfl rfl (gi_cons 144 rfl rfl (gi_cons 145 rfl rfl (gi_cons 146 rfl rfl (gi_cons 147 rfl rfl (gi_cons 148 rfl rfl (gi_cons 149 rfl rfl (gi_cons 150 rfl rfl (gi_cons 151 rfl rfl (gi_cons 152 rfl rfl (gi_cons 153 rfl rfl (gi_cons 154 rfl rfl (gi_cons 155 rfl rfl (gi_cons 156 rfl rfl (gi_cons 157 rfl rfl (gi_cons 158 rfl rfl (gi_cons 159 rfl rfl (gi_cons 160 rfl rfl (gi_cons 161 rfl rfl (gi_cons 162 rfl rfl (gi_cons 163 rfl rfl (gi_cons 164 rfl rfl (gi_cons 165 rfl rfl (gi_cons 166 rfl rfl (gi_cons 167 rfl rfl (gi_cons 168 rfl rfl (gi_cons 169 rfl rfl (gi_cons 170 rfl rfl (gi_cons 171 rfl rfl (gi_cons 172 rfl rfl (gi_cons 173 rfl rfl (gi_cons 174 rfl rfl (gi_cons 175 rfl rfl gi_nil))))))))))))))))))))))))))))))))))))))))))))))))))))))))))))))))))))
set_option maxRecDepth 20000 in
theorem gX11_tree_X11_fail : GoodIn wsX11_tree (wsV RX11 226 RX11 yX11_fail wsX11_fail) := goodIn_app (goodIn_of _ (by decide +kernel)) ggX11_tree_X11_fail
set_option maxRecDepth 100000 in
theorem ggX11_tree_X11_readsData : GoodIn wsX11_tree wsX11_readsData := (gi_cons 25 rfl rfl (gi_cons 4 rfl rfl (gi_cons 26 rfl rfl (gi_cons 3 rfl rfl (gi_cons 27 rfl rfl (gi_cons 28 rfl rfl (gi_cons 29 rfl rfl (gi_cons 30 rfl rfl (gi_cons 13 rfl rfl (gi_cons 31 rfl rfl (gi_cons 32 rfl rfl (gi_cons 33 rfl rfl (gi_cons 34 rfl rfl (gi_cons 35 rfl rfl (gi_cons 36 rfl rfl (gi_cons 37 rfl rfl (gi_cons 38 rfl rfl (gi_cons 39 rfl rfl (gi_cons 40 rfl rfl (gi_cons 41 rfl rfl (gi_cons 42 rfl rfl (gi_cons 43 rfl rfl (gi_cons 44 rfl rfl (gi_cons 45 rfl rfl (gi_cons 46 rfl rfl (gi_cons 47 rfl rfl (gi_cons 48 rfl rfl (gi_cons 49 rfl rfl (gi_cons 50 rfl rfl (gi_cons 51 rfl rfl (gi_cons 52 rfl rfl (gi_cons 53 rfl rfl (gi_cons 54 rfl rfl (gi_cons 55 rfl rfl (gi_cons 56 rfl rfl (gi_cons 57 rfl rfl (gi_cons 58 rfl rfl (gi_cons 59 rfl rfl (gi_cons 60 rfl rfl (gi_cons 61 rfl rfl (gi_cons 62 rfl rfl (gi_cons 6 rfl rfl (gi_cons 63 rfl rfl (gi_cons 64 rfl rfl (gi_cons 65 rfl rfl (gi_cons 66 rfl rfl (gi_cons 67 rfl rfl (gi_cons 68 rfl rfl (gi_cons 69 rfl rfl (gi_cons 70 rfl rfl (gi_cons 71 rfl rfl (gi_cons 72 rfl rfl (gi_cons 73 rfl rfl (gi_cons 74 rfl rfl (gi_cons 75 rfl rfl (gi_cons 76 rfl rfl (gi_cons 77 rfl rfl (gi_cons 78 rfl rfl (gi_cons 79 rfl rfl (gi_cons 80 rfl rfl (gi_cons 81 rfl rfl (gi_cons 82 rfl rfl (gi_cons 83 rfl rfl (gi_cons 84 rfl rfl (gi_cons 85 rfl rfl (gi_cons 86 rfl rfl (gi_cons 87 rfl rfl (gi_cons 88 rfl rfl (gi_cons 89 rfl rfl (gi_cons 90 rfl rfl (gi_cons 91 rfl rfl (gi_cons 92 rfl rfl (gi_cons 93 rfl rfl (gi_cons 94 rfl rfl (gi_cons 95 rfl rfl (gi_cons 96 rfl rfl (gi_cons 97 rfl rfl (gi_cons 98 rfl rfl (gi_cons 99 rfl rfl (gi_cons 100 rfl rfl (gi_cons 101 rfl rfl (gi_cons 102 rfl rfl (gi_cons 103 rfl rfl (gi_cons 104 rfl rfl (gi_cons 105 rfl rfl (gi_cons 106 rfl rfl (gi_cons 107 rfl rfl (gi_cons 108 rfl rfl (gi_cons 109 rfl rfl (gi_cons 110 rfl rfl (gi_cons 111 rfl rfl (gi_cons 112 rfl rfl (gi_cons 113 rfl rfl (gi_cons 114 rfl rfl (gi_cons 115 rfl rfl (gi_cons 116 rfl rfl (gi_cons 117 rfl rfl (gi_cons 118 rfl rfl (gi_cons 119 rfl rfl (gi_cons 120 rfl rfl (gi_cons 121 rfl rfl (gi_cons 122 rfl rfl (gi_cons 123 rfl rfl (gi_cons 124 rfl rfl (gi_cons 125 rfl rfl (gi_cons 126 rfl rfl (gi_cons 127 rfl rfl (gi_cons 128 rfl rfl (gi_cons 129 rfl rfl (gi_cons 130 rfl rfl (gi_cons 131 rfl rfl (gi_cons 132 rfl rfl (gi_cons 133 rfl rfl (gi_cons 134 rfl rfl (gi_cons 135 rfl rfl (gi_cons 136 rfl rfl (gi_cons 137 rfl rfl (gi_cons 138 rfl rfl (gi_cons 139 rfl rfl (gi_cons 140 rfl rfl (gi_cons 141 rfl rfl (gi_cons 142 rfl rfl (gi_cons 143 rfl rfl (gi_cons 144 rfl rfl (gi_cons 145 rfl rfl (gi_cons 146 rfl rfl (gi_cons 147 rfl rfl (gi_cons 148 rfl rfl (gi_cons 149 rfl rfl (gi_cons 150 rfl rfl (gi_cons 151 rfl rfl (gi_cons 152 rfl rfl (gi_cons 153 rfl rfl (gi_cons 154 rfl rfl (gi_cons 155 rfl rfl (gi_cons 156 rfl rfl (gi_cons 157 rfl rfl (gi_cons 158 rfl rfl (gi_cons 159 rfl rfl (gi_cons 160 rfl rfl (gi_cons 161 rfl rfl (gi_cons 162 rfl rfl (gi_cons 163 rfl rfl (gi_cons 164 rfl rfl (gi_cons 165 rfl rfl (gi_cons 166 rfl rfl (gi_cons 167 rfl rfl (gi_cons 168 rfl rfl (gi_cons 169 rfl rfl (gi_cons 170 rfl rfl (gi_cons 171 rfl rfl (gi_cons 172 rfl rfl (gi_cons 173 rfl rfl (gi_cons 174 rfl rfl (gi_cons 175 rfl rfl gi_nil)))))))))))))))))))))))))))))))))))))))))))))))))))))))))))))))))))))))))))))))))))))))))))))))))))))))))))))))))))))))))))))))))))))))))))))))))))))))))))
set_option maxRecDepth 20000 in
theorem gX11_tree_X11_readsData : GoodIn wsX11_tree (wsV RX11 229 RX11 yX11_readsData wsX11_readsData) := goodIn_app (goodIn_of _ (by decide +kernel)) ggX11_tree_X11_readsData
theorem dX11_tree_0 : decode cX11_tree 0 = .ok (.aload_n 0, 1) := by decide +kernel
theorem dX11_tree_1 : decode cX11_tree 1 = .ok (.iconst 0, 1) := by decide +kernel
theorem dX11_tree_2 : decode cX11_tree 2 = .ok (.putfield 111, 3) := by decide +kernel
theorem dX11_tree_5 : decode cX11_tree 5 = .ok (.aload_n 0, 1) := by decide +kernel
theorem dX11_tree_6 : decode cX11_tree 6 = .ok (.iload_n 1, 1) := by decide +kernel
theorem dX11_tree_7 : decode cX11_tree 7 = .ok (.invokevirtual 223, 3) := by decide +kernel
theorem dX11_tree_10 : decode cX11_tree 10 = .ok (.ifCond .ne 9, 3) := by decide +kernel
theorem dX11_tree_13 : decode cX11_tree 13 = .ok (.aload_n 0, 1) := by decide +kernel
theorem dX11_tree_14 : decode cX11_tree 14 = .ok (.iconst 1, 1) := by decide +kernel
theorem dX11_tree_15 : decode cX11_tree 15 = .ok (.invokevirtual 226, 3) := by decide +kernel
theorem dX11_tree_18 : decode cX11_tree 18 = .ok (.ireturn, 1) := by decide +kernel
theorem dX11_tree_19 : decode cX11_tree 19 = .ok (.aload_n 0, 1) := by decide +kernel
theorem dX11_tree_20 : decode cX11_tree 20 = .ok (.iconst 0, 1) := by decide +kernel
theorem dX11_tree_21 : decode cX11_tree 21 = .ok (.putfield 114, 3) := by decide +kernel
theorem dX11_tree_24 : decode cX11_tree 24 = .ok (.aload_n 0, 1) := by decide +kernel
theorem dX11_tree_25 : decode cX11_tree 25 = .ok (.iload_n 1, 1) := by decide +kernel
theorem dX11_tree_26 : decode cX11_tree 26 = .ok (.invokevirtual 229, 3) := by decide +kernel
theorem dX11_tree_29 : decode cX11_tree 29 = .ok (.ifCond .ne 8, 3) := by decide +kernel
theorem dX11_tree_32 : decode cX11_tree 32 = .ok (.aload_n 0, 1) := by decide +kernel
theorem dX11_tree_33 : decode cX11_tree 33 = .ok (.getfield 162, 3) := by decide +kernel
theorem dX11_tree_36 : decode cX11_tree 36 = .ok (.ireturn, 1) := by decide +kernel
theorem dX11_tree_37 : decode cX11_tree 37 = .ok (.iconst 0, 1) := by decide +kernel
theorem dX11_tree_38 : decode cX11_tree 38 = .ok (.istore_n 2, 1) := by decide +kernel
theorem dX11_tree_39 : decode cX11_tree 39 = .ok (.iload_n 2, 1) := by decide +kernel
theorem dX11_tree_40 : decode cX11_tree 40 = .ok (.iconst 4, 1) := by decide +kernel
theorem dX11_tree_41 : decode cX11_tree 41 = .ok (.aload_n 0, 1) := by decide +kernel
theorem dX11_tree_42 : decode cX11_tree 42 = .ok (.getfield 188, 3) := by decide +kernel
theorem dX11_tree_45 : decode cX11_tree 45 = .ok (.imul, 1) := by decide +kernel
theorem dX11_tree_46 : decode cX11_tree 46 = .ok (.if_icmp .ge 21, 3) := by decide +kernel
theorem dX11_tree_49 : decode cX11_tree 49 = .ok (.aload_n 0, 1) := by decide +kernel
theorem dX11_tree_50 : decode cX11_tree 50 = .ok (.getfield 9, 3) := by decide +kernel
theorem dX11_tree_53 : decode cX11_tree 53 = .ok (.iload_n 2, 1) := by decide +kernel
theorem dX11_tree_54 : decode cX11_tree 54 = .ok (.aload_n 0, 1) := by decide +kernel
theorem dX11_tree_55 : decode cX11_tree 55 = .ok (.getfield 13, 3) := by decide +kernel
theorem dX11_tree_58 : decode cX11_tree 58 = .ok (.iload_n 2, 1) := by decide +kernel
theorem dX11_tree_59 : decode cX11_tree 59 = .ok (.iaload, 1) := by decide +kernel
theorem dX11_tree_60 : decode cX11_tree 60 = .ok (.iastore, 1) := by decide +kernel
theorem dX11_tree_61 : decode cX11_tree 61 = .ok (.iinc 2 1, 3) := by decide +kernel
theorem dX11_tree_64 : decode cX11_tree 64 = .ok (.goto (-25), 3) := by decide +kernel
theorem dX11_tree_67 : decode cX11_tree 67 = .ok (.aload_n 0, 1) := by decide +kernel
theorem dX11_tree_68 : decode cX11_tree 68 = .ok (.iconst 0, 1) := by decide +kernel
theorem dX11_tree_69 : decode cX11_tree 69 = .ok (.putfield 232, 3) := by decide +kernel
theorem dX11_tree_72 : decode cX11_tree 72 = .ok (.aload_n 0, 1) := by decide +kernel
theorem dX11_tree_73 : decode cX11_tree 73 = .ok (.iconst 0, 1) := by decide +kernel
theorem dX11_tree_74 : decode cX11_tree 74 = .ok (.putfield 235, 3) := by decide +kernel
theorem dX11_tree_77 : decode cX11_tree 77 = .ok (.aload_n 0, 1) := by decide +kernel
theorem dX11_tree_78 : decode cX11_tree 78 = .ok (.iconst 0, 1) := by decide +kernel
theorem dX11_tree_79 : decode cX11_tree 79 = .ok (.putfield 238, 3) := by decide +kernel
theorem dX11_tree_82 : decode cX11_tree 82 = .ok (.iconst 0, 1) := by decide +kernel
theorem dX11_tree_83 : decode cX11_tree 83 = .ok (.ireturn, 1) := by decide +kernel
theorem dX11_fault_0 : decode cX11_fault 0 = .ok (.aload_n 0, 1) := by decide +kernel
theorem dX11_fault_1 : decode cX11_fault 1 = .ok (.iconst 0, 1) := by decide +kernel
theorem dX11_fault_2 : decode cX11_fault 2 = .ok (.putfield 111, 3) := by decide +kernel
theorem dX11_fault_5 : decode cX11_fault 5 = .ok (.aload_n 0, 1) := by decide +kernel
theorem dX11_fault_6 : decode cX11_fault 6 = .ok (.getfield 31, 3) := by decide +kernel
theorem dX11_fault_9 : decode cX11_fault 9 = .ok (.ireturn, 1) := by decide +kernel
set_option maxRecDepth 100000 in
theorem ggX11_path_X11_isIn : GoodIn wsX11_path wsX11_isIn := (gi_cons 11 rfl rfl gi_nil)
set_option maxRecDepth 20000 in
theorem gX11_path_X11_isIn : GoodIn wsX11_path (va_wsS RX11 219 yX11_isIn wsX11_isIn) := goodIn_app (goodIn_of _ (by decide +kernel)) ggX11_path_X11_isIn
set_option maxRecDepth 100000 in
theorem ggX11_path_X11_fail : GoodIn wsX11_path wsX11_fail := (gi_cons 15 rfl rfl (gi_cons 1 rfl rfl (gi_cons 182 rfl rfl (gi_cons 183 rfl rfl (gi_cons 184 rfl rfl (gi_cons 185 rfl rfl (gi_cons 186 rfl rfl (gi_cons 187 rfl rfl (gi_cons 188 rfl rfl (gi_cons 189 rfl rfl (gi_cons 190 rfl rfl (gi_cons 191 rfl rfl (gi_cons 192 rfl rfl (gi_cons 193 rfl rfl (gi_cons 194 rfl rfl (gi_cons 195 rfl rfl (gi_cons 196 rfl rfl (gi_cons 197 rfl rfl (gi_cons 198 rfl rfl (gi_cons 199 rfl rfl (gi_cons 200 rfl rfl (gi_cons 201 rfl rfl (gi_cons 202 rfl rfl (gi_cons 203 rfl rfl (gi_cons 204 rfl rfl (gi_cons 205 rfl rfl (gi_cons 206 rfl rfl (gi_cons 207 rfl rfl (gi_cons 208 rfl rfl (gi_cons 209 rfl rfl (gi_cons 210 rfl rfl (gi_cons 211 rfl rfl (gi_cons 212 rfl rfl (gi_cons 213 rfl rfl (gi_cons 214 rfl rfl (gi_cons 215 rfl rfl (gi_cons 216 rfl rfl (gi_cons 217 rfl rfl (gi_cons 218 rfl rfl (gi_cons 219 rfl rfl (gi_cons 220 rfl rfl (gi_cons 221 rfl rfl (gi_cons 222 rfl rfl (gi_cons 223 rfl rfl (gi_cons 224 rfl rfl (gi_cons 225 rfl rfl (gi_cons 226 rfl rfl (gi_cons 227 rfl rfl (gi_cons 228 rfl rfl (gi_cons 229 rfl rfl (gi_cons 230 rfl rfl (gi_cons 231 rfl rfl (gi_cons 232 rfl rfl (gi_cons 233 rfl rfl (gi_cons 234 rfl rfl (gi_cons 235 rfl rfl (gi_cons 236 rfl rfl (gi_cons 237 rfl rfl (gi_cons 238 rfl rfl (gi_cons 239 rfl rfl (gi_cons 240 rfl rfl (gi_cons 241 rfl rfl (gi_cons 242 rfl rfl (gi_cons 243 rfl rfl (gi_cons 244 rfl rfl (gi_cons 245 rfl rfl (gi_cons 246 rfl rfl (gi_cons 247 rfl rfl gi_nil))))))))))))))))))))))))))))))))))))))))))))))))))))))))))))))))))))
set_option maxRecDepth 20000 in
theorem gX11_path_X11_fail : GoodIn wsX11_path (wsV RX11 226 RX11 yX11_fail wsX11_fail) := goodIn_app (goodIn_of _ (by decide +kernel)) ggX11_path_X11_fail
set_option maxRecDepth 100000 in
theorem ggX11_path_X11_isTape : GoodIn wsX11_path wsX11_isTape := (gi_cons 19 rfl rfl (gi_cons 2 rfl rfl (gi_cons 8 rfl rfl (gi_cons 9 rfl rfl (gi_cons 10 rfl rfl (gi_cons 11 rfl rfl (gi_cons 182 rfl rfl (gi_cons 183 rfl rfl (gi_cons 184 rfl rfl (gi_cons 185 rfl rfl (gi_cons 186 rfl rfl (gi_cons 187 rfl rfl (gi_cons 188 rfl rfl (gi_cons 189 rfl rfl (gi_cons 190 rfl rfl (gi_cons 191 rfl rfl (gi_cons 192 rfl rfl (gi_cons 193 rfl rfl (gi_cons 194 rfl rfl (gi_cons 195 rfl rfl (gi_cons 196 rfl rfl (gi_cons 197 rfl rfl (gi_cons 198 rfl rfl (gi_cons 199 rfl rfl (gi_cons 200 rfl rfl (gi_cons 201 rfl rfl (gi_cons 202 rfl rfl (gi_cons 203 rfl rfl (gi_cons 204 rfl rfl (gi_cons 205 rfl rfl (gi_cons 206 rfl rfl (gi_cons 207 rfl rfl (gi_cons 208 rfl rfl (gi_cons 209 rfl rfl (gi_cons 210 rfl rfl (gi_cons 211 rfl rfl (gi_cons 212 rfl rfl (gi_cons 213 rfl rfl (gi_cons 214 rfl rfl (gi_cons 215 rfl rfl (gi_cons 216 rfl rfl (gi_cons 217 rfl rfl (gi_cons 218 rfl rfl (gi_cons 219 rfl rfl (gi_cons 220 rfl rfl (gi_cons 221 rfl rfl (gi_cons 222 rfl rfl (gi_cons 223 rfl rfl (gi_cons 224 rfl rfl (gi_cons 225 rfl rfl (gi_cons 226 rfl rfl (gi_cons 227 rfl rfl (gi_cons 228 rfl rfl (gi_cons 229 rfl rfl (gi_cons 230 rfl rfl (gi_cons 231 rfl rfl (gi_cons 232 rfl rfl (gi_cons 233 rfl rfl (gi_cons 234 rfl rfl (gi_cons 235 rfl rfl (gi_cons 236 rfl rfl (gi_cons 237 rfl rfl (gi_cons 238 rfl rfl (gi_cons 239 rfl rfl (gi_cons 240 rfl rfl (gi_cons 241 rfl rfl (gi_cons 242 rfl rfl (gi_cons 243 rfl rfl (gi_cons 244 rfl rfl (gi_cons 245 rfl rfl (gi_cons 246 rfl rfl (gi_cons 247 rfl rfl gi_nil))))))))))))))))))))))))))))))))))))))))))))))))))))))))))))))))))))))))
set_option maxRecDepth 20000 in
theorem gX11_path_X11_isTape : GoodIn wsX11_path (wsV RX11 223 RX11 yX11_isTape wsX11_isTape) := goodIn_app (goodIn_of _ (by decide +kernel)) ggX11_path_X11_isTape
set_option maxRecDepth 100000 in
theorem ggX11_path_X11_beginText : GoodIn wsX11_path wsX11_beginText := (gi_cons 23 rfl rfl (gi_cons 24 rfl rfl (gi_cons 25 rfl rfl (gi_cons 26 rfl rfl (gi_cons 27 rfl rfl (gi_cons 5 rfl rfl (gi_cons 28 rfl rfl (gi_cons 29 rfl rfl (gi_cons 30 rfl rfl (gi_cons 10 rfl rfl (gi_cons 31 rfl rfl (gi_cons 32 rfl rfl (gi_cons 33 rfl rfl (gi_cons 34 rfl rfl (gi_cons 35 rfl rfl (gi_cons 36 rfl rfl (gi_cons 37 rfl rfl (gi_cons 38 rfl rfl (gi_cons 39 rfl rfl (gi_cons 40 rfl rfl (gi_cons 41 rfl rfl (gi_cons 42 rfl rfl (gi_cons 43 rfl rfl (gi_cons 44 rfl rfl (gi_cons 45 rfl rfl (gi_cons 46 rfl rfl (gi_cons 47 rfl rfl (gi_cons 48 rfl rfl (gi_cons 49 rfl rfl (gi_cons 50 rfl rfl (gi_cons 51 rfl rfl (gi_cons 182 rfl rfl (gi_cons 183 rfl rfl (gi_cons 184 rfl rfl (gi_cons 185 rfl rfl (gi_cons 186 rfl rfl (gi_cons 187 rfl rfl (gi_cons 188 rfl rfl (gi_cons 189 rfl rfl (gi_cons 190 rfl rfl (gi_cons 191 rfl rfl (gi_cons 192 rfl rfl (gi_cons 193 rfl rfl (gi_cons 194 rfl rfl (gi_cons 195 rfl rfl (gi_cons 196 rfl rfl (gi_cons 197 rfl rfl (gi_cons 198 rfl rfl (gi_cons 199 rfl rfl (gi_cons 200 rfl rfl (gi_cons 201 rfl rfl (gi_cons 202 rfl rfl (gi_cons 203 rfl rfl (gi_cons 204 rfl rfl (gi_cons 205 rfl rfl (gi_cons 206 rfl rfl (gi_cons 207 rfl rfl (gi_cons 208 rfl rfl (gi_cons 209 rfl rfl (gi_cons 210 rfl rfl (gi_cons 211 rfl rfl (gi_cons 212 rfl rfl (gi_cons 213 rfl rfl (gi_cons 214 rfl rfl (gi_cons 215 rfl rfl (gi_cons 216 rfl rfl (gi_cons 217 rfl rfl (gi_cons 218 rfl rfl (gi_cons 219 rfl rfl (gi_cons 220 rfl rfl (gi_cons 221 rfl rfl (gi_cons 222 rfl rfl (gi_cons 223 rfl rfl (gi_cons 224 rfl rfl (gi_cons 225 rfl rfl (gi_cons 226 rfl rfl (gi_cons 227 rfl rfl (gi_cons 228 rfl rfl (gi_cons 229 rfl rfl (gi_cons 230 rfl rfl (gi_cons 231 rfl rfl (gi_cons 232 rfl rfl (gi_cons 233 rfl rfl (gi_cons 234 rfl rfl (gi_cons 235 rfl rfl (gi_cons 236 rfl rfl (gi_cons 237 rfl rfl (gi_cons 238 rfl rfl (gi_cons 239 rfl rfl (gi_cons 240 rfl rfl (gi_cons 241 rfl rfl (gi_cons 242 rfl rfl (gi_cons 243 rfl rfl (gi_cons 244 rfl rfl (gi_cons 245 rfl rfl (gi_cons 246 rfl rfl (gi_cons 247 rfl rfl gi_nil)))))))))))))))))))))))))))))))))))))))))))))))))))))))))))))))))))))))))))))))))))))))))))))))))
set_option maxRecDepth 20000 in
theorem gX11_path_X11_beginText : GoodIn wsX11_path (wsV RX11 211 RX11 yX11_beginText wsX11_beginText) := goodIn_app (goodIn_of _ (by decide +kernel)) ggX11_path_X11_beginText
set_option maxRecDepth 100000 in
theorem ggX11_path_X11_readPath : GoodIn wsX11_path wsX11_readPath := (gi_cons 55 rfl rfl (gi_cons 56 rfl rfl (gi_cons 57 rfl rfl (gi_cons 58 rfl rfl (gi_cons 59 rfl rfl (gi_cons 5 rfl rfl (gi_cons 33 rfl rfl (gi_cons 60 rfl rfl (gi_cons 61 rfl rfl (gi_cons 62 rfl rfl (gi_cons 10 rfl rfl (gi_cons 63 rfl rfl (gi_cons 64 rfl rfl (gi_cons 3 rfl rfl (gi_cons 65 rfl rfl (gi_cons 66 rfl rfl (gi_cons 67 rfl rfl (gi_cons 68 rfl rfl (gi_cons 69 rfl rfl (gi_cons 32 rfl rfl (gi_cons 42 rfl rfl (gi_cons 43 rfl rfl (gi_cons 44 rfl rfl (gi_cons 45 rfl rfl (gi_cons 26 rfl rfl (gi_cons 24 rfl rfl (gi_cons 25 rfl rfl (gi_cons 70 rfl rfl (gi_cons 71 rfl rfl (gi_cons 72 rfl rfl (gi_cons 73 rfl rfl (gi_cons 74 rfl rfl (gi_cons 75 rfl rfl (gi_cons 76 rfl rfl (gi_cons 77 rfl rfl (gi_cons 78 rfl rfl (gi_cons 28 rfl rfl (gi_cons 29 rfl rfl (gi_cons 30 rfl rfl (gi_cons 31 rfl rfl (gi_cons 27 rfl rfl (gi_cons 34 rfl rfl (gi_cons 35 rfl rfl (gi_cons 36 rfl rfl (gi_cons 37 rfl rfl (gi_cons 38 rfl rfl (gi_cons 39 rfl rfl (gi_cons 40 rfl rfl (gi_cons 41 rfl rfl (gi_cons 46 rfl rfl (gi_cons 47 rfl rfl (gi_cons 48 rfl rfl (gi_cons 49 rfl rfl (gi_cons 50 rfl rfl (gi_cons 51 rfl rfl (gi_cons 79 rfl rfl (gi_cons 80 rfl rfl (gi_cons 81 rfl rfl (gi_cons 82 rfl rfl (gi_cons 83 rfl rfl (gi_cons 84 rfl rfl (gi_cons 85 rfl rfl (gi_cons 86 rfl rfl (gi_cons 87 rfl rfl (gi_cons 88 rfl rfl (gi_cons 89 rfl rfl (gi_cons 90 rfl rfl (gi_cons 91 rfl rfl (gi_cons 92 rfl rfl (gi_cons 93 rfl rfl (gi_cons 94 rfl rfl (gi_cons 95 rfl rfl (gi_cons 96 rfl rfl (gi_cons 97 rfl rfl (gi_cons 98 rfl rfl (gi_cons 99 rfl rfl (gi_cons 100 rfl rfl (gi_cons 101 rfl rfl (gi_cons 102 rfl rfl (gi_cons 103 rfl rfl (gi_cons 104 rfl rfl (gi_cons 105 rfl rfl (gi_cons 106 rfl rfl (gi_cons 107 rfl rfl (gi_cons 108 rfl rfl (gi_cons 109 rfl rfl (gi_cons 110 rfl rfl (gi_cons 111 rfl rfl (gi_cons 112 rfl rfl (gi_cons 113 rfl rfl (gi_cons 114 rfl rfl (gi_cons 115 rfl rfl (gi_cons 116 rfl rfl (gi_cons 117 rfl rfl (gi_cons 118 rfl rfl (gi_cons 119 rfl rfl (gi_cons 120 rfl rfl (gi_cons 121 rfl rfl (gi_cons 122 rfl rfl (gi_cons 123 rfl rfl (gi_cons 124 rfl rfl (gi_cons 125 rfl rfl (gi_cons 126 rfl rfl (gi_cons 127 rfl rfl (gi_cons 128 rfl rfl (gi_cons 129 rfl rfl (gi_cons 130 rfl rfl (gi_cons 131 rfl rfl (gi_cons 132 rfl rfl (gi_cons 133 rfl rfl (gi_cons 134 rfl rfl (gi_cons 135 rfl rfl (gi_cons 136 rfl rfl (gi_cons 137 rfl rfl (gi_cons 138 rfl rfl (gi_cons 139 rfl rfl (gi_cons 140 rfl rfl (gi_cons 141 rfl rfl (gi_cons 142 rfl rfl (gi_cons 143 rfl rfl (gi_cons 144 rfl rfl (gi_cons 145 rfl rfl (gi_cons 146 rfl rfl (gi_cons 147 rfl rfl (gi_cons 148 rfl rfl (gi_cons 149 rfl rfl (gi_cons 150 rfl rfl (gi_cons 151 rfl rfl (gi_cons 152 rfl rfl (gi_cons 153 rfl rfl (gi_cons 154 rfl rfl (gi_cons 155 rfl rfl (gi_cons 156 rfl rfl (gi_cons 157 rfl rfl (gi_cons 158 rfl rfl (gi_cons 159 rfl rfl (gi_cons 160 rfl rfl (gi_cons 161 rfl rfl (gi_cons 162 rfl rfl (gi_cons 163 rfl rfl (gi_cons 164 rfl rfl (gi_cons 165 rfl rfl (gi_cons 166 rfl rfl (gi_cons 167 rfl rfl (gi_cons 168 rfl rfl (gi_cons 169 rfl rfl (gi_cons 170 rfl rfl (gi_cons 171 rfl rfl (gi_cons 172 rfl rfl (gi_cons 173 rfl rfl (gi_cons 174 rfl rfl (gi_cons 175 rfl rfl (gi_cons 182 rfl rfl (gi_cons 183 rfl rfl (gi_cons 184 rfl rfl (gi_cons 185 rfl rfl (gi_cons 186 rfl rfl (gi_cons 187 rfl rfl (gi_cons 188 rfl rfl (gi_cons 189 rfl rfl (gi_cons 190 rfl rfl (gi_cons 191 rfl rfl (gi_cons 192 rfl rfl (gi_cons 193 rfl rfl (gi_cons 194 rfl rfl (gi_cons 195 rfl rfl (gi_cons 196 rfl rfl (gi_cons 197 rfl rfl (gi_cons 198 rfl rfl (gi_cons 199 rfl rfl (gi_cons 200 rfl rfl (gi_cons 201 rfl rfl (gi_cons 202 rfl rfl (gi_cons 203 rfl rfl (gi_cons 204 rfl rfl (gi_cons 205 rfl rfl (gi_cons 206 rfl rfl (gi_cons 207 rfl rfl (gi_cons 208 rfl rfl (gi_cons 209 rfl rfl (gi_cons 210 rfl rfl (gi_cons 211 rfl rfl (gi_cons 212 rfl rfl (gi_cons 213 rfl rfl (gi_cons 214 rfl rfl (gi_cons 215 rfl rfl (gi_cons 216 rfl rfl (gi_cons 217 rfl rfl (gi_cons 218 rfl rfl (gi_cons 219 rfl rfl (gi_cons 220 rfl rfl (gi_cons 221 rfl rfl (gi_cons 222 rfl rfl (gi_cons 223 rfl rfl (gi_cons 224 rfl rfl (gi_cons 225 rfl rfl (gi_cons 226 rfl rfl (gi_cons 227 rfl rfl (gi_cons 228 rfl rfl (gi_cons 229 rfl rfl (gi_cons 230 rfl rfl (gi_cons 231 rfl rfl (gi_cons 232 rfl rfl (gi_cons 233 rfl rfl (gi_cons 234 rfl rfl (gi_cons 235 rfl rfl (gi_cons 236 rfl rfl (gi_cons 237 rfl rfl (gi_cons 238 rfl rfl (gi_cons 239 rfl rfl (gi_cons 240 rfl rfl (gi_cons 241 rfl rfl (gi_cons 242 rfl rfl (gi_cons 243 rfl rfl (gi_cons 244 rfl rfl (gi_cons 245 rfl rfl (gi_cons 246 rfl rfl (gi_cons 247 rfl rfl gi_nil))))))))))))))))))))))))))))))))))))))))))))))))))))))))))))))))))))))))))))))))))))))))))))))))))))))))))))))))))))))))))))))))))))))))))))))))))))))))))))))))))))))))))))))))))))))))))))))))))))))))))))))))))))))))))
set_option maxRecDepth 20000 in
theorem gX11_path_X11_readPath : GoodIn wsX11_path (wsV RX11 341 RX11 yX11_readPath wsX11_readPath) := goodIn_app (goodIn_of _ (by decide +kernel)) ggX11_path_X11_readPath
set_option maxRecDepth 100000 in
theorem ggX11_path_X11_isRead : GoodIn wsX11_path wsX11_isRead := (gi_cons 179 rfl rfl (gi_cons 5 rfl rfl (gi_cons 74 rfl rfl (gi_cons 180 rfl rfl (gi_cons 181 rfl rfl (gi_cons 182 rfl rfl (gi_cons 183 rfl rfl (gi_cons 184 rfl rfl (gi_cons 185 rfl rfl (gi_cons 186 rfl rfl (gi_cons 187 rfl rfl (gi_cons 188 rfl rfl (gi_cons 189 rfl rfl (gi_cons 190 rfl rfl (gi_cons 191 rfl rfl (gi_cons 192 rfl rfl (gi_cons 193 rfl rfl (gi_cons 194 rfl rfl (gi_cons 195 rfl rfl (gi_cons 196 rfl rfl (gi_cons 197 rfl rfl (gi_cons 198 rfl rfl (gi_cons 199 rfl rfl (gi_cons 200 rfl rfl (gi_cons 201 rfl rfl (gi_cons 202 rfl rfl (gi_cons 203 rfl rfl (gi_cons 204 rfl rfl (gi_cons 205 rfl rfl (gi_cons 206 rfl rfl (gi_cons 207 rfl rfl (gi_cons 208 rfl rfl (gi_cons 209 rfl rfl (gi_cons 210 rfl rfl (gi_cons 211 rfl rfl (gi_cons 212 rfl rfl (gi_cons 213 rfl rfl (gi_cons 214 rfl rfl (gi_cons 215 rfl rfl (gi_cons 216 rfl rfl (gi_cons 217 rfl rfl (gi_cons 218 rfl rfl (gi_cons 219 rfl rfl (gi_cons 220 rfl rfl (gi_cons 221 rfl rfl (gi_cons 222 rfl rfl (gi_cons 223 rfl rfl (gi_cons 224 rfl rfl (gi_cons 225 rfl rfl (gi_cons 226 rfl rfl (gi_cons 227 rfl rfl (gi_cons 228 rfl rfl (gi_cons 229 rfl rfl (gi_cons 230 rfl rfl (gi_cons 231 rfl rfl (gi_cons 232 rfl rfl (gi_cons 233 rfl rfl (gi_cons 234 rfl rfl (gi_cons 235 rfl rfl (gi_cons 236 rfl rfl (gi_cons 237 rfl rfl (gi_cons 238 rfl rfl (gi_cons 239 rfl rfl (gi_cons 240 rfl rfl (gi_cons 241 rfl rfl (gi_cons 242 rfl rfl (gi_cons 243 rfl rfl (gi_cons 244 rfl rfl (gi_cons 245 rfl rfl (gi_cons 246 rfl rfl (gi_cons 247 rfl rfl gi_nil)))))))))))))))))))))))))))))))))))))))))))))))))))))))))))))))))))))))
set_option maxRecDepth 20000 in
theorem gX11_path_X11_isRead : GoodIn wsX11_path (wsV RX11 215 RX11 yX11_isRead wsX11_isRead) := goodIn_app (goodIn_of _ (by decide +kernel)) ggX11_path_X11_isRead
theorem dX11_path_0 : decode cX11_path 0 = .ok (.aload_n 0, 1) := by decide +kernel
theorem dX11_path_1 : decode cX11_path 1 = .ok (.iconst 0, 1) := by decide +kernel
theorem dX11_path_2 : decode cX11_path 2 = .ok (.putfield 111, 3) := by decide +kernel
theorem dX11_path_5 : decode cX11_path 5 = .ok (.iload_n 1, 1) := by decide +kernel
theorem dX11_path_6 : decode cX11_path 6 = .ok (.iconst 0, 1) := by decide +kernel
theorem dX11_path_7 : decode cX11_path 7 = .ok (.iconst 3, 1) := by decide +kernel
theorem dX11_path_8 : decode cX11_path 8 = .ok (.invokestatic 219, 3) := by decide +kernel
theorem dX11_path_11 : decode cX11_path 11 = .ok (.ifCond .ne 9, 3) := by decide +kernel
theorem dX11_path_14 : decode cX11_path 14 = .ok (.aload_n 0, 1) := by decide +kernel
theorem dX11_path_15 : decode cX11_path 15 = .ok (.iconst 1, 1) := by decide +kernel
theorem dX11_path_16 : decode cX11_path 16 = .ok (.invokevirtual 226, 3) := by decide +kernel
theorem dX11_path_19 : decode cX11_path 19 = .ok (.ireturn, 1) := by decide +kernel
theorem dX11_path_20 : decode cX11_path 20 = .ok (.aload_n 0, 1) := by decide +kernel
theorem dX11_path_21 : decode cX11_path 21 = .ok (.iload_n 2, 1) := by decide +kernel
theorem dX11_path_22 : decode cX11_path 22 = .ok (.invokevirtual 223, 3) := by decide +kernel
theorem dX11_path_25 : decode cX11_path 25 = .ok (.ifCond .ne 9, 3) := by decide +kernel
theorem dX11_path_28 : decode cX11_path 28 = .ok (.aload_n 0, 1) := by decide +kernel
theorem dX11_path_29 : decode cX11_path 29 = .ok (.iconst 2, 1) := by decide +kernel
theorem dX11_path_30 : decode cX11_path 30 = .ok (.invokevirtual 226, 3) := by decide +kernel
theorem dX11_path_33 : decode cX11_path 33 = .ok (.ireturn, 1) := by decide +kernel
theorem dX11_path_34 : decode cX11_path 34 = .ok (.aload_n 0, 1) := by decide +kernel
theorem dX11_path_35 : decode cX11_path 35 = .ok (.iconst 0, 1) := by decide +kernel
theorem dX11_path_36 : decode cX11_path 36 = .ok (.putfield 114, 3) := by decide +kernel
theorem dX11_path_39 : decode cX11_path 39 = .ok (.aload_n 0, 1) := by decide +kernel
theorem dX11_path_40 : decode cX11_path 40 = .ok (.iconst 0, 1) := by decide +kernel
theorem dX11_path_41 : decode cX11_path 41 = .ok (.putfield 300, 3) := by decide +kernel
theorem dX11_path_44 : decode cX11_path 44 = .ok (.aload_n 0, 1) := by decide +kernel
theorem dX11_path_45 : decode cX11_path 45 = .ok (.aload_n 0, 1) := by decide +kernel
theorem dX11_path_46 : decode cX11_path 46 = .ok (.getfield 22, 3) := by decide +kernel
theorem dX11_path_49 : decode cX11_path 49 = .ok (.iconst 0, 1) := by decide +kernel
theorem dX11_path_50 : decode cX11_path 50 = .ok (.iload_n 2, 1) := by decide +kernel
theorem dX11_path_51 : decode cX11_path 51 = .ok (.invokevirtual 211, 3) := by decide +kernel
theorem dX11_path_54 : decode cX11_path 54 = .ok (.aload_n 0, 1) := by decide +kernel
theorem dX11_path_55 : decode cX11_path 55 = .ok (.iconst (-1), 1) := by decide +kernel
theorem dX11_path_56 : decode cX11_path 56 = .ok (.invokevirtual 341, 3) := by decide +kernel
theorem dX11_path_59 : decode cX11_path 59 = .ok (.aload_n 0, 1) := by decide +kernel
theorem dX11_path_60 : decode cX11_path 60 = .ok (.invokevirtual 215, 3) := by decide +kernel
theorem dX11_path_63 : decode cX11_path 63 = .ok (.ifCond .ne 8, 3) := by decide +kernel
theorem dX11_path_66 : decode cX11_path 66 = .ok (.aload_n 0, 1) := by decide +kernel
theorem dX11_path_67 : decode cX11_path 67 = .ok (.getfield 162, 3) := by decide +kernel
theorem dX11_path_70 : decode cX11_path 70 = .ok (.ireturn, 1) := by decide +kernel
theorem dX11_path_71 : decode cX11_path 71 = .ok (.iconst 0, 1) := by decide +kernel
theorem dX11_path_72 : decode cX11_path 72 = .ok (.istore_n 3, 1) := by decide +kernel
theorem dX11_path_73 : decode cX11_path 73 = .ok (.iload_n 3, 1) := by decide +kernel
theorem dX11_path_74 : decode cX11_path 74 = .ok (.iload_n 2, 1) := by decide +kernel
theorem dX11_path_75 : decode cX11_path 75 = .ok (.if_icmp .ge 27, 3) := by decide +kernel
theorem dX11_path_78 : decode cX11_path 78 = .ok (.aload_n 0, 1) := by decide +kernel
theorem dX11_path_79 : decode cX11_path 79 = .ok (.getfield 25, 3) := by decide +kernel
theorem dX11_path_82 : decode cX11_path 82 = .ok (.sipush 400, 3) := by decide +kernel
theorem dX11_path_85 : decode cX11_path 85 = .ok (.iload_n 1, 1) := by decide +kernel
theorem dX11_path_86 : decode cX11_path 86 = .ok (.imul, 1) := by decide +kernel
theorem dX11_path_87 : decode cX11_path 87 = .ok (.iload_n 3, 1) := by decide +kernel
theorem dX11_path_88 : decode cX11_path 88 = .ok (.iadd, 1) := by decide +kernel
theorem dX11_path_89 : decode cX11_path 89 = .ok (.aload_n 0, 1) := by decide +kernel
theorem dX11_path_90 : decode cX11_path 90 = .ok (.getfield 22, 3) := by decide +kernel
theorem dX11_path_93 : decode cX11_path 93 = .ok (.iload_n 3, 1) := by decide +kernel
theorem dX11_path_94 : decode cX11_path 94 = .ok (.iaload, 1) := by decide +kernel
theorem dX11_path_95 : decode cX11_path 95 = .ok (.iastore, 1) := by decide +kernel
theorem dX11_path_96 : decode cX11_path 96 = .ok (.iinc 3 1, 3) := by decide +kernel
theorem dX11_path_99 : decode cX11_path 99 = .ok (.goto (-26), 3) := by decide +kernel
theorem dX11_path_102 : decode cX11_path 102 = .ok (.aload_n 0, 1) := by decide +kernel
theorem dX11_path_103 : decode cX11_path 103 = .ok (.getfield 28, 3) := by decide +kernel
theorem dX11_path_106 : decode cX11_path 106 = .ok (.iload_n 1, 1) := by decide +kernel
theorem dX11_path_107 : decode cX11_path 107 = .ok (.iload_n 2, 1) := by decide +kernel
theorem dX11_path_108 : decode cX11_path 108 = .ok (.iconst 1, 1) := by decide +kernel
theorem dX11_path_109 : decode cX11_path 109 = .ok (.iadd, 1) := by decide +kernel
theorem dX11_path_110 : decode cX11_path 110 = .ok (.iastore, 1) := by decide +kernel
theorem dX11_path_111 : decode cX11_path 111 = .ok (.iconst 0, 1) := by decide +kernel
theorem dX11_path_112 : decode cX11_path 112 = .ok (.ireturn, 1) := by decide +kernel
