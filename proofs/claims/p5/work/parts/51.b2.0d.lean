set_option maxRecDepth 100000 in
theorem ggX9_graft_X9_end : GoodIn wsX9_graft wsX9_end := (gi_cons 9 rfl rfl (gi_cons 1 rfl rfl (gi_cons 3 rfl rfl (gi_cons 27 rfl rfl (gi_cons 28 rfl rfl (gi_cons 29 rfl rfl (gi_cons 30 rfl rfl (gi_cons 31 rfl rfl gi_nil))))))))
set_option maxRecDepth 20000 in
theorem gX9_graft_X9_end : GoodIn wsX9_graft (wsV RX9 28 RX9 yX9_end wsX9_end) := goodIn_app (goodIn_of _ (by decide +kernel)) ggX9_graft_X9_end
set_option maxRecDepth 100000 in
theorem ggX9_graft_X9_has : GoodIn wsX9_graft wsX9_has := (gi_cons 13 rfl rfl (gi_cons 1 rfl rfl (gi_cons 2 rfl rfl (gi_cons 27 rfl rfl (gi_cons 28 rfl rfl (gi_cons 29 rfl rfl (gi_cons 30 rfl rfl (gi_cons 31 rfl rfl gi_nil))))))))
set_option maxRecDepth 20000 in
theorem gX9_graft_X9_has : GoodIn wsX9_graft (wsV RX9 66 RX9 yX9_has wsX9_has) := goodIn_app (goodIn_of _ (by decide +kernel)) ggX9_graft_X9_has
set_option maxRecDepth 100000 in
theorem ggX9_graft_X9_copyFrom : GoodIn wsX9_graft wsX9_copyFrom := (gi_cons 17 rfl rfl (gi_cons 2 rfl rfl (gi_cons 18 rfl rfl (gi_cons 19 rfl rfl (gi_cons 20 rfl rfl (gi_cons 21 rfl rfl (gi_cons 22 rfl rfl (gi_cons 4 rfl rfl (gi_cons 3 rfl rfl (gi_cons 27 rfl rfl (gi_cons 28 rfl rfl (gi_cons 29 rfl rfl (gi_cons 30 rfl rfl (gi_cons 31 rfl rfl gi_nil))))))))))))))
set_option maxRecDepth 20000 in
theorem gX9_graft_X9_copyFrom : GoodIn wsX9_graft (wsV RX9 70 RX9 yX9_copyFrom wsX9_copyFrom) := goodIn_app (goodIn_of _ (by decide +kernel)) ggX9_graft_X9_copyFrom
set_option maxRecDepth 100000 in
theorem ggX9_graft_X9_depthAt : GoodIn wsX9_graft wsX9_depthAt := (gi_cons 26 rfl rfl (gi_cons 1 rfl rfl (gi_cons 3 rfl rfl (gi_cons 27 rfl rfl (gi_cons 28 rfl rfl (gi_cons 29 rfl rfl (gi_cons 30 rfl rfl (gi_cons 31 rfl rfl gi_nil))))))))
set_option maxRecDepth 20000 in
theorem gX9_graft_X9_depthAt : GoodIn wsX9_graft (wsV RX9 74 RX9 yX9_depthAt wsX9_depthAt) := goodIn_app (goodIn_of _ (by decide +kernel)) ggX9_graft_X9_depthAt
theorem dX9_graft_0 : decode cX9_graft 0 = .ok (.aload 4, 2) := by decide +kernel
theorem dX9_graft_2 : decode cX9_graft 2 = .ok (.iload 5, 2) := by decide +kernel
theorem dX9_graft_4 : decode cX9_graft 4 = .ok (.invokevirtual 28, 3) := by decide +kernel
theorem dX9_graft_7 : decode cX9_graft 7 = .ok (.iload 5, 2) := by decide +kernel
theorem dX9_graft_9 : decode cX9_graft 9 = .ok (.isub, 1) := by decide +kernel
theorem dX9_graft_10 : decode cX9_graft 10 = .ok (.iconst 1, 1) := by decide +kernel
theorem dX9_graft_11 : decode cX9_graft 11 = .ok (.iadd, 1) := by decide +kernel
theorem dX9_graft_12 : decode cX9_graft 12 = .ok (.istore 6, 2) := by decide +kernel
theorem dX9_graft_14 : decode cX9_graft 14 = .ok (.aload 4, 2) := by decide +kernel
theorem dX9_graft_16 : decode cX9_graft 16 = .ok (.iload 5, 2) := by decide +kernel
theorem dX9_graft_18 : decode cX9_graft 18 = .ok (.invokevirtual 66, 3) := by decide +kernel
theorem dX9_graft_21 : decode cX9_graft 21 = .ok (.ifCond .eq 36, 3) := by decide +kernel
theorem dX9_graft_24 : decode cX9_graft 24 = .ok (.iload 6, 2) := by decide +kernel
theorem dX9_graft_26 : decode cX9_graft 26 = .ok (.iconst 1, 1) := by decide +kernel
theorem dX9_graft_27 : decode cX9_graft 27 = .ok (.if_icmp .lt 30, 3) := by decide +kernel
theorem dX9_graft_30 : decode cX9_graft 30 = .ok (.iload_n 1, 1) := by decide +kernel
theorem dX9_graft_31 : decode cX9_graft 31 = .ok (.ifCond .lt 26, 3) := by decide +kernel
theorem dX9_graft_34 : decode cX9_graft 34 = .ok (.iload_n 1, 1) := by decide +kernel
theorem dX9_graft_35 : decode cX9_graft 35 = .ok (.aload_n 0, 1) := by decide +kernel
theorem dX9_graft_36 : decode cX9_graft 36 = .ok (.getfield 24, 3) := by decide +kernel
theorem dX9_graft_39 : decode cX9_graft 39 = .ok (.if_icmp .gt 18, 3) := by decide +kernel
theorem dX9_graft_42 : decode cX9_graft 42 = .ok (.aload_n 0, 1) := by decide +kernel
theorem dX9_graft_43 : decode cX9_graft 43 = .ok (.getfield 24, 3) := by decide +kernel
theorem dX9_graft_46 : decode cX9_graft 46 = .ok (.iload 6, 2) := by decide +kernel
theorem dX9_graft_48 : decode cX9_graft 48 = .ok (.iadd, 1) := by decide +kernel
theorem dX9_graft_49 : decode cX9_graft 49 = .ok (.aload_n 0, 1) := by decide +kernel
theorem dX9_graft_50 : decode cX9_graft 50 = .ok (.getfield 9, 3) := by decide +kernel
theorem dX9_graft_53 : decode cX9_graft 53 = .ok (.arraylength, 1) := by decide +kernel
theorem dX9_graft_54 : decode cX9_graft 54 = .ok (.if_icmp .le 5, 3) := by decide +kernel
theorem dX9_graft_57 : decode cX9_graft 57 = .ok (.iconst 0, 1) := by decide +kernel
theorem dX9_graft_58 : decode cX9_graft 58 = .ok (.ireturn, 1) := by decide +kernel
theorem dX9_graft_59 : decode cX9_graft 59 = .ok (.aload_n 0, 1) := by decide +kernel
theorem dX9_graft_60 : decode cX9_graft 60 = .ok (.aload_n 0, 1) := by decide +kernel
theorem dX9_graft_61 : decode cX9_graft 61 = .ok (.iload_n 1, 1) := by decide +kernel
theorem dX9_graft_62 : decode cX9_graft 62 = .ok (.iload_n 1, 1) := by decide +kernel
theorem dX9_graft_63 : decode cX9_graft 63 = .ok (.iload 6, 2) := by decide +kernel
theorem dX9_graft_65 : decode cX9_graft 65 = .ok (.iadd, 1) := by decide +kernel
theorem dX9_graft_66 : decode cX9_graft 66 = .ok (.aload_n 0, 1) := by decide +kernel
theorem dX9_graft_67 : decode cX9_graft 67 = .ok (.getfield 24, 3) := by decide +kernel
theorem dX9_graft_70 : decode cX9_graft 70 = .ok (.iload_n 1, 1) := by decide +kernel
theorem dX9_graft_71 : decode cX9_graft 71 = .ok (.isub, 1) := by decide +kernel
theorem dX9_graft_72 : decode cX9_graft 72 = .ok (.invokevirtual 70, 3) := by decide +kernel
theorem dX9_graft_75 : decode cX9_graft 75 = .ok (.aload_n 0, 1) := by decide +kernel
theorem dX9_graft_76 : decode cX9_graft 76 = .ok (.aload 4, 2) := by decide +kernel
theorem dX9_graft_78 : decode cX9_graft 78 = .ok (.iload 5, 2) := by decide +kernel
theorem dX9_graft_80 : decode cX9_graft 80 = .ok (.iload_n 1, 1) := by decide +kernel
theorem dX9_graft_81 : decode cX9_graft 81 = .ok (.iload 6, 2) := by decide +kernel
theorem dX9_graft_83 : decode cX9_graft 83 = .ok (.invokevirtual 70, 3) := by decide +kernel
theorem dX9_graft_86 : decode cX9_graft 86 = .ok (.aload_n 0, 1) := by decide +kernel
theorem dX9_graft_87 : decode cX9_graft 87 = .ok (.dup, 1) := by decide +kernel
theorem dX9_graft_88 : decode cX9_graft 88 = .ok (.getfield 24, 3) := by decide +kernel
theorem dX9_graft_91 : decode cX9_graft 91 = .ok (.iload 6, 2) := by decide +kernel
theorem dX9_graft_93 : decode cX9_graft 93 = .ok (.iadd, 1) := by decide +kernel
theorem dX9_graft_94 : decode cX9_graft 94 = .ok (.putfield 24, 3) := by decide +kernel
theorem dX9_graft_97 : decode cX9_graft 97 = .ok (.iload_n 2, 1) := by decide +kernel
theorem dX9_graft_98 : decode cX9_graft 98 = .ok (.aload 4, 2) := by decide +kernel
theorem dX9_graft_100 : decode cX9_graft 100 = .ok (.iload 5, 2) := by decide +kernel
theorem dX9_graft_102 : decode cX9_graft 102 = .ok (.invokevirtual 74, 3) := by decide +kernel
theorem dX9_graft_105 : decode cX9_graft 105 = .ok (.isub, 1) := by decide +kernel
theorem dX9_graft_106 : decode cX9_graft 106 = .ok (.istore 7, 2) := by decide +kernel
theorem dX9_graft_108 : decode cX9_graft 108 = .ok (.iload_n 1, 1) := by decide +kernel
theorem dX9_graft_109 : decode cX9_graft 109 = .ok (.istore 8, 2) := by decide +kernel
theorem dX9_graft_111 : decode cX9_graft 111 = .ok (.iload 8, 2) := by decide +kernel
theorem dX9_graft_113 : decode cX9_graft 113 = .ok (.iload_n 1, 1) := by decide +kernel
theorem dX9_graft_114 : decode cX9_graft 114 = .ok (.iload 6, 2) := by decide +kernel
theorem dX9_graft_116 : decode cX9_graft 116 = .ok (.iadd, 1) := by decide +kernel
theorem dX9_graft_117 : decode cX9_graft 117 = .ok (.if_icmp .ge 30, 3) := by decide +kernel
theorem dX9_graft_120 : decode cX9_graft 120 = .ok (.iload 8, 2) := by decide +kernel
theorem dX9_graft_122 : decode cX9_graft 122 = .ok (.aload_n 0, 1) := by decide +kernel
theorem dX9_graft_123 : decode cX9_graft 123 = .ok (.getfield 24, 3) := by decide +kernel
theorem dX9_graft_126 : decode cX9_graft 126 = .ok (.if_icmp .ge 21, 3) := by decide +kernel
theorem dX9_graft_129 : decode cX9_graft 129 = .ok (.aload_n 0, 1) := by decide +kernel
theorem dX9_graft_130 : decode cX9_graft 130 = .ok (.getfield 21, 3) := by decide +kernel
theorem dX9_graft_133 : decode cX9_graft 133 = .ok (.iload 8, 2) := by decide +kernel
theorem dX9_graft_135 : decode cX9_graft 135 = .ok (.dup2, 1) := by decide +kernel
theorem dX9_graft_136 : decode cX9_graft 136 = .ok (.iaload, 1) := by decide +kernel
theorem dX9_graft_137 : decode cX9_graft 137 = .ok (.iload 7, 2) := by decide +kernel
theorem dX9_graft_139 : decode cX9_graft 139 = .ok (.iadd, 1) := by decide +kernel
theorem dX9_graft_140 : decode cX9_graft 140 = .ok (.iastore, 1) := by decide +kernel
theorem dX9_graft_141 : decode cX9_graft 141 = .ok (.iinc 8 1, 3) := by decide +kernel
theorem dX9_graft_144 : decode cX9_graft 144 = .ok (.goto (-33), 3) := by decide +kernel
theorem dX9_graft_147 : decode cX9_graft 147 = .ok (.aload_n 0, 1) := by decide +kernel
theorem dX9_graft_148 : decode cX9_graft 148 = .ok (.getfield 18, 3) := by decide +kernel
theorem dX9_graft_151 : decode cX9_graft 151 = .ok (.iload_n 1, 1) := by decide +kernel
theorem dX9_graft_152 : decode cX9_graft 152 = .ok (.iload_n 3, 1) := by decide +kernel
theorem dX9_graft_153 : decode cX9_graft 153 = .ok (.iastore, 1) := by decide +kernel
theorem dX9_graft_154 : decode cX9_graft 154 = .ok (.iconst 1, 1) := by decide +kernel
theorem dX9_graft_155 : decode cX9_graft 155 = .ok (.ireturn, 1) := by decide +kernel
set_option maxRecDepth 100000 in
theorem ggX9_cut_X9_sizeOf : GoodIn wsX9_cut wsX9_sizeOf := (gi_cons 6 rfl rfl (gi_cons 1 rfl rfl (gi_cons 7 rfl rfl (gi_cons 8 rfl rfl (gi_cons 9 rfl rfl (gi_cons 5 rfl rfl (gi_cons 10 rfl rfl (gi_cons 11 rfl rfl (gi_cons 23 rfl rfl (gi_cons 24 rfl rfl (gi_cons 25 rfl rfl (gi_cons 26 rfl rfl (gi_cons 27 rfl rfl gi_nil)))))))))))))
set_option maxRecDepth 20000 in
theorem gX9_cut_X9_sizeOf : GoodIn wsX9_cut (wsV RX9 44 RX9 yX9_sizeOf wsX9_sizeOf) := goodIn_app (goodIn_of _ (by decide +kernel)) ggX9_cut_X9_sizeOf
set_option maxRecDepth 100000 in
theorem ggX9_cut_X9_copyFrom : GoodIn wsX9_cut wsX9_copyFrom := (gi_cons 15 rfl rfl (gi_cons 16 rfl rfl (gi_cons 17 rfl rfl (gi_cons 18 rfl rfl (gi_cons 19 rfl rfl (gi_cons 20 rfl rfl (gi_cons 21 rfl rfl (gi_cons 22 rfl rfl (gi_cons 11 rfl rfl (gi_cons 23 rfl rfl (gi_cons 24 rfl rfl (gi_cons 25 rfl rfl (gi_cons 26 rfl rfl (gi_cons 27 rfl rfl gi_nil))))))))))))))
set_option maxRecDepth 20000 in
theorem gX9_cut_X9_copyFrom : GoodIn wsX9_cut (wsV RX9 70 RX9 yX9_copyFrom wsX9_copyFrom) := goodIn_app (goodIn_of _ (by decide +kernel)) ggX9_cut_X9_copyFrom
theorem dX9_cut_0 : decode cX9_cut 0 = .ok (.aload_n 0, 1) := by decide +kernel
theorem dX9_cut_1 : decode cX9_cut 1 = .ok (.iload_n 1, 1) := by decide +kernel
theorem dX9_cut_2 : decode cX9_cut 2 = .ok (.invokevirtual 44, 3) := by decide +kernel
theorem dX9_cut_5 : decode cX9_cut 5 = .ok (.istore_n 2, 1) := by decide +kernel
theorem dX9_cut_6 : decode cX9_cut 6 = .ok (.iload_n 2, 1) := by decide +kernel
theorem dX9_cut_7 : decode cX9_cut 7 = .ok (.ifCond .le 30, 3) := by decide +kernel
theorem dX9_cut_10 : decode cX9_cut 10 = .ok (.aload_n 0, 1) := by decide +kernel
theorem dX9_cut_11 : decode cX9_cut 11 = .ok (.aload_n 0, 1) := by decide +kernel
theorem dX9_cut_12 : decode cX9_cut 12 = .ok (.iload_n 1, 1) := by decide +kernel
theorem dX9_cut_13 : decode cX9_cut 13 = .ok (.iload_n 2, 1) := by decide +kernel
theorem dX9_cut_14 : decode cX9_cut 14 = .ok (.iadd, 1) := by decide +kernel
theorem dX9_cut_15 : decode cX9_cut 15 = .ok (.iload_n 1, 1) := by decide +kernel
theorem dX9_cut_16 : decode cX9_cut 16 = .ok (.aload_n 0, 1) := by decide +kernel
theorem dX9_cut_17 : decode cX9_cut 17 = .ok (.getfield 24, 3) := by decide +kernel
theorem dX9_cut_20 : decode cX9_cut 20 = .ok (.iload_n 1, 1) := by decide +kernel
theorem dX9_cut_21 : decode cX9_cut 21 = .ok (.isub, 1) := by decide +kernel
theorem dX9_cut_22 : decode cX9_cut 22 = .ok (.iload_n 2, 1) := by decide +kernel
theorem dX9_cut_23 : decode cX9_cut 23 = .ok (.isub, 1) := by decide +kernel
theorem dX9_cut_24 : decode cX9_cut 24 = .ok (.invokevirtual 70, 3) := by decide +kernel
theorem dX9_cut_27 : decode cX9_cut 27 = .ok (.aload_n 0, 1) := by decide +kernel
theorem dX9_cut_28 : decode cX9_cut 28 = .ok (.dup, 1) := by decide +kernel
theorem dX9_cut_29 : decode cX9_cut 29 = .ok (.getfield 24, 3) := by decide +kernel
theorem dX9_cut_32 : decode cX9_cut 32 = .ok (.iload_n 2, 1) := by decide +kernel
theorem dX9_cut_33 : decode cX9_cut 33 = .ok (.isub, 1) := by decide +kernel
theorem dX9_cut_34 : decode cX9_cut 34 = .ok (.putfield 24, 3) := by decide +kernel
theorem dX9_cut_37 : decode cX9_cut 37 = .ok (.return_, 1) := by decide +kernel
set_option maxRecDepth 100000 in
theorem ggX9_replace_X9_depthAt : GoodIn wsX9_replace wsX9_depthAt := (gi_cons 5 rfl rfl (gi_cons 6 rfl rfl (gi_cons 7 rfl rfl (gi_cons 43 rfl rfl (gi_cons 44 rfl rfl (gi_cons 45 rfl rfl (gi_cons 46 rfl rfl (gi_cons 47 rfl rfl gi_nil))))))))
set_option maxRecDepth 20000 in
theorem gX9_replace_X9_depthAt : GoodIn wsX9_replace (wsV RX9 74 RX9 yX9_depthAt wsX9_depthAt) := goodIn_app (goodIn_of _ (by decide +kernel)) ggX9_replace_X9_depthAt
set_option maxRecDepth 100000 in
theorem ggX9_replace_X9_keyAt : GoodIn wsX9_replace wsX9_keyAt := (gi_cons 11 rfl rfl (gi_cons 6 rfl rfl (gi_cons 12 rfl rfl (gi_cons 43 rfl rfl (gi_cons 44 rfl rfl (gi_cons 45 rfl rfl (gi_cons 46 rfl rfl (gi_cons 47 rfl rfl gi_nil))))))))
set_option maxRecDepth 20000 in
theorem gX9_replace_X9_keyAt : GoodIn wsX9_replace (wsV RX9 50 RX9 yX9_keyAt wsX9_keyAt) := goodIn_app (goodIn_of _ (by decide +kernel)) ggX9_replace_X9_keyAt
set_option maxRecDepth 100000 in
theorem ggX9_replace_X9_cut : GoodIn wsX9_replace wsX9_cut := (gi_cons 16 rfl rfl (gi_cons 6 rfl rfl (gi_cons 17 rfl rfl (gi_cons 18 rfl rfl (gi_cons 19 rfl rfl (gi_cons 4 rfl rfl (gi_cons 20 rfl rfl (gi_cons 21 rfl rfl (gi_cons 22 rfl rfl (gi_cons 23 rfl rfl (gi_cons 24 rfl rfl (gi_cons 7 rfl rfl (gi_cons 25 rfl rfl (gi_cons 26 rfl rfl (gi_cons 27 rfl rfl (gi_cons 28 rfl rfl (gi_cons 29 rfl rfl (gi_cons 30 rfl rfl (gi_cons 31 rfl rfl (gi_cons 32 rfl rfl (gi_cons 33 rfl rfl (gi_cons 34 rfl rfl (gi_cons 12 rfl rfl (gi_cons 43 rfl rfl (gi_cons 44 rfl rfl (gi_cons 45 rfl rfl (gi_cons 46 rfl rfl (gi_cons 47 rfl rfl gi_nil))))))))))))))))))))))))))))
set_option maxRecDepth 20000 in
theorem gX9_replace_X9_cut : GoodIn wsX9_replace (wsV RX9 77 RX9 yX9_cut wsX9_cut) := goodIn_app (goodIn_of _ (by decide +kernel)) ggX9_replace_X9_cut
set_option maxRecDepth 100000 in
theorem ggX9_replace_X9_graft : GoodIn wsX9_replace wsX9_graft := (gi_cons 38 rfl rfl (gi_cons 6 rfl rfl (gi_cons 29 rfl rfl (gi_cons 7 rfl rfl (gi_cons 12 rfl rfl (gi_cons 21 rfl rfl (gi_cons 22 rfl rfl (gi_cons 23 rfl rfl (gi_cons 4 rfl rfl (gi_cons 24 rfl rfl (gi_cons 39 rfl rfl (gi_cons 40 rfl rfl (gi_cons 41 rfl rfl (gi_cons 42 rfl rfl (gi_cons 25 rfl rfl (gi_cons 26 rfl rfl (gi_cons 27 rfl rfl (gi_cons 28 rfl rfl (gi_cons 30 rfl rfl (gi_cons 31 rfl rfl (gi_cons 32 rfl rfl (gi_cons 33 rfl rfl (gi_cons 34 rfl rfl (gi_cons 1 rfl rfl (gi_cons 2 rfl rfl (gi_cons 3 rfl rfl (gi_cons 5 rfl rfl (gi_cons 43 rfl rfl (gi_cons 44 rfl rfl (gi_cons 45 rfl rfl (gi_cons 46 rfl rfl (gi_cons 47 rfl rfl gi_nil))))))))))))))))))))))))))))))))
set_option maxRecDepth 20000 in
theorem gX9_replace_X9_graft : GoodIn wsX9_replace (wsV RX9 81 RX9 yX9_graft wsX9_graft) := goodIn_app (goodIn_of _ (by decide +kernel)) ggX9_replace_X9_graft
theorem dX9_replace_0 : decode cX9_replace 0 = .ok (.aload_n 0, 1) := by decide +kernel
theorem dX9_replace_1 : decode cX9_replace 1 = .ok (.iload_n 1, 1) := by decide +kernel
theorem dX9_replace_2 : decode cX9_replace 2 = .ok (.invokevirtual 74, 3) := by decide +kernel
theorem dX9_replace_5 : decode cX9_replace 5 = .ok (.istore 4, 2) := by decide +kernel
theorem dX9_replace_7 : decode cX9_replace 7 = .ok (.aload_n 0, 1) := by decide +kernel
theorem dX9_replace_8 : decode cX9_replace 8 = .ok (.iload_n 1, 1) := by decide +kernel
theorem dX9_replace_9 : decode cX9_replace 9 = .ok (.invokevirtual 50, 3) := by decide +kernel
theorem dX9_replace_12 : decode cX9_replace 12 = .ok (.istore 5, 2) := by decide +kernel
theorem dX9_replace_14 : decode cX9_replace 14 = .ok (.aload_n 0, 1) := by decide +kernel
theorem dX9_replace_15 : decode cX9_replace 15 = .ok (.iload_n 1, 1) := by decide +kernel
theorem dX9_replace_16 : decode cX9_replace 16 = .ok (.invokevirtual 77, 3) := by decide +kernel
theorem dX9_replace_19 : decode cX9_replace 19 = .ok (.aload_n 0, 1) := by decide +kernel
theorem dX9_replace_20 : decode cX9_replace 20 = .ok (.iload_n 1, 1) := by decide +kernel
theorem dX9_replace_21 : decode cX9_replace 21 = .ok (.iload 4, 2) := by decide +kernel
theorem dX9_replace_23 : decode cX9_replace 23 = .ok (.iload 5, 2) := by decide +kernel
theorem dX9_replace_25 : decode cX9_replace 25 = .ok (.aload_n 2, 1) := by decide +kernel
theorem dX9_replace_26 : decode cX9_replace 26 = .ok (.iload_n 3, 1) := by decide +kernel
theorem dX9_replace_27 : decode cX9_replace 27 = .ok (.invokevirtual 81, 3) := by decide +kernel
theorem dX9_replace_30 : decode cX9_replace 30 = .ok (.ireturn, 1) := by decide +kernel
set_option maxRecDepth 100000 in
theorem ggX9_graftBehindAll_X9_has : GoodIn wsX9_graftBehindAll wsX9_has := (gi_cons 5 rfl rfl (gi_cons 6 rfl rfl (gi_cons 7 rfl rfl (gi_cons 31 rfl rfl (gi_cons 32 rfl rfl (gi_cons 33 rfl rfl (gi_cons 34 rfl rfl (gi_cons 35 rfl rfl gi_nil))))))))
set_option maxRecDepth 20000 in
theorem gX9_graftBehindAll_X9_has : GoodIn wsX9_graftBehindAll (wsV RX9 66 RX9 yX9_has wsX9_has) := goodIn_app (goodIn_of _ (by decide +kernel)) ggX9_graftBehindAll_X9_has
set_option maxRecDepth 100000 in
theorem ggX9_graftBehindAll_X9_end : GoodIn wsX9_graftBehindAll wsX9_end := (gi_cons 11 rfl rfl (gi_cons 6 rfl rfl (gi_cons 12 rfl rfl (gi_cons 31 rfl rfl (gi_cons 32 rfl rfl (gi_cons 33 rfl rfl (gi_cons 34 rfl rfl (gi_cons 35 rfl rfl gi_nil))))))))
set_option maxRecDepth 20000 in
theorem gX9_graftBehindAll_X9_end : GoodIn wsX9_graftBehindAll (wsV RX9 28 RX9 yX9_end wsX9_end) := goodIn_app (goodIn_of _ (by decide +kernel)) ggX9_graftBehindAll_X9_end
set_option maxRecDepth 100000 in
theorem ggX9_graftBehindAll_X9_depthAt : GoodIn wsX9_graftBehindAll wsX9_depthAt := (gi_cons 16 rfl rfl (gi_cons 6 rfl rfl (gi_cons 12 rfl rfl (gi_cons 31 rfl rfl (gi_cons 32 rfl rfl (gi_cons 33 rfl rfl (gi_cons 34 rfl rfl (gi_cons 35 rfl rfl gi_nil))))))))
set_option maxRecDepth 20000 in
theorem gX9_graftBehindAll_X9_depthAt : GoodIn wsX9_graftBehindAll (wsV RX9 74 RX9 yX9_depthAt wsX9_depthAt) := goodIn_app (goodIn_of _ (by decide +kernel)) ggX9_graftBehindAll_X9_depthAt
set_option maxRecDepth 100000 in
theorem ggX9_graftBehindAll_X9_graft : GoodIn wsX9_graftBehindAll wsX9_graft := (gi_cons 20 rfl rfl (gi_cons 6 rfl rfl (gi_cons 7 rfl rfl (gi_cons 12 rfl rfl (gi_cons 21 rfl rfl (gi_cons 8 rfl rfl (gi_cons 9 rfl rfl (gi_cons 10 rfl rfl (gi_cons 4 rfl rfl (gi_cons 11 rfl rfl (gi_cons 1 rfl rfl (gi_cons 2 rfl rfl (gi_cons 3 rfl rfl (gi_cons 5 rfl rfl (gi_cons 22 rfl rfl (gi_cons 23 rfl rfl (gi_cons 24 rfl rfl (gi_cons 25 rfl rfl (gi_cons 26 rfl rfl (gi_cons 27 rfl rfl (gi_cons 28 rfl rfl (gi_cons 29 rfl rfl (gi_cons 30 rfl rfl (gi_cons 13 rfl rfl (gi_cons 14 rfl rfl (gi_cons 15 rfl rfl (gi_cons 16 rfl rfl (gi_cons 31 rfl rfl (gi_cons 32 rfl rfl (gi_cons 33 rfl rfl (gi_cons 34 rfl rfl (gi_cons 35 rfl rfl gi_nil))))))))))))))))))))))))))))))))
set_option maxRecDepth 20000 in
theorem gX9_graftBehindAll_X9_graft : GoodIn wsX9_graftBehindAll (wsV RX9 81 RX9 yX9_graft wsX9_graft) := goodIn_app (goodIn_of _ (by decide +kernel)) ggX9_graftBehindAll_X9_graft
theorem dX9_graftBehindAll_0 : decode cX9_graftBehindAll 0 = .ok (.aload_n 0, 1) := by decide +kernel
theorem dX9_graftBehindAll_1 : decode cX9_graftBehindAll 1 = .ok (.iload_n 1, 1) := by decide +kernel
theorem dX9_graftBehindAll_2 : decode cX9_graftBehindAll 2 = .ok (.invokevirtual 66, 3) := by decide +kernel
theorem dX9_graftBehindAll_5 : decode cX9_graftBehindAll 5 = .ok (.ifCond .eq 32, 3) := by decide +kernel
theorem dX9_graftBehindAll_8 : decode cX9_graftBehindAll 8 = .ok (.aload_n 0, 1) := by decide +kernel
theorem dX9_graftBehindAll_9 : decode cX9_graftBehindAll 9 = .ok (.aload_n 0, 1) := by decide +kernel
theorem dX9_graftBehindAll_10 : decode cX9_graftBehindAll 10 = .ok (.iload_n 1, 1) := by decide +kernel
theorem dX9_graftBehindAll_11 : decode cX9_graftBehindAll 11 = .ok (.invokevirtual 28, 3) := by decide +kernel
theorem dX9_graftBehindAll_14 : decode cX9_graftBehindAll 14 = .ok (.iconst 1, 1) := by decide +kernel
theorem dX9_graftBehindAll_15 : decode cX9_graftBehindAll 15 = .ok (.iadd, 1) := by decide +kernel
theorem dX9_graftBehindAll_16 : decode cX9_graftBehindAll 16 = .ok (.aload_n 0, 1) := by decide +kernel
theorem dX9_graftBehindAll_17 : decode cX9_graftBehindAll 17 = .ok (.iload_n 1, 1) := by decide +kernel
theorem dX9_graftBehindAll_18 : decode cX9_graftBehindAll 18 = .ok (.invokevirtual 74, 3) := by decide +kernel
theorem dX9_graftBehindAll_21 : decode cX9_graftBehindAll 21 = .ok (.iconst 1, 1) := by decide +kernel
theorem dX9_graftBehindAll_22 : decode cX9_graftBehindAll 22 = .ok (.iadd, 1) := by decide +kernel
theorem dX9_graftBehindAll_23 : decode cX9_graftBehindAll 23 = .ok (.iload_n 2, 1) := by decide +kernel
theorem dX9_graftBehindAll_24 : decode cX9_graftBehindAll 24 = .ok (.aload_n 3, 1) := by decide +kernel
theorem dX9_graftBehindAll_25 : decode cX9_graftBehindAll 25 = .ok (.iload 4, 2) := by decide +kernel
theorem dX9_graftBehindAll_27 : decode cX9_graftBehindAll 27 = .ok (.invokevirtual 81, 3) := by decide +kernel
theorem dX9_graftBehindAll_30 : decode cX9_graftBehindAll 30 = .ok (.ifCond .eq 7, 3) := by decide +kernel
theorem dX9_graftBehindAll_33 : decode cX9_graftBehindAll 33 = .ok (.iconst 1, 1) := by decide +kernel
theorem dX9_graftBehindAll_34 : decode cX9_graftBehindAll 34 = .ok (.goto 4, 3) := by decide +kernel
theorem dX9_graftBehindAll_37 : decode cX9_graftBehindAll 37 = .ok (.iconst 0, 1) := by decide +kernel
theorem dX9_graftBehindAll_38 : decode cX9_graftBehindAll 38 = .ok (.ireturn, 1) := by decide +kernel
set_option maxRecDepth 100000 in
theorem ggX9_overlay_X9_copyFrom : GoodIn wsX9_overlay wsX9_copyFrom := (gi_cons 6 rfl rfl (gi_cons 7 rfl rfl (gi_cons 8 rfl rfl (gi_cons 9 rfl rfl (gi_cons 10 rfl rfl (gi_cons 11 rfl rfl (gi_cons 12 rfl rfl (gi_cons 13 rfl rfl (gi_cons 14 rfl rfl (gi_cons 15 rfl rfl (gi_cons 16 rfl rfl (gi_cons 17 rfl rfl (gi_cons 18 rfl rfl (gi_cons 19 rfl rfl gi_nil))))))))))))))
set_option maxRecDepth 20000 in
theorem gX9_overlay_X9_copyFrom : GoodIn wsX9_overlay (wsV RX9 70 RX9 yX9_copyFrom wsX9_copyFrom) := goodIn_app (goodIn_of _ (by decide +kernel)) ggX9_overlay_X9_copyFrom
theorem dX9_overlay_0 : decode cX9_overlay 0 = .ok (.iload_n 1, 1) := by decide +kernel
theorem dX9_overlay_1 : decode cX9_overlay 1 = .ok (.ifCond .lt 27, 3) := by decide +kernel
theorem dX9_overlay_4 : decode cX9_overlay 4 = .ok (.iload_n 1, 1) := by decide +kernel
theorem dX9_overlay_5 : decode cX9_overlay 5 = .ok (.aload_n 2, 1) := by decide +kernel
theorem dX9_overlay_6 : decode cX9_overlay 6 = .ok (.getfield 24, 3) := by decide +kernel
theorem dX9_overlay_9 : decode cX9_overlay 9 = .ok (.iadd, 1) := by decide +kernel
theorem dX9_overlay_10 : decode cX9_overlay 10 = .ok (.aload_n 0, 1) := by decide +kernel
theorem dX9_overlay_11 : decode cX9_overlay 11 = .ok (.getfield 24, 3) := by decide +kernel
theorem dX9_overlay_14 : decode cX9_overlay 14 = .ok (.if_icmp .gt 14, 3) := by decide +kernel
theorem dX9_overlay_17 : decode cX9_overlay 17 = .ok (.aload_n 0, 1) := by decide +kernel
theorem dX9_overlay_18 : decode cX9_overlay 18 = .ok (.aload_n 2, 1) := by decide +kernel
theorem dX9_overlay_19 : decode cX9_overlay 19 = .ok (.iconst 0, 1) := by decide +kernel
theorem dX9_overlay_20 : decode cX9_overlay 20 = .ok (.iload_n 1, 1) := by decide +kernel
theorem dX9_overlay_21 : decode cX9_overlay 21 = .ok (.aload_n 2, 1) := by decide +kernel
theorem dX9_overlay_22 : decode cX9_overlay 22 = .ok (.getfield 24, 3) := by decide +kernel
theorem dX9_overlay_25 : decode cX9_overlay 25 = .ok (.invokevirtual 70, 3) := by decide +kernel
theorem dX9_overlay_28 : decode cX9_overlay 28 = .ok (.return_, 1) := by decide +kernel
