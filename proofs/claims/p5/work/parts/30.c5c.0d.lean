set_option maxRecDepth 100000 in
theorem ggX11_cut_X11_size : GoodIn wsX11_cut wsX11_size := (gi_cons 6 rfl rfl gi_nil)
set_option maxRecDepth 20000 in
theorem gX11_cut_X11_size : GoodIn wsX11_cut (va_wsS RX11 242 yX11_size wsX11_size) := goodIn_app (goodIn_of _ (by decide +kernel)) ggX11_cut_X11_size
theorem dX11_cut_0 : decode cX11_cut 0 = .ok (.aload_n 0, 1) := by decide +kernel
theorem dX11_cut_1 : decode cX11_cut 1 = .ok (.getfield 16, 3) := by decide +kernel
theorem dX11_cut_4 : decode cX11_cut 4 = .ok (.iload_n 1, 1) := by decide +kernel
theorem dX11_cut_5 : decode cX11_cut 5 = .ok (.invokestatic 242, 3) := by decide +kernel
theorem dX11_cut_8 : decode cX11_cut 8 = .ok (.istore_n 2, 1) := by decide +kernel
theorem dX11_cut_9 : decode cX11_cut 9 = .ok (.iconst 0, 1) := by decide +kernel
theorem dX11_cut_10 : decode cX11_cut 10 = .ok (.istore_n 3, 1) := by decide +kernel
theorem dX11_cut_11 : decode cX11_cut 11 = .ok (.iload_n 3, 1) := by decide +kernel
theorem dX11_cut_12 : decode cX11_cut 12 = .ok (.iload_n 1, 1) := by decide +kernel
theorem dX11_cut_13 : decode cX11_cut 13 = .ok (.if_icmp .ge 37, 3) := by decide +kernel
theorem dX11_cut_16 : decode cX11_cut 16 = .ok (.iload_n 3, 1) := by decide +kernel
theorem dX11_cut_17 : decode cX11_cut 17 = .ok (.aload_n 0, 1) := by decide +kernel
theorem dX11_cut_18 : decode cX11_cut 18 = .ok (.getfield 16, 3) := by decide +kernel
theorem dX11_cut_21 : decode cX11_cut 21 = .ok (.iload_n 3, 1) := by decide +kernel
theorem dX11_cut_22 : decode cX11_cut 22 = .ok (.invokestatic 242, 3) := by decide +kernel
theorem dX11_cut_25 : decode cX11_cut 25 = .ok (.iadd, 1) := by decide +kernel
theorem dX11_cut_26 : decode cX11_cut 26 = .ok (.iload_n 1, 1) := by decide +kernel
theorem dX11_cut_27 : decode cX11_cut 27 = .ok (.if_icmp .le 17, 3) := by decide +kernel
theorem dX11_cut_30 : decode cX11_cut 30 = .ok (.aload_n 0, 1) := by decide +kernel
theorem dX11_cut_31 : decode cX11_cut 31 = .ok (.getfield 16, 3) := by decide +kernel
theorem dX11_cut_34 : decode cX11_cut 34 = .ok (.iconst 4, 1) := by decide +kernel
theorem dX11_cut_35 : decode cX11_cut 35 = .ok (.iload_n 3, 1) := by decide +kernel
theorem dX11_cut_36 : decode cX11_cut 36 = .ok (.imul, 1) := by decide +kernel
theorem dX11_cut_37 : decode cX11_cut 37 = .ok (.iconst 3, 1) := by decide +kernel
theorem dX11_cut_38 : decode cX11_cut 38 = .ok (.iadd, 1) := by decide +kernel
theorem dX11_cut_39 : decode cX11_cut 39 = .ok (.dup2, 1) := by decide +kernel
theorem dX11_cut_40 : decode cX11_cut 40 = .ok (.iaload, 1) := by decide +kernel
theorem dX11_cut_41 : decode cX11_cut 41 = .ok (.iload_n 2, 1) := by decide +kernel
theorem dX11_cut_42 : decode cX11_cut 42 = .ok (.isub, 1) := by decide +kernel
theorem dX11_cut_43 : decode cX11_cut 43 = .ok (.iastore, 1) := by decide +kernel
theorem dX11_cut_44 : decode cX11_cut 44 = .ok (.iinc 3 1, 3) := by decide +kernel
theorem dX11_cut_47 : decode cX11_cut 47 = .ok (.goto (-36), 3) := by decide +kernel
theorem dX11_cut_50 : decode cX11_cut 50 = .ok (.iconst 4, 1) := by decide +kernel
theorem dX11_cut_51 : decode cX11_cut 51 = .ok (.iload_n 1, 1) := by decide +kernel
theorem dX11_cut_52 : decode cX11_cut 52 = .ok (.imul, 1) := by decide +kernel
theorem dX11_cut_53 : decode cX11_cut 53 = .ok (.istore_n 3, 1) := by decide +kernel
theorem dX11_cut_54 : decode cX11_cut 54 = .ok (.iload_n 3, 1) := by decide +kernel
theorem dX11_cut_55 : decode cX11_cut 55 = .ok (.iconst 4, 1) := by decide +kernel
theorem dX11_cut_56 : decode cX11_cut 56 = .ok (.aload_n 0, 1) := by decide +kernel
theorem dX11_cut_57 : decode cX11_cut 57 = .ok (.getfield 353, 3) := by decide +kernel
theorem dX11_cut_60 : decode cX11_cut 60 = .ok (.iload_n 2, 1) := by decide +kernel
theorem dX11_cut_61 : decode cX11_cut 61 = .ok (.isub, 1) := by decide +kernel
theorem dX11_cut_62 : decode cX11_cut 62 = .ok (.imul, 1) := by decide +kernel
theorem dX11_cut_63 : decode cX11_cut 63 = .ok (.if_icmp .ge 25, 3) := by decide +kernel
theorem dX11_cut_66 : decode cX11_cut 66 = .ok (.aload_n 0, 1) := by decide +kernel
theorem dX11_cut_67 : decode cX11_cut 67 = .ok (.getfield 16, 3) := by decide +kernel
theorem dX11_cut_70 : decode cX11_cut 70 = .ok (.iload_n 3, 1) := by decide +kernel
theorem dX11_cut_71 : decode cX11_cut 71 = .ok (.aload_n 0, 1) := by decide +kernel
theorem dX11_cut_72 : decode cX11_cut 72 = .ok (.getfield 16, 3) := by decide +kernel
theorem dX11_cut_75 : decode cX11_cut 75 = .ok (.iload_n 3, 1) := by decide +kernel
theorem dX11_cut_76 : decode cX11_cut 76 = .ok (.iconst 4, 1) := by decide +kernel
theorem dX11_cut_77 : decode cX11_cut 77 = .ok (.iload_n 2, 1) := by decide +kernel
theorem dX11_cut_78 : decode cX11_cut 78 = .ok (.imul, 1) := by decide +kernel
theorem dX11_cut_79 : decode cX11_cut 79 = .ok (.iadd, 1) := by decide +kernel
theorem dX11_cut_80 : decode cX11_cut 80 = .ok (.iaload, 1) := by decide +kernel
theorem dX11_cut_81 : decode cX11_cut 81 = .ok (.iastore, 1) := by decide +kernel
theorem dX11_cut_82 : decode cX11_cut 82 = .ok (.iinc 3 1, 3) := by decide +kernel
theorem dX11_cut_85 : decode cX11_cut 85 = .ok (.goto (-31), 3) := by decide +kernel
theorem dX11_cut_88 : decode cX11_cut 88 = .ok (.aload_n 0, 1) := by decide +kernel
theorem dX11_cut_89 : decode cX11_cut 89 = .ok (.dup, 1) := by decide +kernel
theorem dX11_cut_90 : decode cX11_cut 90 = .ok (.getfield 353, 3) := by decide +kernel
theorem dX11_cut_93 : decode cX11_cut 93 = .ok (.iload_n 2, 1) := by decide +kernel
theorem dX11_cut_94 : decode cX11_cut 94 = .ok (.isub, 1) := by decide +kernel
theorem dX11_cut_95 : decode cX11_cut 95 = .ok (.putfield 353, 3) := by decide +kernel
theorem dX11_cut_98 : decode cX11_cut 98 = .ok (.return_, 1) := by decide +kernel
set_option maxRecDepth 100000 in
theorem ggX11_layInto_X11_size : GoodIn wsX11_layInto wsX11_size := (gi_cons 7 rfl rfl gi_nil)
set_option maxRecDepth 20000 in
theorem gX11_layInto_X11_size : GoodIn wsX11_layInto (va_wsS RX11 242 yX11_size wsX11_size) := goodIn_app (goodIn_of _ (by decide +kernel)) ggX11_layInto_X11_size
theorem dX11_layInto_0 : decode cX11_layInto 0 = .ok (.aload_n 0, 1) := by decide +kernel
theorem dX11_layInto_1 : decode cX11_layInto 1 = .ok (.getfield 42, 3) := by decide +kernel
theorem dX11_layInto_4 : decode cX11_layInto 4 = .ok (.iconst 0, 1) := by decide +kernel
theorem dX11_layInto_5 : decode cX11_layInto 5 = .ok (.invokestatic 242, 3) := by decide +kernel
theorem dX11_layInto_8 : decode cX11_layInto 8 = .ok (.istore 4, 2) := by decide +kernel
theorem dX11_layInto_10 : decode cX11_layInto 10 = .ok (.iconst 4, 1) := by decide +kernel
theorem dX11_layInto_11 : decode cX11_layInto 11 = .ok (.aload_n 0, 1) := by decide +kernel
theorem dX11_layInto_12 : decode cX11_layInto 12 = .ok (.getfield 353, 3) := by decide +kernel
theorem dX11_layInto_15 : decode cX11_layInto 15 = .ok (.imul, 1) := by decide +kernel
theorem dX11_layInto_16 : decode cX11_layInto 16 = .ok (.iconst 1, 1) := by decide +kernel
theorem dX11_layInto_17 : decode cX11_layInto 17 = .ok (.isub, 1) := by decide +kernel
theorem dX11_layInto_18 : decode cX11_layInto 18 = .ok (.istore 5, 2) := by decide +kernel
theorem dX11_layInto_20 : decode cX11_layInto 20 = .ok (.iload 5, 2) := by decide +kernel
theorem dX11_layInto_22 : decode cX11_layInto 22 = .ok (.iconst 4, 1) := by decide +kernel
theorem dX11_layInto_23 : decode cX11_layInto 23 = .ok (.iload_n 2, 1) := by decide +kernel
theorem dX11_layInto_24 : decode cX11_layInto 24 = .ok (.imul, 1) := by decide +kernel
theorem dX11_layInto_25 : decode cX11_layInto 25 = .ok (.if_icmp .lt 28, 3) := by decide +kernel
theorem dX11_layInto_28 : decode cX11_layInto 28 = .ok (.aload_n 0, 1) := by decide +kernel
theorem dX11_layInto_29 : decode cX11_layInto 29 = .ok (.getfield 16, 3) := by decide +kernel
theorem dX11_layInto_32 : decode cX11_layInto 32 = .ok (.iload 5, 2) := by decide +kernel
theorem dX11_layInto_34 : decode cX11_layInto 34 = .ok (.iconst 4, 1) := by decide +kernel
theorem dX11_layInto_35 : decode cX11_layInto 35 = .ok (.iload 4, 2) := by decide +kernel
theorem dX11_layInto_37 : decode cX11_layInto 37 = .ok (.imul, 1) := by decide +kernel
theorem dX11_layInto_38 : decode cX11_layInto 38 = .ok (.iadd, 1) := by decide +kernel
theorem dX11_layInto_39 : decode cX11_layInto 39 = .ok (.aload_n 0, 1) := by decide +kernel
theorem dX11_layInto_40 : decode cX11_layInto 40 = .ok (.getfield 16, 3) := by decide +kernel
theorem dX11_layInto_43 : decode cX11_layInto 43 = .ok (.iload 5, 2) := by decide +kernel
theorem dX11_layInto_45 : decode cX11_layInto 45 = .ok (.iaload, 1) := by decide +kernel
theorem dX11_layInto_46 : decode cX11_layInto 46 = .ok (.iastore, 1) := by decide +kernel
theorem dX11_layInto_47 : decode cX11_layInto 47 = .ok (.iinc 5 (-1), 3) := by decide +kernel
theorem dX11_layInto_50 : decode cX11_layInto 50 = .ok (.goto (-30), 3) := by decide +kernel
theorem dX11_layInto_53 : decode cX11_layInto 53 = .ok (.iconst 0, 1) := by decide +kernel
theorem dX11_layInto_54 : decode cX11_layInto 54 = .ok (.istore 5, 2) := by decide +kernel
theorem dX11_layInto_56 : decode cX11_layInto 56 = .ok (.iload 5, 2) := by decide +kernel
theorem dX11_layInto_58 : decode cX11_layInto 58 = .ok (.iconst 4, 1) := by decide +kernel
theorem dX11_layInto_59 : decode cX11_layInto 59 = .ok (.iload 4, 2) := by decide +kernel
theorem dX11_layInto_61 : decode cX11_layInto 61 = .ok (.imul, 1) := by decide +kernel
theorem dX11_layInto_62 : decode cX11_layInto 62 = .ok (.if_icmp .ge 27, 3) := by decide +kernel
theorem dX11_layInto_65 : decode cX11_layInto 65 = .ok (.aload_n 0, 1) := by decide +kernel
theorem dX11_layInto_66 : decode cX11_layInto 66 = .ok (.getfield 16, 3) := by decide +kernel
theorem dX11_layInto_69 : decode cX11_layInto 69 = .ok (.iconst 4, 1) := by decide +kernel
theorem dX11_layInto_70 : decode cX11_layInto 70 = .ok (.iload_n 2, 1) := by decide +kernel
theorem dX11_layInto_71 : decode cX11_layInto 71 = .ok (.imul, 1) := by decide +kernel
theorem dX11_layInto_72 : decode cX11_layInto 72 = .ok (.iload 5, 2) := by decide +kernel
theorem dX11_layInto_74 : decode cX11_layInto 74 = .ok (.iadd, 1) := by decide +kernel
theorem dX11_layInto_75 : decode cX11_layInto 75 = .ok (.aload_n 0, 1) := by decide +kernel
theorem dX11_layInto_76 : decode cX11_layInto 76 = .ok (.getfield 42, 3) := by decide +kernel
theorem dX11_layInto_79 : decode cX11_layInto 79 = .ok (.iload 5, 2) := by decide +kernel
theorem dX11_layInto_81 : decode cX11_layInto 81 = .ok (.iaload, 1) := by decide +kernel
theorem dX11_layInto_82 : decode cX11_layInto 82 = .ok (.iastore, 1) := by decide +kernel
theorem dX11_layInto_83 : decode cX11_layInto 83 = .ok (.iinc 5 1, 3) := by decide +kernel
theorem dX11_layInto_86 : decode cX11_layInto 86 = .ok (.goto (-30), 3) := by decide +kernel
theorem dX11_layInto_89 : decode cX11_layInto 89 = .ok (.aload_n 0, 1) := by decide +kernel
theorem dX11_layInto_90 : decode cX11_layInto 90 = .ok (.getfield 16, 3) := by decide +kernel
theorem dX11_layInto_93 : decode cX11_layInto 93 = .ok (.iconst 4, 1) := by decide +kernel
theorem dX11_layInto_94 : decode cX11_layInto 94 = .ok (.iload_n 2, 1) := by decide +kernel
theorem dX11_layInto_95 : decode cX11_layInto 95 = .ok (.imul, 1) := by decide +kernel
theorem dX11_layInto_96 : decode cX11_layInto 96 = .ok (.iconst 2, 1) := by decide +kernel
theorem dX11_layInto_97 : decode cX11_layInto 97 = .ok (.iadd, 1) := by decide +kernel
theorem dX11_layInto_98 : decode cX11_layInto 98 = .ok (.iload_n 3, 1) := by decide +kernel
theorem dX11_layInto_99 : decode cX11_layInto 99 = .ok (.iastore, 1) := by decide +kernel
theorem dX11_layInto_100 : decode cX11_layInto 100 = .ok (.aload_n 0, 1) := by decide +kernel
theorem dX11_layInto_101 : decode cX11_layInto 101 = .ok (.dup, 1) := by decide +kernel
theorem dX11_layInto_102 : decode cX11_layInto 102 = .ok (.getfield 353, 3) := by decide +kernel
theorem dX11_layInto_105 : decode cX11_layInto 105 = .ok (.iload 4, 2) := by decide +kernel
theorem dX11_layInto_107 : decode cX11_layInto 107 = .ok (.iadd, 1) := by decide +kernel
theorem dX11_layInto_108 : decode cX11_layInto 108 = .ok (.putfield 353, 3) := by decide +kernel
theorem dX11_layInto_111 : decode cX11_layInto 111 = .ok (.iconst 0, 1) := by decide +kernel
theorem dX11_layInto_112 : decode cX11_layInto 112 = .ok (.istore 5, 2) := by decide +kernel
theorem dX11_layInto_114 : decode cX11_layInto 114 = .ok (.iload 5, 2) := by decide +kernel
theorem dX11_layInto_116 : decode cX11_layInto 116 = .ok (.iload_n 1, 1) := by decide +kernel
theorem dX11_layInto_117 : decode cX11_layInto 117 = .ok (.if_icmp .gt 41, 3) := by decide +kernel
theorem dX11_layInto_120 : decode cX11_layInto 120 = .ok (.iload 5, 2) := by decide +kernel
theorem dX11_layInto_122 : decode cX11_layInto 122 = .ok (.aload_n 0, 1) := by decide +kernel
theorem dX11_layInto_123 : decode cX11_layInto 123 = .ok (.getfield 16, 3) := by decide +kernel
theorem dX11_layInto_126 : decode cX11_layInto 126 = .ok (.iload 5, 2) := by decide +kernel
theorem dX11_layInto_128 : decode cX11_layInto 128 = .ok (.invokestatic 242, 3) := by decide +kernel
theorem dX11_layInto_131 : decode cX11_layInto 131 = .ok (.iadd, 1) := by decide +kernel
theorem dX11_layInto_132 : decode cX11_layInto 132 = .ok (.iload_n 1, 1) := by decide +kernel
theorem dX11_layInto_133 : decode cX11_layInto 133 = .ok (.if_icmp .le 19, 3) := by decide +kernel
theorem dX11_layInto_136 : decode cX11_layInto 136 = .ok (.aload_n 0, 1) := by decide +kernel
theorem dX11_layInto_137 : decode cX11_layInto 137 = .ok (.getfield 16, 3) := by decide +kernel
theorem dX11_layInto_140 : decode cX11_layInto 140 = .ok (.iconst 4, 1) := by decide +kernel
theorem dX11_layInto_141 : decode cX11_layInto 141 = .ok (.iload 5, 2) := by decide +kernel
theorem dX11_layInto_143 : decode cX11_layInto 143 = .ok (.imul, 1) := by decide +kernel
theorem dX11_layInto_144 : decode cX11_layInto 144 = .ok (.iconst 3, 1) := by decide +kernel
theorem dX11_layInto_145 : decode cX11_layInto 145 = .ok (.iadd, 1) := by decide +kernel
theorem dX11_layInto_146 : decode cX11_layInto 146 = .ok (.dup2, 1) := by decide +kernel
theorem dX11_layInto_147 : decode cX11_layInto 147 = .ok (.iaload, 1) := by decide +kernel
theorem dX11_layInto_148 : decode cX11_layInto 148 = .ok (.iload 4, 2) := by decide +kernel
theorem dX11_layInto_150 : decode cX11_layInto 150 = .ok (.iadd, 1) := by decide +kernel
theorem dX11_layInto_151 : decode cX11_layInto 151 = .ok (.iastore, 1) := by decide +kernel
theorem dX11_layInto_152 : decode cX11_layInto 152 = .ok (.iinc 5 1, 3) := by decide +kernel
theorem dX11_layInto_155 : decode cX11_layInto 155 = .ok (.goto (-41), 3) := by decide +kernel
theorem dX11_layInto_158 : decode cX11_layInto 158 = .ok (.return_, 1) := by decide +kernel
set_option maxRecDepth 100000 in
theorem ggX11_isTooMuch_X11_depthOf : GoodIn wsX11_isTooMuch wsX11_depthOf := (gi_cons 6 rfl rfl (gi_cons 7 rfl rfl (gi_cons 8 rfl rfl (gi_cons 5 rfl rfl (gi_cons 9 rfl rfl gi_nil)))))
set_option maxRecDepth 20000 in
theorem gX11_isTooMuch_X11_depthOf : GoodIn wsX11_isTooMuch (va_wsS RX11 360 yX11_depthOf wsX11_depthOf) := goodIn_app (goodIn_of _ (by decide +kernel)) ggX11_isTooMuch_X11_depthOf
theorem dX11_isTooMuch_0 : decode cX11_isTooMuch 0 = .ok (.aload_n 0, 1) := by decide +kernel
theorem dX11_isTooMuch_1 : decode cX11_isTooMuch 1 = .ok (.getfield 353, 3) := by decide +kernel
theorem dX11_isTooMuch_4 : decode cX11_isTooMuch 4 = .ok (.bipush 60, 2) := by decide +kernel
theorem dX11_isTooMuch_6 : decode cX11_isTooMuch 6 = .ok (.if_icmp .le 7, 3) := by decide +kernel
theorem dX11_isTooMuch_9 : decode cX11_isTooMuch 9 = .ok (.iconst 1, 1) := by decide +kernel
theorem dX11_isTooMuch_10 : decode cX11_isTooMuch 10 = .ok (.goto 4, 3) := by decide +kernel
theorem dX11_isTooMuch_13 : decode cX11_isTooMuch 13 = .ok (.iconst 0, 1) := by decide +kernel
theorem dX11_isTooMuch_14 : decode cX11_isTooMuch 14 = .ok (.istore_n 1, 1) := by decide +kernel
theorem dX11_isTooMuch_15 : decode cX11_isTooMuch 15 = .ok (.iconst 0, 1) := by decide +kernel
theorem dX11_isTooMuch_16 : decode cX11_isTooMuch 16 = .ok (.istore_n 2, 1) := by decide +kernel
theorem dX11_isTooMuch_17 : decode cX11_isTooMuch 17 = .ok (.iload_n 2, 1) := by decide +kernel
theorem dX11_isTooMuch_18 : decode cX11_isTooMuch 18 = .ok (.aload_n 0, 1) := by decide +kernel
theorem dX11_isTooMuch_19 : decode cX11_isTooMuch 19 = .ok (.getfield 353, 3) := by decide +kernel
theorem dX11_isTooMuch_22 : decode cX11_isTooMuch 22 = .ok (.if_icmp .ge 32, 3) := by decide +kernel
theorem dX11_isTooMuch_25 : decode cX11_isTooMuch 25 = .ok (.iload_n 1, 1) := by decide +kernel
theorem dX11_isTooMuch_26 : decode cX11_isTooMuch 26 = .ok (.ifCond .ne 28, 3) := by decide +kernel
theorem dX11_isTooMuch_29 : decode cX11_isTooMuch 29 = .ok (.aload_n 0, 1) := by decide +kernel
theorem dX11_isTooMuch_30 : decode cX11_isTooMuch 30 = .ok (.getfield 16, 3) := by decide +kernel
theorem dX11_isTooMuch_33 : decode cX11_isTooMuch 33 = .ok (.iload_n 2, 1) := by decide +kernel
theorem dX11_isTooMuch_34 : decode cX11_isTooMuch 34 = .ok (.invokestatic 360, 3) := by decide +kernel
theorem dX11_isTooMuch_37 : decode cX11_isTooMuch 37 = .ok (.bipush 7, 2) := by decide +kernel
theorem dX11_isTooMuch_39 : decode cX11_isTooMuch 39 = .ok (.if_icmp .le 7, 3) := by decide +kernel
theorem dX11_isTooMuch_42 : decode cX11_isTooMuch 42 = .ok (.iconst 1, 1) := by decide +kernel
theorem dX11_isTooMuch_43 : decode cX11_isTooMuch 43 = .ok (.goto 4, 3) := by decide +kernel
theorem dX11_isTooMuch_46 : decode cX11_isTooMuch 46 = .ok (.iconst 0, 1) := by decide +kernel
theorem dX11_isTooMuch_47 : decode cX11_isTooMuch 47 = .ok (.istore_n 1, 1) := by decide +kernel
theorem dX11_isTooMuch_48 : decode cX11_isTooMuch 48 = .ok (.iinc 2 1, 3) := by decide +kernel
theorem dX11_isTooMuch_51 : decode cX11_isTooMuch 51 = .ok (.goto (-34), 3) := by decide +kernel
theorem dX11_isTooMuch_54 : decode cX11_isTooMuch 54 = .ok (.iload_n 1, 1) := by decide +kernel
theorem dX11_isTooMuch_55 : decode cX11_isTooMuch 55 = .ok (.ireturn, 1) := by decide +kernel
set_option maxRecDepth 100000 in
theorem ggX11_becomesTree_X11_isTooMuch : GoodIn wsX11_becomesTree wsX11_isTooMuch := (gi_cons 8 rfl rfl (gi_cons 1 rfl rfl (gi_cons 3 rfl rfl (gi_cons 9 rfl rfl (gi_cons 10 rfl rfl (gi_cons 7 rfl rfl (gi_cons 11 rfl rfl (gi_cons 12 rfl rfl (gi_cons 13 rfl rfl (gi_cons 14 rfl rfl (gi_cons 22 rfl rfl (gi_cons 23 rfl rfl (gi_cons 24 rfl rfl (gi_cons 25 rfl rfl (gi_cons 26 rfl rfl (gi_cons 27 rfl rfl (gi_cons 28 rfl rfl (gi_cons 29 rfl rfl (gi_cons 30 rfl rfl (gi_cons 31 rfl rfl (gi_cons 32 rfl rfl (gi_cons 33 rfl rfl (gi_cons 34 rfl rfl (gi_cons 35 rfl rfl (gi_cons 36 rfl rfl (gi_cons 37 rfl rfl (gi_cons 38 rfl rfl (gi_cons 39 rfl rfl (gi_cons 40 rfl rfl (gi_cons 41 rfl rfl (gi_cons 42 rfl rfl (gi_cons 43 rfl rfl (gi_cons 44 rfl rfl (gi_cons 45 rfl rfl (gi_cons 46 rfl rfl (gi_cons 47 rfl rfl (gi_cons 48 rfl rfl (gi_cons 49 rfl rfl (gi_cons 50 rfl rfl (gi_cons 51 rfl rfl (gi_cons 52 rfl rfl (gi_cons 53 rfl rfl (gi_cons 54 rfl rfl (gi_cons 55 rfl rfl (gi_cons 56 rfl rfl (gi_cons 57 rfl rfl (gi_cons 58 rfl rfl (gi_cons 59 rfl rfl (gi_cons 60 rfl rfl (gi_cons 61 rfl rfl (gi_cons 62 rfl rfl (gi_cons 63 rfl rfl (gi_cons 64 rfl rfl (gi_cons 65 rfl rfl (gi_cons 66 rfl rfl (gi_cons 67 rfl rfl (gi_cons 68 rfl rfl (gi_cons 69 rfl rfl (gi_cons 70 rfl rfl (gi_cons 71 rfl rfl (gi_cons 72 rfl rfl (gi_cons 73 rfl rfl (gi_cons 74 rfl rfl (gi_cons 75 rfl rfl (gi_cons 76 rfl rfl (gi_cons 77 rfl rfl (gi_cons 78 rfl rfl (gi_cons 79 rfl rfl (gi_cons 80 rfl rfl (gi_cons 81 rfl rfl (gi_cons 82 rfl rfl (gi_cons 83 rfl rfl (gi_cons 84 rfl rfl (gi_cons 85 rfl rfl (gi_cons 86 rfl rfl (gi_cons 87 rfl rfl gi_nil))))))))))))))))))))))))))))))))))))))))))))))))))))))))))))))))))))))))))))
set_option maxRecDepth 20000 in
theorem gX11_becomesTree_X11_isTooMuch : GoodIn wsX11_becomesTree (wsV RX11 363 RX11 yX11_isTooMuch wsX11_isTooMuch) := goodIn_app (goodIn_of _ (by decide +kernel)) ggX11_becomesTree_X11_isTooMuch
set_option maxRecDepth 100000 in
theorem ggX11_becomesTree_X11_keep0 : GoodIn wsX11_becomesTree wsX11_keep0 := (gi_cons 18 rfl rfl (gi_cons 19 rfl rfl (gi_cons 20 rfl rfl (gi_cons 21 rfl rfl (gi_cons 2 rfl rfl (gi_cons 22 rfl rfl (gi_cons 23 rfl rfl (gi_cons 24 rfl rfl (gi_cons 25 rfl rfl (gi_cons 26 rfl rfl (gi_cons 27 rfl rfl (gi_cons 28 rfl rfl (gi_cons 29 rfl rfl (gi_cons 30 rfl rfl (gi_cons 31 rfl rfl (gi_cons 32 rfl rfl (gi_cons 33 rfl rfl (gi_cons 34 rfl rfl (gi_cons 35 rfl rfl (gi_cons 36 rfl rfl (gi_cons 37 rfl rfl (gi_cons 38 rfl rfl (gi_cons 39 rfl rfl (gi_cons 40 rfl rfl (gi_cons 41 rfl rfl (gi_cons 42 rfl rfl (gi_cons 43 rfl rfl (gi_cons 44 rfl rfl (gi_cons 45 rfl rfl (gi_cons 46 rfl rfl (gi_cons 47 rfl rfl (gi_cons 48 rfl rfl (gi_cons 49 rfl rfl (gi_cons 50 rfl rfl (gi_cons 51 rfl rfl (gi_cons 52 rfl rfl (gi_cons 53 rfl rfl (gi_cons 54 rfl rfl (gi_cons 55 rfl rfl (gi_cons 56 rfl rfl (gi_cons 57 rfl rfl (gi_cons 58 rfl rfl (gi_cons 59 rfl rfl (gi_cons 60 rfl rfl (gi_cons 61 rfl rfl (gi_cons 62 rfl rfl (gi_cons 63 rfl rfl (gi_cons 64 rfl rfl (gi_cons 65 rfl rfl (gi_cons 66 rfl rfl (gi_cons 67 rfl rfl (gi_cons 68 rfl rfl (gi_cons 69 rfl rfl (gi_cons 70 rfl rfl (gi_cons 71 rfl rfl (gi_cons 72 rfl rfl (gi_cons 73 rfl rfl (gi_cons 74 rfl rfl (gi_cons 75 rfl rfl (gi_cons 76 rfl rfl (gi_cons 77 rfl rfl (gi_cons 78 rfl rfl (gi_cons 79 rfl rfl (gi_cons 80 rfl rfl (gi_cons 81 rfl rfl (gi_cons 82 rfl rfl (gi_cons 83 rfl rfl (gi_cons 84 rfl rfl (gi_cons 85 rfl rfl (gi_cons 86 rfl rfl (gi_cons 87 rfl rfl gi_nil)))))))))))))))))))))))))))))))))))))))))))))))))))))))))))))))))))))))
set_option maxRecDepth 20000 in
theorem gX11_becomesTree_X11_keep0 : GoodIn wsX11_becomesTree (wsV RX11 366 RX11 yX11_keep0 wsX11_keep0) := goodIn_app (goodIn_of _ (by decide +kernel)) ggX11_becomesTree_X11_keep0
theorem dX11_becomesTree_0 : decode cX11_becomesTree 0 = .ok (.aload_n 0, 1) := by decide +kernel
theorem dX11_becomesTree_1 : decode cX11_becomesTree 1 = .ok (.invokevirtual 363, 3) := by decide +kernel
theorem dX11_becomesTree_4 : decode cX11_becomesTree 4 = .ok (.ifCond .eq 5, 3) := by decide +kernel
theorem dX11_becomesTree_7 : decode cX11_becomesTree 7 = .ok (.iconst 0, 1) := by decide +kernel
theorem dX11_becomesTree_8 : decode cX11_becomesTree 8 = .ok (.ireturn, 1) := by decide +kernel
theorem dX11_becomesTree_9 : decode cX11_becomesTree 9 = .ok (.aload_n 0, 1) := by decide +kernel
theorem dX11_becomesTree_10 : decode cX11_becomesTree 10 = .ok (.invokevirtual 366, 3) := by decide +kernel
theorem dX11_becomesTree_13 : decode cX11_becomesTree 13 = .ok (.iconst 0, 1) := by decide +kernel
theorem dX11_becomesTree_14 : decode cX11_becomesTree 14 = .ok (.istore_n 1, 1) := by decide +kernel
theorem dX11_becomesTree_15 : decode cX11_becomesTree 15 = .ok (.iload_n 1, 1) := by decide +kernel
theorem dX11_becomesTree_16 : decode cX11_becomesTree 16 = .ok (.iconst 4, 1) := by decide +kernel
theorem dX11_becomesTree_17 : decode cX11_becomesTree 17 = .ok (.aload_n 0, 1) := by decide +kernel
theorem dX11_becomesTree_18 : decode cX11_becomesTree 18 = .ok (.getfield 353, 3) := by decide +kernel
theorem dX11_becomesTree_21 : decode cX11_becomesTree 21 = .ok (.imul, 1) := by decide +kernel
theorem dX11_becomesTree_22 : decode cX11_becomesTree 22 = .ok (.if_icmp .ge 21, 3) := by decide +kernel
theorem dX11_becomesTree_25 : decode cX11_becomesTree 25 = .ok (.aload_n 0, 1) := by decide +kernel
theorem dX11_becomesTree_26 : decode cX11_becomesTree 26 = .ok (.getfield 9, 3) := by decide +kernel
theorem dX11_becomesTree_29 : decode cX11_becomesTree 29 = .ok (.iload_n 1, 1) := by decide +kernel
theorem dX11_becomesTree_30 : decode cX11_becomesTree 30 = .ok (.aload_n 0, 1) := by decide +kernel
theorem dX11_becomesTree_31 : decode cX11_becomesTree 31 = .ok (.getfield 16, 3) := by decide +kernel
theorem dX11_becomesTree_34 : decode cX11_becomesTree 34 = .ok (.iload_n 1, 1) := by decide +kernel
theorem dX11_becomesTree_35 : decode cX11_becomesTree 35 = .ok (.iaload, 1) := by decide +kernel
theorem dX11_becomesTree_36 : decode cX11_becomesTree 36 = .ok (.iastore, 1) := by decide +kernel
theorem dX11_becomesTree_37 : decode cX11_becomesTree 37 = .ok (.iinc 1 1, 3) := by decide +kernel
theorem dX11_becomesTree_40 : decode cX11_becomesTree 40 = .ok (.goto (-25), 3) := by decide +kernel
theorem dX11_becomesTree_43 : decode cX11_becomesTree 43 = .ok (.iconst 1, 1) := by decide +kernel
theorem dX11_becomesTree_44 : decode cX11_becomesTree 44 = .ok (.ireturn, 1) := by decide +kernel
theorem dX11_keep0_0 : decode cX11_keep0 0 = .ok (.aload_n 0, 1) := by decide +kernel
theorem dX11_keep0_1 : decode cX11_keep0 1 = .ok (.getfield 403, 3) := by decide +kernel
theorem dX11_keep0_4 : decode cX11_keep0 4 = .ok (.ifCond .eq 4, 3) := by decide +kernel
theorem dX11_keep0_7 : decode cX11_keep0 7 = .ok (.return_, 1) := by decide +kernel
theorem dX11_keep0_8 : decode cX11_keep0 8 = .ok (.aload_n 0, 1) := by decide +kernel
theorem dX11_keep0_9 : decode cX11_keep0 9 = .ok (.getfield 232, 3) := by decide +kernel
theorem dX11_keep0_12 : decode cX11_keep0 12 = .ok (.bipush 40, 2) := by decide +kernel
theorem dX11_keep0_14 : decode cX11_keep0 14 = .ok (.if_icmp .ne 48, 3) := by decide +kernel
theorem dX11_keep0_17 : decode cX11_keep0 17 = .ok (.sipush 240, 3) := by decide +kernel
theorem dX11_keep0_20 : decode cX11_keep0 20 = .ok (.istore_n 1, 1) := by decide +kernel
theorem dX11_keep0_21 : decode cX11_keep0 21 = .ok (.iload_n 1, 1) := by decide +kernel
theorem dX11_keep0_22 : decode cX11_keep0 22 = .ok (.aload_n 0, 1) := by decide +kernel
theorem dX11_keep0_23 : decode cX11_keep0 23 = .ok (.getfield 48, 3) := by decide +kernel
theorem dX11_keep0_26 : decode cX11_keep0 26 = .ok (.arraylength, 1) := by decide +kernel
theorem dX11_keep0_27 : decode cX11_keep0 27 = .ok (.if_icmp .ge 25, 3) := by decide +kernel
theorem dX11_keep0_30 : decode cX11_keep0 30 = .ok (.aload_n 0, 1) := by decide +kernel
theorem dX11_keep0_31 : decode cX11_keep0 31 = .ok (.getfield 48, 3) := by decide +kernel
theorem dX11_keep0_34 : decode cX11_keep0 34 = .ok (.iload_n 1, 1) := by decide +kernel
theorem dX11_keep0_35 : decode cX11_keep0 35 = .ok (.sipush 240, 3) := by decide +kernel
theorem dX11_keep0_38 : decode cX11_keep0 38 = .ok (.isub, 1) := by decide +kernel
theorem dX11_keep0_39 : decode cX11_keep0 39 = .ok (.aload_n 0, 1) := by decide +kernel
theorem dX11_keep0_40 : decode cX11_keep0 40 = .ok (.getfield 48, 3) := by decide +kernel
theorem dX11_keep0_43 : decode cX11_keep0 43 = .ok (.iload_n 1, 1) := by decide +kernel
theorem dX11_keep0_44 : decode cX11_keep0 44 = .ok (.iaload, 1) := by decide +kernel
theorem dX11_keep0_45 : decode cX11_keep0 45 = .ok (.iastore, 1) := by decide +kernel
theorem dX11_keep0_46 : decode cX11_keep0 46 = .ok (.iinc 1 1, 3) := by decide +kernel
theorem dX11_keep0_49 : decode cX11_keep0 49 = .ok (.goto (-28), 3) := by decide +kernel
theorem dX11_keep0_52 : decode cX11_keep0 52 = .ok (.aload_n 0, 1) := by decide +kernel
theorem dX11_keep0_53 : decode cX11_keep0 53 = .ok (.dup, 1) := by decide +kernel
theorem dX11_keep0_54 : decode cX11_keep0 54 = .ok (.getfield 232, 3) := by decide +kernel
theorem dX11_keep0_57 : decode cX11_keep0 57 = .ok (.iconst 1, 1) := by decide +kernel
theorem dX11_keep0_58 : decode cX11_keep0 58 = .ok (.isub, 1) := by decide +kernel
theorem dX11_keep0_59 : decode cX11_keep0 59 = .ok (.putfield 232, 3) := by decide +kernel
theorem dX11_keep0_62 : decode cX11_keep0 62 = .ok (.iconst 0, 1) := by decide +kernel
theorem dX11_keep0_63 : decode cX11_keep0 63 = .ok (.istore_n 1, 1) := by decide +kernel
theorem dX11_keep0_64 : decode cX11_keep0 64 = .ok (.iload_n 1, 1) := by decide +kernel
theorem dX11_keep0_65 : decode cX11_keep0 65 = .ok (.sipush 240, 3) := by decide +kernel
theorem dX11_keep0_68 : decode cX11_keep0 68 = .ok (.if_icmp .ge 30, 3) := by decide +kernel
theorem dX11_keep0_71 : decode cX11_keep0 71 = .ok (.aload_n 0, 1) := by decide +kernel
theorem dX11_keep0_72 : decode cX11_keep0 72 = .ok (.getfield 48, 3) := by decide +kernel
theorem dX11_keep0_75 : decode cX11_keep0 75 = .ok (.sipush 240, 3) := by decide +kernel
theorem dX11_keep0_78 : decode cX11_keep0 78 = .ok (.aload_n 0, 1) := by decide +kernel
theorem dX11_keep0_79 : decode cX11_keep0 79 = .ok (.getfield 232, 3) := by decide +kernel
theorem dX11_keep0_82 : decode cX11_keep0 82 = .ok (.imul, 1) := by decide +kernel
theorem dX11_keep0_83 : decode cX11_keep0 83 = .ok (.iload_n 1, 1) := by decide +kernel
theorem dX11_keep0_84 : decode cX11_keep0 84 = .ok (.iadd, 1) := by decide +kernel
theorem dX11_keep0_85 : decode cX11_keep0 85 = .ok (.aload_n 0, 1) := by decide +kernel
theorem dX11_keep0_86 : decode cX11_keep0 86 = .ok (.getfield 9, 3) := by decide +kernel
theorem dX11_keep0_89 : decode cX11_keep0 89 = .ok (.iload_n 1, 1) := by decide +kernel
theorem dX11_keep0_90 : decode cX11_keep0 90 = .ok (.iaload, 1) := by decide +kernel
theorem dX11_keep0_91 : decode cX11_keep0 91 = .ok (.iastore, 1) := by decide +kernel
theorem dX11_keep0_92 : decode cX11_keep0 92 = .ok (.iinc 1 1, 3) := by decide +kernel
theorem dX11_keep0_95 : decode cX11_keep0 95 = .ok (.goto (-31), 3) := by decide +kernel
theorem dX11_keep0_98 : decode cX11_keep0 98 = .ok (.aload_n 0, 1) := by decide +kernel
theorem dX11_keep0_99 : decode cX11_keep0 99 = .ok (.dup, 1) := by decide +kernel
theorem dX11_keep0_100 : decode cX11_keep0 100 = .ok (.getfield 232, 3) := by decide +kernel
theorem dX11_keep0_103 : decode cX11_keep0 103 = .ok (.iconst 1, 1) := by decide +kernel
theorem dX11_keep0_104 : decode cX11_keep0 104 = .ok (.iadd, 1) := by decide +kernel
theorem dX11_keep0_105 : decode cX11_keep0 105 = .ok (.putfield 232, 3) := by decide +kernel
theorem dX11_keep0_108 : decode cX11_keep0 108 = .ok (.return_, 1) := by decide +kernel
