set_option maxRecDepth 100000 in
theorem ggX11_isTape_X11_isIn : GoodIn wsX11_isTape wsX11_isIn := (gi_cons 5 rfl rfl gi_nil)
set_option maxRecDepth 20000 in
theorem gX11_isTape_X11_isIn : GoodIn wsX11_isTape (va_wsS RX11 219 yX11_isIn wsX11_isIn) := goodIn_app (goodIn_of _ (by decide +kernel)) ggX11_isTape_X11_isIn
theorem dX11_isTape_0 : decode cX11_isTape 0 = .ok (.iload_n 1, 1) := by decide +kernel
theorem dX11_isTape_1 : decode cX11_isTape 1 = .ok (.iconst 0, 1) := by decide +kernel
theorem dX11_isTape_2 : decode cX11_isTape 2 = .ok (.aload_n 0, 1) := by decide +kernel
theorem dX11_isTape_3 : decode cX11_isTape 3 = .ok (.getfield 114, 3) := by decide +kernel
theorem dX11_isTape_6 : decode cX11_isTape 6 = .ok (.invokestatic 219, 3) := by decide +kernel
theorem dX11_isTape_9 : decode cX11_isTape 9 = .ok (.ireturn, 1) := by decide +kernel
set_option maxRecDepth 100000 in
theorem ggX11_isThing_X11_things : GoodIn wsX11_isThing wsX11_things := (gi_cons 5 rfl rfl (gi_cons 6 rfl rfl (gi_cons 10 rfl rfl (gi_cons 11 rfl rfl (gi_cons 12 rfl rfl (gi_cons 13 rfl rfl (gi_cons 14 rfl rfl (gi_cons 15 rfl rfl (gi_cons 16 rfl rfl (gi_cons 17 rfl rfl (gi_cons 18 rfl rfl (gi_cons 19 rfl rfl (gi_cons 20 rfl rfl (gi_cons 21 rfl rfl (gi_cons 22 rfl rfl (gi_cons 23 rfl rfl (gi_cons 24 rfl rfl (gi_cons 25 rfl rfl (gi_cons 26 rfl rfl (gi_cons 27 rfl rfl (gi_cons 28 rfl rfl (gi_cons 29 rfl rfl (gi_cons 30 rfl rfl (gi_cons 31 rfl rfl (gi_cons 32 rfl rfl (gi_cons 33 rfl rfl (gi_cons 34 rfl rfl (gi_cons 35 rfl rfl (gi_cons 36 rfl rfl (gi_cons 37 rfl rfl (gi_cons 38 rfl rfl (gi_cons 39 rfl rfl (gi_cons 40 rfl rfl (gi_cons 41 rfl rfl (gi_cons 42 rfl rfl (gi_cons 43 rfl rfl (gi_cons 44 rfl rfl (gi_cons 45 rfl rfl (gi_cons 46 rfl rfl (gi_cons 47 rfl rfl (gi_cons 48 rfl rfl (gi_cons 49 rfl rfl (gi_cons 50 rfl rfl (gi_cons 51 rfl rfl (gi_cons 52 rfl rfl (gi_cons 53 rfl rfl (gi_cons 54 rfl rfl (gi_cons 55 rfl rfl (gi_cons 56 rfl rfl (gi_cons 57 rfl rfl (gi_cons 58 rfl rfl (gi_cons 59 rfl rfl (gi_cons 60 rfl rfl (gi_cons 61 rfl rfl (gi_cons 62 rfl rfl (gi_cons 63 rfl rfl (gi_cons 64 rfl rfl (gi_cons 65 rfl rfl (gi_cons 66 rfl rfl (gi_cons 67 rfl rfl (gi_cons 68 rfl rfl (gi_cons 69 rfl rfl (gi_cons 70 rfl rfl (gi_cons 71 rfl rfl (gi_cons 72 rfl rfl (gi_cons 73 rfl rfl (gi_cons 74 rfl rfl (gi_cons 75 rfl rfl gi_nil))))))))))))))))))))))))))))))))))))))))))))))))))))))))))))))))))))
set_option maxRecDepth 20000 in
theorem gX11_isThing_X11_things : GoodIn wsX11_isThing (wsV RX11 267 RX11 yX11_things wsX11_things) := goodIn_app (goodIn_of _ (by decide +kernel)) ggX11_isThing_X11_things
set_option maxRecDepth 100000 in
theorem ggX11_isThing_X11_isIn : GoodIn wsX11_isThing wsX11_isIn := (gi_cons 9 rfl rfl gi_nil)
set_option maxRecDepth 20000 in
theorem gX11_isThing_X11_isIn : GoodIn wsX11_isThing (va_wsS RX11 219 yX11_isIn wsX11_isIn) := goodIn_app (goodIn_of _ (by decide +kernel)) ggX11_isThing_X11_isIn
theorem dX11_isThing_0 : decode cX11_isThing 0 = .ok (.iload_n 1, 1) := by decide +kernel
theorem dX11_isThing_1 : decode cX11_isThing 1 = .ok (.iconst 0, 1) := by decide +kernel
theorem dX11_isThing_2 : decode cX11_isThing 2 = .ok (.aload_n 0, 1) := by decide +kernel
theorem dX11_isThing_3 : decode cX11_isThing 3 = .ok (.invokevirtual 267, 3) := by decide +kernel
theorem dX11_isThing_6 : decode cX11_isThing 6 = .ok (.iconst 1, 1) := by decide +kernel
theorem dX11_isThing_7 : decode cX11_isThing 7 = .ok (.isub, 1) := by decide +kernel
theorem dX11_isThing_8 : decode cX11_isThing 8 = .ok (.invokestatic 219, 3) := by decide +kernel
theorem dX11_isThing_11 : decode cX11_isThing 11 = .ok (.ireturn, 1) := by decide +kernel
set_option maxRecDepth 100000 in
theorem ggX11_allWithin_X11_size : GoodIn wsX11_allWithin wsX11_size := (gi_cons 12 rfl rfl gi_nil)
set_option maxRecDepth 20000 in
theorem gX11_allWithin_X11_size : GoodIn wsX11_allWithin (va_wsS RX11 242 yX11_size wsX11_size) := goodIn_app (goodIn_of _ (by decide +kernel)) ggX11_allWithin_X11_size
theorem dX11_allWithin_17 : decode cX11_allWithin 17 = .ok (.aload_n 0, 1) := by decide +kernel
theorem dX11_allWithin_18 : decode cX11_allWithin 18 = .ok (.getfield 35, 3) := by decide +kernel
theorem dX11_allWithin_21 : decode cX11_allWithin 21 = .ok (.iload_n 1, 1) := by decide +kernel
theorem dX11_allWithin_22 : decode cX11_allWithin 22 = .ok (.baload, 1) := by decide +kernel
theorem dX11_allWithin_23 : decode cX11_allWithin 23 = .ok (.ifCond .ne 6, 3) := by decide +kernel
theorem dX11_allWithin_26 : decode cX11_allWithin 26 = .ok (.goto 32, 3) := by decide +kernel
theorem dX11_allWithin_29 : decode cX11_allWithin 29 = .ok (.iload_n 1, 1) := by decide +kernel
theorem dX11_allWithin_30 : decode cX11_allWithin 30 = .ok (.istore_n 2, 1) := by decide +kernel
theorem dX11_allWithin_31 : decode cX11_allWithin 31 = .ok (.iload_n 2, 1) := by decide +kernel
theorem dX11_allWithin_32 : decode cX11_allWithin 32 = .ok (.iload_n 1, 1) := by decide +kernel
theorem dX11_allWithin_33 : decode cX11_allWithin 33 = .ok (.aload_n 0, 1) := by decide +kernel
theorem dX11_allWithin_34 : decode cX11_allWithin 34 = .ok (.getfield 9, 3) := by decide +kernel
theorem dX11_allWithin_37 : decode cX11_allWithin 37 = .ok (.iload_n 1, 1) := by decide +kernel
theorem dX11_allWithin_38 : decode cX11_allWithin 38 = .ok (.invokestatic 242, 3) := by decide +kernel
theorem dX11_allWithin_41 : decode cX11_allWithin 41 = .ok (.iadd, 1) := by decide +kernel
theorem dX11_allWithin_42 : decode cX11_allWithin 42 = .ok (.if_icmp .ge 16, 3) := by decide +kernel
theorem dX11_allWithin_45 : decode cX11_allWithin 45 = .ok (.aload_n 0, 1) := by decide +kernel
theorem dX11_allWithin_46 : decode cX11_allWithin 46 = .ok (.getfield 39, 3) := by decide +kernel
theorem dX11_allWithin_49 : decode cX11_allWithin 49 = .ok (.iload_n 2, 1) := by decide +kernel
theorem dX11_allWithin_50 : decode cX11_allWithin 50 = .ok (.iconst 1, 1) := by decide +kernel
theorem dX11_allWithin_51 : decode cX11_allWithin 51 = .ok (.bastore, 1) := by decide +kernel
theorem dX11_allWithin_52 : decode cX11_allWithin 52 = .ok (.iinc 2 1, 3) := by decide +kernel
theorem dX11_allWithin_55 : decode cX11_allWithin 55 = .ok (.goto (-24), 3) := by decide +kernel
theorem dX11_allWithin_58 : decode cX11_allWithin 58 = .ok (.iinc 1 1, 3) := by decide +kernel
theorem dX11_allWithin_61 : decode cX11_allWithin 61 = .ok (.goto (-59), 3) := by decide +kernel
set_option maxRecDepth 100000 in
theorem ggX11_keyOrAll_X11_holds : GoodIn wsX11_keyOrAll wsX11_holds := (gi_cons 58 rfl rfl gi_nil)
set_option maxRecDepth 20000 in
theorem gX11_keyOrAll_X11_holds : GoodIn wsX11_keyOrAll (va_wsS RX11 256 yX11_holds wsX11_holds) := goodIn_app (goodIn_of _ (by decide +kernel)) ggX11_keyOrAll_X11_holds
set_option maxRecDepth 100000 in
theorem ggX11_keyOrAll_X11_kind : GoodIn wsX11_keyOrAll wsX11_kind := (gi_cons 61 rfl rfl gi_nil)
set_option maxRecDepth 20000 in
theorem gX11_keyOrAll_X11_kind : GoodIn wsX11_keyOrAll (va_wsS RX11 253 yX11_kind wsX11_kind) := goodIn_app (goodIn_of _ (by decide +kernel)) ggX11_keyOrAll_X11_kind
set_option maxRecDepth 100000 in
theorem ggX11_keyOrAll_X11_size : GoodIn wsX11_keyOrAll wsX11_size := (gi_cons 64 rfl rfl gi_nil)
set_option maxRecDepth 20000 in
theorem gX11_keyOrAll_X11_size : GoodIn wsX11_keyOrAll (va_wsS RX11 242 yX11_size wsX11_size) := goodIn_app (goodIn_of _ (by decide +kernel)) ggX11_keyOrAll_X11_size
theorem dX11_keyOrAll_41 : decode cX11_keyOrAll 41 = .ok (.aload_n 0, 1) := by decide +kernel
theorem dX11_keyOrAll_42 : decode cX11_keyOrAll 42 = .ok (.getfield 35, 3) := by decide +kernel
theorem dX11_keyOrAll_45 : decode cX11_keyOrAll 45 = .ok (.iload_n 3, 1) := by decide +kernel
theorem dX11_keyOrAll_46 : decode cX11_keyOrAll 46 = .ok (.baload, 1) := by decide +kernel
theorem dX11_keyOrAll_47 : decode cX11_keyOrAll 47 = .ok (.ifCond .eq 111, 3) := by decide +kernel
theorem dX11_keyOrAll_50 : decode cX11_keyOrAll 50 = .ok (.aload_n 0, 1) := by decide +kernel
theorem dX11_keyOrAll_51 : decode cX11_keyOrAll 51 = .ok (.getfield 9, 3) := by decide +kernel
theorem dX11_keyOrAll_54 : decode cX11_keyOrAll 54 = .ok (.iload_n 3, 1) := by decide +kernel
theorem dX11_keyOrAll_55 : decode cX11_keyOrAll 55 = .ok (.invokestatic 256, 3) := by decide +kernel
theorem dX11_keyOrAll_58 : decode cX11_keyOrAll 58 = .ok (.ifCond .eq 100, 3) := by decide +kernel
theorem dX11_keyOrAll_61 : decode cX11_keyOrAll 61 = .ok (.iload_n 1, 1) := by decide +kernel
theorem dX11_keyOrAll_62 : decode cX11_keyOrAll 62 = .ok (.ifCond .ne 18, 3) := by decide +kernel
theorem dX11_keyOrAll_65 : decode cX11_keyOrAll 65 = .ok (.aload_n 0, 1) := by decide +kernel
theorem dX11_keyOrAll_66 : decode cX11_keyOrAll 66 = .ok (.getfield 9, 3) := by decide +kernel
theorem dX11_keyOrAll_69 : decode cX11_keyOrAll 69 = .ok (.iload_n 3, 1) := by decide +kernel
theorem dX11_keyOrAll_70 : decode cX11_keyOrAll 70 = .ok (.invokestatic 253, 3) := by decide +kernel
theorem dX11_keyOrAll_73 : decode cX11_keyOrAll 73 = .ok (.iconst 3, 1) := by decide +kernel
theorem dX11_keyOrAll_74 : decode cX11_keyOrAll 74 = .ok (.if_icmp .eq 6, 3) := by decide +kernel
theorem dX11_keyOrAll_77 : decode cX11_keyOrAll 77 = .ok (.goto 81, 3) := by decide +kernel
theorem dX11_keyOrAll_80 : decode cX11_keyOrAll 80 = .ok (.iload_n 3, 1) := by decide +kernel
theorem dX11_keyOrAll_81 : decode cX11_keyOrAll 81 = .ok (.iconst 1, 1) := by decide +kernel
theorem dX11_keyOrAll_82 : decode cX11_keyOrAll 82 = .ok (.iadd, 1) := by decide +kernel
theorem dX11_keyOrAll_83 : decode cX11_keyOrAll 83 = .ok (.istore 4, 2) := by decide +kernel
theorem dX11_keyOrAll_85 : decode cX11_keyOrAll 85 = .ok (.iload 4, 2) := by decide +kernel
theorem dX11_keyOrAll_87 : decode cX11_keyOrAll 87 = .ok (.iload_n 3, 1) := by decide +kernel
theorem dX11_keyOrAll_88 : decode cX11_keyOrAll 88 = .ok (.aload_n 0, 1) := by decide +kernel
theorem dX11_keyOrAll_89 : decode cX11_keyOrAll 89 = .ok (.getfield 9, 3) := by decide +kernel
theorem dX11_keyOrAll_92 : decode cX11_keyOrAll 92 = .ok (.iload_n 3, 1) := by decide +kernel
theorem dX11_keyOrAll_93 : decode cX11_keyOrAll 93 = .ok (.invokestatic 242, 3) := by decide +kernel
theorem dX11_keyOrAll_96 : decode cX11_keyOrAll 96 = .ok (.iadd, 1) := by decide +kernel
theorem dX11_keyOrAll_97 : decode cX11_keyOrAll 97 = .ok (.if_icmp .ge 61, 3) := by decide +kernel
theorem dX11_keyOrAll_100 : decode cX11_keyOrAll 100 = .ok (.aload_n 0, 1) := by decide +kernel
theorem dX11_keyOrAll_101 : decode cX11_keyOrAll 101 = .ok (.getfield 39, 3) := by decide +kernel
theorem dX11_keyOrAll_104 : decode cX11_keyOrAll 104 = .ok (.iload 4, 2) := by decide +kernel
theorem dX11_keyOrAll_106 : decode cX11_keyOrAll 106 = .ok (.aload_n 0, 1) := by decide +kernel
theorem dX11_keyOrAll_107 : decode cX11_keyOrAll 107 = .ok (.getfield 39, 3) := by decide +kernel
theorem dX11_keyOrAll_110 : decode cX11_keyOrAll 110 = .ok (.iload 4, 2) := by decide +kernel
theorem dX11_keyOrAll_112 : decode cX11_keyOrAll 112 = .ok (.baload, 1) := by decide +kernel
theorem dX11_keyOrAll_113 : decode cX11_keyOrAll 113 = .ok (.ifCond .ne 22, 3) := by decide +kernel
theorem dX11_keyOrAll_116 : decode cX11_keyOrAll 116 = .ok (.iload_n 1, 1) := by decide +kernel
theorem dX11_keyOrAll_117 : decode cX11_keyOrAll 117 = .ok (.ifCond .ne 18, 3) := by decide +kernel
theorem dX11_keyOrAll_120 : decode cX11_keyOrAll 120 = .ok (.aload_n 0, 1) := by decide +kernel
theorem dX11_keyOrAll_121 : decode cX11_keyOrAll 121 = .ok (.getfield 9, 3) := by decide +kernel
theorem dX11_keyOrAll_124 : decode cX11_keyOrAll 124 = .ok (.iconst 4, 1) := by decide +kernel
theorem dX11_keyOrAll_125 : decode cX11_keyOrAll 125 = .ok (.iload 4, 2) := by decide +kernel
theorem dX11_keyOrAll_127 : decode cX11_keyOrAll 127 = .ok (.imul, 1) := by decide +kernel
theorem dX11_keyOrAll_128 : decode cX11_keyOrAll 128 = .ok (.iconst 2, 1) := by decide +kernel
theorem dX11_keyOrAll_129 : decode cX11_keyOrAll 129 = .ok (.iadd, 1) := by decide +kernel
theorem dX11_keyOrAll_130 : decode cX11_keyOrAll 130 = .ok (.iaload, 1) := by decide +kernel
theorem dX11_keyOrAll_131 : decode cX11_keyOrAll 131 = .ok (.iload_n 2, 1) := by decide +kernel
theorem dX11_keyOrAll_132 : decode cX11_keyOrAll 132 = .ok (.if_icmp .ne 7, 3) := by decide +kernel
theorem dX11_keyOrAll_135 : decode cX11_keyOrAll 135 = .ok (.iconst 1, 1) := by decide +kernel
theorem dX11_keyOrAll_136 : decode cX11_keyOrAll 136 = .ok (.goto 4, 3) := by decide +kernel
theorem dX11_keyOrAll_139 : decode cX11_keyOrAll 139 = .ok (.iconst 0, 1) := by decide +kernel
theorem dX11_keyOrAll_140 : decode cX11_keyOrAll 140 = .ok (.bastore, 1) := by decide +kernel
theorem dX11_keyOrAll_141 : decode cX11_keyOrAll 141 = .ok (.iload 4, 2) := by decide +kernel
theorem dX11_keyOrAll_143 : decode cX11_keyOrAll 143 = .ok (.aload_n 0, 1) := by decide +kernel
theorem dX11_keyOrAll_144 : decode cX11_keyOrAll 144 = .ok (.getfield 9, 3) := by decide +kernel
theorem dX11_keyOrAll_147 : decode cX11_keyOrAll 147 = .ok (.iload 4, 2) := by decide +kernel
theorem dX11_keyOrAll_149 : decode cX11_keyOrAll 149 = .ok (.invokestatic 242, 3) := by decide +kernel
theorem dX11_keyOrAll_152 : decode cX11_keyOrAll 152 = .ok (.iadd, 1) := by decide +kernel
theorem dX11_keyOrAll_153 : decode cX11_keyOrAll 153 = .ok (.istore 4, 2) := by decide +kernel
theorem dX11_keyOrAll_155 : decode cX11_keyOrAll 155 = .ok (.goto (-70), 3) := by decide +kernel
theorem dX11_keyOrAll_158 : decode cX11_keyOrAll 158 = .ok (.iinc 3 1, 3) := by decide +kernel
theorem dX11_keyOrAll_161 : decode cX11_keyOrAll 161 = .ok (.goto (-135), 3) := by decide +kernel
set_option maxRecDepth 100000 in
theorem ggX11_places_X11_kind : GoodIn wsX11_places wsX11_kind := (gi_cons 66 rfl rfl gi_nil)
set_option maxRecDepth 20000 in
theorem gX11_places_X11_kind : GoodIn wsX11_places (va_wsS RX11 253 yX11_kind wsX11_kind) := goodIn_app (goodIn_of _ (by decide +kernel)) ggX11_places_X11_kind
set_option maxRecDepth 100000 in
theorem ggX11_places_X11_byPlace : GoodIn wsX11_places wsX11_byPlace := (gi_cons 69 rfl rfl (gi_cons 70 rfl rfl (gi_cons 71 rfl rfl (gi_cons 8 rfl rfl (gi_cons 72 rfl rfl (gi_cons 73 rfl rfl (gi_cons 74 rfl rfl (gi_cons 75 rfl rfl (gi_cons 76 rfl rfl (gi_cons 77 rfl rfl (gi_cons 78 rfl rfl gi_nil)))))))))))
set_option maxRecDepth 20000 in
theorem gX11_places_X11_byPlace : GoodIn wsX11_places (va_wsS RX11 307 yX11_byPlace wsX11_byPlace) := goodIn_app (goodIn_of _ (by decide +kernel)) ggX11_places_X11_byPlace
set_option maxRecDepth 100000 in
theorem ggX11_places_X11_many : GoodIn wsX11_places wsX11_many := (gi_cons 72 rfl rfl (gi_cons 73 rfl rfl (gi_cons 74 rfl rfl (gi_cons 8 rfl rfl (gi_cons 75 rfl rfl gi_nil)))))
set_option maxRecDepth 20000 in
theorem gX11_places_X11_many : GoodIn wsX11_places (va_wsS RX11 246 yX11_many wsX11_many) := goodIn_app (goodIn_of _ (by decide +kernel)) ggX11_places_X11_many
set_option maxRecDepth 100000 in
theorem ggX11_places_X11_held : GoodIn wsX11_places wsX11_held := (gi_cons 81 rfl rfl (gi_cons 36 rfl rfl (gi_cons 37 rfl rfl (gi_cons 38 rfl rfl (gi_cons 39 rfl rfl (gi_cons 82 rfl rfl (gi_cons 83 rfl rfl (gi_cons 84 rfl rfl gi_nil))))))))
set_option maxRecDepth 20000 in
theorem gX11_places_X11_held : GoodIn wsX11_places (va_wsS RX11 310 yX11_held wsX11_held) := goodIn_app (goodIn_of _ (by decide +kernel)) ggX11_places_X11_held
set_option maxRecDepth 100000 in
theorem ggX11_places_X11_nth : GoodIn wsX11_places wsX11_nth := (gi_cons 78 rfl rfl (gi_cons 73 rfl rfl (gi_cons 74 rfl rfl (gi_cons 8 rfl rfl (gi_cons 75 rfl rfl gi_nil)))))
set_option maxRecDepth 20000 in
theorem gX11_places_X11_nth : GoodIn wsX11_places (va_wsS RX11 249 yX11_nth wsX11_nth) := goodIn_app (goodIn_of _ (by decide +kernel)) ggX11_places_X11_nth
theorem dX11_places_60 : decode cX11_places 60 = .ok (.aload_n 0, 1) := by decide +kernel
theorem dX11_places_61 : decode cX11_places 61 = .ok (.getfield 35, 3) := by decide +kernel
theorem dX11_places_64 : decode cX11_places 64 = .ok (.iload_n 3, 1) := by decide +kernel
theorem dX11_places_65 : decode cX11_places 65 = .ok (.baload, 1) := by decide +kernel
theorem dX11_places_66 : decode cX11_places 66 = .ok (.ifCond .eq 27, 3) := by decide +kernel
theorem dX11_places_69 : decode cX11_places 69 = .ok (.aload_n 0, 1) := by decide +kernel
theorem dX11_places_70 : decode cX11_places 70 = .ok (.getfield 9, 3) := by decide +kernel
theorem dX11_places_73 : decode cX11_places 73 = .ok (.iload_n 3, 1) := by decide +kernel
theorem dX11_places_74 : decode cX11_places 74 = .ok (.invokestatic 253, 3) := by decide +kernel
theorem dX11_places_77 : decode cX11_places 77 = .ok (.iconst 2, 1) := by decide +kernel
theorem dX11_places_78 : decode cX11_places 78 = .ok (.if_icmp .ne 15, 3) := by decide +kernel
theorem dX11_places_81 : decode cX11_places 81 = .ok (.aload_n 0, 1) := by decide +kernel
theorem dX11_places_82 : decode cX11_places 82 = .ok (.getfield 9, 3) := by decide +kernel
theorem dX11_places_85 : decode cX11_places 85 = .ok (.iload_n 3, 1) := by decide +kernel
theorem dX11_places_86 : decode cX11_places 86 = .ok (.iload_n 2, 1) := by decide +kernel
theorem dX11_places_87 : decode cX11_places 87 = .ok (.invokestatic 307, 3) := by decide +kernel
theorem dX11_places_90 : decode cX11_places 90 = .ok (.goto 4, 3) := by decide +kernel
theorem dX11_places_93 : decode cX11_places 93 = .ok (.iconst (-1), 1) := by decide +kernel
theorem dX11_places_94 : decode cX11_places 94 = .ok (.istore 4, 2) := by decide +kernel
theorem dX11_places_96 : decode cX11_places 96 = .ok (.iload 4, 2) := by decide +kernel
theorem dX11_places_98 : decode cX11_places 98 = .ok (.iconst (-1), 1) := by decide +kernel
theorem dX11_places_99 : decode cX11_places 99 = .ok (.if_icmp .eq 11, 3) := by decide +kernel
theorem dX11_places_102 : decode cX11_places 102 = .ok (.aload_n 0, 1) := by decide +kernel
theorem dX11_places_103 : decode cX11_places 103 = .ok (.getfield 39, 3) := by decide +kernel
theorem dX11_places_106 : decode cX11_places 106 = .ok (.iload 4, 2) := by decide +kernel
theorem dX11_places_108 : decode cX11_places 108 = .ok (.iconst 1, 1) := by decide +kernel
theorem dX11_places_109 : decode cX11_places 109 = .ok (.bastore, 1) := by decide +kernel
theorem dX11_places_110 : decode cX11_places 110 = .ok (.iinc 3 1, 3) := by decide +kernel
theorem dX11_places_113 : decode cX11_places 113 = .ok (.goto (-68), 3) := by decide +kernel
theorem dX11_places_175 : decode cX11_places 175 = .ok (.aload_n 0, 1) := by decide +kernel
theorem dX11_places_176 : decode cX11_places 176 = .ok (.getfield 35, 3) := by decide +kernel
theorem dX11_places_179 : decode cX11_places 179 = .ok (.iload 5, 2) := by decide +kernel
theorem dX11_places_181 : decode cX11_places 181 = .ok (.baload, 1) := by decide +kernel
theorem dX11_places_182 : decode cX11_places 182 = .ok (.ifCond .eq 90, 3) := by decide +kernel
theorem dX11_places_185 : decode cX11_places 185 = .ok (.aload_n 0, 1) := by decide +kernel
theorem dX11_places_186 : decode cX11_places 186 = .ok (.getfield 9, 3) := by decide +kernel
theorem dX11_places_189 : decode cX11_places 189 = .ok (.iload 5, 2) := by decide +kernel
theorem dX11_places_191 : decode cX11_places 191 = .ok (.invokestatic 253, 3) := by decide +kernel
theorem dX11_places_194 : decode cX11_places 194 = .ok (.iconst 2, 1) := by decide +kernel
theorem dX11_places_195 : decode cX11_places 195 = .ok (.if_icmp .eq 6, 3) := by decide +kernel
theorem dX11_places_198 : decode cX11_places 198 = .ok (.goto 74, 3) := by decide +kernel
theorem dX11_places_201 : decode cX11_places 201 = .ok (.aload_n 0, 1) := by decide +kernel
theorem dX11_places_202 : decode cX11_places 202 = .ok (.getfield 9, 3) := by decide +kernel
theorem dX11_places_205 : decode cX11_places 205 = .ok (.iload 5, 2) := by decide +kernel
theorem dX11_places_207 : decode cX11_places 207 = .ok (.invokestatic 246, 3) := by decide +kernel
theorem dX11_places_210 : decode cX11_places 210 = .ok (.istore 6, 2) := by decide +kernel
theorem dX11_places_212 : decode cX11_places 212 = .ok (.iload_n 2, 1) := by decide +kernel
theorem dX11_places_213 : decode cX11_places 213 = .ok (.iload 6, 2) := by decide +kernel
theorem dX11_places_215 : decode cX11_places 215 = .ok (.invokestatic 310, 3) := by decide +kernel
theorem dX11_places_218 : decode cX11_places 218 = .ok (.istore 7, 2) := by decide +kernel
theorem dX11_places_220 : decode cX11_places 220 = .ok (.iload_n 3, 1) := by decide +kernel
theorem dX11_places_221 : decode cX11_places 221 = .ok (.ifCond .eq 13, 3) := by decide +kernel
theorem dX11_places_224 : decode cX11_places 224 = .ok (.iload 4, 2) := by decide +kernel
theorem dX11_places_226 : decode cX11_places 226 = .ok (.iload 6, 2) := by decide +kernel
theorem dX11_places_228 : decode cX11_places 228 = .ok (.invokestatic 310, 3) := by decide +kernel
theorem dX11_places_231 : decode cX11_places 231 = .ok (.goto 5, 3) := by decide +kernel
theorem dX11_places_234 : decode cX11_places 234 = .ok (.iload 6, 2) := by decide +kernel
theorem dX11_places_236 : decode cX11_places 236 = .ok (.istore 8, 2) := by decide +kernel
theorem dX11_places_238 : decode cX11_places 238 = .ok (.iload 7, 2) := by decide +kernel
theorem dX11_places_240 : decode cX11_places 240 = .ok (.istore 9, 2) := by decide +kernel
theorem dX11_places_242 : decode cX11_places 242 = .ok (.iload 9, 2) := by decide +kernel
theorem dX11_places_244 : decode cX11_places 244 = .ok (.iload 8, 2) := by decide +kernel
theorem dX11_places_246 : decode cX11_places 246 = .ok (.if_icmp .ge 26, 3) := by decide +kernel
theorem dX11_places_249 : decode cX11_places 249 = .ok (.aload_n 0, 1) := by decide +kernel
theorem dX11_places_250 : decode cX11_places 250 = .ok (.getfield 39, 3) := by decide +kernel
theorem dX11_places_253 : decode cX11_places 253 = .ok (.aload_n 0, 1) := by decide +kernel
theorem dX11_places_254 : decode cX11_places 254 = .ok (.getfield 9, 3) := by decide +kernel
theorem dX11_places_257 : decode cX11_places 257 = .ok (.iload 5, 2) := by decide +kernel
theorem dX11_places_259 : decode cX11_places 259 = .ok (.iload 9, 2) := by decide +kernel
theorem dX11_places_261 : decode cX11_places 261 = .ok (.invokestatic 249, 3) := by decide +kernel
theorem dX11_places_264 : decode cX11_places 264 = .ok (.iconst 1, 1) := by decide +kernel
theorem dX11_places_265 : decode cX11_places 265 = .ok (.bastore, 1) := by decide +kernel
theorem dX11_places_266 : decode cX11_places 266 = .ok (.iinc 9 1, 3) := by decide +kernel
theorem dX11_places_269 : decode cX11_places 269 = .ok (.goto (-27), 3) := by decide +kernel
theorem dX11_places_272 : decode cX11_places 272 = .ok (.iinc 5 1, 3) := by decide +kernel
theorem dX11_places_275 : decode cX11_places 275 = .ok (.goto (-116), 3) := by decide +kernel
theorem dX11_held_0 : decode cX11_held 0 = .ok (.iload_n 0, 1) := by decide +kernel
theorem dX11_held_1 : decode cX11_held 1 = .ok (.ifCond .ge 9, 3) := by decide +kernel
theorem dX11_held_4 : decode cX11_held 4 = .ok (.iload_n 0, 1) := by decide +kernel
theorem dX11_held_5 : decode cX11_held 5 = .ok (.iload_n 1, 1) := by decide +kernel
theorem dX11_held_6 : decode cX11_held 6 = .ok (.iadd, 1) := by decide +kernel
theorem dX11_held_7 : decode cX11_held 7 = .ok (.goto 4, 3) := by decide +kernel
theorem dX11_held_10 : decode cX11_held 10 = .ok (.iload_n 0, 1) := by decide +kernel
theorem dX11_held_11 : decode cX11_held 11 = .ok (.istore_n 2, 1) := by decide +kernel
theorem dX11_held_12 : decode cX11_held 12 = .ok (.iconst 0, 1) := by decide +kernel
theorem dX11_held_13 : decode cX11_held 13 = .ok (.iload_n 1, 1) := by decide +kernel
theorem dX11_held_14 : decode cX11_held 14 = .ok (.iload_n 2, 1) := by decide +kernel
theorem dX11_held_15 : decode cX11_held 15 = .ok (.invokestatic 153, 3) := by decide +kernel
theorem dX11_held_18 : decode cX11_held 18 = .ok (.invokestatic 313, 3) := by decide +kernel
theorem dX11_held_21 : decode cX11_held 21 = .ok (.ireturn, 1) := by decide +kernel
theorem dX11_isSigned_0 : decode cX11_isSigned 0 = .ok (.iload_n 0, 1) := by decide +kernel
theorem dX11_isSigned_1 : decode cX11_isSigned 1 = .ok (.bipush 61, 2) := by decide +kernel
theorem dX11_isSigned_3 : decode cX11_isSigned 3 = .ok (.if_icmp .ne 15, 3) := by decide +kernel
theorem dX11_isSigned_6 : decode cX11_isSigned 6 = .ok (.iload_n 1, 1) := by decide +kernel
theorem dX11_isSigned_7 : decode cX11_isSigned 7 = .ok (.ifCond .ne 7, 3) := by decide +kernel
theorem dX11_isSigned_10 : decode cX11_isSigned 10 = .ok (.iconst 1, 1) := by decide +kernel
theorem dX11_isSigned_11 : decode cX11_isSigned 11 = .ok (.goto 34, 3) := by decide +kernel
theorem dX11_isSigned_14 : decode cX11_isSigned 14 = .ok (.iconst 0, 1) := by decide +kernel
theorem dX11_isSigned_15 : decode cX11_isSigned 15 = .ok (.goto 30, 3) := by decide +kernel
theorem dX11_isSigned_18 : decode cX11_isSigned 18 = .ok (.iload_n 0, 1) := by decide +kernel
theorem dX11_isSigned_19 : decode cX11_isSigned 19 = .ok (.bipush 60, 2) := by decide +kernel
theorem dX11_isSigned_21 : decode cX11_isSigned 21 = .ok (.if_icmp .ne 15, 3) := by decide +kernel
theorem dX11_isSigned_24 : decode cX11_isSigned 24 = .ok (.iload_n 1, 1) := by decide +kernel
theorem dX11_isSigned_25 : decode cX11_isSigned 25 = .ok (.ifCond .ge 7, 3) := by decide +kernel
theorem dX11_isSigned_28 : decode cX11_isSigned 28 = .ok (.iconst 1, 1) := by decide +kernel
theorem dX11_isSigned_29 : decode cX11_isSigned 29 = .ok (.goto 16, 3) := by decide +kernel
theorem dX11_isSigned_32 : decode cX11_isSigned 32 = .ok (.iconst 0, 1) := by decide +kernel
theorem dX11_isSigned_33 : decode cX11_isSigned 33 = .ok (.goto 12, 3) := by decide +kernel
theorem dX11_isSigned_36 : decode cX11_isSigned 36 = .ok (.iload_n 1, 1) := by decide +kernel
theorem dX11_isSigned_37 : decode cX11_isSigned 37 = .ok (.ifCond .le 7, 3) := by decide +kernel
theorem dX11_isSigned_40 : decode cX11_isSigned 40 = .ok (.iconst 1, 1) := by decide +kernel
theorem dX11_isSigned_41 : decode cX11_isSigned 41 = .ok (.goto 4, 3) := by decide +kernel
theorem dX11_isSigned_44 : decode cX11_isSigned 44 = .ok (.iconst 0, 1) := by decide +kernel
theorem dX11_isSigned_45 : decode cX11_isSigned 45 = .ok (.ireturn, 1) := by decide +kernel
theorem dX11_lettersOf_0 : decode cX11_lettersOf 0 = .ok (.iconst 0, 1) := by decide +kernel
theorem dX11_lettersOf_1 : decode cX11_lettersOf 1 = .ok (.istore_n 1, 1) := by decide +kernel
theorem dX11_lettersOf_2 : decode cX11_lettersOf 2 = .ok (.iload_n 0, 1) := by decide +kernel
theorem dX11_lettersOf_3 : decode cX11_lettersOf 3 = .ok (.istore_n 2, 1) := by decide +kernel
theorem dX11_lettersOf_4 : decode cX11_lettersOf 4 = .ok (.iload_n 2, 1) := by decide +kernel
theorem dX11_lettersOf_5 : decode cX11_lettersOf 5 = .ok (.ifCond .le 14, 3) := by decide +kernel
theorem dX11_lettersOf_8 : decode cX11_lettersOf 8 = .ok (.iinc 1 1, 3) := by decide +kernel
theorem dX11_lettersOf_11 : decode cX11_lettersOf 11 = .ok (.iload_n 2, 1) := by decide +kernel
theorem dX11_lettersOf_12 : decode cX11_lettersOf 12 = .ok (.bipush 32, 2) := by decide +kernel
theorem dX11_lettersOf_14 : decode cX11_lettersOf 14 = .ok (.idiv, 1) := by decide +kernel
theorem dX11_lettersOf_15 : decode cX11_lettersOf 15 = .ok (.istore_n 2, 1) := by decide +kernel
theorem dX11_lettersOf_16 : decode cX11_lettersOf 16 = .ok (.goto (-12), 3) := by decide +kernel
theorem dX11_lettersOf_19 : decode cX11_lettersOf 19 = .ok (.iload_n 1, 1) := by decide +kernel
theorem dX11_lettersOf_20 : decode cX11_lettersOf 20 = .ok (.ireturn, 1) := by decide +kernel
set_option maxRecDepth 100000 in
theorem ggX11_compareWords_X11_lettersOf : GoodIn wsX11_compareWords wsX11_lettersOf := (gi_cons 4 rfl rfl gi_nil)
set_option maxRecDepth 20000 in
theorem gX11_compareWords_X11_lettersOf : GoodIn wsX11_compareWords (va_wsS RX11 338 yX11_lettersOf wsX11_lettersOf) := goodIn_app (goodIn_of _ (by decide +kernel)) ggX11_compareWords_X11_lettersOf
theorem dX11_compareWords_0 : decode cX11_compareWords 0 = .ok (.iload_n 0, 1) := by decide +kernel
theorem dX11_compareWords_1 : decode cX11_compareWords 1 = .ok (.iconst 5, 1) := by decide +kernel
theorem dX11_compareWords_2 : decode cX11_compareWords 2 = .ok (.bipush 6, 2) := by decide +kernel
theorem dX11_compareWords_4 : decode cX11_compareWords 4 = .ok (.iload_n 0, 1) := by decide +kernel
theorem dX11_compareWords_5 : decode cX11_compareWords 5 = .ok (.invokestatic 338, 3) := by decide +kernel
theorem dX11_compareWords_8 : decode cX11_compareWords 8 = .ok (.isub, 1) := by decide +kernel
theorem dX11_compareWords_9 : decode cX11_compareWords 9 = .ok (.imul, 1) := by decide +kernel
theorem dX11_compareWords_10 : decode cX11_compareWords 10 = .ok (.ishl, 1) := by decide +kernel
theorem dX11_compareWords_11 : decode cX11_compareWords 11 = .ok (.istore_n 2, 1) := by decide +kernel
theorem dX11_compareWords_12 : decode cX11_compareWords 12 = .ok (.iload_n 1, 1) := by decide +kernel
theorem dX11_compareWords_13 : decode cX11_compareWords 13 = .ok (.iconst 5, 1) := by decide +kernel
theorem dX11_compareWords_14 : decode cX11_compareWords 14 = .ok (.bipush 6, 2) := by decide +kernel
theorem dX11_compareWords_16 : decode cX11_compareWords 16 = .ok (.iload_n 1, 1) := by decide +kernel
theorem dX11_compareWords_17 : decode cX11_compareWords 17 = .ok (.invokestatic 338, 3) := by decide +kernel
theorem dX11_compareWords_20 : decode cX11_compareWords 20 = .ok (.isub, 1) := by decide +kernel
theorem dX11_compareWords_21 : decode cX11_compareWords 21 = .ok (.imul, 1) := by decide +kernel
theorem dX11_compareWords_22 : decode cX11_compareWords 22 = .ok (.ishl, 1) := by decide +kernel
theorem dX11_compareWords_23 : decode cX11_compareWords 23 = .ok (.istore_n 3, 1) := by decide +kernel
theorem dX11_compareWords_24 : decode cX11_compareWords 24 = .ok (.iload_n 2, 1) := by decide +kernel
theorem dX11_compareWords_25 : decode cX11_compareWords 25 = .ok (.iload_n 3, 1) := by decide +kernel
theorem dX11_compareWords_26 : decode cX11_compareWords 26 = .ok (.if_icmp .ge 7, 3) := by decide +kernel
theorem dX11_compareWords_29 : decode cX11_compareWords 29 = .ok (.iconst (-1), 1) := by decide +kernel
theorem dX11_compareWords_30 : decode cX11_compareWords 30 = .ok (.goto 13, 3) := by decide +kernel
theorem dX11_compareWords_33 : decode cX11_compareWords 33 = .ok (.iload_n 2, 1) := by decide +kernel
theorem dX11_compareWords_34 : decode cX11_compareWords 34 = .ok (.iload_n 3, 1) := by decide +kernel
theorem dX11_compareWords_35 : decode cX11_compareWords 35 = .ok (.if_icmp .le 7, 3) := by decide +kernel
theorem dX11_compareWords_38 : decode cX11_compareWords 38 = .ok (.iconst 1, 1) := by decide +kernel
theorem dX11_compareWords_39 : decode cX11_compareWords 39 = .ok (.goto 4, 3) := by decide +kernel
theorem dX11_compareWords_42 : decode cX11_compareWords 42 = .ok (.iconst 0, 1) := by decide +kernel
theorem dX11_compareWords_43 : decode cX11_compareWords 43 = .ok (.ireturn, 1) := by decide +kernel
set_option maxRecDepth 100000 in
theorem ggX11_isPath_X11_isIn : GoodIn wsX11_isPath wsX11_isIn := (gi_cons 5 rfl rfl gi_nil)
set_option maxRecDepth 20000 in
theorem gX11_isPath_X11_isIn : GoodIn wsX11_isPath (va_wsS RX11 219 yX11_isIn wsX11_isIn) := goodIn_app (goodIn_of _ (by decide +kernel)) ggX11_isPath_X11_isIn
theorem dX11_isPath_0 : decode cX11_isPath 0 = .ok (.iload_n 1, 1) := by decide +kernel
theorem dX11_isPath_1 : decode cX11_isPath 1 = .ok (.iconst 0, 1) := by decide +kernel
theorem dX11_isPath_2 : decode cX11_isPath 2 = .ok (.iconst 3, 1) := by decide +kernel
theorem dX11_isPath_3 : decode cX11_isPath 3 = .ok (.invokestatic 219, 3) := by decide +kernel
theorem dX11_isPath_6 : decode cX11_isPath 6 = .ok (.ifCond .eq 16, 3) := by decide +kernel
theorem dX11_isPath_9 : decode cX11_isPath 9 = .ok (.aload_n 0, 1) := by decide +kernel
theorem dX11_isPath_10 : decode cX11_isPath 10 = .ok (.getfield 28, 3) := by decide +kernel
theorem dX11_isPath_13 : decode cX11_isPath 13 = .ok (.iload_n 1, 1) := by decide +kernel
theorem dX11_isPath_14 : decode cX11_isPath 14 = .ok (.iaload, 1) := by decide +kernel
theorem dX11_isPath_15 : decode cX11_isPath 15 = .ok (.ifCond .le 7, 3) := by decide +kernel
theorem dX11_isPath_18 : decode cX11_isPath 18 = .ok (.iconst 1, 1) := by decide +kernel
theorem dX11_isPath_19 : decode cX11_isPath 19 = .ok (.goto 4, 3) := by decide +kernel
theorem dX11_isPath_22 : decode cX11_isPath 22 = .ok (.iconst 0, 1) := by decide +kernel
theorem dX11_isPath_23 : decode cX11_isPath 23 = .ok (.ireturn, 1) := by decide +kernel
