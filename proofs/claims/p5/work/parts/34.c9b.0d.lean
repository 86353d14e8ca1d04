set_option maxRecDepth 100000 in
theorem ggX11_lays_X11_leads : GoodIn wsX11_lays wsX11_leads := (gi_cons 14 rfl rfl (gi_cons 5 rfl rfl (gi_cons 6 rfl rfl (gi_cons 15 rfl rfl (gi_cons 16 rfl rfl (gi_cons 13 rfl rfl (gi_cons 17 rfl rfl (gi_cons 18 rfl rfl (gi_cons 19 rfl rfl (gi_cons 20 rfl rfl (gi_cons 21 rfl rfl (gi_cons 22 rfl rfl (gi_cons 23 rfl rfl (gi_cons 24 rfl rfl (gi_cons 25 rfl rfl (gi_cons 26 rfl rfl (gi_cons 27 rfl rfl (gi_cons 28 rfl rfl (gi_cons 29 rfl rfl (gi_cons 30 rfl rfl (gi_cons 31 rfl rfl (gi_cons 32 rfl rfl (gi_cons 59 rfl rfl (gi_cons 60 rfl rfl (gi_cons 61 rfl rfl (gi_cons 62 rfl rfl (gi_cons 63 rfl rfl (gi_cons 64 rfl rfl (gi_cons 65 rfl rfl (gi_cons 66 rfl rfl (gi_cons 67 rfl rfl (gi_cons 68 rfl rfl (gi_cons 69 rfl rfl (gi_cons 70 rfl rfl (gi_cons 71 rfl rfl (gi_cons 72 rfl rfl (gi_cons 73 rfl rfl (gi_cons 74 rfl rfl (gi_cons 75 rfl rfl (gi_cons 76 rfl rfl (gi_cons 77 rfl rfl (gi_cons 78 rfl rfl (gi_cons 79 rfl rfl (gi_cons 80 rfl rfl (gi_cons 81 rfl rfl (gi_cons 82 rfl rfl (gi_cons 83 rfl rfl (gi_cons 84 rfl rfl (gi_cons 85 rfl rfl (gi_cons 86 rfl rfl (gi_cons 87 rfl rfl (gi_cons 88 rfl rfl (gi_cons 89 rfl rfl (gi_cons 90 rfl rfl (gi_cons 91 rfl rfl (gi_cons 92 rfl rfl (gi_cons 93 rfl rfl (gi_cons 94 rfl rfl (gi_cons 95 rfl rfl (gi_cons 96 rfl rfl (gi_cons 97 rfl rfl (gi_cons 98 rfl rfl (gi_cons 99 rfl rfl (gi_cons 100 rfl rfl (gi_cons 101 rfl rfl (gi_cons 102 rfl rfl (gi_cons 103 rfl rfl (gi_cons 104 rfl rfl (gi_cons 105 rfl rfl (gi_cons 106 rfl rfl (gi_cons 107 rfl rfl (gi_cons 108 rfl rfl (gi_cons 109 rfl rfl (gi_cons 110 rfl rfl (gi_cons 111 rfl rfl (gi_cons 112 rfl rfl (gi_cons 113 rfl rfl (gi_cons 114 rfl rfl (gi_cons 115 rfl rfl (gi_cons 116 rfl rfl (gi_cons 117 rfl rfl (gi_cons 118 rfl rfl (gi_cons 119 rfl rfl (gi_cons 120 rfl rfl (gi_cons 121 rfl rfl (gi_cons 122 rfl rfl (gi_cons 123 rfl rfl (gi_cons 124 rfl rfl gi_nil))))))))))))))))))))))))))))))))))))))))))))))))))))))))))))))))))))))))))))))))))))))))
set_option maxRecDepth 20000 in
theorem gX11_lays_X11_leads : GoodIn wsX11_lays (wsV RX11 464 RX11 yX11_leads wsX11_leads) := goodIn_app (goodIn_of _ (by decide +kernel)) ggX11_lays_X11_leads
set_option maxRecDepth 100000 in
theorem ggX11_lays_X11_kind : GoodIn wsX11_lays wsX11_kind := (gi_cons 17 rfl rfl gi_nil)
set_option maxRecDepth 20000 in
theorem gX11_lays_X11_kind : GoodIn wsX11_lays (va_wsS RX11 253 yX11_kind wsX11_kind) := goodIn_app (goodIn_of _ (by decide +kernel)) ggX11_lays_X11_kind
set_option maxRecDepth 100000 in
theorem ggX11_lays_X11_many : GoodIn wsX11_lays wsX11_many := (gi_cons 29 rfl rfl (gi_cons 21 rfl rfl (gi_cons 22 rfl rfl (gi_cons 13 rfl rfl (gi_cons 23 rfl rfl gi_nil)))))
set_option maxRecDepth 20000 in
theorem gX11_lays_X11_many : GoodIn wsX11_lays (va_wsS RX11 246 yX11_many wsX11_many) := goodIn_app (goodIn_of _ (by decide +kernel)) ggX11_lays_X11_many
set_option maxRecDepth 100000 in
theorem ggX11_lays_X11_lift : GoodIn wsX11_lays wsX11_lift := (gi_cons 36 rfl rfl (gi_cons 9 rfl rfl (gi_cons 21 rfl rfl (gi_cons 22 rfl rfl (gi_cons 13 rfl rfl (gi_cons 23 rfl rfl (gi_cons 59 rfl rfl (gi_cons 60 rfl rfl (gi_cons 61 rfl rfl (gi_cons 62 rfl rfl (gi_cons 63 rfl rfl (gi_cons 64 rfl rfl (gi_cons 65 rfl rfl (gi_cons 66 rfl rfl (gi_cons 67 rfl rfl (gi_cons 68 rfl rfl (gi_cons 69 rfl rfl (gi_cons 70 rfl rfl (gi_cons 71 rfl rfl (gi_cons 72 rfl rfl (gi_cons 73 rfl rfl (gi_cons 74 rfl rfl (gi_cons 75 rfl rfl (gi_cons 76 rfl rfl (gi_cons 77 rfl rfl (gi_cons 78 rfl rfl (gi_cons 79 rfl rfl (gi_cons 80 rfl rfl (gi_cons 81 rfl rfl (gi_cons 82 rfl rfl (gi_cons 83 rfl rfl (gi_cons 84 rfl rfl (gi_cons 85 rfl rfl (gi_cons 86 rfl rfl (gi_cons 87 rfl rfl (gi_cons 88 rfl rfl (gi_cons 89 rfl rfl (gi_cons 90 rfl rfl (gi_cons 91 rfl rfl (gi_cons 92 rfl rfl (gi_cons 93 rfl rfl (gi_cons 94 rfl rfl (gi_cons 95 rfl rfl (gi_cons 96 rfl rfl (gi_cons 97 rfl rfl (gi_cons 98 rfl rfl (gi_cons 99 rfl rfl (gi_cons 100 rfl rfl (gi_cons 101 rfl rfl (gi_cons 102 rfl rfl (gi_cons 103 rfl rfl (gi_cons 104 rfl rfl (gi_cons 105 rfl rfl (gi_cons 106 rfl rfl (gi_cons 107 rfl rfl (gi_cons 108 rfl rfl (gi_cons 109 rfl rfl (gi_cons 110 rfl rfl (gi_cons 111 rfl rfl (gi_cons 112 rfl rfl (gi_cons 113 rfl rfl (gi_cons 114 rfl rfl (gi_cons 115 rfl rfl (gi_cons 116 rfl rfl (gi_cons 117 rfl rfl (gi_cons 118 rfl rfl (gi_cons 119 rfl rfl (gi_cons 120 rfl rfl (gi_cons 121 rfl rfl (gi_cons 122 rfl rfl (gi_cons 123 rfl rfl (gi_cons 124 rfl rfl gi_nil))))))))))))))))))))))))))))))))))))))))))))))))))))))))))))))))))))))))
set_option maxRecDepth 20000 in
theorem gX11_lays_X11_lift : GoodIn wsX11_lays (wsV RX11 426 RX11 yX11_lift wsX11_lift) := goodIn_app (goodIn_of _ (by decide +kernel)) ggX11_lays_X11_lift
set_option maxRecDepth 100000 in
theorem ggX11_lays_X11_size : GoodIn wsX11_lays wsX11_size := (gi_cons 23 rfl rfl gi_nil)
set_option maxRecDepth 20000 in
theorem gX11_lays_X11_size : GoodIn wsX11_lays (va_wsS RX11 242 yX11_size wsX11_size) := goodIn_app (goodIn_of _ (by decide +kernel)) ggX11_lays_X11_size
set_option maxRecDepth 100000 in
theorem ggX11_lays_X11_layInto : GoodIn wsX11_lays wsX11_layInto := (gi_cons 40 rfl rfl (gi_cons 9 rfl rfl (gi_cons 8 rfl rfl (gi_cons 6 rfl rfl (gi_cons 21 rfl rfl (gi_cons 22 rfl rfl (gi_cons 13 rfl rfl (gi_cons 23 rfl rfl (gi_cons 59 rfl rfl (gi_cons 60 rfl rfl (gi_cons 61 rfl rfl (gi_cons 62 rfl rfl (gi_cons 63 rfl rfl (gi_cons 64 rfl rfl (gi_cons 65 rfl rfl (gi_cons 66 rfl rfl (gi_cons 67 rfl rfl (gi_cons 68 rfl rfl (gi_cons 69 rfl rfl (gi_cons 70 rfl rfl (gi_cons 71 rfl rfl (gi_cons 72 rfl rfl (gi_cons 73 rfl rfl (gi_cons 74 rfl rfl (gi_cons 75 rfl rfl (gi_cons 76 rfl rfl (gi_cons 77 rfl rfl (gi_cons 78 rfl rfl (gi_cons 79 rfl rfl (gi_cons 80 rfl rfl (gi_cons 81 rfl rfl (gi_cons 82 rfl rfl (gi_cons 83 rfl rfl (gi_cons 84 rfl rfl (gi_cons 85 rfl rfl (gi_cons 86 rfl rfl (gi_cons 87 rfl rfl (gi_cons 88 rfl rfl (gi_cons 89 rfl rfl (gi_cons 90 rfl rfl (gi_cons 91 rfl rfl (gi_cons 92 rfl rfl (gi_cons 93 rfl rfl (gi_cons 94 rfl rfl (gi_cons 95 rfl rfl (gi_cons 96 rfl rfl (gi_cons 97 rfl rfl (gi_cons 98 rfl rfl (gi_cons 99 rfl rfl (gi_cons 100 rfl rfl (gi_cons 101 rfl rfl (gi_cons 102 rfl rfl (gi_cons 103 rfl rfl (gi_cons 104 rfl rfl (gi_cons 105 rfl rfl (gi_cons 106 rfl rfl (gi_cons 107 rfl rfl (gi_cons 108 rfl rfl (gi_cons 109 rfl rfl (gi_cons 110 rfl rfl (gi_cons 111 rfl rfl (gi_cons 112 rfl rfl (gi_cons 113 rfl rfl (gi_cons 114 rfl rfl (gi_cons 115 rfl rfl (gi_cons 116 rfl rfl (gi_cons 117 rfl rfl (gi_cons 118 rfl rfl (gi_cons 119 rfl rfl (gi_cons 120 rfl rfl (gi_cons 121 rfl rfl (gi_cons 122 rfl rfl (gi_cons 123 rfl rfl (gi_cons 124 rfl rfl gi_nil))))))))))))))))))))))))))))))))))))))))))))))))))))))))))))))))))))))))))
set_option maxRecDepth 20000 in
theorem gX11_lays_X11_layInto : GoodIn wsX11_lays (wsV RX11 432 RX11 yX11_layInto wsX11_layInto) := goodIn_app (goodIn_of _ (by decide +kernel)) ggX11_lays_X11_layInto
set_option maxRecDepth 100000 in
theorem ggX11_lays_X11_areLike : GoodIn wsX11_lays wsX11_areLike := (gi_cons 43 rfl rfl (gi_cons 15 rfl rfl (gi_cons 16 rfl rfl (gi_cons 13 rfl rfl (gi_cons 17 rfl rfl (gi_cons 21 rfl rfl (gi_cons 22 rfl rfl (gi_cons 23 rfl rfl (gi_cons 44 rfl rfl (gi_cons 45 rfl rfl (gi_cons 46 rfl rfl (gi_cons 27 rfl rfl (gi_cons 28 rfl rfl (gi_cons 29 rfl rfl (gi_cons 18 rfl rfl (gi_cons 19 rfl rfl (gi_cons 20 rfl rfl (gi_cons 30 rfl rfl (gi_cons 31 rfl rfl (gi_cons 32 rfl rfl (gi_cons 41 rfl rfl (gi_cons 42 rfl rfl gi_nil))))))))))))))))))))))
set_option maxRecDepth 20000 in
theorem gX11_lays_X11_areLike : GoodIn wsX11_lays (va_wsS RX11 263 yX11_areLike wsX11_areLike) := goodIn_app (goodIn_of _ (by decide +kernel)) ggX11_lays_X11_areLike
set_option maxRecDepth 100000 in
theorem ggX11_lays_X11_cut : GoodIn wsX11_lays wsX11_cut := (gi_cons 50 rfl rfl (gi_cons 6 rfl rfl (gi_cons 8 rfl rfl (gi_cons 21 rfl rfl (gi_cons 22 rfl rfl (gi_cons 13 rfl rfl (gi_cons 23 rfl rfl (gi_cons 59 rfl rfl (gi_cons 60 rfl rfl (gi_cons 61 rfl rfl (gi_cons 62 rfl rfl (gi_cons 63 rfl rfl (gi_cons 64 rfl rfl (gi_cons 65 rfl rfl (gi_cons 66 rfl rfl (gi_cons 67 rfl rfl (gi_cons 68 rfl rfl (gi_cons 69 rfl rfl (gi_cons 70 rfl rfl (gi_cons 71 rfl rfl (gi_cons 72 rfl rfl (gi_cons 73 rfl rfl (gi_cons 74 rfl rfl (gi_cons 75 rfl rfl (gi_cons 76 rfl rfl (gi_cons 77 rfl rfl (gi_cons 78 rfl rfl (gi_cons 79 rfl rfl (gi_cons 80 rfl rfl (gi_cons 81 rfl rfl (gi_cons 82 rfl rfl (gi_cons 83 rfl rfl (gi_cons 84 rfl rfl (gi_cons 85 rfl rfl (gi_cons 86 rfl rfl (gi_cons 87 rfl rfl (gi_cons 88 rfl rfl (gi_cons 89 rfl rfl (gi_cons 90 rfl rfl (gi_cons 91 rfl rfl (gi_cons 92 rfl rfl (gi_cons 93 rfl rfl (gi_cons 94 rfl rfl (gi_cons 95 rfl rfl (gi_cons 96 rfl rfl (gi_cons 97 rfl rfl (gi_cons 98 rfl rfl (gi_cons 99 rfl rfl (gi_cons 100 rfl rfl (gi_cons 101 rfl rfl (gi_cons 102 rfl rfl (gi_cons 103 rfl rfl (gi_cons 104 rfl rfl (gi_cons 105 rfl rfl (gi_cons 106 rfl rfl (gi_cons 107 rfl rfl (gi_cons 108 rfl rfl (gi_cons 109 rfl rfl (gi_cons 110 rfl rfl (gi_cons 111 rfl rfl (gi_cons 112 rfl rfl (gi_cons 113 rfl rfl (gi_cons 114 rfl rfl (gi_cons 115 rfl rfl (gi_cons 116 rfl rfl (gi_cons 117 rfl rfl (gi_cons 118 rfl rfl (gi_cons 119 rfl rfl (gi_cons 120 rfl rfl (gi_cons 121 rfl rfl (gi_cons 122 rfl rfl (gi_cons 123 rfl rfl (gi_cons 124 rfl rfl gi_nil)))))))))))))))))))))))))))))))))))))))))))))))))))))))))))))))))))))))))
set_option maxRecDepth 20000 in
theorem gX11_lays_X11_cut : GoodIn wsX11_lays (wsV RX11 429 RX11 yX11_cut wsX11_cut) := goodIn_app (goodIn_of _ (by decide +kernel)) ggX11_lays_X11_cut
set_option maxRecDepth 100000 in
theorem ggX11_lays_X11_copyWith : GoodIn wsX11_lays wsX11_copyWith := (gi_cons 54 rfl rfl (gi_cons 8 rfl rfl (gi_cons 6 rfl rfl (gi_cons 55 rfl rfl (gi_cons 56 rfl rfl (gi_cons 57 rfl rfl (gi_cons 13 rfl rfl (gi_cons 58 rfl rfl (gi_cons 21 rfl rfl (gi_cons 22 rfl rfl (gi_cons 23 rfl rfl (gi_cons 59 rfl rfl (gi_cons 60 rfl rfl (gi_cons 61 rfl rfl (gi_cons 62 rfl rfl (gi_cons 63 rfl rfl (gi_cons 64 rfl rfl (gi_cons 65 rfl rfl (gi_cons 66 rfl rfl (gi_cons 67 rfl rfl (gi_cons 68 rfl rfl (gi_cons 69 rfl rfl (gi_cons 70 rfl rfl (gi_cons 71 rfl rfl (gi_cons 72 rfl rfl (gi_cons 73 rfl rfl (gi_cons 74 rfl rfl (gi_cons 75 rfl rfl (gi_cons 76 rfl rfl (gi_cons 77 rfl rfl (gi_cons 78 rfl rfl (gi_cons 79 rfl rfl (gi_cons 80 rfl rfl (gi_cons 81 rfl rfl (gi_cons 82 rfl rfl (gi_cons 83 rfl rfl (gi_cons 84 rfl rfl (gi_cons 85 rfl rfl (gi_cons 86 rfl rfl (gi_cons 87 rfl rfl (gi_cons 88 rfl rfl (gi_cons 89 rfl rfl (gi_cons 90 rfl rfl (gi_cons 91 rfl rfl (gi_cons 92 rfl rfl (gi_cons 93 rfl rfl (gi_cons 94 rfl rfl (gi_cons 95 rfl rfl (gi_cons 96 rfl rfl (gi_cons 97 rfl rfl (gi_cons 98 rfl rfl (gi_cons 99 rfl rfl (gi_cons 100 rfl rfl (gi_cons 101 rfl rfl (gi_cons 102 rfl rfl (gi_cons 103 rfl rfl (gi_cons 104 rfl rfl (gi_cons 105 rfl rfl (gi_cons 106 rfl rfl (gi_cons 107 rfl rfl (gi_cons 108 rfl rfl (gi_cons 109 rfl rfl (gi_cons 110 rfl rfl (gi_cons 111 rfl rfl (gi_cons 112 rfl rfl (gi_cons 113 rfl rfl (gi_cons 114 rfl rfl (gi_cons 115 rfl rfl (gi_cons 116 rfl rfl (gi_cons 117 rfl rfl (gi_cons 118 rfl rfl (gi_cons 119 rfl rfl (gi_cons 120 rfl rfl (gi_cons 121 rfl rfl (gi_cons 122 rfl rfl (gi_cons 123 rfl rfl (gi_cons 124 rfl rfl gi_nil)))))))))))))))))))))))))))))))))))))))))))))))))))))))))))))))))))))))))))))
set_option maxRecDepth 20000 in
theorem gX11_lays_X11_copyWith : GoodIn wsX11_lays (wsV RX11 372 RX11 yX11_copyWith wsX11_copyWith) := goodIn_app (goodIn_of _ (by decide +kernel)) ggX11_lays_X11_copyWith
theorem dX11_lays_0 : decode cX11_lays 0 = .ok (.aload_n 0, 1) := by decide +kernel
theorem dX11_lays_1 : decode cX11_lays 1 = .ok (.getfield 51, 3) := by decide +kernel
theorem dX11_lays_4 : decode cX11_lays 4 = .ok (.iload_n 1, 1) := by decide +kernel
theorem dX11_lays_5 : decode cX11_lays 5 = .ok (.iaload, 1) := by decide +kernel
theorem dX11_lays_6 : decode cX11_lays 6 = .ok (.iconst 3, 1) := by decide +kernel
theorem dX11_lays_7 : decode cX11_lays 7 = .ok (.if_icmp .eq 7, 3) := by decide +kernel
theorem dX11_lays_10 : decode cX11_lays 10 = .ok (.iload_n 2, 1) := by decide +kernel
theorem dX11_lays_11 : decode cX11_lays 11 = .ok (.ifCond .ne 12, 3) := by decide +kernel
theorem dX11_lays_14 : decode cX11_lays 14 = .ok (.aload_n 0, 1) := by decide +kernel
theorem dX11_lays_15 : decode cX11_lays 15 = .ok (.getfield 51, 3) := by decide +kernel
theorem dX11_lays_18 : decode cX11_lays 18 = .ok (.iload_n 1, 1) := by decide +kernel
theorem dX11_lays_19 : decode cX11_lays 19 = .ok (.iaload, 1) := by decide +kernel
theorem dX11_lays_20 : decode cX11_lays 20 = .ok (.goto 18, 3) := by decide +kernel
theorem dX11_lays_23 : decode cX11_lays 23 = .ok (.aload_n 0, 1) := by decide +kernel
theorem dX11_lays_24 : decode cX11_lays 24 = .ok (.getfield 51, 3) := by decide +kernel
theorem dX11_lays_27 : decode cX11_lays 27 = .ok (.iload_n 1, 1) := by decide +kernel
theorem dX11_lays_28 : decode cX11_lays 28 = .ok (.iaload, 1) := by decide +kernel
theorem dX11_lays_29 : decode cX11_lays 29 = .ok (.iconst 1, 1) := by decide +kernel
theorem dX11_lays_30 : decode cX11_lays 30 = .ok (.if_icmp .ne 7, 3) := by decide +kernel
theorem dX11_lays_33 : decode cX11_lays 33 = .ok (.iconst 2, 1) := by decide +kernel
theorem dX11_lays_34 : decode cX11_lays 34 = .ok (.goto 4, 3) := by decide +kernel
theorem dX11_lays_37 : decode cX11_lays 37 = .ok (.iconst 1, 1) := by decide +kernel
theorem dX11_lays_38 : decode cX11_lays 38 = .ok (.istore_n 3, 1) := by decide +kernel
theorem dX11_lays_39 : decode cX11_lays 39 = .ok (.iload_n 2, 1) := by decide +kernel
theorem dX11_lays_40 : decode cX11_lays 40 = .ok (.ifCond .eq 12, 3) := by decide +kernel
theorem dX11_lays_43 : decode cX11_lays 43 = .ok (.aload_n 0, 1) := by decide +kernel
theorem dX11_lays_44 : decode cX11_lays 44 = .ok (.getfield 63, 3) := by decide +kernel
theorem dX11_lays_47 : decode cX11_lays 47 = .ok (.iload_n 1, 1) := by decide +kernel
theorem dX11_lays_48 : decode cX11_lays 48 = .ok (.iaload, 1) := by decide +kernel
theorem dX11_lays_49 : decode cX11_lays 49 = .ok (.goto 9, 3) := by decide +kernel
theorem dX11_lays_52 : decode cX11_lays 52 = .ok (.aload_n 0, 1) := by decide +kernel
theorem dX11_lays_53 : decode cX11_lays 53 = .ok (.getfield 60, 3) := by decide +kernel
theorem dX11_lays_56 : decode cX11_lays 56 = .ok (.iload_n 1, 1) := by decide +kernel
theorem dX11_lays_57 : decode cX11_lays 57 = .ok (.iaload, 1) := by decide +kernel
theorem dX11_lays_58 : decode cX11_lays 58 = .ok (.istore 4, 2) := by decide +kernel
theorem dX11_lays_60 : decode cX11_lays 60 = .ok (.iload_n 2, 1) := by decide +kernel
theorem dX11_lays_61 : decode cX11_lays 61 = .ok (.ifCond .eq 12, 3) := by decide +kernel
theorem dX11_lays_64 : decode cX11_lays 64 = .ok (.aload_n 0, 1) := by decide +kernel
theorem dX11_lays_65 : decode cX11_lays 65 = .ok (.getfield 60, 3) := by decide +kernel
theorem dX11_lays_68 : decode cX11_lays 68 = .ok (.iload_n 1, 1) := by decide +kernel
theorem dX11_lays_69 : decode cX11_lays 69 = .ok (.iaload, 1) := by decide +kernel
theorem dX11_lays_70 : decode cX11_lays 70 = .ok (.goto 9, 3) := by decide +kernel
theorem dX11_lays_73 : decode cX11_lays 73 = .ok (.aload_n 0, 1) := by decide +kernel
theorem dX11_lays_74 : decode cX11_lays 74 = .ok (.getfield 63, 3) := by decide +kernel
theorem dX11_lays_77 : decode cX11_lays 77 = .ok (.iload_n 1, 1) := by decide +kernel
theorem dX11_lays_78 : decode cX11_lays 78 = .ok (.iaload, 1) := by decide +kernel
theorem dX11_lays_79 : decode cX11_lays 79 = .ok (.istore 5, 2) := by decide +kernel
theorem dX11_lays_81 : decode cX11_lays 81 = .ok (.aload_n 0, 1) := by decide +kernel
theorem dX11_lays_82 : decode cX11_lays 82 = .ok (.getfield 54, 3) := by decide +kernel
theorem dX11_lays_85 : decode cX11_lays 85 = .ok (.iload_n 1, 1) := by decide +kernel
theorem dX11_lays_86 : decode cX11_lays 86 = .ok (.iaload, 1) := by decide +kernel
theorem dX11_lays_87 : decode cX11_lays 87 = .ok (.istore 6, 2) := by decide +kernel
theorem dX11_lays_89 : decode cX11_lays 89 = .ok (.iload 6, 2) := by decide +kernel
theorem dX11_lays_91 : decode cX11_lays 91 = .ok (.ifCond .ne 7, 3) := by decide +kernel
theorem dX11_lays_94 : decode cX11_lays 94 = .ok (.iconst (-1), 1) := by decide +kernel
theorem dX11_lays_95 : decode cX11_lays 95 = .ok (.goto 12, 3) := by decide +kernel
theorem dX11_lays_98 : decode cX11_lays 98 = .ok (.aload_n 0, 1) := by decide +kernel
theorem dX11_lays_99 : decode cX11_lays 99 = .ok (.iload_n 1, 1) := by decide +kernel
theorem dX11_lays_100 : decode cX11_lays 100 = .ok (.iload 6, 2) := by decide +kernel
theorem dX11_lays_102 : decode cX11_lays 102 = .ok (.iconst 1, 1) := by decide +kernel
theorem dX11_lays_103 : decode cX11_lays 103 = .ok (.isub, 1) := by decide +kernel
theorem dX11_lays_104 : decode cX11_lays 104 = .ok (.invokevirtual 464, 3) := by decide +kernel
theorem dX11_lays_107 : decode cX11_lays 107 = .ok (.istore 7, 2) := by decide +kernel
theorem dX11_lays_109 : decode cX11_lays 109 = .ok (.iload 6, 2) := by decide +kernel
theorem dX11_lays_111 : decode cX11_lays 111 = .ok (.ifCond .ne 7, 3) := by decide +kernel
theorem dX11_lays_114 : decode cX11_lays 114 = .ok (.iconst 0, 1) := by decide +kernel
theorem dX11_lays_115 : decode cX11_lays 115 = .ok (.goto 17, 3) := by decide +kernel
theorem dX11_lays_118 : decode cX11_lays 118 = .ok (.aload_n 0, 1) := by decide +kernel
theorem dX11_lays_119 : decode cX11_lays 119 = .ok (.getfield 57, 3) := by decide +kernel
theorem dX11_lays_122 : decode cX11_lays 122 = .ok (.bipush 8, 2) := by decide +kernel
theorem dX11_lays_124 : decode cX11_lays 124 = .ok (.iload_n 1, 1) := by decide +kernel
theorem dX11_lays_125 : decode cX11_lays 125 = .ok (.imul, 1) := by decide +kernel
theorem dX11_lays_126 : decode cX11_lays 126 = .ok (.iload 6, 2) := by decide +kernel
theorem dX11_lays_128 : decode cX11_lays 128 = .ok (.iadd, 1) := by decide +kernel
theorem dX11_lays_129 : decode cX11_lays 129 = .ok (.iconst 1, 1) := by decide +kernel
theorem dX11_lays_130 : decode cX11_lays 130 = .ok (.isub, 1) := by decide +kernel
theorem dX11_lays_131 : decode cX11_lays 131 = .ok (.iaload, 1) := by decide +kernel
theorem dX11_lays_132 : decode cX11_lays 132 = .ok (.istore 8, 2) := by decide +kernel
theorem dX11_lays_134 : decode cX11_lays 134 = .ok (.iload 6, 2) := by decide +kernel
theorem dX11_lays_136 : decode cX11_lays 136 = .ok (.ifCond .le 33, 3) := by decide +kernel
theorem dX11_lays_139 : decode cX11_lays 139 = .ok (.iload 7, 2) := by decide +kernel
theorem dX11_lays_141 : decode cX11_lays 141 = .ok (.iconst (-1), 1) := by decide +kernel
theorem dX11_lays_142 : decode cX11_lays 142 = .ok (.if_icmp .eq 25, 3) := by decide +kernel
theorem dX11_lays_145 : decode cX11_lays 145 = .ok (.aload_n 0, 1) := by decide +kernel
theorem dX11_lays_146 : decode cX11_lays 146 = .ok (.getfield 16, 3) := by decide +kernel
theorem dX11_lays_149 : decode cX11_lays 149 = .ok (.iload 7, 2) := by decide +kernel
theorem dX11_lays_151 : decode cX11_lays 151 = .ok (.invokestatic 253, 3) := by decide +kernel
theorem dX11_lays_154 : decode cX11_lays 154 = .ok (.iload 8, 2) := by decide +kernel
theorem dX11_lays_156 : decode cX11_lays 156 = .ok (.ifCond .le 7, 3) := by decide +kernel
theorem dX11_lays_159 : decode cX11_lays 159 = .ok (.iconst 3, 1) := by decide +kernel
theorem dX11_lays_160 : decode cX11_lays 160 = .ok (.goto 4, 3) := by decide +kernel
theorem dX11_lays_163 : decode cX11_lays 163 = .ok (.iconst 2, 1) := by decide +kernel
theorem dX11_lays_164 : decode cX11_lays 164 = .ok (.if_icmp .eq 5, 3) := by decide +kernel
theorem dX11_lays_167 : decode cX11_lays 167 = .ok (.iconst 0, 1) := by decide +kernel
theorem dX11_lays_168 : decode cX11_lays 168 = .ok (.ireturn, 1) := by decide +kernel
theorem dX11_lays_169 : decode cX11_lays 169 = .ok (.aload_n 0, 1) := by decide +kernel
theorem dX11_lays_170 : decode cX11_lays 170 = .ok (.iload_n 1, 1) := by decide +kernel
theorem dX11_lays_171 : decode cX11_lays 171 = .ok (.iload 6, 2) := by decide +kernel
theorem dX11_lays_173 : decode cX11_lays 173 = .ok (.invokevirtual 464, 3) := by decide +kernel
theorem dX11_lays_176 : decode cX11_lays 176 = .ok (.istore 9, 2) := by decide +kernel
theorem dX11_lays_178 : decode cX11_lays 178 = .ok (.iload 8, 2) := by decide +kernel
theorem dX11_lays_180 : decode cX11_lays 180 = .ok (.ifCond .ge 7, 3) := by decide +kernel
theorem dX11_lays_183 : decode cX11_lays 183 = .ok (.iconst 1, 1) := by decide +kernel
theorem dX11_lays_184 : decode cX11_lays 184 = .ok (.goto 4, 3) := by decide +kernel
theorem dX11_lays_187 : decode cX11_lays 187 = .ok (.iconst 0, 1) := by decide +kernel
theorem dX11_lays_188 : decode cX11_lays 188 = .ok (.istore 10, 2) := by decide +kernel
theorem dX11_lays_190 : decode cX11_lays 190 = .ok (.iload_n 3, 1) := by decide +kernel
theorem dX11_lays_191 : decode cX11_lays 191 = .ok (.iconst 1, 1) := by decide +kernel
theorem dX11_lays_192 : decode cX11_lays 192 = .ok (.if_icmp .ne 73, 3) := by decide +kernel
theorem dX11_lays_195 : decode cX11_lays 195 = .ok (.iload 9, 2) := by decide +kernel
theorem dX11_lays_197 : decode cX11_lays 197 = .ok (.iconst (-1), 1) := by decide +kernel
theorem dX11_lays_198 : decode cX11_lays 198 = .ok (.if_icmp .ne 24, 3) := by decide +kernel
theorem dX11_lays_201 : decode cX11_lays 201 = .ok (.iload 10, 2) := by decide +kernel
theorem dX11_lays_203 : decode cX11_lays 203 = .ok (.ifCond .eq 21, 3) := by decide +kernel
theorem dX11_lays_206 : decode cX11_lays 206 = .ok (.iconst (-1), 1) := by decide +kernel
theorem dX11_lays_207 : decode cX11_lays 207 = .ok (.iload 8, 2) := by decide +kernel
theorem dX11_lays_209 : decode cX11_lays 209 = .ok (.isub, 1) := by decide +kernel
theorem dX11_lays_210 : decode cX11_lays 210 = .ok (.aload_n 0, 1) := by decide +kernel
theorem dX11_lays_211 : decode cX11_lays 211 = .ok (.getfield 16, 3) := by decide +kernel
theorem dX11_lays_214 : decode cX11_lays 214 = .ok (.iload 7, 2) := by decide +kernel
theorem dX11_lays_216 : decode cX11_lays 216 = .ok (.invokestatic 246, 3) := by decide +kernel
theorem dX11_lays_219 : decode cX11_lays 219 = .ok (.if_icmp .eq 5, 3) := by decide +kernel
theorem dX11_lays_222 : decode cX11_lays 222 = .ok (.iconst 0, 1) := by decide +kernel
theorem dX11_lays_223 : decode cX11_lays 223 = .ok (.ireturn, 1) := by decide +kernel
theorem dX11_lays_224 : decode cX11_lays 224 = .ok (.aload_n 0, 1) := by decide +kernel
theorem dX11_lays_225 : decode cX11_lays 225 = .ok (.aload_n 0, 1) := by decide +kernel
theorem dX11_lays_226 : decode cX11_lays 226 = .ok (.getfield 66, 3) := by decide +kernel
theorem dX11_lays_229 : decode cX11_lays 229 = .ok (.iload 5, 2) := by decide +kernel
theorem dX11_lays_231 : decode cX11_lays 231 = .ok (.invokevirtual 426, 3) := by decide +kernel
theorem dX11_lays_234 : decode cX11_lays 234 = .ok (.aload_n 0, 1) := by decide +kernel
theorem dX11_lays_235 : decode cX11_lays 235 = .ok (.iload 7, 2) := by decide +kernel
theorem dX11_lays_237 : decode cX11_lays 237 = .ok (.iload 7, 2) := by decide +kernel
theorem dX11_lays_239 : decode cX11_lays 239 = .ok (.aload_n 0, 1) := by decide +kernel
theorem dX11_lays_240 : decode cX11_lays 240 = .ok (.getfield 16, 3) := by decide +kernel
theorem dX11_lays_243 : decode cX11_lays 243 = .ok (.iload 7, 2) := by decide +kernel
theorem dX11_lays_245 : decode cX11_lays 245 = .ok (.invokestatic 242, 3) := by decide +kernel
theorem dX11_lays_248 : decode cX11_lays 248 = .ok (.iadd, 1) := by decide +kernel
theorem dX11_lays_249 : decode cX11_lays 249 = .ok (.iload 10, 2) := by decide +kernel
theorem dX11_lays_251 : decode cX11_lays 251 = .ok (.ifCond .eq 7, 3) := by decide +kernel
theorem dX11_lays_254 : decode cX11_lays 254 = .ok (.iconst 0, 1) := by decide +kernel
theorem dX11_lays_255 : decode cX11_lays 255 = .ok (.goto 5, 3) := by decide +kernel
theorem dX11_lays_258 : decode cX11_lays 258 = .ok (.iload 8, 2) := by decide +kernel
theorem dX11_lays_260 : decode cX11_lays 260 = .ok (.invokevirtual 432, 3) := by decide +kernel
theorem dX11_lays_263 : decode cX11_lays 263 = .ok (.iconst 1, 1) := by decide +kernel
theorem dX11_lays_264 : decode cX11_lays 264 = .ok (.ireturn, 1) := by decide +kernel
theorem dX11_lays_265 : decode cX11_lays 265 = .ok (.iload 9, 2) := by decide +kernel
theorem dX11_lays_267 : decode cX11_lays 267 = .ok (.iconst (-1), 1) := by decide +kernel
theorem dX11_lays_268 : decode cX11_lays 268 = .ok (.if_icmp .eq 49, 3) := by decide +kernel
theorem dX11_lays_271 : decode cX11_lays 271 = .ok (.aload_n 0, 1) := by decide +kernel
theorem dX11_lays_272 : decode cX11_lays 272 = .ok (.getfield 16, 3) := by decide +kernel
theorem dX11_lays_275 : decode cX11_lays 275 = .ok (.iload 9, 2) := by decide +kernel
theorem dX11_lays_277 : decode cX11_lays 277 = .ok (.aload_n 0, 1) := by decide +kernel
theorem dX11_lays_278 : decode cX11_lays 278 = .ok (.getfield 66, 3) := by decide +kernel
theorem dX11_lays_281 : decode cX11_lays 281 = .ok (.iload 4, 2) := by decide +kernel
theorem dX11_lays_283 : decode cX11_lays 283 = .ok (.invokestatic 263, 3) := by decide +kernel
theorem dX11_lays_286 : decode cX11_lays 286 = .ok (.ifCond .eq 31, 3) := by decide +kernel
theorem dX11_lays_289 : decode cX11_lays 289 = .ok (.iload_n 3, 1) := by decide +kernel
theorem dX11_lays_290 : decode cX11_lays 290 = .ok (.iconst 2, 1) := by decide +kernel
theorem dX11_lays_291 : decode cX11_lays 291 = .ok (.if_icmp .ne 28, 3) := by decide +kernel
theorem dX11_lays_294 : decode cX11_lays 294 = .ok (.iload 10, 2) := by decide +kernel
theorem dX11_lays_296 : decode cX11_lays 296 = .ok (.ifCond .eq 23, 3) := by decide +kernel
theorem dX11_lays_299 : decode cX11_lays 299 = .ok (.iconst (-1), 1) := by decide +kernel
theorem dX11_lays_300 : decode cX11_lays 300 = .ok (.iload 8, 2) := by decide +kernel
theorem dX11_lays_302 : decode cX11_lays 302 = .ok (.isub, 1) := by decide +kernel
theorem dX11_lays_303 : decode cX11_lays 303 = .ok (.aload_n 0, 1) := by decide +kernel
theorem dX11_lays_304 : decode cX11_lays 304 = .ok (.getfield 16, 3) := by decide +kernel
theorem dX11_lays_307 : decode cX11_lays 307 = .ok (.iload 7, 2) := by decide +kernel
theorem dX11_lays_309 : decode cX11_lays 309 = .ok (.invokestatic 246, 3) := by decide +kernel
theorem dX11_lays_312 : decode cX11_lays 312 = .ok (.iconst 1, 1) := by decide +kernel
theorem dX11_lays_313 : decode cX11_lays 313 = .ok (.isub, 1) := by decide +kernel
theorem dX11_lays_314 : decode cX11_lays 314 = .ok (.if_icmp .eq 5, 3) := by decide +kernel
theorem dX11_lays_317 : decode cX11_lays 317 = .ok (.iconst 0, 1) := by decide +kernel
theorem dX11_lays_318 : decode cX11_lays 318 = .ok (.ireturn, 1) := by decide +kernel
theorem dX11_lays_319 : decode cX11_lays 319 = .ok (.iload_n 3, 1) := by decide +kernel
theorem dX11_lays_320 : decode cX11_lays 320 = .ok (.iconst 2, 1) := by decide +kernel
theorem dX11_lays_321 : decode cX11_lays 321 = .ok (.if_icmp .ne 11, 3) := by decide +kernel
theorem dX11_lays_324 : decode cX11_lays 324 = .ok (.aload_n 0, 1) := by decide +kernel
theorem dX11_lays_325 : decode cX11_lays 325 = .ok (.iload 9, 2) := by decide +kernel
theorem dX11_lays_327 : decode cX11_lays 327 = .ok (.invokevirtual 429, 3) := by decide +kernel
theorem dX11_lays_330 : decode cX11_lays 330 = .ok (.iconst 1, 1) := by decide +kernel
theorem dX11_lays_331 : decode cX11_lays 331 = .ok (.ireturn, 1) := by decide +kernel
theorem dX11_lays_332 : decode cX11_lays 332 = .ok (.aload_n 0, 1) := by decide +kernel
theorem dX11_lays_333 : decode cX11_lays 333 = .ok (.aload_n 0, 1) := by decide +kernel
theorem dX11_lays_334 : decode cX11_lays 334 = .ok (.getfield 66, 3) := by decide +kernel
theorem dX11_lays_337 : decode cX11_lays 337 = .ok (.iload 5, 2) := by decide +kernel
theorem dX11_lays_339 : decode cX11_lays 339 = .ok (.invokevirtual 426, 3) := by decide +kernel
theorem dX11_lays_342 : decode cX11_lays 342 = .ok (.iload 6, 2) := by decide +kernel
theorem dX11_lays_344 : decode cX11_lays 344 = .ok (.ifCond .ne 20, 3) := by decide +kernel
theorem dX11_lays_347 : decode cX11_lays 347 = .ok (.aload_n 0, 1) := by decide +kernel
theorem dX11_lays_348 : decode cX11_lays 348 = .ok (.iconst 0, 1) := by decide +kernel
theorem dX11_lays_349 : decode cX11_lays 349 = .ok (.putfield 353, 3) := by decide +kernel
theorem dX11_lays_352 : decode cX11_lays 352 = .ok (.aload_n 0, 1) := by decide +kernel
theorem dX11_lays_353 : decode cX11_lays 353 = .ok (.aload_n 0, 1) := by decide +kernel
theorem dX11_lays_354 : decode cX11_lays 354 = .ok (.getfield 42, 3) := by decide +kernel
theorem dX11_lays_357 : decode cX11_lays 357 = .ok (.iconst 0, 1) := by decide +kernel
theorem dX11_lays_358 : decode cX11_lays 358 = .ok (.iconst 0, 1) := by decide +kernel
theorem dX11_lays_359 : decode cX11_lays 359 = .ok (.invokevirtual 372, 3) := by decide +kernel
theorem dX11_lays_362 : decode cX11_lays 362 = .ok (.iconst 1, 1) := by decide +kernel
theorem dX11_lays_363 : decode cX11_lays 363 = .ok (.ireturn, 1) := by decide +kernel
theorem dX11_lays_364 : decode cX11_lays 364 = .ok (.aload_n 0, 1) := by decide +kernel
theorem dX11_lays_365 : decode cX11_lays 365 = .ok (.iload 9, 2) := by decide +kernel
theorem dX11_lays_367 : decode cX11_lays 367 = .ok (.invokevirtual 429, 3) := by decide +kernel
theorem dX11_lays_370 : decode cX11_lays 370 = .ok (.aload_n 0, 1) := by decide +kernel
theorem dX11_lays_371 : decode cX11_lays 371 = .ok (.iload 7, 2) := by decide +kernel
theorem dX11_lays_373 : decode cX11_lays 373 = .ok (.iload 9, 2) := by decide +kernel
theorem dX11_lays_375 : decode cX11_lays 375 = .ok (.iload 10, 2) := by decide +kernel
theorem dX11_lays_377 : decode cX11_lays 377 = .ok (.ifCond .eq 7, 3) := by decide +kernel
theorem dX11_lays_380 : decode cX11_lays 380 = .ok (.iconst 0, 1) := by decide +kernel
theorem dX11_lays_381 : decode cX11_lays 381 = .ok (.goto 5, 3) := by decide +kernel
theorem dX11_lays_384 : decode cX11_lays 384 = .ok (.iload 8, 2) := by decide +kernel
theorem dX11_lays_386 : decode cX11_lays 386 = .ok (.invokevirtual 432, 3) := by decide +kernel
theorem dX11_lays_389 : decode cX11_lays 389 = .ok (.iconst 1, 1) := by decide +kernel
theorem dX11_lays_390 : decode cX11_lays 390 = .ok (.ireturn, 1) := by decide +kernel
