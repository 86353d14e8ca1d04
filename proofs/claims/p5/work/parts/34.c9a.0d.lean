set_option maxRecDepth 100000 in
theorem ggX11_tellPatch_X11_tellRows : GoodIn wsX11_tellPatch wsX11_tellRows := (gi_cons 10 rfl rfl (gi_cons 11 rfl rfl (gi_cons 12 rfl rfl (gi_cons 13 rfl rfl (gi_cons 9 rfl rfl (gi_cons 14 rfl rfl (gi_cons 15 rfl rfl (gi_cons 16 rfl rfl (gi_cons 17 rfl rfl (gi_cons 18 rfl rfl (gi_cons 19 rfl rfl (gi_cons 20 rfl rfl (gi_cons 21 rfl rfl (gi_cons 22 rfl rfl (gi_cons 23 rfl rfl (gi_cons 24 rfl rfl (gi_cons 25 rfl rfl (gi_cons 26 rfl rfl (gi_cons 27 rfl rfl (gi_cons 28 rfl rfl (gi_cons 29 rfl rfl (gi_cons 30 rfl rfl (gi_cons 31 rfl rfl (gi_cons 32 rfl rfl (gi_cons 33 rfl rfl (gi_cons 34 rfl rfl (gi_cons 35 rfl rfl (gi_cons 36 rfl rfl (gi_cons 1 rfl rfl (gi_cons 2 rfl rfl (gi_cons 37 rfl rfl (gi_cons 38 rfl rfl (gi_cons 39 rfl rfl (gi_cons 40 rfl rfl (gi_cons 41 rfl rfl (gi_cons 42 rfl rfl (gi_cons 43 rfl rfl (gi_cons 44 rfl rfl (gi_cons 45 rfl rfl (gi_cons 3 rfl rfl (gi_cons 46 rfl rfl (gi_cons 6 rfl rfl (gi_cons 7 rfl rfl (gi_cons 8 rfl rfl (gi_cons 47 rfl rfl (gi_cons 48 rfl rfl (gi_cons 49 rfl rfl (gi_cons 50 rfl rfl (gi_cons 51 rfl rfl (gi_cons 52 rfl rfl (gi_cons 53 rfl rfl (gi_cons 54 rfl rfl (gi_cons 55 rfl rfl (gi_cons 56 rfl rfl (gi_cons 57 rfl rfl (gi_cons 58 rfl rfl (gi_cons 59 rfl rfl (gi_cons 60 rfl rfl (gi_cons 61 rfl rfl (gi_cons 62 rfl rfl (gi_cons 63 rfl rfl (gi_cons 64 rfl rfl (gi_cons 65 rfl rfl (gi_cons 66 rfl rfl (gi_cons 67 rfl rfl (gi_cons 68 rfl rfl (gi_cons 69 rfl rfl (gi_cons 70 rfl rfl (gi_cons 71 rfl rfl (gi_cons 72 rfl rfl (gi_cons 73 rfl rfl (gi_cons 74 rfl rfl (gi_cons 75 rfl rfl (gi_cons 76 rfl rfl (gi_cons 77 rfl rfl (gi_cons 78 rfl rfl (gi_cons 79 rfl rfl (gi_cons 80 rfl rfl (gi_cons 81 rfl rfl (gi_cons 82 rfl rfl (gi_cons 83 rfl rfl (gi_cons 84 rfl rfl (gi_cons 85 rfl rfl (gi_cons 86 rfl rfl (gi_cons 87 rfl rfl (gi_cons 88 rfl rfl (gi_cons 89 rfl rfl (gi_cons 90 rfl rfl (gi_cons 91 rfl rfl (gi_cons 92 rfl rfl (gi_cons 93 rfl rfl (gi_cons 94 rfl rfl (gi_cons 95 rfl rfl (gi_cons 96 rfl rfl (gi_cons 97 rfl rfl (gi_cons 98 rfl rfl (gi_cons 99 rfl rfl (gi_cons 100 rfl rfl (gi_cons 101 rfl rfl (gi_cons 102 rfl rfl (gi_cons 103 rfl rfl (gi_cons 104 rfl rfl (gi_cons 105 rfl rfl (gi_cons 106 rfl rfl (gi_cons 107 rfl rfl (gi_cons 108 rfl rfl (gi_cons 109 rfl rfl (gi_cons 110 rfl rfl (gi_cons 111 rfl rfl (gi_cons 112 rfl rfl (gi_cons 113 rfl rfl (gi_cons 114 rfl rfl (gi_cons 115 rfl rfl (gi_cons 116 rfl rfl (gi_cons 117 rfl rfl (gi_cons 118 rfl rfl (gi_cons 119 rfl rfl gi_nil)))))))))))))))))))))))))))))))))))))))))))))))))))))))))))))))))))))))))))))))))))))))))))))))))))))))))))))))))))))
set_option maxRecDepth 20000 in
theorem gX11_tellPatch_X11_tellRows : GoodIn wsX11_tellPatch (wsV RX11 448 RX11 yX11_tellRows wsX11_tellRows) := goodIn_app (goodIn_of _ (by decide +kernel)) ggX11_tellPatch_X11_tellRows
theorem dX11_tellPatch_0 : decode cX11_tellPatch 0 = .ok (.aload_n 0, 1) := by decide +kernel
theorem dX11_tellPatch_1 : decode cX11_tellPatch 1 = .ok (.iload_n 1, 1) := by decide +kernel
theorem dX11_tellPatch_2 : decode cX11_tellPatch 2 = .ok (.putfield 438, 3) := by decide +kernel
theorem dX11_tellPatch_5 : decode cX11_tellPatch 5 = .ok (.aload_n 0, 1) := by decide +kernel
theorem dX11_tellPatch_6 : decode cX11_tellPatch 6 = .ok (.getfield 69, 3) := by decide +kernel
theorem dX11_tellPatch_9 : decode cX11_tellPatch 9 = .ok (.iload_n 1, 1) := by decide +kernel
theorem dX11_tellPatch_10 : decode cX11_tellPatch 10 = .ok (.iconst 0, 1) := by decide +kernel
theorem dX11_tellPatch_11 : decode cX11_tellPatch 11 = .ok (.iastore, 1) := by decide +kernel
theorem dX11_tellPatch_12 : decode cX11_tellPatch 12 = .ok (.aload_n 0, 1) := by decide +kernel
theorem dX11_tellPatch_13 : decode cX11_tellPatch 13 = .ok (.getfield 72, 3) := by decide +kernel
theorem dX11_tellPatch_16 : decode cX11_tellPatch 16 = .ok (.iload_n 1, 1) := by decide +kernel
theorem dX11_tellPatch_17 : decode cX11_tellPatch 17 = .ok (.iconst 0, 1) := by decide +kernel
theorem dX11_tellPatch_18 : decode cX11_tellPatch 18 = .ok (.iastore, 1) := by decide +kernel
theorem dX11_tellPatch_19 : decode cX11_tellPatch 19 = .ok (.aload_n 0, 1) := by decide +kernel
theorem dX11_tellPatch_20 : decode cX11_tellPatch 20 = .ok (.aload_n 0, 1) := by decide +kernel
theorem dX11_tellPatch_21 : decode cX11_tellPatch 21 = .ok (.getfield 93, 3) := by decide +kernel
theorem dX11_tellPatch_24 : decode cX11_tellPatch 24 = .ok (.iconst 0, 1) := by decide +kernel
theorem dX11_tellPatch_25 : decode cX11_tellPatch 25 = .ok (.aload_n 0, 1) := by decide +kernel
theorem dX11_tellPatch_26 : decode cX11_tellPatch 26 = .ok (.getfield 9, 3) := by decide +kernel
theorem dX11_tellPatch_29 : decode cX11_tellPatch 29 = .ok (.iconst 0, 1) := by decide +kernel
theorem dX11_tellPatch_30 : decode cX11_tellPatch 30 = .ok (.iconst 0, 1) := by decide +kernel
theorem dX11_tellPatch_31 : decode cX11_tellPatch 31 = .ok (.invokevirtual 448, 3) := by decide +kernel
theorem dX11_tellPatch_34 : decode cX11_tellPatch 34 = .ok (.aload_n 0, 1) := by decide +kernel
theorem dX11_tellPatch_35 : decode cX11_tellPatch 35 = .ok (.getfield 69, 3) := by decide +kernel
theorem dX11_tellPatch_38 : decode cX11_tellPatch 38 = .ok (.iload_n 1, 1) := by decide +kernel
theorem dX11_tellPatch_39 : decode cX11_tellPatch 39 = .ok (.iaload, 1) := by decide +kernel
theorem dX11_tellPatch_40 : decode cX11_tellPatch 40 = .ok (.ireturn, 1) := by decide +kernel
set_option maxRecDepth 100000 in
theorem ggX11_leads_X11_kind : GoodIn wsX11_leads wsX11_kind := (gi_cons 6 rfl rfl gi_nil)
set_option maxRecDepth 20000 in
theorem gX11_leads_X11_kind : GoodIn wsX11_leads (va_wsS RX11 253 yX11_kind wsX11_kind) := goodIn_app (goodIn_of _ (by decide +kernel)) ggX11_leads_X11_kind
set_option maxRecDepth 100000 in
theorem ggX11_leads_X11_byKey : GoodIn wsX11_leads wsX11_byKey := (gi_cons 9 rfl rfl (gi_cons 10 rfl rfl (gi_cons 11 rfl rfl (gi_cons 5 rfl rfl (gi_cons 12 rfl rfl gi_nil)))))
set_option maxRecDepth 20000 in
theorem gX11_leads_X11_byKey : GoodIn wsX11_leads (va_wsS RX11 260 yX11_byKey wsX11_byKey) := goodIn_app (goodIn_of _ (by decide +kernel)) ggX11_leads_X11_byKey
set_option maxRecDepth 100000 in
theorem ggX11_leads_X11_byPlace : GoodIn wsX11_leads wsX11_byPlace := (gi_cons 15 rfl rfl (gi_cons 16 rfl rfl (gi_cons 17 rfl rfl (gi_cons 5 rfl rfl (gi_cons 18 rfl rfl (gi_cons 10 rfl rfl (gi_cons 11 rfl rfl (gi_cons 12 rfl rfl (gi_cons 19 rfl rfl (gi_cons 20 rfl rfl (gi_cons 21 rfl rfl gi_nil)))))))))))
set_option maxRecDepth 20000 in
theorem gX11_leads_X11_byPlace : GoodIn wsX11_leads (va_wsS RX11 307 yX11_byPlace wsX11_byPlace) := goodIn_app (goodIn_of _ (by decide +kernel)) ggX11_leads_X11_byPlace
theorem dX11_leads_0 : decode cX11_leads 0 = .ok (.iconst 0, 1) := by decide +kernel
theorem dX11_leads_1 : decode cX11_leads 1 = .ok (.istore_n 3, 1) := by decide +kernel
theorem dX11_leads_2 : decode cX11_leads 2 = .ok (.iconst 0, 1) := by decide +kernel
theorem dX11_leads_3 : decode cX11_leads 3 = .ok (.istore 4, 2) := by decide +kernel
theorem dX11_leads_5 : decode cX11_leads 5 = .ok (.iload 4, 2) := by decide +kernel
theorem dX11_leads_7 : decode cX11_leads 7 = .ok (.iload_n 2, 1) := by decide +kernel
theorem dX11_leads_8 : decode cX11_leads 8 = .ok (.if_icmp .ge 91, 3) := by decide +kernel
theorem dX11_leads_11 : decode cX11_leads 11 = .ok (.iload_n 3, 1) := by decide +kernel
theorem dX11_leads_12 : decode cX11_leads 12 = .ok (.iconst (-1), 1) := by decide +kernel
theorem dX11_leads_13 : decode cX11_leads 13 = .ok (.if_icmp .eq 86, 3) := by decide +kernel
theorem dX11_leads_16 : decode cX11_leads 16 = .ok (.aload_n 0, 1) := by decide +kernel
theorem dX11_leads_17 : decode cX11_leads 17 = .ok (.getfield 57, 3) := by decide +kernel
theorem dX11_leads_20 : decode cX11_leads 20 = .ok (.bipush 8, 2) := by decide +kernel
theorem dX11_leads_22 : decode cX11_leads 22 = .ok (.iload_n 1, 1) := by decide +kernel
theorem dX11_leads_23 : decode cX11_leads 23 = .ok (.imul, 1) := by decide +kernel
theorem dX11_leads_24 : decode cX11_leads 24 = .ok (.iload 4, 2) := by decide +kernel
theorem dX11_leads_26 : decode cX11_leads 26 = .ok (.iadd, 1) := by decide +kernel
theorem dX11_leads_27 : decode cX11_leads 27 = .ok (.iaload, 1) := by decide +kernel
theorem dX11_leads_28 : decode cX11_leads 28 = .ok (.istore 5, 2) := by decide +kernel
theorem dX11_leads_30 : decode cX11_leads 30 = .ok (.iload 5, 2) := by decide +kernel
theorem dX11_leads_32 : decode cX11_leads 32 = .ok (.ifCond .le 32, 3) := by decide +kernel
theorem dX11_leads_35 : decode cX11_leads 35 = .ok (.aload_n 0, 1) := by decide +kernel
theorem dX11_leads_36 : decode cX11_leads 36 = .ok (.getfield 16, 3) := by decide +kernel
theorem dX11_leads_39 : decode cX11_leads 39 = .ok (.iload_n 3, 1) := by decide +kernel
theorem dX11_leads_40 : decode cX11_leads 40 = .ok (.invokestatic 253, 3) := by decide +kernel
theorem dX11_leads_43 : decode cX11_leads 43 = .ok (.iconst 3, 1) := by decide +kernel
theorem dX11_leads_44 : decode cX11_leads 44 = .ok (.if_icmp .ne 16, 3) := by decide +kernel
theorem dX11_leads_47 : decode cX11_leads 47 = .ok (.aload_n 0, 1) := by decide +kernel
theorem dX11_leads_48 : decode cX11_leads 48 = .ok (.getfield 16, 3) := by decide +kernel
theorem dX11_leads_51 : decode cX11_leads 51 = .ok (.iload_n 3, 1) := by decide +kernel
theorem dX11_leads_52 : decode cX11_leads 52 = .ok (.iload 5, 2) := by decide +kernel
theorem dX11_leads_54 : decode cX11_leads 54 = .ok (.invokestatic 260, 3) := by decide +kernel
theorem dX11_leads_57 : decode cX11_leads 57 = .ok (.goto 35, 3) := by decide +kernel
theorem dX11_leads_60 : decode cX11_leads 60 = .ok (.iconst (-1), 1) := by decide +kernel
theorem dX11_leads_61 : decode cX11_leads 61 = .ok (.goto 31, 3) := by decide +kernel
theorem dX11_leads_64 : decode cX11_leads 64 = .ok (.aload_n 0, 1) := by decide +kernel
theorem dX11_leads_65 : decode cX11_leads 65 = .ok (.getfield 16, 3) := by decide +kernel
theorem dX11_leads_68 : decode cX11_leads 68 = .ok (.iload_n 3, 1) := by decide +kernel
theorem dX11_leads_69 : decode cX11_leads 69 = .ok (.invokestatic 253, 3) := by decide +kernel
theorem dX11_leads_72 : decode cX11_leads 72 = .ok (.iconst 2, 1) := by decide +kernel
theorem dX11_leads_73 : decode cX11_leads 73 = .ok (.if_icmp .ne 18, 3) := by decide +kernel
theorem dX11_leads_76 : decode cX11_leads 76 = .ok (.aload_n 0, 1) := by decide +kernel
theorem dX11_leads_77 : decode cX11_leads 77 = .ok (.getfield 16, 3) := by decide +kernel
theorem dX11_leads_80 : decode cX11_leads 80 = .ok (.iload_n 3, 1) := by decide +kernel
theorem dX11_leads_81 : decode cX11_leads 81 = .ok (.iconst (-1), 1) := by decide +kernel
theorem dX11_leads_82 : decode cX11_leads 82 = .ok (.iload 5, 2) := by decide +kernel
theorem dX11_leads_84 : decode cX11_leads 84 = .ok (.isub, 1) := by decide +kernel
theorem dX11_leads_85 : decode cX11_leads 85 = .ok (.invokestatic 307, 3) := by decide +kernel
theorem dX11_leads_88 : decode cX11_leads 88 = .ok (.goto 4, 3) := by decide +kernel
theorem dX11_leads_91 : decode cX11_leads 91 = .ok (.iconst (-1), 1) := by decide +kernel
theorem dX11_leads_92 : decode cX11_leads 92 = .ok (.istore_n 3, 1) := by decide +kernel
theorem dX11_leads_93 : decode cX11_leads 93 = .ok (.iinc 4 1, 3) := by decide +kernel
theorem dX11_leads_96 : decode cX11_leads 96 = .ok (.goto (-91), 3) := by decide +kernel
theorem dX11_leads_99 : decode cX11_leads 99 = .ok (.iload_n 3, 1) := by decide +kernel
theorem dX11_leads_100 : decode cX11_leads 100 = .ok (.ireturn, 1) := by decide +kernel
