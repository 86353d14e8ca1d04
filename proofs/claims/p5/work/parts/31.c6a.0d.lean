set_option maxRecDepth 100000 in
theorem ggX11_sort_X11_isBehind : GoodIn wsX11_sort wsX11_isBehind := (gi_cons 6 rfl rfl (gi_cons 7 rfl rfl (gi_cons 8 rfl rfl (gi_cons 9 rfl rfl (gi_cons 5 rfl rfl (gi_cons 10 rfl rfl (gi_cons 11 rfl rfl (gi_cons 12 rfl rfl (gi_cons 13 rfl rfl (gi_cons 14 rfl rfl (gi_cons 15 rfl rfl (gi_cons 16 rfl rfl (gi_cons 17 rfl rfl (gi_cons 18 rfl rfl (gi_cons 19 rfl rfl (gi_cons 20 rfl rfl (gi_cons 21 rfl rfl (gi_cons 22 rfl rfl (gi_cons 23 rfl rfl (gi_cons 24 rfl rfl (gi_cons 25 rfl rfl (gi_cons 26 rfl rfl (gi_cons 27 rfl rfl (gi_cons 28 rfl rfl (gi_cons 29 rfl rfl (gi_cons 30 rfl rfl (gi_cons 31 rfl rfl (gi_cons 32 rfl rfl (gi_cons 33 rfl rfl (gi_cons 34 rfl rfl (gi_cons 35 rfl rfl (gi_cons 36 rfl rfl (gi_cons 37 rfl rfl (gi_cons 38 rfl rfl (gi_cons 39 rfl rfl (gi_cons 40 rfl rfl (gi_cons 41 rfl rfl (gi_cons 42 rfl rfl (gi_cons 43 rfl rfl (gi_cons 44 rfl rfl (gi_cons 45 rfl rfl (gi_cons 46 rfl rfl (gi_cons 47 rfl rfl (gi_cons 48 rfl rfl (gi_cons 49 rfl rfl (gi_cons 50 rfl rfl (gi_cons 51 rfl rfl (gi_cons 52 rfl rfl (gi_cons 53 rfl rfl (gi_cons 54 rfl rfl (gi_cons 55 rfl rfl (gi_cons 56 rfl rfl (gi_cons 57 rfl rfl (gi_cons 58 rfl rfl (gi_cons 59 rfl rfl (gi_cons 60 rfl rfl (gi_cons 61 rfl rfl (gi_cons 62 rfl rfl (gi_cons 63 rfl rfl (gi_cons 64 rfl rfl (gi_cons 65 rfl rfl (gi_cons 66 rfl rfl (gi_cons 67 rfl rfl (gi_cons 68 rfl rfl (gi_cons 69 rfl rfl (gi_cons 70 rfl rfl (gi_cons 71 rfl rfl (gi_cons 72 rfl rfl (gi_cons 73 rfl rfl (gi_cons 74 rfl rfl (gi_cons 75 rfl rfl (gi_cons 76 rfl rfl (gi_cons 77 rfl rfl (gi_cons 78 rfl rfl (gi_cons 79 rfl rfl (gi_cons 80 rfl rfl (gi_cons 81 rfl rfl (gi_cons 82 rfl rfl gi_nil))))))))))))))))))))))))))))))))))))))))))))))))))))))))))))))))))))))))))))))
set_option maxRecDepth 20000 in
theorem gX11_sort_X11_isBehind : GoodIn wsX11_sort (wsV RX11 391 RX11 yX11_isBehind wsX11_isBehind) := goodIn_app (goodIn_of _ (by decide +kernel)) ggX11_sort_X11_isBehind
theorem dX11_sort_0 : decode cX11_sort 0 = .ok (.iconst 1, 1) := by decide +kernel
theorem dX11_sort_1 : decode cX11_sort 1 = .ok (.istore_n 3, 1) := by decide +kernel
theorem dX11_sort_2 : decode cX11_sort 2 = .ok (.iload_n 3, 1) := by decide +kernel
theorem dX11_sort_3 : decode cX11_sort 3 = .ok (.iload_n 2, 1) := by decide +kernel
theorem dX11_sort_4 : decode cX11_sort 4 = .ok (.if_icmp .ge 84, 3) := by decide +kernel
theorem dX11_sort_7 : decode cX11_sort 7 = .ok (.aload_n 0, 1) := by decide +kernel
theorem dX11_sort_8 : decode cX11_sort 8 = .ok (.getfield 45, 3) := by decide +kernel
theorem dX11_sort_11 : decode cX11_sort 11 = .ok (.iload_n 1, 1) := by decide +kernel
theorem dX11_sort_12 : decode cX11_sort 12 = .ok (.iload_n 3, 1) := by decide +kernel
theorem dX11_sort_13 : decode cX11_sort 13 = .ok (.iadd, 1) := by decide +kernel
theorem dX11_sort_14 : decode cX11_sort 14 = .ok (.iaload, 1) := by decide +kernel
theorem dX11_sort_15 : decode cX11_sort 15 = .ok (.istore 4, 2) := by decide +kernel
theorem dX11_sort_17 : decode cX11_sort 17 = .ok (.iload_n 3, 1) := by decide +kernel
theorem dX11_sort_18 : decode cX11_sort 18 = .ok (.istore 5, 2) := by decide +kernel
theorem dX11_sort_20 : decode cX11_sort 20 = .ok (.iload 5, 2) := by decide +kernel
theorem dX11_sort_22 : decode cX11_sort 22 = .ok (.ifCond .le 49, 3) := by decide +kernel
theorem dX11_sort_25 : decode cX11_sort 25 = .ok (.aload_n 0, 1) := by decide +kernel
theorem dX11_sort_26 : decode cX11_sort 26 = .ok (.aload_n 0, 1) := by decide +kernel
theorem dX11_sort_27 : decode cX11_sort 27 = .ok (.getfield 45, 3) := by decide +kernel
theorem dX11_sort_30 : decode cX11_sort 30 = .ok (.iload_n 1, 1) := by decide +kernel
theorem dX11_sort_31 : decode cX11_sort 31 = .ok (.iload 5, 2) := by decide +kernel
theorem dX11_sort_33 : decode cX11_sort 33 = .ok (.iadd, 1) := by decide +kernel
theorem dX11_sort_34 : decode cX11_sort 34 = .ok (.iconst 1, 1) := by decide +kernel
theorem dX11_sort_35 : decode cX11_sort 35 = .ok (.isub, 1) := by decide +kernel
theorem dX11_sort_36 : decode cX11_sort 36 = .ok (.iaload, 1) := by decide +kernel
theorem dX11_sort_37 : decode cX11_sort 37 = .ok (.iload 4, 2) := by decide +kernel
theorem dX11_sort_39 : decode cX11_sort 39 = .ok (.invokevirtual 391, 3) := by decide +kernel
theorem dX11_sort_42 : decode cX11_sort 42 = .ok (.ifCond .eq 29, 3) := by decide +kernel
theorem dX11_sort_45 : decode cX11_sort 45 = .ok (.aload_n 0, 1) := by decide +kernel
theorem dX11_sort_46 : decode cX11_sort 46 = .ok (.getfield 45, 3) := by decide +kernel
theorem dX11_sort_49 : decode cX11_sort 49 = .ok (.iload_n 1, 1) := by decide +kernel
theorem dX11_sort_50 : decode cX11_sort 50 = .ok (.iload 5, 2) := by decide +kernel
theorem dX11_sort_52 : decode cX11_sort 52 = .ok (.iadd, 1) := by decide +kernel
theorem dX11_sort_53 : decode cX11_sort 53 = .ok (.aload_n 0, 1) := by decide +kernel
theorem dX11_sort_54 : decode cX11_sort 54 = .ok (.getfield 45, 3) := by decide +kernel
theorem dX11_sort_57 : decode cX11_sort 57 = .ok (.iload_n 1, 1) := by decide +kernel
theorem dX11_sort_58 : decode cX11_sort 58 = .ok (.iload 5, 2) := by decide +kernel
theorem dX11_sort_60 : decode cX11_sort 60 = .ok (.iadd, 1) := by decide +kernel
theorem dX11_sort_61 : decode cX11_sort 61 = .ok (.iconst 1, 1) := by decide +kernel
theorem dX11_sort_62 : decode cX11_sort 62 = .ok (.isub, 1) := by decide +kernel
theorem dX11_sort_63 : decode cX11_sort 63 = .ok (.iaload, 1) := by decide +kernel
theorem dX11_sort_64 : decode cX11_sort 64 = .ok (.iastore, 1) := by decide +kernel
theorem dX11_sort_65 : decode cX11_sort 65 = .ok (.iinc 5 (-1), 3) := by decide +kernel
theorem dX11_sort_68 : decode cX11_sort 68 = .ok (.goto (-48), 3) := by decide +kernel
theorem dX11_sort_71 : decode cX11_sort 71 = .ok (.aload_n 0, 1) := by decide +kernel
theorem dX11_sort_72 : decode cX11_sort 72 = .ok (.getfield 45, 3) := by decide +kernel
theorem dX11_sort_75 : decode cX11_sort 75 = .ok (.iload_n 1, 1) := by decide +kernel
theorem dX11_sort_76 : decode cX11_sort 76 = .ok (.iload 5, 2) := by decide +kernel
theorem dX11_sort_78 : decode cX11_sort 78 = .ok (.iadd, 1) := by decide +kernel
theorem dX11_sort_79 : decode cX11_sort 79 = .ok (.iload 4, 2) := by decide +kernel
theorem dX11_sort_81 : decode cX11_sort 81 = .ok (.iastore, 1) := by decide +kernel
theorem dX11_sort_82 : decode cX11_sort 82 = .ok (.iinc 3 1, 3) := by decide +kernel
theorem dX11_sort_85 : decode cX11_sort 85 = .ok (.goto (-83), 3) := by decide +kernel
theorem dX11_sort_88 : decode cX11_sort 88 = .ok (.return_, 1) := by decide +kernel
set_option maxRecDepth 100000 in
theorem ggX11_isBehind_X11_kind : GoodIn wsX11_isBehind wsX11_kind := (gi_cons 5 rfl rfl gi_nil)
set_option maxRecDepth 20000 in
theorem gX11_isBehind_X11_kind : GoodIn wsX11_isBehind (va_wsS RX11 253 yX11_kind wsX11_kind) := goodIn_app (goodIn_of _ (by decide +kernel)) ggX11_isBehind_X11_kind
set_option maxRecDepth 100000 in
theorem ggX11_isBehind_X11_compareWords : GoodIn wsX11_isBehind wsX11_compareWords := (gi_cons 8 rfl rfl (gi_cons 9 rfl rfl (gi_cons 10 rfl rfl (gi_cons 4 rfl rfl (gi_cons 11 rfl rfl gi_nil)))))
set_option maxRecDepth 20000 in
theorem gX11_isBehind_X11_compareWords : GoodIn wsX11_isBehind (va_wsS RX11 331 yX11_compareWords wsX11_compareWords) := goodIn_app (goodIn_of _ (by decide +kernel)) ggX11_isBehind_X11_compareWords
theorem dX11_isBehind_0 : decode cX11_isBehind 0 = .ok (.aload_n 0, 1) := by decide +kernel
theorem dX11_isBehind_1 : decode cX11_isBehind 1 = .ok (.getfield 9, 3) := by decide +kernel
theorem dX11_isBehind_4 : decode cX11_isBehind 4 = .ok (.iload_n 1, 1) := by decide +kernel
theorem dX11_isBehind_5 : decode cX11_isBehind 5 = .ok (.invokestatic 253, 3) := by decide +kernel
theorem dX11_isBehind_8 : decode cX11_isBehind 8 = .ok (.istore_n 3, 1) := by decide +kernel
theorem dX11_isBehind_9 : decode cX11_isBehind 9 = .ok (.aload_n 0, 1) := by decide +kernel
theorem dX11_isBehind_10 : decode cX11_isBehind 10 = .ok (.getfield 9, 3) := by decide +kernel
theorem dX11_isBehind_13 : decode cX11_isBehind 13 = .ok (.iload_n 2, 1) := by decide +kernel
theorem dX11_isBehind_14 : decode cX11_isBehind 14 = .ok (.invokestatic 253, 3) := by decide +kernel
theorem dX11_isBehind_17 : decode cX11_isBehind 17 = .ok (.istore 4, 2) := by decide +kernel
theorem dX11_isBehind_19 : decode cX11_isBehind 19 = .ok (.iload_n 3, 1) := by decide +kernel
theorem dX11_isBehind_20 : decode cX11_isBehind 20 = .ok (.iload 4, 2) := by decide +kernel
theorem dX11_isBehind_22 : decode cX11_isBehind 22 = .ok (.if_icmp .eq 15, 3) := by decide +kernel
theorem dX11_isBehind_25 : decode cX11_isBehind 25 = .ok (.iload_n 3, 1) := by decide +kernel
theorem dX11_isBehind_26 : decode cX11_isBehind 26 = .ok (.iload 4, 2) := by decide +kernel
theorem dX11_isBehind_28 : decode cX11_isBehind 28 = .ok (.if_icmp .le 7, 3) := by decide +kernel
theorem dX11_isBehind_31 : decode cX11_isBehind 31 = .ok (.iconst 1, 1) := by decide +kernel
theorem dX11_isBehind_32 : decode cX11_isBehind 32 = .ok (.goto 4, 3) := by decide +kernel
theorem dX11_isBehind_35 : decode cX11_isBehind 35 = .ok (.iconst 0, 1) := by decide +kernel
theorem dX11_isBehind_36 : decode cX11_isBehind 36 = .ok (.ireturn, 1) := by decide +kernel
theorem dX11_isBehind_37 : decode cX11_isBehind 37 = .ok (.iload_n 3, 1) := by decide +kernel
theorem dX11_isBehind_38 : decode cX11_isBehind 38 = .ok (.ifCond .ne 34, 3) := by decide +kernel
theorem dX11_isBehind_41 : decode cX11_isBehind 41 = .ok (.aload_n 0, 1) := by decide +kernel
theorem dX11_isBehind_42 : decode cX11_isBehind 42 = .ok (.getfield 9, 3) := by decide +kernel
theorem dX11_isBehind_45 : decode cX11_isBehind 45 = .ok (.iconst 4, 1) := by decide +kernel
theorem dX11_isBehind_46 : decode cX11_isBehind 46 = .ok (.iload_n 1, 1) := by decide +kernel
theorem dX11_isBehind_47 : decode cX11_isBehind 47 = .ok (.imul, 1) := by decide +kernel
theorem dX11_isBehind_48 : decode cX11_isBehind 48 = .ok (.iconst 1, 1) := by decide +kernel
theorem dX11_isBehind_49 : decode cX11_isBehind 49 = .ok (.iadd, 1) := by decide +kernel
theorem dX11_isBehind_50 : decode cX11_isBehind 50 = .ok (.iaload, 1) := by decide +kernel
theorem dX11_isBehind_51 : decode cX11_isBehind 51 = .ok (.aload_n 0, 1) := by decide +kernel
theorem dX11_isBehind_52 : decode cX11_isBehind 52 = .ok (.getfield 9, 3) := by decide +kernel
theorem dX11_isBehind_55 : decode cX11_isBehind 55 = .ok (.iconst 4, 1) := by decide +kernel
theorem dX11_isBehind_56 : decode cX11_isBehind 56 = .ok (.iload_n 2, 1) := by decide +kernel
theorem dX11_isBehind_57 : decode cX11_isBehind 57 = .ok (.imul, 1) := by decide +kernel
theorem dX11_isBehind_58 : decode cX11_isBehind 58 = .ok (.iconst 1, 1) := by decide +kernel
theorem dX11_isBehind_59 : decode cX11_isBehind 59 = .ok (.iadd, 1) := by decide +kernel
theorem dX11_isBehind_60 : decode cX11_isBehind 60 = .ok (.iaload, 1) := by decide +kernel
theorem dX11_isBehind_61 : decode cX11_isBehind 61 = .ok (.if_icmp .le 7, 3) := by decide +kernel
theorem dX11_isBehind_64 : decode cX11_isBehind 64 = .ok (.iconst 1, 1) := by decide +kernel
theorem dX11_isBehind_65 : decode cX11_isBehind 65 = .ok (.goto 43, 3) := by decide +kernel
theorem dX11_isBehind_68 : decode cX11_isBehind 68 = .ok (.iconst 0, 1) := by decide +kernel
theorem dX11_isBehind_69 : decode cX11_isBehind 69 = .ok (.goto 39, 3) := by decide +kernel
theorem dX11_isBehind_72 : decode cX11_isBehind 72 = .ok (.iload_n 3, 1) := by decide +kernel
theorem dX11_isBehind_73 : decode cX11_isBehind 73 = .ok (.iconst 1, 1) := by decide +kernel
theorem dX11_isBehind_74 : decode cX11_isBehind 74 = .ok (.if_icmp .ne 33, 3) := by decide +kernel
theorem dX11_isBehind_77 : decode cX11_isBehind 77 = .ok (.aload_n 0, 1) := by decide +kernel
theorem dX11_isBehind_78 : decode cX11_isBehind 78 = .ok (.getfield 9, 3) := by decide +kernel
theorem dX11_isBehind_81 : decode cX11_isBehind 81 = .ok (.iconst 4, 1) := by decide +kernel
theorem dX11_isBehind_82 : decode cX11_isBehind 82 = .ok (.iload_n 1, 1) := by decide +kernel
theorem dX11_isBehind_83 : decode cX11_isBehind 83 = .ok (.imul, 1) := by decide +kernel
theorem dX11_isBehind_84 : decode cX11_isBehind 84 = .ok (.iconst 1, 1) := by decide +kernel
theorem dX11_isBehind_85 : decode cX11_isBehind 85 = .ok (.iadd, 1) := by decide +kernel
theorem dX11_isBehind_86 : decode cX11_isBehind 86 = .ok (.iaload, 1) := by decide +kernel
theorem dX11_isBehind_87 : decode cX11_isBehind 87 = .ok (.aload_n 0, 1) := by decide +kernel
theorem dX11_isBehind_88 : decode cX11_isBehind 88 = .ok (.getfield 9, 3) := by decide +kernel
theorem dX11_isBehind_91 : decode cX11_isBehind 91 = .ok (.iconst 4, 1) := by decide +kernel
theorem dX11_isBehind_92 : decode cX11_isBehind 92 = .ok (.iload_n 2, 1) := by decide +kernel
theorem dX11_isBehind_93 : decode cX11_isBehind 93 = .ok (.imul, 1) := by decide +kernel
theorem dX11_isBehind_94 : decode cX11_isBehind 94 = .ok (.iconst 1, 1) := by decide +kernel
theorem dX11_isBehind_95 : decode cX11_isBehind 95 = .ok (.iadd, 1) := by decide +kernel
theorem dX11_isBehind_96 : decode cX11_isBehind 96 = .ok (.iaload, 1) := by decide +kernel
theorem dX11_isBehind_97 : decode cX11_isBehind 97 = .ok (.invokestatic 331, 3) := by decide +kernel
theorem dX11_isBehind_100 : decode cX11_isBehind 100 = .ok (.ifCond .le 7, 3) := by decide +kernel
theorem dX11_isBehind_103 : decode cX11_isBehind 103 = .ok (.iconst 1, 1) := by decide +kernel
theorem dX11_isBehind_104 : decode cX11_isBehind 104 = .ok (.goto 4, 3) := by decide +kernel
theorem dX11_isBehind_107 : decode cX11_isBehind 107 = .ok (.iconst 0, 1) := by decide +kernel
theorem dX11_isBehind_108 : decode cX11_isBehind 108 = .ok (.ireturn, 1) := by decide +kernel
