set_option maxRecDepth 100000 in
theorem ggX11_addRow_X11_addThings : GoodIn wsX11_addRow wsX11_addThings := (gi_cons 13 rfl rfl (gi_cons 1 rfl rfl (gi_cons 14 rfl rfl (gi_cons 15 rfl rfl (gi_cons 16 rfl rfl (gi_cons 17 rfl rfl (gi_cons 12 rfl rfl (gi_cons 18 rfl rfl (gi_cons 19 rfl rfl (gi_cons 20 rfl rfl (gi_cons 21 rfl rfl (gi_cons 22 rfl rfl (gi_cons 23 rfl rfl (gi_cons 24 rfl rfl (gi_cons 25 rfl rfl (gi_cons 26 rfl rfl (gi_cons 27 rfl rfl (gi_cons 28 rfl rfl (gi_cons 29 rfl rfl (gi_cons 30 rfl rfl (gi_cons 31 rfl rfl (gi_cons 32 rfl rfl (gi_cons 33 rfl rfl (gi_cons 34 rfl rfl (gi_cons 35 rfl rfl (gi_cons 36 rfl rfl (gi_cons 37 rfl rfl (gi_cons 38 rfl rfl (gi_cons 39 rfl rfl (gi_cons 40 rfl rfl (gi_cons 41 rfl rfl (gi_cons 42 rfl rfl (gi_cons 43 rfl rfl (gi_cons 44 rfl rfl (gi_cons 45 rfl rfl (gi_cons 46 rfl rfl (gi_cons 47 rfl rfl (gi_cons 48 rfl rfl (gi_cons 49 rfl rfl (gi_cons 50 rfl rfl (gi_cons 51 rfl rfl (gi_cons 52 rfl rfl (gi_cons 53 rfl rfl (gi_cons 54 rfl rfl (gi_cons 55 rfl rfl (gi_cons 56 rfl rfl (gi_cons 57 rfl rfl (gi_cons 58 rfl rfl (gi_cons 59 rfl rfl (gi_cons 60 rfl rfl (gi_cons 61 rfl rfl (gi_cons 62 rfl rfl (gi_cons 63 rfl rfl (gi_cons 64 rfl rfl (gi_cons 65 rfl rfl (gi_cons 66 rfl rfl (gi_cons 67 rfl rfl (gi_cons 68 rfl rfl (gi_cons 69 rfl rfl (gi_cons 70 rfl rfl (gi_cons 71 rfl rfl (gi_cons 72 rfl rfl (gi_cons 73 rfl rfl (gi_cons 74 rfl rfl (gi_cons 75 rfl rfl (gi_cons 76 rfl rfl (gi_cons 77 rfl rfl (gi_cons 78 rfl rfl (gi_cons 79 rfl rfl (gi_cons 80 rfl rfl (gi_cons 81 rfl rfl (gi_cons 82 rfl rfl (gi_cons 83 rfl rfl (gi_cons 84 rfl rfl gi_nil))))))))))))))))))))))))))))))))))))))))))))))))))))))))))))))))))))))))))
set_option maxRecDepth 20000 in
theorem gX11_addRow_X11_addThings : GoodIn wsX11_addRow (wsV RX11 441 RX11 yX11_addThings wsX11_addThings) := goodIn_app (goodIn_of _ (by decide +kernel)) ggX11_addRow_X11_addThings
theorem dX11_addRow_0 : decode cX11_addRow 0 = .ok (.sipush 130, 3) := by decide +kernel
theorem dX11_addRow_3 : decode cX11_addRow 3 = .ok (.aload_n 0, 1) := by decide +kernel
theorem dX11_addRow_4 : decode cX11_addRow 4 = .ok (.getfield 438, 3) := by decide +kernel
theorem dX11_addRow_7 : decode cX11_addRow 7 = .ok (.imul, 1) := by decide +kernel
theorem dX11_addRow_8 : decode cX11_addRow 8 = .ok (.aload_n 0, 1) := by decide +kernel
theorem dX11_addRow_9 : decode cX11_addRow 9 = .ok (.getfield 69, 3) := by decide +kernel
theorem dX11_addRow_12 : decode cX11_addRow 12 = .ok (.aload_n 0, 1) := by decide +kernel
theorem dX11_addRow_13 : decode cX11_addRow 13 = .ok (.getfield 438, 3) := by decide +kernel
theorem dX11_addRow_16 : decode cX11_addRow 16 = .ok (.iaload, 1) := by decide +kernel
theorem dX11_addRow_17 : decode cX11_addRow 17 = .ok (.iadd, 1) := by decide +kernel
theorem dX11_addRow_18 : decode cX11_addRow 18 = .ok (.istore 7, 2) := by decide +kernel
theorem dX11_addRow_20 : decode cX11_addRow 20 = .ok (.aload_n 0, 1) := by decide +kernel
theorem dX11_addRow_21 : decode cX11_addRow 21 = .ok (.getfield 51, 3) := by decide +kernel
theorem dX11_addRow_24 : decode cX11_addRow 24 = .ok (.iload 7, 2) := by decide +kernel
theorem dX11_addRow_26 : decode cX11_addRow 26 = .ok (.iload_n 1, 1) := by decide +kernel
theorem dX11_addRow_27 : decode cX11_addRow 27 = .ok (.iastore, 1) := by decide +kernel
theorem dX11_addRow_28 : decode cX11_addRow 28 = .ok (.aload_n 0, 1) := by decide +kernel
theorem dX11_addRow_29 : decode cX11_addRow 29 = .ok (.getfield 54, 3) := by decide +kernel
theorem dX11_addRow_32 : decode cX11_addRow 32 = .ok (.iload 7, 2) := by decide +kernel
theorem dX11_addRow_34 : decode cX11_addRow 34 = .ok (.iload_n 2, 1) := by decide +kernel
theorem dX11_addRow_35 : decode cX11_addRow 35 = .ok (.iastore, 1) := by decide +kernel
theorem dX11_addRow_36 : decode cX11_addRow 36 = .ok (.iconst 0, 1) := by decide +kernel
theorem dX11_addRow_37 : decode cX11_addRow 37 = .ok (.istore 8, 2) := by decide +kernel
theorem dX11_addRow_39 : decode cX11_addRow 39 = .ok (.iload 8, 2) := by decide +kernel
theorem dX11_addRow_41 : decode cX11_addRow 41 = .ok (.iload_n 2, 1) := by decide +kernel
theorem dX11_addRow_42 : decode cX11_addRow 42 = .ok (.if_icmp .ge 29, 3) := by decide +kernel
theorem dX11_addRow_45 : decode cX11_addRow 45 = .ok (.aload_n 0, 1) := by decide +kernel
theorem dX11_addRow_46 : decode cX11_addRow 46 = .ok (.getfield 57, 3) := by decide +kernel
theorem dX11_addRow_49 : decode cX11_addRow 49 = .ok (.bipush 8, 2) := by decide +kernel
theorem dX11_addRow_51 : decode cX11_addRow 51 = .ok (.iload 7, 2) := by decide +kernel
theorem dX11_addRow_53 : decode cX11_addRow 53 = .ok (.imul, 1) := by decide +kernel
theorem dX11_addRow_54 : decode cX11_addRow 54 = .ok (.iload 8, 2) := by decide +kernel
theorem dX11_addRow_56 : decode cX11_addRow 56 = .ok (.iadd, 1) := by decide +kernel
theorem dX11_addRow_57 : decode cX11_addRow 57 = .ok (.aload_n 0, 1) := by decide +kernel
theorem dX11_addRow_58 : decode cX11_addRow 58 = .ok (.getfield 75, 3) := by decide +kernel
theorem dX11_addRow_61 : decode cX11_addRow 61 = .ok (.iload 8, 2) := by decide +kernel
theorem dX11_addRow_63 : decode cX11_addRow 63 = .ok (.iaload, 1) := by decide +kernel
theorem dX11_addRow_64 : decode cX11_addRow 64 = .ok (.iastore, 1) := by decide +kernel
theorem dX11_addRow_65 : decode cX11_addRow 65 = .ok (.iinc 8 1, 3) := by decide +kernel
theorem dX11_addRow_68 : decode cX11_addRow 68 = .ok (.goto (-29), 3) := by decide +kernel
theorem dX11_addRow_71 : decode cX11_addRow 71 = .ok (.aload_n 0, 1) := by decide +kernel
theorem dX11_addRow_72 : decode cX11_addRow 72 = .ok (.getfield 60, 3) := by decide +kernel
theorem dX11_addRow_75 : decode cX11_addRow 75 = .ok (.iload 7, 2) := by decide +kernel
theorem dX11_addRow_77 : decode cX11_addRow 77 = .ok (.aload_n 0, 1) := by decide +kernel
theorem dX11_addRow_78 : decode cX11_addRow 78 = .ok (.aload_n 3, 1) := by decide +kernel
theorem dX11_addRow_79 : decode cX11_addRow 79 = .ok (.iload 4, 2) := by decide +kernel
theorem dX11_addRow_81 : decode cX11_addRow 81 = .ok (.invokevirtual 441, 3) := by decide +kernel
theorem dX11_addRow_84 : decode cX11_addRow 84 = .ok (.iastore, 1) := by decide +kernel
theorem dX11_addRow_85 : decode cX11_addRow 85 = .ok (.aload_n 0, 1) := by decide +kernel
theorem dX11_addRow_86 : decode cX11_addRow 86 = .ok (.getfield 63, 3) := by decide +kernel
theorem dX11_addRow_89 : decode cX11_addRow 89 = .ok (.iload 7, 2) := by decide +kernel
theorem dX11_addRow_91 : decode cX11_addRow 91 = .ok (.aload_n 0, 1) := by decide +kernel
theorem dX11_addRow_92 : decode cX11_addRow 92 = .ok (.aload 5, 2) := by decide +kernel
theorem dX11_addRow_94 : decode cX11_addRow 94 = .ok (.iload 6, 2) := by decide +kernel
theorem dX11_addRow_96 : decode cX11_addRow 96 = .ok (.invokevirtual 441, 3) := by decide +kernel
theorem dX11_addRow_99 : decode cX11_addRow 99 = .ok (.iastore, 1) := by decide +kernel
theorem dX11_addRow_100 : decode cX11_addRow 100 = .ok (.aload_n 0, 1) := by decide +kernel
theorem dX11_addRow_101 : decode cX11_addRow 101 = .ok (.getfield 69, 3) := by decide +kernel
theorem dX11_addRow_104 : decode cX11_addRow 104 = .ok (.aload_n 0, 1) := by decide +kernel
theorem dX11_addRow_105 : decode cX11_addRow 105 = .ok (.getfield 438, 3) := by decide +kernel
theorem dX11_addRow_108 : decode cX11_addRow 108 = .ok (.dup2, 1) := by decide +kernel
theorem dX11_addRow_109 : decode cX11_addRow 109 = .ok (.iaload, 1) := by decide +kernel
theorem dX11_addRow_110 : decode cX11_addRow 110 = .ok (.iconst 1, 1) := by decide +kernel
theorem dX11_addRow_111 : decode cX11_addRow 111 = .ok (.iadd, 1) := by decide +kernel
theorem dX11_addRow_112 : decode cX11_addRow 112 = .ok (.iastore, 1) := by decide +kernel
theorem dX11_addRow_113 : decode cX11_addRow 113 = .ok (.return_, 1) := by decide +kernel
