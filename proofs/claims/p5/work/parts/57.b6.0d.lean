set_option maxRecDepth 100000 in
theorem ggX0_commit_X9_deepest : GoodIn wsX0_commit wsX9_deepest := (gi_cons 7 rfl rfl (gi_cons 8 rfl rfl (gi_cons 9 rfl rfl (gi_cons 10 rfl rfl (gi_cons 11 rfl rfl (gi_cons 12 rfl rfl (gi_cons 13 rfl rfl (gi_cons 51 rfl rfl (gi_cons 52 rfl rfl (gi_cons 53 rfl rfl (gi_cons 54 rfl rfl (gi_cons 55 rfl rfl gi_nil))))))))))))
set_option maxRecDepth 20000 in
theorem gX0_commit_X9_deepest : GoodIn wsX0_commit (wsV RX0 35 RX9 yX9_deepest wsX9_deepest) := goodIn_app (goodIn_of _ (by decide +kernel)) ggX0_commit_X9_deepest
set_option maxRecDepth 100000 in
theorem ggX0_commit_X6_remember : GoodIn wsX0_commit wsX6_remember := (gi_cons 18 rfl rfl (gi_cons 19 rfl rfl (gi_cons 20 rfl rfl (gi_cons 21 rfl rfl (gi_cons 22 rfl rfl (gi_cons 6 rfl rfl (gi_cons 23 rfl rfl (gi_cons 24 rfl rfl (gi_cons 25 rfl rfl (gi_cons 26 rfl rfl (gi_cons 17 rfl rfl (gi_cons 27 rfl rfl (gi_cons 28 rfl rfl (gi_cons 29 rfl rfl (gi_cons 30 rfl rfl (gi_cons 31 rfl rfl (gi_cons 32 rfl rfl (gi_cons 33 rfl rfl (gi_cons 34 rfl rfl (gi_cons 35 rfl rfl (gi_cons 36 rfl rfl (gi_cons 37 rfl rfl (gi_cons 9 rfl rfl (gi_cons 38 rfl rfl (gi_cons 39 rfl rfl (gi_cons 40 rfl rfl (gi_cons 41 rfl rfl (gi_cons 8 rfl rfl (gi_cons 42 rfl rfl (gi_cons 43 rfl rfl (gi_cons 44 rfl rfl (gi_cons 45 rfl rfl (gi_cons 56 rfl rfl (gi_cons 57 rfl rfl (gi_cons 58 rfl rfl (gi_cons 59 rfl rfl (gi_cons 60 rfl rfl (gi_cons 61 rfl rfl (gi_cons 62 rfl rfl (gi_cons 51 rfl rfl (gi_cons 52 rfl rfl (gi_cons 53 rfl rfl (gi_cons 54 rfl rfl (gi_cons 55 rfl rfl gi_nil))))))))))))))))))))))))))))))))))))))))))))
set_option maxRecDepth 20000 in
theorem gX0_commit_X6_remember : GoodIn wsX0_commit (wsV RX0 39 RX6 yX6_remember wsX6_remember) := goodIn_app (goodIn_of _ (by decide +kernel)) ggX0_commit_X6_remember
set_option maxRecDepth 100000 in
theorem ggX0_commit_X9_become : GoodIn wsX0_commit wsX9_become := (gi_cons 41 rfl rfl (gi_cons 8 rfl rfl (gi_cons 35 rfl rfl (gi_cons 42 rfl rfl (gi_cons 43 rfl rfl (gi_cons 44 rfl rfl (gi_cons 45 rfl rfl (gi_cons 36 rfl rfl (gi_cons 37 rfl rfl (gi_cons 9 rfl rfl (gi_cons 51 rfl rfl (gi_cons 52 rfl rfl (gi_cons 53 rfl rfl (gi_cons 54 rfl rfl (gi_cons 55 rfl rfl gi_nil)))))))))))))))
set_option maxRecDepth 20000 in
theorem gX0_commit_X9_become : GoodIn wsX0_commit (wsV RX0 47 RX9 yX9_become wsX9_become) := goodIn_app (goodIn_of _ (by decide +kernel)) ggX0_commit_X9_become
theorem dX0_commit_0 : decode cX0_commit 0 = .ok (.aload_n 0, 1) := by decide +kernel
theorem dX0_commit_1 : decode cX0_commit 1 = .ok (.getfield 14, 3) := by decide +kernel
theorem dX0_commit_4 : decode cX0_commit 4 = .ok (.getfield 31, 3) := by decide +kernel
theorem dX0_commit_7 : decode cX0_commit 7 = .ok (.iconst 1, 1) := by decide +kernel
theorem dX0_commit_8 : decode cX0_commit 8 = .ok (.if_icmp .lt 27, 3) := by decide +kernel
theorem dX0_commit_11 : decode cX0_commit 11 = .ok (.aload_n 0, 1) := by decide +kernel
theorem dX0_commit_12 : decode cX0_commit 12 = .ok (.getfield 14, 3) := by decide +kernel
theorem dX0_commit_15 : decode cX0_commit 15 = .ok (.getfield 31, 3) := by decide +kernel
theorem dX0_commit_18 : decode cX0_commit 18 = .ok (.bipush 60, 2) := by decide +kernel
theorem dX0_commit_20 : decode cX0_commit 20 = .ok (.if_icmp .gt 15, 3) := by decide +kernel
theorem dX0_commit_23 : decode cX0_commit 23 = .ok (.aload_n 0, 1) := by decide +kernel
theorem dX0_commit_24 : decode cX0_commit 24 = .ok (.getfield 14, 3) := by decide +kernel
theorem dX0_commit_27 : decode cX0_commit 27 = .ok (.invokevirtual 35, 3) := by decide +kernel
theorem dX0_commit_30 : decode cX0_commit 30 = .ok (.bipush 7, 2) := by decide +kernel
theorem dX0_commit_32 : decode cX0_commit 32 = .ok (.if_icmp .le 5, 3) := by decide +kernel
theorem dX0_commit_35 : decode cX0_commit 35 = .ok (.iconst 0, 1) := by decide +kernel
theorem dX0_commit_36 : decode cX0_commit 36 = .ok (.ireturn, 1) := by decide +kernel
theorem dX0_commit_37 : decode cX0_commit 37 = .ok (.aload_n 0, 1) := by decide +kernel
theorem dX0_commit_38 : decode cX0_commit 38 = .ok (.getfield 27, 3) := by decide +kernel
theorem dX0_commit_41 : decode cX0_commit 41 = .ok (.invokevirtual 39, 3) := by decide +kernel
theorem dX0_commit_44 : decode cX0_commit 44 = .ok (.aload_n 0, 1) := by decide +kernel
theorem dX0_commit_45 : decode cX0_commit 45 = .ok (.getfield 27, 3) := by decide +kernel
theorem dX0_commit_48 : decode cX0_commit 48 = .ok (.getfield 44, 3) := by decide +kernel
theorem dX0_commit_51 : decode cX0_commit 51 = .ok (.aload_n 0, 1) := by decide +kernel
theorem dX0_commit_52 : decode cX0_commit 52 = .ok (.getfield 14, 3) := by decide +kernel
theorem dX0_commit_55 : decode cX0_commit 55 = .ok (.invokevirtual 47, 3) := by decide +kernel
theorem dX0_commit_58 : decode cX0_commit 58 = .ok (.iconst 1, 1) := by decide +kernel
theorem dX0_commit_59 : decode cX0_commit 59 = .ok (.ireturn, 1) := by decide +kernel
set_option maxRecDepth 100000 in
theorem ggX0_putAll_X0_outermost : GoodIn wsX0_putAll wsX0_outermost := (gi_cons 7 rfl rfl (gi_cons 2 rfl rfl (gi_cons 8 rfl rfl (gi_cons 9 rfl rfl (gi_cons 10 rfl rfl (gi_cons 11 rfl rfl (gi_cons 12 rfl rfl (gi_cons 13 rfl rfl (gi_cons 14 rfl rfl (gi_cons 15 rfl rfl (gi_cons 16 rfl rfl (gi_cons 17 rfl rfl (gi_cons 18 rfl rfl (gi_cons 19 rfl rfl (gi_cons 20 rfl rfl (gi_cons 109 rfl rfl (gi_cons 110 rfl rfl (gi_cons 111 rfl rfl (gi_cons 112 rfl rfl (gi_cons 113 rfl rfl (gi_cons 114 rfl rfl (gi_cons 115 rfl rfl (gi_cons 116 rfl rfl (gi_cons 117 rfl rfl (gi_cons 118 rfl rfl (gi_cons 119 rfl rfl (gi_cons 120 rfl rfl (gi_cons 121 rfl rfl (gi_cons 122 rfl rfl (gi_cons 123 rfl rfl (gi_cons 124 rfl rfl gi_nil)))))))))))))))))))))))))))))))
set_option maxRecDepth 20000 in
theorem gX0_putAll_X0_outermost : GoodIn wsX0_putAll (wsV RX0 69 RX0 yX0_outermost wsX0_outermost) := goodIn_app (goodIn_of _ (by decide +kernel)) ggX0_putAll_X0_outermost
set_option maxRecDepth 100000 in
theorem ggX0_putAll_X0_tooManyCopies : GoodIn wsX0_putAll wsX0_tooManyCopies := (gi_cons 23 rfl rfl (gi_cons 24 rfl rfl (gi_cons 25 rfl rfl (gi_cons 26 rfl rfl (gi_cons 27 rfl rfl (gi_cons 28 rfl rfl (gi_cons 29 rfl rfl (gi_cons 30 rfl rfl (gi_cons 120 rfl rfl (gi_cons 121 rfl rfl (gi_cons 122 rfl rfl (gi_cons 123 rfl rfl (gi_cons 124 rfl rfl gi_nil)))))))))))))
set_option maxRecDepth 20000 in
theorem gX0_putAll_X0_tooManyCopies : GoodIn wsX0_putAll (va_wsS RX0 73 yX0_tooManyCopies wsX0_tooManyCopies) := goodIn_app (goodIn_of _ (by decide +kernel)) ggX0_putAll_X0_tooManyCopies
set_option maxRecDepth 100000 in
theorem ggX0_putAll_X9_become : GoodIn wsX0_putAll wsX9_become := (gi_cons 34 rfl rfl (gi_cons 19 rfl rfl (gi_cons 35 rfl rfl (gi_cons 36 rfl rfl (gi_cons 37 rfl rfl (gi_cons 38 rfl rfl (gi_cons 39 rfl rfl (gi_cons 40 rfl rfl (gi_cons 41 rfl rfl (gi_cons 20 rfl rfl (gi_cons 120 rfl rfl (gi_cons 121 rfl rfl (gi_cons 122 rfl rfl (gi_cons 123 rfl rfl (gi_cons 124 rfl rfl gi_nil)))))))))))))))
set_option maxRecDepth 20000 in
theorem gX0_putAll_X9_become : GoodIn wsX0_putAll (wsV RX0 47 RX9 yX9_become wsX9_become) := goodIn_app (goodIn_of _ (by decide +kernel)) ggX0_putAll_X9_become
set_option maxRecDepth 100000 in
theorem ggX0_putAll_X10_isIn : GoodIn wsX0_putAll wsX10_isIn := (gi_cons 10 rfl rfl (gi_cons 11 rfl rfl (gi_cons 12 rfl rfl (gi_cons 9 rfl rfl (gi_cons 13 rfl rfl gi_nil)))))
set_option maxRecDepth 20000 in
theorem gX0_putAll_X10_isIn_n51 : GoodIn wsX0_putAll (wsX10_isIn) := ggX0_putAll_X10_isIn
set_option maxRecDepth 100000 in
theorem ggX0_putAll_X9_replace : GoodIn wsX0_putAll wsX9_replace := (gi_cons 45 rfl rfl (gi_cons 46 rfl rfl (gi_cons 47 rfl rfl (gi_cons 48 rfl rfl (gi_cons 17 rfl rfl (gi_cons 49 rfl rfl (gi_cons 19 rfl rfl (gi_cons 20 rfl rfl (gi_cons 50 rfl rfl (gi_cons 51 rfl rfl (gi_cons 52 rfl rfl (gi_cons 53 rfl rfl (gi_cons 41 rfl rfl (gi_cons 54 rfl rfl (gi_cons 55 rfl rfl (gi_cons 56 rfl rfl (gi_cons 57 rfl rfl (gi_cons 58 rfl rfl (gi_cons 59 rfl rfl (gi_cons 60 rfl rfl (gi_cons 61 rfl rfl (gi_cons 62 rfl rfl (gi_cons 15 rfl rfl (gi_cons 16 rfl rfl (gi_cons 18 rfl rfl (gi_cons 63 rfl rfl (gi_cons 64 rfl rfl (gi_cons 65 rfl rfl (gi_cons 66 rfl rfl (gi_cons 35 rfl rfl (gi_cons 36 rfl rfl (gi_cons 37 rfl rfl (gi_cons 38 rfl rfl (gi_cons 39 rfl rfl (gi_cons 40 rfl rfl (gi_cons 67 rfl rfl (gi_cons 68 rfl rfl (gi_cons 69 rfl rfl (gi_cons 70 rfl rfl (gi_cons 71 rfl rfl (gi_cons 72 rfl rfl (gi_cons 73 rfl rfl (gi_cons 74 rfl rfl (gi_cons 120 rfl rfl (gi_cons 121 rfl rfl (gi_cons 122 rfl rfl (gi_cons 123 rfl rfl (gi_cons 124 rfl rfl gi_nil))))))))))))))))))))))))))))))))))))))))))))))))
set_option maxRecDepth 20000 in
theorem gX0_putAll_X9_replace : GoodIn wsX0_putAll (wsV RX0 77 RX9 yX9_replace wsX9_replace) := goodIn_app (goodIn_of _ (by decide +kernel)) ggX0_putAll_X9_replace
set_option maxRecDepth 100000 in
theorem ggX0_putAll_X0_commit : GoodIn wsX0_putAll wsX0_commit := (gi_cons 78 rfl rfl (gi_cons 1 rfl rfl (gi_cons 2 rfl rfl (gi_cons 79 rfl rfl (gi_cons 80 rfl rfl (gi_cons 81 rfl rfl (gi_cons 17 rfl rfl (gi_cons 82 rfl rfl (gi_cons 19 rfl rfl (gi_cons 20 rfl rfl (gi_cons 83 rfl rfl (gi_cons 84 rfl rfl (gi_cons 85 rfl rfl (gi_cons 86 rfl rfl (gi_cons 87 rfl rfl (gi_cons 88 rfl rfl (gi_cons 89 rfl rfl (gi_cons 90 rfl rfl (gi_cons 91 rfl rfl (gi_cons 92 rfl rfl (gi_cons 93 rfl rfl (gi_cons 94 rfl rfl (gi_cons 95 rfl rfl (gi_cons 96 rfl rfl (gi_cons 97 rfl rfl (gi_cons 98 rfl rfl (gi_cons 99 rfl rfl (gi_cons 100 rfl rfl (gi_cons 101 rfl rfl (gi_cons 102 rfl rfl (gi_cons 103 rfl rfl (gi_cons 104 rfl rfl (gi_cons 105 rfl rfl (gi_cons 106 rfl rfl (gi_cons 107 rfl rfl (gi_cons 35 rfl rfl (gi_cons 40 rfl rfl (gi_cons 41 rfl rfl (gi_cons 108 rfl rfl (gi_cons 32 rfl rfl (gi_cons 33 rfl rfl (gi_cons 34 rfl rfl (gi_cons 36 rfl rfl (gi_cons 37 rfl rfl (gi_cons 38 rfl rfl (gi_cons 39 rfl rfl (gi_cons 31 rfl rfl (gi_cons 109 rfl rfl (gi_cons 110 rfl rfl (gi_cons 111 rfl rfl (gi_cons 112 rfl rfl (gi_cons 120 rfl rfl (gi_cons 121 rfl rfl (gi_cons 122 rfl rfl (gi_cons 123 rfl rfl (gi_cons 124 rfl rfl (gi_cons 113 rfl rfl (gi_cons 114 rfl rfl (gi_cons 115 rfl rfl (gi_cons 116 rfl rfl (gi_cons 117 rfl rfl (gi_cons 118 rfl rfl (gi_cons 119 rfl rfl gi_nil)))))))))))))))))))))))))))))))))))))))))))))))))))))))))))))))
set_option maxRecDepth 20000 in
theorem gX0_putAll_X0_commit : GoodIn wsX0_putAll (wsV RX0 81 RX0 yX0_commit wsX0_commit) := goodIn_app (goodIn_of _ (by decide +kernel)) ggX0_putAll_X0_commit
set_option maxRecDepth 100000 in
theorem ggX0_putAll_J13_bitCount_95d88 : GoodIn wsX0_putAll wsJ13_bitCount_95d88 := (gi_cons 27 rfl rfl (gi_cons 28 rfl rfl (gi_cons 29 rfl rfl (gi_cons 30 rfl rfl gi_nil))))
set_option maxRecDepth 20000 in
theorem gX0_putAll_J13_bitCount_95d88 : GoodIn wsX0_putAll (va_wsS RX0 63 yJ13_bitCount_95d88 wsJ13_bitCount_95d88) := goodIn_app (goodIn_of _ (by decide +kernel)) ggX0_putAll_J13_bitCount_95d88
theorem dX0_putAll_0 : decode cX0_putAll 0 = .ok (.aload_n 0, 1) := by decide +kernel
theorem dX0_putAll_1 : decode cX0_putAll 1 = .ok (.lload_n 1, 1) := by decide +kernel
theorem dX0_putAll_2 : decode cX0_putAll 2 = .ok (.invokevirtual 69, 3) := by decide +kernel
theorem dX0_putAll_5 : decode cX0_putAll 5 = .ok (.lstore 4, 2) := by decide +kernel
theorem dX0_putAll_7 : decode cX0_putAll 7 = .ok (.lload 4, 2) := by decide +kernel
theorem dX0_putAll_9 : decode cX0_putAll 9 = .ok (.lconst 0, 1) := by decide +kernel
theorem dX0_putAll_10 : decode cX0_putAll 10 = .ok (.lcmp, 1) := by decide +kernel
theorem dX0_putAll_11 : decode cX0_putAll 11 = .ok (.ifCond .eq 12, 3) := by decide +kernel
theorem dX0_putAll_14 : decode cX0_putAll 14 = .ok (.lload 4, 2) := by decide +kernel
theorem dX0_putAll_16 : decode cX0_putAll 16 = .ok (.aload_n 3, 1) := by decide +kernel
theorem dX0_putAll_17 : decode cX0_putAll 17 = .ok (.invokestatic 73, 3) := by decide +kernel
theorem dX0_putAll_20 : decode cX0_putAll 20 = .ok (.ifCond .eq 5, 3) := by decide +kernel
theorem dX0_putAll_23 : decode cX0_putAll 23 = .ok (.iconst (-1), 1) := by decide +kernel
theorem dX0_putAll_24 : decode cX0_putAll 24 = .ok (.ireturn, 1) := by decide +kernel
theorem dX0_putAll_25 : decode cX0_putAll 25 = .ok (.aload_n 0, 1) := by decide +kernel
theorem dX0_putAll_26 : decode cX0_putAll 26 = .ok (.getfield 14, 3) := by decide +kernel
theorem dX0_putAll_29 : decode cX0_putAll 29 = .ok (.aload_n 0, 1) := by decide +kernel
theorem dX0_putAll_30 : decode cX0_putAll 30 = .ok (.getfield 27, 3) := by decide +kernel
theorem dX0_putAll_33 : decode cX0_putAll 33 = .ok (.getfield 44, 3) := by decide +kernel
theorem dX0_putAll_36 : decode cX0_putAll 36 = .ok (.invokevirtual 47, 3) := by decide +kernel
theorem dX0_putAll_39 : decode cX0_putAll 39 = .ok (.bipush 59, 2) := by decide +kernel
theorem dX0_putAll_41 : decode cX0_putAll 41 = .ok (.istore 6, 2) := by decide +kernel
theorem dX0_putAll_43 : decode cX0_putAll 43 = .ok (.iload 6, 2) := by decide +kernel
theorem dX0_putAll_45 : decode cX0_putAll 45 = .ok (.ifCond .lt 35, 3) := by decide +kernel
theorem dX0_putAll_48 : decode cX0_putAll 48 = .ok (.lload 4, 2) := by decide +kernel
theorem dX0_putAll_50 : decode cX0_putAll 50 = .ok (.iload 6, 2) := by decide +kernel
theorem dX0_putAll_52 : decode cX0_putAll 52 = .ok (.invokestatic 51, 3) := by decide +kernel
theorem dX0_putAll_55 : decode cX0_putAll 55 = .ok (.ifCond .eq 19, 3) := by decide +kernel
theorem dX0_putAll_58 : decode cX0_putAll 58 = .ok (.aload_n 0, 1) := by decide +kernel
theorem dX0_putAll_59 : decode cX0_putAll 59 = .ok (.getfield 14, 3) := by decide +kernel
theorem dX0_putAll_62 : decode cX0_putAll 62 = .ok (.iload 6, 2) := by decide +kernel
theorem dX0_putAll_64 : decode cX0_putAll 64 = .ok (.aload_n 3, 1) := by decide +kernel
theorem dX0_putAll_65 : decode cX0_putAll 65 = .ok (.iconst 0, 1) := by decide +kernel
theorem dX0_putAll_66 : decode cX0_putAll 66 = .ok (.invokevirtual 77, 3) := by decide +kernel
theorem dX0_putAll_69 : decode cX0_putAll 69 = .ok (.ifCond .ne 5, 3) := by decide +kernel
theorem dX0_putAll_72 : decode cX0_putAll 72 = .ok (.iconst (-1), 1) := by decide +kernel
theorem dX0_putAll_73 : decode cX0_putAll 73 = .ok (.ireturn, 1) := by decide +kernel
theorem dX0_putAll_74 : decode cX0_putAll 74 = .ok (.iinc 6 (-1), 3) := by decide +kernel
theorem dX0_putAll_77 : decode cX0_putAll 77 = .ok (.goto (-34), 3) := by decide +kernel
theorem dX0_putAll_80 : decode cX0_putAll 80 = .ok (.aload_n 0, 1) := by decide +kernel
theorem dX0_putAll_81 : decode cX0_putAll 81 = .ok (.invokevirtual 81, 3) := by decide +kernel
theorem dX0_putAll_84 : decode cX0_putAll 84 = .ok (.ifCond .eq 11, 3) := by decide +kernel
theorem dX0_putAll_87 : decode cX0_putAll 87 = .ok (.lload 4, 2) := by decide +kernel
theorem dX0_putAll_89 : decode cX0_putAll 89 = .ok (.invokestatic 63, 3) := by decide +kernel
theorem dX0_putAll_92 : decode cX0_putAll 92 = .ok (.goto 4, 3) := by decide +kernel
theorem dX0_putAll_95 : decode cX0_putAll 95 = .ok (.iconst (-1), 1) := by decide +kernel
theorem dX0_putAll_96 : decode cX0_putAll 96 = .ok (.ireturn, 1) := by decide +kernel
set_option maxRecDepth 100000 in
theorem ggX0_appendAll_X0_ofKind : GoodIn wsX0_appendAll wsX0_ofKind := (gi_cons 7 rfl rfl (gi_cons 2 rfl rfl (gi_cons 8 rfl rfl (gi_cons 9 rfl rfl (gi_cons 10 rfl rfl (gi_cons 11 rfl rfl (gi_cons 12 rfl rfl (gi_cons 13 rfl rfl (gi_cons 14 rfl rfl (gi_cons 15 rfl rfl (gi_cons 16 rfl rfl (gi_cons 17 rfl rfl (gi_cons 18 rfl rfl (gi_cons 19 rfl rfl (gi_cons 20 rfl rfl (gi_cons 100 rfl rfl (gi_cons 101 rfl rfl (gi_cons 102 rfl rfl (gi_cons 103 rfl rfl (gi_cons 104 rfl rfl (gi_cons 105 rfl rfl (gi_cons 106 rfl rfl (gi_cons 107 rfl rfl (gi_cons 108 rfl rfl (gi_cons 109 rfl rfl (gi_cons 110 rfl rfl (gi_cons 111 rfl rfl (gi_cons 112 rfl rfl (gi_cons 113 rfl rfl (gi_cons 114 rfl rfl (gi_cons 115 rfl rfl gi_nil)))))))))))))))))))))))))))))))
set_option maxRecDepth 20000 in
theorem gX0_appendAll_X0_ofKind : GoodIn wsX0_appendAll (wsV RX0 88 RX0 yX0_ofKind wsX0_ofKind) := goodIn_app (goodIn_of _ (by decide +kernel)) ggX0_appendAll_X0_ofKind
set_option maxRecDepth 100000 in
theorem ggX0_appendAll_X0_tooManyCopies : GoodIn wsX0_appendAll wsX0_tooManyCopies := (gi_cons 23 rfl rfl (gi_cons 24 rfl rfl (gi_cons 25 rfl rfl (gi_cons 26 rfl rfl (gi_cons 27 rfl rfl (gi_cons 28 rfl rfl (gi_cons 29 rfl rfl (gi_cons 30 rfl rfl (gi_cons 111 rfl rfl (gi_cons 112 rfl rfl (gi_cons 113 rfl rfl (gi_cons 114 rfl rfl (gi_cons 115 rfl rfl gi_nil)))))))))))))
set_option maxRecDepth 20000 in
theorem gX0_appendAll_X0_tooManyCopies : GoodIn wsX0_appendAll (va_wsS RX0 73 yX0_tooManyCopies wsX0_tooManyCopies) := goodIn_app (goodIn_of _ (by decide +kernel)) ggX0_appendAll_X0_tooManyCopies
set_option maxRecDepth 100000 in
theorem ggX0_appendAll_X9_become : GoodIn wsX0_appendAll wsX9_become := (gi_cons 34 rfl rfl (gi_cons 19 rfl rfl (gi_cons 20 rfl rfl (gi_cons 35 rfl rfl (gi_cons 36 rfl rfl (gi_cons 37 rfl rfl (gi_cons 38 rfl rfl (gi_cons 39 rfl rfl (gi_cons 40 rfl rfl (gi_cons 41 rfl rfl (gi_cons 111 rfl rfl (gi_cons 112 rfl rfl (gi_cons 113 rfl rfl (gi_cons 114 rfl rfl (gi_cons 115 rfl rfl gi_nil)))))))))))))))
set_option maxRecDepth 20000 in
theorem gX0_appendAll_X9_become : GoodIn wsX0_appendAll (wsV RX0 47 RX9 yX9_become wsX9_become) := goodIn_app (goodIn_of _ (by decide +kernel)) ggX0_appendAll_X9_become
set_option maxRecDepth 100000 in
theorem ggX0_appendAll_X10_isIn : GoodIn wsX0_appendAll wsX10_isIn := (gi_cons 10 rfl rfl (gi_cons 11 rfl rfl (gi_cons 12 rfl rfl (gi_cons 9 rfl rfl (gi_cons 13 rfl rfl gi_nil)))))
set_option maxRecDepth 20000 in
theorem gX0_appendAll_X10_isIn_n51 : GoodIn wsX0_appendAll (wsX10_isIn) := ggX0_appendAll_X10_isIn
set_option maxRecDepth 100000 in
theorem ggX0_appendAll_X9_graftBehindAll : GoodIn wsX0_appendAll wsX9_graftBehindAll := (gi_cons 45 rfl rfl (gi_cons 46 rfl rfl (gi_cons 47 rfl rfl (gi_cons 48 rfl rfl (gi_cons 17 rfl rfl (gi_cons 49 rfl rfl (gi_cons 19 rfl rfl (gi_cons 20 rfl rfl (gi_cons 50 rfl rfl (gi_cons 51 rfl rfl (gi_cons 52 rfl rfl (gi_cons 53 rfl rfl (gi_cons 41 rfl rfl (gi_cons 54 rfl rfl (gi_cons 55 rfl rfl (gi_cons 56 rfl rfl (gi_cons 57 rfl rfl (gi_cons 58 rfl rfl (gi_cons 59 rfl rfl (gi_cons 60 rfl rfl (gi_cons 61 rfl rfl (gi_cons 40 rfl rfl (gi_cons 62 rfl rfl (gi_cons 63 rfl rfl (gi_cons 64 rfl rfl (gi_cons 65 rfl rfl (gi_cons 35 rfl rfl (gi_cons 36 rfl rfl (gi_cons 37 rfl rfl (gi_cons 38 rfl rfl (gi_cons 39 rfl rfl (gi_cons 111 rfl rfl (gi_cons 112 rfl rfl (gi_cons 113 rfl rfl (gi_cons 114 rfl rfl (gi_cons 115 rfl rfl gi_nil))))))))))))))))))))))))))))))))))))
set_option maxRecDepth 20000 in
theorem gX0_appendAll_X9_graftBehindAll : GoodIn wsX0_appendAll (wsV RX0 92 RX9 yX9_graftBehindAll wsX9_graftBehindAll) := goodIn_app (goodIn_of _ (by decide +kernel)) ggX0_appendAll_X9_graftBehindAll
set_option maxRecDepth 100000 in
theorem ggX0_appendAll_X0_commit : GoodIn wsX0_appendAll wsX0_commit := (gi_cons 69 rfl rfl (gi_cons 1 rfl rfl (gi_cons 2 rfl rfl (gi_cons 70 rfl rfl (gi_cons 71 rfl rfl (gi_cons 72 rfl rfl (gi_cons 17 rfl rfl (gi_cons 73 rfl rfl (gi_cons 19 rfl rfl (gi_cons 41 rfl rfl (gi_cons 74 rfl rfl (gi_cons 75 rfl rfl (gi_cons 76 rfl rfl (gi_cons 77 rfl rfl (gi_cons 78 rfl rfl (gi_cons 79 rfl rfl (gi_cons 80 rfl rfl (gi_cons 81 rfl rfl (gi_cons 82 rfl rfl (gi_cons 83 rfl rfl (gi_cons 84 rfl rfl (gi_cons 85 rfl rfl (gi_cons 86 rfl rfl (gi_cons 87 rfl rfl (gi_cons 88 rfl rfl (gi_cons 89 rfl rfl (gi_cons 90 rfl rfl (gi_cons 91 rfl rfl (gi_cons 92 rfl rfl (gi_cons 93 rfl rfl (gi_cons 94 rfl rfl (gi_cons 95 rfl rfl (gi_cons 96 rfl rfl (gi_cons 97 rfl rfl (gi_cons 98 rfl rfl (gi_cons 20 rfl rfl (gi_cons 39 rfl rfl (gi_cons 40 rfl rfl (gi_cons 99 rfl rfl (gi_cons 32 rfl rfl (gi_cons 33 rfl rfl (gi_cons 34 rfl rfl (gi_cons 35 rfl rfl (gi_cons 36 rfl rfl (gi_cons 37 rfl rfl (gi_cons 38 rfl rfl (gi_cons 31 rfl rfl (gi_cons 100 rfl rfl (gi_cons 101 rfl rfl (gi_cons 102 rfl rfl (gi_cons 103 rfl rfl (gi_cons 111 rfl rfl (gi_cons 112 rfl rfl (gi_cons 113 rfl rfl (gi_cons 114 rfl rfl (gi_cons 115 rfl rfl (gi_cons 104 rfl rfl (gi_cons 105 rfl rfl (gi_cons 106 rfl rfl (gi_cons 107 rfl rfl (gi_cons 108 rfl rfl (gi_cons 109 rfl rfl (gi_cons 110 rfl rfl gi_nil)))))))))))))))))))))))))))))))))))))))))))))))))))))))))))))))
set_option maxRecDepth 20000 in
theorem gX0_appendAll_X0_commit : GoodIn wsX0_appendAll (wsV RX0 81 RX0 yX0_commit wsX0_commit) := goodIn_app (goodIn_of _ (by decide +kernel)) ggX0_appendAll_X0_commit
set_option maxRecDepth 100000 in
theorem ggX0_appendAll_J13_bitCount_95d88 : GoodIn wsX0_appendAll wsJ13_bitCount_95d88 := (gi_cons 27 rfl rfl (gi_cons 28 rfl rfl (gi_cons 29 rfl rfl (gi_cons 30 rfl rfl gi_nil))))
set_option maxRecDepth 20000 in
theorem gX0_appendAll_J13_bitCount_95d88 : GoodIn wsX0_appendAll (va_wsS RX0 63 yJ13_bitCount_95d88 wsJ13_bitCount_95d88) := goodIn_app (goodIn_of _ (by decide +kernel)) ggX0_appendAll_J13_bitCount_95d88
theorem dX0_appendAll_0 : decode cX0_appendAll 0 = .ok (.aload_n 0, 1) := by decide +kernel
theorem dX0_appendAll_1 : decode cX0_appendAll 1 = .ok (.lload_n 1, 1) := by decide +kernel
theorem dX0_appendAll_2 : decode cX0_appendAll 2 = .ok (.iconst 2, 1) := by decide +kernel
theorem dX0_appendAll_3 : decode cX0_appendAll 3 = .ok (.invokevirtual 88, 3) := by decide +kernel
theorem dX0_appendAll_6 : decode cX0_appendAll 6 = .ok (.lstore 4, 2) := by decide +kernel
theorem dX0_appendAll_8 : decode cX0_appendAll 8 = .ok (.lload 4, 2) := by decide +kernel
theorem dX0_appendAll_10 : decode cX0_appendAll 10 = .ok (.lconst 0, 1) := by decide +kernel
theorem dX0_appendAll_11 : decode cX0_appendAll 11 = .ok (.lcmp, 1) := by decide +kernel
theorem dX0_appendAll_12 : decode cX0_appendAll 12 = .ok (.ifCond .eq 12, 3) := by decide +kernel
theorem dX0_appendAll_15 : decode cX0_appendAll 15 = .ok (.lload 4, 2) := by decide +kernel
theorem dX0_appendAll_17 : decode cX0_appendAll 17 = .ok (.aload_n 3, 1) := by decide +kernel
theorem dX0_appendAll_18 : decode cX0_appendAll 18 = .ok (.invokestatic 73, 3) := by decide +kernel
theorem dX0_appendAll_21 : decode cX0_appendAll 21 = .ok (.ifCond .eq 5, 3) := by decide +kernel
theorem dX0_appendAll_24 : decode cX0_appendAll 24 = .ok (.iconst (-1), 1) := by decide +kernel
theorem dX0_appendAll_25 : decode cX0_appendAll 25 = .ok (.ireturn, 1) := by decide +kernel
theorem dX0_appendAll_26 : decode cX0_appendAll 26 = .ok (.aload_n 0, 1) := by decide +kernel
theorem dX0_appendAll_27 : decode cX0_appendAll 27 = .ok (.getfield 14, 3) := by decide +kernel
theorem dX0_appendAll_30 : decode cX0_appendAll 30 = .ok (.aload_n 0, 1) := by decide +kernel
theorem dX0_appendAll_31 : decode cX0_appendAll 31 = .ok (.getfield 27, 3) := by decide +kernel
theorem dX0_appendAll_34 : decode cX0_appendAll 34 = .ok (.getfield 44, 3) := by decide +kernel
theorem dX0_appendAll_37 : decode cX0_appendAll 37 = .ok (.invokevirtual 47, 3) := by decide +kernel
theorem dX0_appendAll_40 : decode cX0_appendAll 40 = .ok (.bipush 59, 2) := by decide +kernel
theorem dX0_appendAll_42 : decode cX0_appendAll 42 = .ok (.istore 6, 2) := by decide +kernel
theorem dX0_appendAll_44 : decode cX0_appendAll 44 = .ok (.iload 6, 2) := by decide +kernel
theorem dX0_appendAll_46 : decode cX0_appendAll 46 = .ok (.ifCond .lt 36, 3) := by decide +kernel
theorem dX0_appendAll_49 : decode cX0_appendAll 49 = .ok (.lload 4, 2) := by decide +kernel
theorem dX0_appendAll_51 : decode cX0_appendAll 51 = .ok (.iload 6, 2) := by decide +kernel
theorem dX0_appendAll_53 : decode cX0_appendAll 53 = .ok (.invokestatic 51, 3) := by decide +kernel
theorem dX0_appendAll_56 : decode cX0_appendAll 56 = .ok (.ifCond .eq 20, 3) := by decide +kernel
theorem dX0_appendAll_59 : decode cX0_appendAll 59 = .ok (.aload_n 0, 1) := by decide +kernel
theorem dX0_appendAll_60 : decode cX0_appendAll 60 = .ok (.getfield 14, 3) := by decide +kernel
theorem dX0_appendAll_63 : decode cX0_appendAll 63 = .ok (.iload 6, 2) := by decide +kernel
theorem dX0_appendAll_65 : decode cX0_appendAll 65 = .ok (.iconst 0, 1) := by decide +kernel
theorem dX0_appendAll_66 : decode cX0_appendAll 66 = .ok (.aload_n 3, 1) := by decide +kernel
theorem dX0_appendAll_67 : decode cX0_appendAll 67 = .ok (.iconst 0, 1) := by decide +kernel
theorem dX0_appendAll_68 : decode cX0_appendAll 68 = .ok (.invokevirtual 92, 3) := by decide +kernel
theorem dX0_appendAll_71 : decode cX0_appendAll 71 = .ok (.ifCond .ne 5, 3) := by decide +kernel
theorem dX0_appendAll_74 : decode cX0_appendAll 74 = .ok (.iconst (-1), 1) := by decide +kernel
theorem dX0_appendAll_75 : decode cX0_appendAll 75 = .ok (.ireturn, 1) := by decide +kernel
theorem dX0_appendAll_76 : decode cX0_appendAll 76 = .ok (.iinc 6 (-1), 3) := by decide +kernel
theorem dX0_appendAll_79 : decode cX0_appendAll 79 = .ok (.goto (-35), 3) := by decide +kernel
theorem dX0_appendAll_82 : decode cX0_appendAll 82 = .ok (.aload_n 0, 1) := by decide +kernel
theorem dX0_appendAll_83 : decode cX0_appendAll 83 = .ok (.invokevirtual 81, 3) := by decide +kernel
theorem dX0_appendAll_86 : decode cX0_appendAll 86 = .ok (.ifCond .eq 11, 3) := by decide +kernel
theorem dX0_appendAll_89 : decode cX0_appendAll 89 = .ok (.lload 4, 2) := by decide +kernel
theorem dX0_appendAll_91 : decode cX0_appendAll 91 = .ok (.invokestatic 63, 3) := by decide +kernel
theorem dX0_appendAll_94 : decode cX0_appendAll 94 = .ok (.goto 4, 3) := by decide +kernel
theorem dX0_appendAll_97 : decode cX0_appendAll 97 = .ok (.iconst (-1), 1) := by decide +kernel
theorem dX0_appendAll_98 : decode cX0_appendAll 98 = .ok (.ireturn, 1) := by decide +kernel
set_option maxRecDepth 100000 in
theorem ggX0_keyAll_X0_ofKind : GoodIn wsX0_keyAll wsX0_ofKind := (gi_cons 8 rfl rfl (gi_cons 3 rfl rfl (gi_cons 9 rfl rfl (gi_cons 10 rfl rfl (gi_cons 11 rfl rfl (gi_cons 12 rfl rfl (gi_cons 13 rfl rfl (gi_cons 14 rfl rfl (gi_cons 15 rfl rfl (gi_cons 16 rfl rfl (gi_cons 17 rfl rfl (gi_cons 18 rfl rfl (gi_cons 19 rfl rfl (gi_cons 20 rfl rfl (gi_cons 21 rfl rfl (gi_cons 131 rfl rfl (gi_cons 132 rfl rfl (gi_cons 133 rfl rfl (gi_cons 134 rfl rfl (gi_cons 135 rfl rfl (gi_cons 136 rfl rfl (gi_cons 137 rfl rfl (gi_cons 138 rfl rfl (gi_cons 139 rfl rfl (gi_cons 140 rfl rfl (gi_cons 141 rfl rfl (gi_cons 142 rfl rfl (gi_cons 143 rfl rfl (gi_cons 144 rfl rfl (gi_cons 145 rfl rfl (gi_cons 146 rfl rfl gi_nil)))))))))))))))))))))))))))))))
set_option maxRecDepth 20000 in
theorem gX0_keyAll_X0_ofKind : GoodIn wsX0_keyAll (wsV RX0 88 RX0 yX0_ofKind wsX0_ofKind) := goodIn_app (goodIn_of _ (by decide +kernel)) ggX0_keyAll_X0_ofKind
set_option maxRecDepth 100000 in
theorem ggX0_keyAll_X0_replacedByKey : GoodIn wsX0_keyAll wsX0_replacedByKey := (gi_cons 25 rfl rfl (gi_cons 3 rfl rfl (gi_cons 26 rfl rfl (gi_cons 27 rfl rfl (gi_cons 28 rfl rfl (gi_cons 29 rfl rfl (gi_cons 9 rfl rfl (gi_cons 10 rfl rfl (gi_cons 11 rfl rfl (gi_cons 12 rfl rfl (gi_cons 13 rfl rfl (gi_cons 14 rfl rfl (gi_cons 30 rfl rfl (gi_cons 31 rfl rfl (gi_cons 32 rfl rfl (gi_cons 18 rfl rfl (gi_cons 33 rfl rfl (gi_cons 20 rfl rfl (gi_cons 21 rfl rfl (gi_cons 34 rfl rfl (gi_cons 35 rfl rfl (gi_cons 36 rfl rfl (gi_cons 37 rfl rfl (gi_cons 38 rfl rfl (gi_cons 39 rfl rfl (gi_cons 131 rfl rfl (gi_cons 132 rfl rfl (gi_cons 133 rfl rfl (gi_cons 134 rfl rfl (gi_cons 135 rfl rfl (gi_cons 136 rfl rfl (gi_cons 137 rfl rfl (gi_cons 138 rfl rfl (gi_cons 139 rfl rfl (gi_cons 140 rfl rfl (gi_cons 141 rfl rfl (gi_cons 142 rfl rfl (gi_cons 143 rfl rfl (gi_cons 144 rfl rfl (gi_cons 145 rfl rfl (gi_cons 146 rfl rfl gi_nil)))))))))))))))))))))))))))))))))))))))))
set_option maxRecDepth 20000 in
theorem gX0_keyAll_X0_replacedByKey : GoodIn wsX0_keyAll (wsV RX0 96 RX0 yX0_replacedByKey wsX0_replacedByKey) := goodIn_app (goodIn_of _ (by decide +kernel)) ggX0_keyAll_X0_replacedByKey
set_option maxRecDepth 100000 in
theorem ggX0_keyAll_X0_tooManyCopies : GoodIn wsX0_keyAll wsX0_tooManyCopies := (gi_cons 42 rfl rfl (gi_cons 43 rfl rfl (gi_cons 44 rfl rfl (gi_cons 45 rfl rfl (gi_cons 46 rfl rfl (gi_cons 47 rfl rfl (gi_cons 48 rfl rfl (gi_cons 49 rfl rfl (gi_cons 142 rfl rfl (gi_cons 143 rfl rfl (gi_cons 144 rfl rfl (gi_cons 145 rfl rfl (gi_cons 146 rfl rfl gi_nil)))))))))))))
set_option maxRecDepth 20000 in
theorem gX0_keyAll_X0_tooManyCopies : GoodIn wsX0_keyAll (va_wsS RX0 73 yX0_tooManyCopies wsX0_tooManyCopies) := goodIn_app (goodIn_of _ (by decide +kernel)) ggX0_keyAll_X0_tooManyCopies
set_option maxRecDepth 100000 in
theorem ggX0_keyAll_X9_become : GoodIn wsX0_keyAll wsX9_become := (gi_cons 53 rfl rfl (gi_cons 20 rfl rfl (gi_cons 21 rfl rfl (gi_cons 54 rfl rfl (gi_cons 55 rfl rfl (gi_cons 56 rfl rfl (gi_cons 57 rfl rfl (gi_cons 58 rfl rfl (gi_cons 35 rfl rfl (gi_cons 34 rfl rfl (gi_cons 142 rfl rfl (gi_cons 143 rfl rfl (gi_cons 144 rfl rfl (gi_cons 145 rfl rfl (gi_cons 146 rfl rfl gi_nil)))))))))))))))
set_option maxRecDepth 20000 in
theorem gX0_keyAll_X9_become : GoodIn wsX0_keyAll (wsV RX0 47 RX9 yX9_become wsX9_become) := goodIn_app (goodIn_of _ (by decide +kernel)) ggX0_keyAll_X9_become
set_option maxRecDepth 100000 in
theorem ggX0_keyAll_X10_isIn : GoodIn wsX0_keyAll wsX10_isIn := (gi_cons 11 rfl rfl (gi_cons 12 rfl rfl (gi_cons 13 rfl rfl (gi_cons 10 rfl rfl (gi_cons 14 rfl rfl gi_nil)))))
set_option maxRecDepth 20000 in
theorem gX0_keyAll_X10_isIn_n51 : GoodIn wsX0_keyAll (wsX10_isIn) := ggX0_keyAll_X10_isIn
set_option maxRecDepth 100000 in
theorem ggX0_keyAll_X0_setByKey : GoodIn wsX0_keyAll wsX0_setByKey := (gi_cons 62 rfl rfl (gi_cons 2 rfl rfl (gi_cons 30 rfl rfl (gi_cons 31 rfl rfl (gi_cons 32 rfl rfl (gi_cons 18 rfl rfl (gi_cons 33 rfl rfl (gi_cons 20 rfl rfl (gi_cons 21 rfl rfl (gi_cons 34 rfl rfl (gi_cons 35 rfl rfl (gi_cons 63 rfl rfl (gi_cons 64 rfl rfl (gi_cons 65 rfl rfl (gi_cons 66 rfl rfl (gi_cons 67 rfl rfl (gi_cons 68 rfl rfl (gi_cons 69 rfl rfl (gi_cons 70 rfl rfl (gi_cons 71 rfl rfl (gi_cons 37 rfl rfl (gi_cons 38 rfl rfl (gi_cons 39 rfl rfl (gi_cons 72 rfl rfl (gi_cons 73 rfl rfl (gi_cons 74 rfl rfl (gi_cons 75 rfl rfl (gi_cons 76 rfl rfl (gi_cons 77 rfl rfl (gi_cons 78 rfl rfl (gi_cons 79 rfl rfl (gi_cons 80 rfl rfl (gi_cons 81 rfl rfl (gi_cons 82 rfl rfl (gi_cons 83 rfl rfl (gi_cons 54 rfl rfl (gi_cons 55 rfl rfl (gi_cons 56 rfl rfl (gi_cons 57 rfl rfl (gi_cons 58 rfl rfl (gi_cons 84 rfl rfl (gi_cons 85 rfl rfl (gi_cons 86 rfl rfl (gi_cons 87 rfl rfl (gi_cons 88 rfl rfl (gi_cons 89 rfl rfl (gi_cons 90 rfl rfl (gi_cons 91 rfl rfl (gi_cons 92 rfl rfl (gi_cons 93 rfl rfl (gi_cons 94 rfl rfl (gi_cons 95 rfl rfl (gi_cons 96 rfl rfl (gi_cons 97 rfl rfl (gi_cons 98 rfl rfl (gi_cons 99 rfl rfl (gi_cons 131 rfl rfl (gi_cons 132 rfl rfl (gi_cons 133 rfl rfl (gi_cons 134 rfl rfl (gi_cons 142 rfl rfl (gi_cons 143 rfl rfl (gi_cons 144 rfl rfl (gi_cons 145 rfl rfl (gi_cons 146 rfl rfl gi_nil)))))))))))))))))))))))))))))))))))))))))))))))))))))))))))))))))
set_option maxRecDepth 20000 in
theorem gX0_keyAll_X0_setByKey : GoodIn wsX0_keyAll (wsV RX0 101 RX0 yX0_setByKey wsX0_setByKey) := goodIn_app (goodIn_of _ (by decide +kernel)) ggX0_keyAll_X0_setByKey
set_option maxRecDepth 100000 in
theorem ggX0_keyAll_X0_commit : GoodIn wsX0_keyAll wsX0_commit := (gi_cons 103 rfl rfl (gi_cons 2 rfl rfl (gi_cons 3 rfl rfl (gi_cons 104 rfl rfl (gi_cons 105 rfl rfl (gi_cons 106 rfl rfl (gi_cons 18 rfl rfl (gi_cons 107 rfl rfl (gi_cons 20 rfl rfl (gi_cons 34 rfl rfl (gi_cons 108 rfl rfl (gi_cons 27 rfl rfl (gi_cons 28 rfl rfl (gi_cons 29 rfl rfl (gi_cons 109 rfl rfl (gi_cons 110 rfl rfl (gi_cons 111 rfl rfl (gi_cons 112 rfl rfl (gi_cons 113 rfl rfl (gi_cons 114 rfl rfl (gi_cons 115 rfl rfl (gi_cons 116 rfl rfl (gi_cons 117 rfl rfl (gi_cons 118 rfl rfl (gi_cons 119 rfl rfl (gi_cons 120 rfl rfl (gi_cons 121 rfl rfl (gi_cons 122 rfl rfl (gi_cons 123 rfl rfl (gi_cons 124 rfl rfl (gi_cons 125 rfl rfl (gi_cons 126 rfl rfl (gi_cons 127 rfl rfl (gi_cons 128 rfl rfl (gi_cons 129 rfl rfl (gi_cons 21 rfl rfl (gi_cons 58 rfl rfl (gi_cons 35 rfl rfl (gi_cons 130 rfl rfl (gi_cons 51 rfl rfl (gi_cons 52 rfl rfl (gi_cons 53 rfl rfl (gi_cons 54 rfl rfl (gi_cons 55 rfl rfl (gi_cons 56 rfl rfl (gi_cons 57 rfl rfl (gi_cons 50 rfl rfl (gi_cons 131 rfl rfl (gi_cons 132 rfl rfl (gi_cons 133 rfl rfl (gi_cons 134 rfl rfl (gi_cons 142 rfl rfl (gi_cons 143 rfl rfl (gi_cons 144 rfl rfl (gi_cons 145 rfl rfl (gi_cons 146 rfl rfl (gi_cons 135 rfl rfl (gi_cons 136 rfl rfl (gi_cons 137 rfl rfl (gi_cons 138 rfl rfl (gi_cons 139 rfl rfl (gi_cons 140 rfl rfl (gi_cons 141 rfl rfl gi_nil)))))))))))))))))))))))))))))))))))))))))))))))))))))))))))))))
set_option maxRecDepth 20000 in
theorem gX0_keyAll_X0_commit : GoodIn wsX0_keyAll (wsV RX0 81 RX0 yX0_commit wsX0_commit) := goodIn_app (goodIn_of _ (by decide +kernel)) ggX0_keyAll_X0_commit
set_option maxRecDepth 100000 in
theorem ggX0_keyAll_J13_bitCount_95d88 : GoodIn wsX0_keyAll wsJ13_bitCount_95d88 := (gi_cons 46 rfl rfl (gi_cons 47 rfl rfl (gi_cons 48 rfl rfl (gi_cons 49 rfl rfl gi_nil))))
set_option maxRecDepth 20000 in
theorem gX0_keyAll_J13_bitCount_95d88 : GoodIn wsX0_keyAll (va_wsS RX0 63 yJ13_bitCount_95d88 wsJ13_bitCount_95d88) := goodIn_app (goodIn_of _ (by decide +kernel)) ggX0_keyAll_J13_bitCount_95d88
theorem dX0_keyAll_0 : decode cX0_keyAll 0 = .ok (.aload_n 0, 1) := by decide +kernel
theorem dX0_keyAll_1 : decode cX0_keyAll 1 = .ok (.lload_n 1, 1) := by decide +kernel
theorem dX0_keyAll_2 : decode cX0_keyAll 2 = .ok (.iconst 3, 1) := by decide +kernel
theorem dX0_keyAll_3 : decode cX0_keyAll 3 = .ok (.invokevirtual 88, 3) := by decide +kernel
theorem dX0_keyAll_6 : decode cX0_keyAll 6 = .ok (.lstore 5, 2) := by decide +kernel
theorem dX0_keyAll_8 : decode cX0_keyAll 8 = .ok (.lload 5, 2) := by decide +kernel
theorem dX0_keyAll_10 : decode cX0_keyAll 10 = .ok (.aload_n 0, 1) := by decide +kernel
theorem dX0_keyAll_11 : decode cX0_keyAll 11 = .ok (.lload 5, 2) := by decide +kernel
theorem dX0_keyAll_13 : decode cX0_keyAll 13 = .ok (.iload_n 3, 1) := by decide +kernel
theorem dX0_keyAll_14 : decode cX0_keyAll 14 = .ok (.invokevirtual 96, 3) := by decide +kernel
theorem dX0_keyAll_17 : decode cX0_keyAll 17 = .ok (.ldc2_w 99, 3) := by decide +kernel
theorem dX0_keyAll_20 : decode cX0_keyAll 20 = .ok (.lxor, 1) := by decide +kernel
theorem dX0_keyAll_21 : decode cX0_keyAll 21 = .ok (.land, 1) := by decide +kernel
theorem dX0_keyAll_22 : decode cX0_keyAll 22 = .ok (.lstore 7, 2) := by decide +kernel
theorem dX0_keyAll_24 : decode cX0_keyAll 24 = .ok (.lload 5, 2) := by decide +kernel
theorem dX0_keyAll_26 : decode cX0_keyAll 26 = .ok (.lconst 0, 1) := by decide +kernel
theorem dX0_keyAll_27 : decode cX0_keyAll 27 = .ok (.lcmp, 1) := by decide +kernel
theorem dX0_keyAll_28 : decode cX0_keyAll 28 = .ok (.ifCond .eq 13, 3) := by decide +kernel
theorem dX0_keyAll_31 : decode cX0_keyAll 31 = .ok (.lload 7, 2) := by decide +kernel
theorem dX0_keyAll_33 : decode cX0_keyAll 33 = .ok (.aload 4, 2) := by decide +kernel
theorem dX0_keyAll_35 : decode cX0_keyAll 35 = .ok (.invokestatic 73, 3) := by decide +kernel
theorem dX0_keyAll_38 : decode cX0_keyAll 38 = .ok (.ifCond .eq 5, 3) := by decide +kernel
theorem dX0_keyAll_41 : decode cX0_keyAll 41 = .ok (.iconst (-1), 1) := by decide +kernel
theorem dX0_keyAll_42 : decode cX0_keyAll 42 = .ok (.ireturn, 1) := by decide +kernel
theorem dX0_keyAll_43 : decode cX0_keyAll 43 = .ok (.aload_n 0, 1) := by decide +kernel
theorem dX0_keyAll_44 : decode cX0_keyAll 44 = .ok (.getfield 14, 3) := by decide +kernel
theorem dX0_keyAll_47 : decode cX0_keyAll 47 = .ok (.aload_n 0, 1) := by decide +kernel
theorem dX0_keyAll_48 : decode cX0_keyAll 48 = .ok (.getfield 27, 3) := by decide +kernel
theorem dX0_keyAll_51 : decode cX0_keyAll 51 = .ok (.getfield 44, 3) := by decide +kernel
theorem dX0_keyAll_54 : decode cX0_keyAll 54 = .ok (.invokevirtual 47, 3) := by decide +kernel
theorem dX0_keyAll_57 : decode cX0_keyAll 57 = .ok (.bipush 59, 2) := by decide +kernel
theorem dX0_keyAll_59 : decode cX0_keyAll 59 = .ok (.istore 9, 2) := by decide +kernel
theorem dX0_keyAll_61 : decode cX0_keyAll 61 = .ok (.iload 9, 2) := by decide +kernel
theorem dX0_keyAll_63 : decode cX0_keyAll 63 = .ok (.ifCond .lt 33, 3) := by decide +kernel
theorem dX0_keyAll_66 : decode cX0_keyAll 66 = .ok (.lload 7, 2) := by decide +kernel
theorem dX0_keyAll_68 : decode cX0_keyAll 68 = .ok (.iload 9, 2) := by decide +kernel
theorem dX0_keyAll_70 : decode cX0_keyAll 70 = .ok (.invokestatic 51, 3) := by decide +kernel
theorem dX0_keyAll_73 : decode cX0_keyAll 73 = .ok (.ifCond .eq 17, 3) := by decide +kernel
theorem dX0_keyAll_76 : decode cX0_keyAll 76 = .ok (.aload_n 0, 1) := by decide +kernel
theorem dX0_keyAll_77 : decode cX0_keyAll 77 = .ok (.iload 9, 2) := by decide +kernel
theorem dX0_keyAll_79 : decode cX0_keyAll 79 = .ok (.iload_n 3, 1) := by decide +kernel
theorem dX0_keyAll_80 : decode cX0_keyAll 80 = .ok (.aload 4, 2) := by decide +kernel
theorem dX0_keyAll_82 : decode cX0_keyAll 82 = .ok (.invokevirtual 101, 3) := by decide +kernel
theorem dX0_keyAll_85 : decode cX0_keyAll 85 = .ok (.ifCond .ne 5, 3) := by decide +kernel
theorem dX0_keyAll_88 : decode cX0_keyAll 88 = .ok (.iconst (-1), 1) := by decide +kernel
theorem dX0_keyAll_89 : decode cX0_keyAll 89 = .ok (.ireturn, 1) := by decide +kernel
theorem dX0_keyAll_90 : decode cX0_keyAll 90 = .ok (.iinc 9 (-1), 3) := by decide +kernel
theorem dX0_keyAll_93 : decode cX0_keyAll 93 = .ok (.goto (-32), 3) := by decide +kernel
theorem dX0_keyAll_96 : decode cX0_keyAll 96 = .ok (.aload_n 0, 1) := by decide +kernel
theorem dX0_keyAll_97 : decode cX0_keyAll 97 = .ok (.invokevirtual 81, 3) := by decide +kernel
theorem dX0_keyAll_100 : decode cX0_keyAll 100 = .ok (.ifCond .eq 11, 3) := by decide +kernel
theorem dX0_keyAll_103 : decode cX0_keyAll 103 = .ok (.lload 5, 2) := by decide +kernel
theorem dX0_keyAll_105 : decode cX0_keyAll 105 = .ok (.invokestatic 63, 3) := by decide +kernel
theorem dX0_keyAll_108 : decode cX0_keyAll 108 = .ok (.goto 4, 3) := by decide +kernel
theorem dX0_keyAll_111 : decode cX0_keyAll 111 = .ok (.iconst (-1), 1) := by decide +kernel
theorem dX0_keyAll_112 : decode cX0_keyAll 112 = .ok (.ireturn, 1) := by decide +kernel
set_option maxRecDepth 100000 in
theorem ggX0_addAll_X0_ofKind : GoodIn wsX0_addAll wsX0_ofKind := (gi_cons 14 rfl rfl (gi_cons 2 rfl rfl (gi_cons 15 rfl rfl (gi_cons 16 rfl rfl (gi_cons 17 rfl rfl (gi_cons 18 rfl rfl (gi_cons 19 rfl rfl (gi_cons 20 rfl rfl (gi_cons 21 rfl rfl (gi_cons 22 rfl rfl (gi_cons 23 rfl rfl (gi_cons 24 rfl rfl (gi_cons 25 rfl rfl (gi_cons 26 rfl rfl (gi_cons 27 rfl rfl (gi_cons 85 rfl rfl (gi_cons 86 rfl rfl (gi_cons 87 rfl rfl (gi_cons 88 rfl rfl (gi_cons 89 rfl rfl (gi_cons 90 rfl rfl (gi_cons 91 rfl rfl (gi_cons 92 rfl rfl (gi_cons 93 rfl rfl (gi_cons 94 rfl rfl (gi_cons 95 rfl rfl (gi_cons 96 rfl rfl (gi_cons 97 rfl rfl (gi_cons 98 rfl rfl (gi_cons 99 rfl rfl (gi_cons 100 rfl rfl gi_nil)))))))))))))))))))))))))))))))
set_option maxRecDepth 20000 in
theorem gX0_addAll_X0_ofKind : GoodIn wsX0_addAll (wsV RX0 88 RX0 yX0_ofKind wsX0_ofKind) := goodIn_app (goodIn_of _ (by decide +kernel)) ggX0_addAll_X0_ofKind
set_option maxRecDepth 100000 in
theorem ggX0_addAll_X9_become : GoodIn wsX0_addAll wsX9_become := (gi_cons 31 rfl rfl (gi_cons 26 rfl rfl (gi_cons 27 rfl rfl (gi_cons 32 rfl rfl (gi_cons 33 rfl rfl (gi_cons 34 rfl rfl (gi_cons 35 rfl rfl (gi_cons 36 rfl rfl (gi_cons 37 rfl rfl (gi_cons 38 rfl rfl (gi_cons 96 rfl rfl (gi_cons 97 rfl rfl (gi_cons 98 rfl rfl (gi_cons 99 rfl rfl (gi_cons 100 rfl rfl gi_nil)))))))))))))))
set_option maxRecDepth 20000 in
theorem gX0_addAll_X9_become : GoodIn wsX0_addAll (wsV RX0 47 RX9 yX9_become wsX9_become) := goodIn_app (goodIn_of _ (by decide +kernel)) ggX0_addAll_X9_become
set_option maxRecDepth 100000 in
theorem ggX0_addAll_X10_isIn : GoodIn wsX0_addAll wsX10_isIn := (gi_cons 17 rfl rfl (gi_cons 18 rfl rfl (gi_cons 19 rfl rfl (gi_cons 16 rfl rfl (gi_cons 20 rfl rfl gi_nil)))))
set_option maxRecDepth 20000 in
theorem gX0_addAll_X10_isIn_n51 : GoodIn wsX0_addAll (wsX10_isIn) := ggX0_addAll_X10_isIn
set_option maxRecDepth 100000 in
theorem ggX0_addAll_X9_valueAt : GoodIn wsX0_addAll wsX9_valueAt := (gi_cons 42 rfl rfl (gi_cons 26 rfl rfl (gi_cons 36 rfl rfl (gi_cons 96 rfl rfl (gi_cons 97 rfl rfl (gi_cons 98 rfl rfl (gi_cons 99 rfl rfl (gi_cons 100 rfl rfl gi_nil))))))))
set_option maxRecDepth 20000 in
theorem gX0_addAll_X9_valueAt : GoodIn wsX0_addAll (wsV RX0 114 RX9 yX9_valueAt wsX9_valueAt) := goodIn_app (goodIn_of _ (by decide +kernel)) ggX0_addAll_X9_valueAt
set_option maxRecDepth 100000 in
theorem ggX0_addAll_X9_setValue : GoodIn wsX0_addAll wsX9_setValue := (gi_cons 46 rfl rfl (gi_cons 26 rfl rfl (gi_cons 36 rfl rfl (gi_cons 96 rfl rfl (gi_cons 97 rfl rfl (gi_cons 98 rfl rfl (gi_cons 99 rfl rfl (gi_cons 100 rfl rfl gi_nil))))))))
set_option maxRecDepth 20000 in
theorem gX0_addAll_X9_setValue : GoodIn wsX0_addAll (wsV RX0 120 RX9 yX9_setValue wsX9_setValue) := goodIn_app (goodIn_of _ (by decide +kernel)) ggX0_addAll_X9_setValue
set_option maxRecDepth 100000 in
theorem ggX0_addAll_X0_commit : GoodIn wsX0_addAll wsX0_commit := (gi_cons 50 rfl rfl (gi_cons 1 rfl rfl (gi_cons 2 rfl rfl (gi_cons 51 rfl rfl (gi_cons 52 rfl rfl (gi_cons 53 rfl rfl (gi_cons 24 rfl rfl (gi_cons 54 rfl rfl (gi_cons 26 rfl rfl (gi_cons 38 rfl rfl (gi_cons 55 rfl rfl (gi_cons 8 rfl rfl (gi_cons 5 rfl rfl (gi_cons 9 rfl rfl (gi_cons 56 rfl rfl (gi_cons 57 rfl rfl (gi_cons 58 rfl rfl (gi_cons 59 rfl rfl (gi_cons 60 rfl rfl (gi_cons 61 rfl rfl (gi_cons 62 rfl rfl (gi_cons 63 rfl rfl (gi_cons 64 rfl rfl (gi_cons 65 rfl rfl (gi_cons 66 rfl rfl (gi_cons 67 rfl rfl (gi_cons 68 rfl rfl (gi_cons 69 rfl rfl (gi_cons 70 rfl rfl (gi_cons 71 rfl rfl (gi_cons 72 rfl rfl (gi_cons 73 rfl rfl (gi_cons 74 rfl rfl (gi_cons 75 rfl rfl (gi_cons 76 rfl rfl (gi_cons 27 rfl rfl (gi_cons 36 rfl rfl (gi_cons 37 rfl rfl (gi_cons 77 rfl rfl (gi_cons 29 rfl rfl (gi_cons 30 rfl rfl (gi_cons 31 rfl rfl (gi_cons 32 rfl rfl (gi_cons 33 rfl rfl (gi_cons 34 rfl rfl (gi_cons 35 rfl rfl (gi_cons 28 rfl rfl (gi_cons 85 rfl rfl (gi_cons 86 rfl rfl (gi_cons 87 rfl rfl (gi_cons 88 rfl rfl (gi_cons 96 rfl rfl (gi_cons 97 rfl rfl (gi_cons 98 rfl rfl (gi_cons 99 rfl rfl (gi_cons 100 rfl rfl (gi_cons 89 rfl rfl (gi_cons 90 rfl rfl (gi_cons 91 rfl rfl (gi_cons 92 rfl rfl (gi_cons 93 rfl rfl (gi_cons 94 rfl rfl (gi_cons 95 rfl rfl gi_nil)))))))))))))))))))))))))))))))))))))))))))))))))))))))))))))))
set_option maxRecDepth 20000 in
theorem gX0_addAll_X0_commit : GoodIn wsX0_addAll (wsV RX0 81 RX0 yX0_commit wsX0_commit) := goodIn_app (goodIn_of _ (by decide +kernel)) ggX0_addAll_X0_commit
set_option maxRecDepth 100000 in
theorem ggX0_addAll_J13_bitCount_95d88 : GoodIn wsX0_addAll wsJ13_bitCount_95d88 := (gi_cons 81 rfl rfl (gi_cons 82 rfl rfl (gi_cons 83 rfl rfl (gi_cons 84 rfl rfl gi_nil))))
set_option maxRecDepth 20000 in
theorem gX0_addAll_J13_bitCount_95d88 : GoodIn wsX0_addAll (va_wsS RX0 63 yJ13_bitCount_95d88 wsJ13_bitCount_95d88) := goodIn_app (goodIn_of _ (by decide +kernel)) ggX0_addAll_J13_bitCount_95d88
theorem dX0_addAll_0 : decode cX0_addAll 0 = .ok (.aload_n 0, 1) := by decide +kernel
theorem dX0_addAll_1 : decode cX0_addAll 1 = .ok (.lload_n 1, 1) := by decide +kernel
theorem dX0_addAll_2 : decode cX0_addAll 2 = .ok (.iconst 0, 1) := by decide +kernel
theorem dX0_addAll_3 : decode cX0_addAll 3 = .ok (.invokevirtual 88, 3) := by decide +kernel
theorem dX0_addAll_6 : decode cX0_addAll 6 = .ok (.lstore 4, 2) := by decide +kernel
theorem dX0_addAll_8 : decode cX0_addAll 8 = .ok (.lload 4, 2) := by decide +kernel
theorem dX0_addAll_10 : decode cX0_addAll 10 = .ok (.lconst 0, 1) := by decide +kernel
theorem dX0_addAll_11 : decode cX0_addAll 11 = .ok (.lcmp, 1) := by decide +kernel
theorem dX0_addAll_12 : decode cX0_addAll 12 = .ok (.ifCond .ne 5, 3) := by decide +kernel
theorem dX0_addAll_15 : decode cX0_addAll 15 = .ok (.iconst (-1), 1) := by decide +kernel
theorem dX0_addAll_16 : decode cX0_addAll 16 = .ok (.ireturn, 1) := by decide +kernel
theorem dX0_addAll_17 : decode cX0_addAll 17 = .ok (.aload_n 0, 1) := by decide +kernel
theorem dX0_addAll_18 : decode cX0_addAll 18 = .ok (.getfield 14, 3) := by decide +kernel
theorem dX0_addAll_21 : decode cX0_addAll 21 = .ok (.aload_n 0, 1) := by decide +kernel
theorem dX0_addAll_22 : decode cX0_addAll 22 = .ok (.getfield 27, 3) := by decide +kernel
theorem dX0_addAll_25 : decode cX0_addAll 25 = .ok (.getfield 44, 3) := by decide +kernel
theorem dX0_addAll_28 : decode cX0_addAll 28 = .ok (.invokevirtual 47, 3) := by decide +kernel
theorem dX0_addAll_31 : decode cX0_addAll 31 = .ok (.iconst 0, 1) := by decide +kernel
theorem dX0_addAll_32 : decode cX0_addAll 32 = .ok (.istore 6, 2) := by decide +kernel
theorem dX0_addAll_34 : decode cX0_addAll 34 = .ok (.iload 6, 2) := by decide +kernel
theorem dX0_addAll_36 : decode cX0_addAll 36 = .ok (.aload_n 0, 1) := by decide +kernel
theorem dX0_addAll_37 : decode cX0_addAll 37 = .ok (.getfield 14, 3) := by decide +kernel
theorem dX0_addAll_40 : decode cX0_addAll 40 = .ok (.getfield 31, 3) := by decide +kernel
theorem dX0_addAll_43 : decode cX0_addAll 43 = .ok (.if_icmp .ge 55, 3) := by decide +kernel
theorem dX0_addAll_46 : decode cX0_addAll 46 = .ok (.lload 4, 2) := by decide +kernel
theorem dX0_addAll_48 : decode cX0_addAll 48 = .ok (.iload 6, 2) := by decide +kernel
theorem dX0_addAll_50 : decode cX0_addAll 50 = .ok (.invokestatic 51, 3) := by decide +kernel
theorem dX0_addAll_53 : decode cX0_addAll 53 = .ok (.ifCond .eq 39, 3) := by decide +kernel
theorem dX0_addAll_56 : decode cX0_addAll 56 = .ok (.aload_n 0, 1) := by decide +kernel
theorem dX0_addAll_57 : decode cX0_addAll 57 = .ok (.getfield 14, 3) := by decide +kernel
theorem dX0_addAll_60 : decode cX0_addAll 60 = .ok (.iload 6, 2) := by decide +kernel
theorem dX0_addAll_62 : decode cX0_addAll 62 = .ok (.invokevirtual 114, 3) := by decide +kernel
theorem dX0_addAll_65 : decode cX0_addAll 65 = .ok (.iload_n 3, 1) := by decide +kernel
theorem dX0_addAll_66 : decode cX0_addAll 66 = .ok (.iadd, 1) := by decide +kernel
theorem dX0_addAll_67 : decode cX0_addAll 67 = .ok (.istore 7, 2) := by decide +kernel
theorem dX0_addAll_69 : decode cX0_addAll 69 = .ok (.aload_n 0, 1) := by decide +kernel
theorem dX0_addAll_70 : decode cX0_addAll 70 = .ok (.getfield 14, 3) := by decide +kernel
theorem dX0_addAll_73 : decode cX0_addAll 73 = .ok (.iload 6, 2) := by decide +kernel
theorem dX0_addAll_75 : decode cX0_addAll 75 = .ok (.sipush (-999), 3) := by decide +kernel
theorem dX0_addAll_78 : decode cX0_addAll 78 = .ok (.sipush 999, 3) := by decide +kernel
theorem dX0_addAll_81 : decode cX0_addAll 81 = .ok (.iload 7, 2) := by decide +kernel
theorem dX0_addAll_83 : decode cX0_addAll 83 = .ok (.invokestatic 117, 3) := by decide +kernel
theorem dX0_addAll_86 : decode cX0_addAll 86 = .ok (.invokestatic 109, 3) := by decide +kernel
theorem dX0_addAll_89 : decode cX0_addAll 89 = .ok (.invokevirtual 120, 3) := by decide +kernel
theorem dX0_addAll_92 : decode cX0_addAll 92 = .ok (.iinc 6 1, 3) := by decide +kernel
theorem dX0_addAll_95 : decode cX0_addAll 95 = .ok (.goto (-61), 3) := by decide +kernel
theorem dX0_addAll_98 : decode cX0_addAll 98 = .ok (.aload_n 0, 1) := by decide +kernel
theorem dX0_addAll_99 : decode cX0_addAll 99 = .ok (.invokevirtual 81, 3) := by decide +kernel
theorem dX0_addAll_102 : decode cX0_addAll 102 = .ok (.ifCond .eq 11, 3) := by decide +kernel
theorem dX0_addAll_105 : decode cX0_addAll 105 = .ok (.lload 4, 2) := by decide +kernel
theorem dX0_addAll_107 : decode cX0_addAll 107 = .ok (.invokestatic 63, 3) := by decide +kernel
theorem dX0_addAll_110 : decode cX0_addAll 110 = .ok (.goto 4, 3) := by decide +kernel
theorem dX0_addAll_113 : decode cX0_addAll 113 = .ok (.iconst (-1), 1) := by decide +kernel
theorem dX0_addAll_114 : decode cX0_addAll 114 = .ok (.ireturn, 1) := by decide +kernel
set_option maxRecDepth 100000 in
theorem ggX0_rearrangeAll_X0_ofKind : GoodIn wsX0_rearrangeAll wsX0_ofKind := (gi_cons 7 rfl rfl (gi_cons 2 rfl rfl (gi_cons 8 rfl rfl (gi_cons 9 rfl rfl (gi_cons 10 rfl rfl (gi_cons 11 rfl rfl (gi_cons 12 rfl rfl (gi_cons 13 rfl rfl (gi_cons 14 rfl rfl (gi_cons 15 rfl rfl (gi_cons 16 rfl rfl (gi_cons 17 rfl rfl (gi_cons 18 rfl rfl (gi_cons 19 rfl rfl (gi_cons 20 rfl rfl (gi_cons 132 rfl rfl (gi_cons 133 rfl rfl (gi_cons 134 rfl rfl (gi_cons 135 rfl rfl (gi_cons 136 rfl rfl (gi_cons 137 rfl rfl (gi_cons 138 rfl rfl (gi_cons 139 rfl rfl (gi_cons 140 rfl rfl (gi_cons 141 rfl rfl (gi_cons 142 rfl rfl (gi_cons 143 rfl rfl (gi_cons 144 rfl rfl (gi_cons 145 rfl rfl (gi_cons 146 rfl rfl (gi_cons 147 rfl rfl gi_nil)))))))))))))))))))))))))))))))
set_option maxRecDepth 20000 in
theorem gX0_rearrangeAll_X0_ofKind : GoodIn wsX0_rearrangeAll (wsV RX0 88 RX0 yX0_ofKind wsX0_ofKind) := goodIn_app (goodIn_of _ (by decide +kernel)) ggX0_rearrangeAll_X0_ofKind
set_option maxRecDepth 100000 in
theorem ggX0_rearrangeAll_X9_become : GoodIn wsX0_rearrangeAll wsX9_become := (gi_cons 24 rfl rfl (gi_cons 19 rfl rfl (gi_cons 20 rfl rfl (gi_cons 25 rfl rfl (gi_cons 26 rfl rfl (gi_cons 27 rfl rfl (gi_cons 28 rfl rfl (gi_cons 29 rfl rfl (gi_cons 30 rfl rfl (gi_cons 31 rfl rfl (gi_cons 143 rfl rfl (gi_cons 144 rfl rfl (gi_cons 145 rfl rfl (gi_cons 146 rfl rfl (gi_cons 147 rfl rfl gi_nil)))))))))))))))
set_option maxRecDepth 20000 in
theorem gX0_rearrangeAll_X9_become : GoodIn wsX0_rearrangeAll (wsV RX0 47 RX9 yX9_become wsX9_become) := goodIn_app (goodIn_of _ (by decide +kernel)) ggX0_rearrangeAll_X9_become
set_option maxRecDepth 100000 in
theorem ggX0_rearrangeAll_X10_isIn : GoodIn wsX0_rearrangeAll wsX10_isIn := (gi_cons 10 rfl rfl (gi_cons 11 rfl rfl (gi_cons 12 rfl rfl (gi_cons 9 rfl rfl (gi_cons 13 rfl rfl gi_nil)))))
set_option maxRecDepth 20000 in
theorem gX0_rearrangeAll_X10_isIn_n51 : GoodIn wsX0_rearrangeAll (wsX10_isIn) := ggX0_rearrangeAll_X10_isIn
set_option maxRecDepth 100000 in
theorem ggX0_rearrangeAll_X0_rearrange : GoodIn wsX0_rearrangeAll wsX0_rearrange := (gi_cons 35 rfl rfl (gi_cons 36 rfl rfl (gi_cons 37 rfl rfl (gi_cons 1 rfl rfl (gi_cons 38 rfl rfl (gi_cons 39 rfl rfl (gi_cons 40 rfl rfl (gi_cons 6 rfl rfl (gi_cons 41 rfl rfl (gi_cons 42 rfl rfl (gi_cons 43 rfl rfl (gi_cons 44 rfl rfl (gi_cons 45 rfl rfl (gi_cons 46 rfl rfl (gi_cons 47 rfl rfl (gi_cons 48 rfl rfl (gi_cons 17 rfl rfl (gi_cons 49 rfl rfl (gi_cons 19 rfl rfl (gi_cons 31 rfl rfl (gi_cons 50 rfl rfl (gi_cons 51 rfl rfl (gi_cons 52 rfl rfl (gi_cons 53 rfl rfl (gi_cons 14 rfl rfl (gi_cons 15 rfl rfl (gi_cons 16 rfl rfl (gi_cons 18 rfl rfl (gi_cons 20 rfl rfl (gi_cons 54 rfl rfl (gi_cons 55 rfl rfl (gi_cons 56 rfl rfl (gi_cons 57 rfl rfl (gi_cons 29 rfl rfl (gi_cons 58 rfl rfl (gi_cons 59 rfl rfl (gi_cons 60 rfl rfl (gi_cons 61 rfl rfl (gi_cons 62 rfl rfl (gi_cons 63 rfl rfl (gi_cons 64 rfl rfl (gi_cons 65 rfl rfl (gi_cons 66 rfl rfl (gi_cons 67 rfl rfl (gi_cons 68 rfl rfl (gi_cons 69 rfl rfl (gi_cons 70 rfl rfl (gi_cons 71 rfl rfl (gi_cons 72 rfl rfl (gi_cons 73 rfl rfl (gi_cons 30 rfl rfl (gi_cons 74 rfl rfl (gi_cons 75 rfl rfl (gi_cons 76 rfl rfl (gi_cons 77 rfl rfl (gi_cons 78 rfl rfl (gi_cons 79 rfl rfl (gi_cons 80 rfl rfl (gi_cons 81 rfl rfl (gi_cons 82 rfl rfl (gi_cons 83 rfl rfl (gi_cons 84 rfl rfl (gi_cons 85 rfl rfl (gi_cons 86 rfl rfl (gi_cons 25 rfl rfl (gi_cons 26 rfl rfl (gi_cons 27 rfl rfl (gi_cons 28 rfl rfl (gi_cons 87 rfl rfl (gi_cons 88 rfl rfl (gi_cons 89 rfl rfl (gi_cons 90 rfl rfl (gi_cons 91 rfl rfl (gi_cons 132 rfl rfl (gi_cons 133 rfl rfl (gi_cons 134 rfl rfl (gi_cons 135 rfl rfl (gi_cons 143 rfl rfl (gi_cons 144 rfl rfl (gi_cons 145 rfl rfl (gi_cons 146 rfl rfl (gi_cons 147 rfl rfl gi_nil))))))))))))))))))))))))))))))))))))))))))))))))))))))))))))))))))))))))))))))))))
set_option maxRecDepth 20000 in
theorem gX0_rearrangeAll_X0_rearrange : GoodIn wsX0_rearrangeAll (wsV RX0 124 RX0 yX0_rearrange wsX0_rearrange) := goodIn_app (goodIn_of _ (by decide +kernel)) ggX0_rearrangeAll_X0_rearrange
set_option maxRecDepth 100000 in
theorem ggX0_rearrangeAll_X0_commit : GoodIn wsX0_rearrangeAll wsX0_commit := (gi_cons 95 rfl rfl (gi_cons 1 rfl rfl (gi_cons 2 rfl rfl (gi_cons 96 rfl rfl (gi_cons 97 rfl rfl (gi_cons 98 rfl rfl (gi_cons 17 rfl rfl (gi_cons 99 rfl rfl (gi_cons 19 rfl rfl (gi_cons 31 rfl rfl (gi_cons 100 rfl rfl (gi_cons 101 rfl rfl (gi_cons 44 rfl rfl (gi_cons 102 rfl rfl (gi_cons 103 rfl rfl (gi_cons 104 rfl rfl (gi_cons 105 rfl rfl (gi_cons 106 rfl rfl (gi_cons 107 rfl rfl (gi_cons 108 rfl rfl (gi_cons 109 rfl rfl (gi_cons 110 rfl rfl (gi_cons 111 rfl rfl (gi_cons 112 rfl rfl (gi_cons 113 rfl rfl (gi_cons 114 rfl rfl (gi_cons 115 rfl rfl (gi_cons 116 rfl rfl (gi_cons 117 rfl rfl (gi_cons 118 rfl rfl (gi_cons 119 rfl rfl (gi_cons 120 rfl rfl (gi_cons 121 rfl rfl (gi_cons 122 rfl rfl (gi_cons 123 rfl rfl (gi_cons 20 rfl rfl (gi_cons 29 rfl rfl (gi_cons 30 rfl rfl (gi_cons 124 rfl rfl (gi_cons 22 rfl rfl (gi_cons 23 rfl rfl (gi_cons 24 rfl rfl (gi_cons 25 rfl rfl (gi_cons 26 rfl rfl (gi_cons 27 rfl rfl (gi_cons 28 rfl rfl (gi_cons 21 rfl rfl (gi_cons 132 rfl rfl (gi_cons 133 rfl rfl (gi_cons 134 rfl rfl (gi_cons 135 rfl rfl (gi_cons 143 rfl rfl (gi_cons 144 rfl rfl (gi_cons 145 rfl rfl (gi_cons 146 rfl rfl (gi_cons 147 rfl rfl (gi_cons 136 rfl rfl (gi_cons 137 rfl rfl (gi_cons 138 rfl rfl (gi_cons 139 rfl rfl (gi_cons 140 rfl rfl (gi_cons 141 rfl rfl (gi_cons 142 rfl rfl gi_nil)))))))))))))))))))))))))))))))))))))))))))))))))))))))))))))))
set_option maxRecDepth 20000 in
theorem gX0_rearrangeAll_X0_commit : GoodIn wsX0_rearrangeAll (wsV RX0 81 RX0 yX0_commit wsX0_commit) := goodIn_app (goodIn_of _ (by decide +kernel)) ggX0_rearrangeAll_X0_commit
set_option maxRecDepth 100000 in
theorem ggX0_rearrangeAll_J13_bitCount_95d88 : GoodIn wsX0_rearrangeAll wsJ13_bitCount_95d88 := (gi_cons 128 rfl rfl (gi_cons 129 rfl rfl (gi_cons 130 rfl rfl (gi_cons 131 rfl rfl gi_nil))))
set_option maxRecDepth 20000 in
theorem gX0_rearrangeAll_J13_bitCount_95d88 : GoodIn wsX0_rearrangeAll (va_wsS RX0 63 yJ13_bitCount_95d88 wsJ13_bitCount_95d88) := goodIn_app (goodIn_of _ (by decide +kernel)) ggX0_rearrangeAll_J13_bitCount_95d88
theorem dX0_rearrangeAll_0 : decode cX0_rearrangeAll 0 = .ok (.aload_n 0, 1) := by decide +kernel
theorem dX0_rearrangeAll_1 : decode cX0_rearrangeAll 1 = .ok (.lload_n 1, 1) := by decide +kernel
theorem dX0_rearrangeAll_2 : decode cX0_rearrangeAll 2 = .ok (.iconst 2, 1) := by decide +kernel
theorem dX0_rearrangeAll_3 : decode cX0_rearrangeAll 3 = .ok (.invokevirtual 88, 3) := by decide +kernel
theorem dX0_rearrangeAll_6 : decode cX0_rearrangeAll 6 = .ok (.lstore 4, 2) := by decide +kernel
theorem dX0_rearrangeAll_8 : decode cX0_rearrangeAll 8 = .ok (.iload_n 3, 1) := by decide +kernel
theorem dX0_rearrangeAll_9 : decode cX0_rearrangeAll 9 = .ok (.ifCond .eq 8, 3) := by decide +kernel
theorem dX0_rearrangeAll_12 : decode cX0_rearrangeAll 12 = .ok (.lload 4, 2) := by decide +kernel
theorem dX0_rearrangeAll_14 : decode cX0_rearrangeAll 14 = .ok (.goto 12, 3) := by decide +kernel
theorem dX0_rearrangeAll_17 : decode cX0_rearrangeAll 17 = .ok (.lload 4, 2) := by decide +kernel
theorem dX0_rearrangeAll_19 : decode cX0_rearrangeAll 19 = .ok (.aload_n 0, 1) := by decide +kernel
theorem dX0_rearrangeAll_20 : decode cX0_rearrangeAll 20 = .ok (.lload_n 1, 1) := by decide +kernel
theorem dX0_rearrangeAll_21 : decode cX0_rearrangeAll 21 = .ok (.iconst 3, 1) := by decide +kernel
theorem dX0_rearrangeAll_22 : decode cX0_rearrangeAll 22 = .ok (.invokevirtual 88, 3) := by decide +kernel
theorem dX0_rearrangeAll_25 : decode cX0_rearrangeAll 25 = .ok (.lor, 1) := by decide +kernel
theorem dX0_rearrangeAll_26 : decode cX0_rearrangeAll 26 = .ok (.lstore 6, 2) := by decide +kernel
theorem dX0_rearrangeAll_28 : decode cX0_rearrangeAll 28 = .ok (.lload 6, 2) := by decide +kernel
theorem dX0_rearrangeAll_30 : decode cX0_rearrangeAll 30 = .ok (.lconst 0, 1) := by decide +kernel
theorem dX0_rearrangeAll_31 : decode cX0_rearrangeAll 31 = .ok (.lcmp, 1) := by decide +kernel
theorem dX0_rearrangeAll_32 : decode cX0_rearrangeAll 32 = .ok (.ifCond .ne 5, 3) := by decide +kernel
theorem dX0_rearrangeAll_35 : decode cX0_rearrangeAll 35 = .ok (.iconst (-1), 1) := by decide +kernel
theorem dX0_rearrangeAll_36 : decode cX0_rearrangeAll 36 = .ok (.ireturn, 1) := by decide +kernel
theorem dX0_rearrangeAll_37 : decode cX0_rearrangeAll 37 = .ok (.aload_n 0, 1) := by decide +kernel
theorem dX0_rearrangeAll_38 : decode cX0_rearrangeAll 38 = .ok (.getfield 14, 3) := by decide +kernel
theorem dX0_rearrangeAll_41 : decode cX0_rearrangeAll 41 = .ok (.aload_n 0, 1) := by decide +kernel
theorem dX0_rearrangeAll_42 : decode cX0_rearrangeAll 42 = .ok (.getfield 27, 3) := by decide +kernel
theorem dX0_rearrangeAll_45 : decode cX0_rearrangeAll 45 = .ok (.getfield 44, 3) := by decide +kernel
theorem dX0_rearrangeAll_48 : decode cX0_rearrangeAll 48 = .ok (.invokevirtual 47, 3) := by decide +kernel
theorem dX0_rearrangeAll_51 : decode cX0_rearrangeAll 51 = .ok (.bipush 59, 2) := by decide +kernel
theorem dX0_rearrangeAll_53 : decode cX0_rearrangeAll 53 = .ok (.istore 8, 2) := by decide +kernel
theorem dX0_rearrangeAll_55 : decode cX0_rearrangeAll 55 = .ok (.iload 8, 2) := by decide +kernel
theorem dX0_rearrangeAll_57 : decode cX0_rearrangeAll 57 = .ok (.ifCond .lt 26, 3) := by decide +kernel
theorem dX0_rearrangeAll_60 : decode cX0_rearrangeAll 60 = .ok (.lload 6, 2) := by decide +kernel
theorem dX0_rearrangeAll_62 : decode cX0_rearrangeAll 62 = .ok (.iload 8, 2) := by decide +kernel
theorem dX0_rearrangeAll_64 : decode cX0_rearrangeAll 64 = .ok (.invokestatic 51, 3) := by decide +kernel
theorem dX0_rearrangeAll_67 : decode cX0_rearrangeAll 67 = .ok (.ifCond .eq 10, 3) := by decide +kernel
theorem dX0_rearrangeAll_70 : decode cX0_rearrangeAll 70 = .ok (.aload_n 0, 1) := by decide +kernel
theorem dX0_rearrangeAll_71 : decode cX0_rearrangeAll 71 = .ok (.iload 8, 2) := by decide +kernel
theorem dX0_rearrangeAll_73 : decode cX0_rearrangeAll 73 = .ok (.iload_n 3, 1) := by decide +kernel
theorem dX0_rearrangeAll_74 : decode cX0_rearrangeAll 74 = .ok (.invokevirtual 124, 3) := by decide +kernel
theorem dX0_rearrangeAll_77 : decode cX0_rearrangeAll 77 = .ok (.iinc 8 (-1), 3) := by decide +kernel
theorem dX0_rearrangeAll_80 : decode cX0_rearrangeAll 80 = .ok (.goto (-25), 3) := by decide +kernel
theorem dX0_rearrangeAll_83 : decode cX0_rearrangeAll 83 = .ok (.aload_n 0, 1) := by decide +kernel
theorem dX0_rearrangeAll_84 : decode cX0_rearrangeAll 84 = .ok (.invokevirtual 81, 3) := by decide +kernel
theorem dX0_rearrangeAll_87 : decode cX0_rearrangeAll 87 = .ok (.ifCond .eq 11, 3) := by decide +kernel
theorem dX0_rearrangeAll_90 : decode cX0_rearrangeAll 90 = .ok (.lload 6, 2) := by decide +kernel
theorem dX0_rearrangeAll_92 : decode cX0_rearrangeAll 92 = .ok (.invokestatic 63, 3) := by decide +kernel
theorem dX0_rearrangeAll_95 : decode cX0_rearrangeAll 95 = .ok (.goto 4, 3) := by decide +kernel
theorem dX0_rearrangeAll_98 : decode cX0_rearrangeAll 98 = .ok (.iconst (-1), 1) := by decide +kernel
theorem dX0_rearrangeAll_99 : decode cX0_rearrangeAll 99 = .ok (.ireturn, 1) := by decide +kernel
set_option maxRecDepth 100000 in
theorem ggX0_dropAll_X10_isIn : GoodIn wsX0_dropAll wsX10_isIn := (gi_cons 5 rfl rfl (gi_cons 6 rfl rfl (gi_cons 7 rfl rfl (gi_cons 4 rfl rfl (gi_cons 8 rfl rfl gi_nil)))))
set_option maxRecDepth 20000 in
theorem gX0_dropAll_X10_isIn_n51 : GoodIn wsX0_dropAll (wsX10_isIn) := ggX0_dropAll_X10_isIn
set_option maxRecDepth 100000 in
theorem ggX0_dropAll_X9_become : GoodIn wsX0_dropAll wsX9_become := (gi_cons 13 rfl rfl (gi_cons 14 rfl rfl (gi_cons 15 rfl rfl (gi_cons 16 rfl rfl (gi_cons 17 rfl rfl (gi_cons 18 rfl rfl (gi_cons 19 rfl rfl (gi_cons 20 rfl rfl (gi_cons 21 rfl rfl (gi_cons 22 rfl rfl (gi_cons 92 rfl rfl (gi_cons 93 rfl rfl (gi_cons 94 rfl rfl (gi_cons 95 rfl rfl (gi_cons 96 rfl rfl gi_nil)))))))))))))))
set_option maxRecDepth 20000 in
theorem gX0_dropAll_X9_become : GoodIn wsX0_dropAll (wsV RX0 47 RX9 yX9_become wsX9_become) := goodIn_app (goodIn_of _ (by decide +kernel)) ggX0_dropAll_X9_become
set_option maxRecDepth 100000 in
theorem ggX0_dropAll_X9_cut : GoodIn wsX0_dropAll wsX9_cut := (gi_cons 26 rfl rfl (gi_cons 14 rfl rfl (gi_cons 27 rfl rfl (gi_cons 28 rfl rfl (gi_cons 29 rfl rfl (gi_cons 12 rfl rfl (gi_cons 30 rfl rfl (gi_cons 31 rfl rfl (gi_cons 32 rfl rfl (gi_cons 33 rfl rfl (gi_cons 34 rfl rfl (gi_cons 22 rfl rfl (gi_cons 35 rfl rfl (gi_cons 36 rfl rfl (gi_cons 37 rfl rfl (gi_cons 38 rfl rfl (gi_cons 15 rfl rfl (gi_cons 16 rfl rfl (gi_cons 17 rfl rfl (gi_cons 18 rfl rfl (gi_cons 19 rfl rfl (gi_cons 20 rfl rfl (gi_cons 21 rfl rfl (gi_cons 92 rfl rfl (gi_cons 93 rfl rfl (gi_cons 94 rfl rfl (gi_cons 95 rfl rfl (gi_cons 96 rfl rfl gi_nil))))))))))))))))))))))))))))
set_option maxRecDepth 20000 in
theorem gX0_dropAll_X9_cut : GoodIn wsX0_dropAll (wsV RX0 156 RX9 yX9_cut wsX9_cut) := goodIn_app (goodIn_of _ (by decide +kernel)) ggX0_dropAll_X9_cut
set_option maxRecDepth 100000 in
theorem ggX0_dropAll_X0_commit : GoodIn wsX0_dropAll wsX0_commit := (gi_cons 43 rfl rfl (gi_cons 1 rfl rfl (gi_cons 2 rfl rfl (gi_cons 44 rfl rfl (gi_cons 45 rfl rfl (gi_cons 46 rfl rfl (gi_cons 12 rfl rfl (gi_cons 47 rfl rfl (gi_cons 14 rfl rfl (gi_cons 22 rfl rfl (gi_cons 48 rfl rfl (gi_cons 49 rfl rfl (gi_cons 50 rfl rfl (gi_cons 51 rfl rfl (gi_cons 52 rfl rfl (gi_cons 53 rfl rfl (gi_cons 54 rfl rfl (gi_cons 55 rfl rfl (gi_cons 56 rfl rfl (gi_cons 57 rfl rfl (gi_cons 58 rfl rfl (gi_cons 59 rfl rfl (gi_cons 60 rfl rfl (gi_cons 61 rfl rfl (gi_cons 62 rfl rfl (gi_cons 63 rfl rfl (gi_cons 64 rfl rfl (gi_cons 65 rfl rfl (gi_cons 66 rfl rfl (gi_cons 67 rfl rfl (gi_cons 68 rfl rfl (gi_cons 69 rfl rfl (gi_cons 70 rfl rfl (gi_cons 71 rfl rfl (gi_cons 72 rfl rfl (gi_cons 15 rfl rfl (gi_cons 20 rfl rfl (gi_cons 21 rfl rfl (gi_cons 73 rfl rfl (gi_cons 10 rfl rfl (gi_cons 11 rfl rfl (gi_cons 13 rfl rfl (gi_cons 16 rfl rfl (gi_cons 17 rfl rfl (gi_cons 18 rfl rfl (gi_cons 19 rfl rfl (gi_cons 9 rfl rfl (gi_cons 81 rfl rfl (gi_cons 82 rfl rfl (gi_cons 83 rfl rfl (gi_cons 84 rfl rfl (gi_cons 92 rfl rfl (gi_cons 93 rfl rfl (gi_cons 94 rfl rfl (gi_cons 95 rfl rfl (gi_cons 96 rfl rfl (gi_cons 85 rfl rfl (gi_cons 86 rfl rfl (gi_cons 87 rfl rfl (gi_cons 88 rfl rfl (gi_cons 89 rfl rfl (gi_cons 90 rfl rfl (gi_cons 91 rfl rfl gi_nil)))))))))))))))))))))))))))))))))))))))))))))))))))))))))))))))
set_option maxRecDepth 20000 in
theorem gX0_dropAll_X0_commit : GoodIn wsX0_dropAll (wsV RX0 81 RX0 yX0_commit wsX0_commit) := goodIn_app (goodIn_of _ (by decide +kernel)) ggX0_dropAll_X0_commit
set_option maxRecDepth 100000 in
theorem ggX0_dropAll_J13_bitCount_95d88 : GoodIn wsX0_dropAll wsJ13_bitCount_95d88 := (gi_cons 77 rfl rfl (gi_cons 78 rfl rfl (gi_cons 79 rfl rfl (gi_cons 80 rfl rfl gi_nil))))
set_option maxRecDepth 20000 in
theorem gX0_dropAll_J13_bitCount_95d88 : GoodIn wsX0_dropAll (va_wsS RX0 63 yJ13_bitCount_95d88 wsJ13_bitCount_95d88) := goodIn_app (goodIn_of _ (by decide +kernel)) ggX0_dropAll_J13_bitCount_95d88
theorem dX0_dropAll_0 : decode cX0_dropAll 0 = .ok (.lload_n 1, 1) := by decide +kernel
theorem dX0_dropAll_1 : decode cX0_dropAll 1 = .ok (.lconst 0, 1) := by decide +kernel
theorem dX0_dropAll_2 : decode cX0_dropAll 2 = .ok (.lcmp, 1) := by decide +kernel
theorem dX0_dropAll_3 : decode cX0_dropAll 3 = .ok (.ifCond .eq 11, 3) := by decide +kernel
theorem dX0_dropAll_6 : decode cX0_dropAll 6 = .ok (.lload_n 1, 1) := by decide +kernel
theorem dX0_dropAll_7 : decode cX0_dropAll 7 = .ok (.iconst 0, 1) := by decide +kernel
theorem dX0_dropAll_8 : decode cX0_dropAll 8 = .ok (.invokestatic 51, 3) := by decide +kernel
theorem dX0_dropAll_11 : decode cX0_dropAll 11 = .ok (.ifCond .eq 5, 3) := by decide +kernel
theorem dX0_dropAll_14 : decode cX0_dropAll 14 = .ok (.iconst (-1), 1) := by decide +kernel
theorem dX0_dropAll_15 : decode cX0_dropAll 15 = .ok (.ireturn, 1) := by decide +kernel
theorem dX0_dropAll_16 : decode cX0_dropAll 16 = .ok (.aload_n 0, 1) := by decide +kernel
theorem dX0_dropAll_17 : decode cX0_dropAll 17 = .ok (.getfield 14, 3) := by decide +kernel
theorem dX0_dropAll_20 : decode cX0_dropAll 20 = .ok (.aload_n 0, 1) := by decide +kernel
theorem dX0_dropAll_21 : decode cX0_dropAll 21 = .ok (.getfield 27, 3) := by decide +kernel
theorem dX0_dropAll_24 : decode cX0_dropAll 24 = .ok (.getfield 44, 3) := by decide +kernel
theorem dX0_dropAll_27 : decode cX0_dropAll 27 = .ok (.invokevirtual 47, 3) := by decide +kernel
theorem dX0_dropAll_30 : decode cX0_dropAll 30 = .ok (.bipush 59, 2) := by decide +kernel
theorem dX0_dropAll_32 : decode cX0_dropAll 32 = .ok (.istore_n 3, 1) := by decide +kernel
theorem dX0_dropAll_33 : decode cX0_dropAll 33 = .ok (.iload_n 3, 1) := by decide +kernel
theorem dX0_dropAll_34 : decode cX0_dropAll 34 = .ok (.ifCond .lt 25, 3) := by decide +kernel
theorem dX0_dropAll_37 : decode cX0_dropAll 37 = .ok (.lload_n 1, 1) := by decide +kernel
theorem dX0_dropAll_38 : decode cX0_dropAll 38 = .ok (.iload_n 3, 1) := by decide +kernel
theorem dX0_dropAll_39 : decode cX0_dropAll 39 = .ok (.invokestatic 51, 3) := by decide +kernel
theorem dX0_dropAll_42 : decode cX0_dropAll 42 = .ok (.ifCond .eq 11, 3) := by decide +kernel
theorem dX0_dropAll_45 : decode cX0_dropAll 45 = .ok (.aload_n 0, 1) := by decide +kernel
theorem dX0_dropAll_46 : decode cX0_dropAll 46 = .ok (.getfield 14, 3) := by decide +kernel
theorem dX0_dropAll_49 : decode cX0_dropAll 49 = .ok (.iload_n 3, 1) := by decide +kernel
theorem dX0_dropAll_50 : decode cX0_dropAll 50 = .ok (.invokevirtual 156, 3) := by decide +kernel
theorem dX0_dropAll_53 : decode cX0_dropAll 53 = .ok (.iinc 3 (-1), 3) := by decide +kernel
theorem dX0_dropAll_56 : decode cX0_dropAll 56 = .ok (.goto (-23), 3) := by decide +kernel
theorem dX0_dropAll_59 : decode cX0_dropAll 59 = .ok (.aload_n 0, 1) := by decide +kernel
theorem dX0_dropAll_60 : decode cX0_dropAll 60 = .ok (.invokevirtual 81, 3) := by decide +kernel
theorem dX0_dropAll_63 : decode cX0_dropAll 63 = .ok (.ifCond .eq 10, 3) := by decide +kernel
theorem dX0_dropAll_66 : decode cX0_dropAll 66 = .ok (.lload_n 1, 1) := by decide +kernel
theorem dX0_dropAll_67 : decode cX0_dropAll 67 = .ok (.invokestatic 63, 3) := by decide +kernel
theorem dX0_dropAll_70 : decode cX0_dropAll 70 = .ok (.goto 4, 3) := by decide +kernel
theorem dX0_dropAll_73 : decode cX0_dropAll 73 = .ok (.iconst (-1), 1) := by decide +kernel
theorem dX0_dropAll_74 : decode cX0_dropAll 74 = .ok (.ireturn, 1) := by decide +kernel
set_option maxRecDepth 100000 in
theorem ggX0_moveThing_X9_has : GoodIn wsX0_moveThing wsX9_has := (gi_cons 7 rfl rfl (gi_cons 8 rfl rfl (gi_cons 9 rfl rfl (gi_cons 114 rfl rfl (gi_cons 115 rfl rfl (gi_cons 116 rfl rfl (gi_cons 117 rfl rfl (gi_cons 118 rfl rfl gi_nil))))))))
set_option maxRecDepth 20000 in
theorem gX0_moveThing_X9_has : GoodIn wsX0_moveThing (wsV RX0 159 RX9 yX9_has wsX9_has) := goodIn_app (goodIn_of _ (by decide +kernel)) ggX0_moveThing_X9_has
set_option maxRecDepth 100000 in
theorem ggX0_moveThing_X9_end : GoodIn wsX0_moveThing wsX9_end := (gi_cons 13 rfl rfl (gi_cons 8 rfl rfl (gi_cons 14 rfl rfl (gi_cons 114 rfl rfl (gi_cons 115 rfl rfl (gi_cons 116 rfl rfl (gi_cons 117 rfl rfl (gi_cons 118 rfl rfl gi_nil))))))))
set_option maxRecDepth 20000 in
theorem gX0_moveThing_X9_end : GoodIn wsX0_moveThing (wsV RX0 85 RX9 yX9_end wsX9_end) := goodIn_app (goodIn_of _ (by decide +kernel)) ggX0_moveThing_X9_end
set_option maxRecDepth 100000 in
theorem ggX0_moveThing_X0_takesBehindAll : GoodIn wsX0_moveThing wsX0_takesBehindAll := (gi_cons 19 rfl rfl (gi_cons 1 rfl rfl (gi_cons 20 rfl rfl (gi_cons 21 rfl rfl (gi_cons 22 rfl rfl (gi_cons 6 rfl rfl (gi_cons 23 rfl rfl (gi_cons 8 rfl rfl (gi_cons 9 rfl rfl (gi_cons 24 rfl rfl (gi_cons 25 rfl rfl (gi_cons 26 rfl rfl (gi_cons 27 rfl rfl (gi_cons 28 rfl rfl (gi_cons 29 rfl rfl (gi_cons 30 rfl rfl (gi_cons 31 rfl rfl (gi_cons 14 rfl rfl (gi_cons 32 rfl rfl (gi_cons 103 rfl rfl (gi_cons 104 rfl rfl (gi_cons 105 rfl rfl (gi_cons 106 rfl rfl (gi_cons 107 rfl rfl (gi_cons 108 rfl rfl (gi_cons 109 rfl rfl (gi_cons 110 rfl rfl (gi_cons 111 rfl rfl (gi_cons 112 rfl rfl (gi_cons 113 rfl rfl (gi_cons 114 rfl rfl (gi_cons 115 rfl rfl (gi_cons 116 rfl rfl (gi_cons 117 rfl rfl (gi_cons 118 rfl rfl gi_nil)))))))))))))))))))))))))))))))))))
set_option maxRecDepth 20000 in
theorem gX0_moveThing_X0_takesBehindAll : GoodIn wsX0_moveThing (wsV RX0 163 RX0 yX0_takesBehindAll wsX0_takesBehindAll) := goodIn_app (goodIn_of _ (by decide +kernel)) ggX0_moveThing_X0_takesBehindAll
set_option maxRecDepth 100000 in
theorem ggX0_moveThing_X9_become : GoodIn wsX0_moveThing wsX9_become := (gi_cons 36 rfl rfl (gi_cons 8 rfl rfl (gi_cons 9 rfl rfl (gi_cons 37 rfl rfl (gi_cons 38 rfl rfl (gi_cons 39 rfl rfl (gi_cons 40 rfl rfl (gi_cons 41 rfl rfl (gi_cons 32 rfl rfl (gi_cons 14 rfl rfl (gi_cons 114 rfl rfl (gi_cons 115 rfl rfl (gi_cons 116 rfl rfl (gi_cons 117 rfl rfl (gi_cons 118 rfl rfl gi_nil)))))))))))))))
set_option maxRecDepth 20000 in
theorem gX0_moveThing_X9_become : GoodIn wsX0_moveThing (wsV RX0 47 RX9 yX9_become wsX9_become) := goodIn_app (goodIn_of _ (by decide +kernel)) ggX0_moveThing_X9_become
set_option maxRecDepth 100000 in
theorem ggX0_moveThing_X9_cut : GoodIn wsX0_moveThing wsX9_cut := (gi_cons 45 rfl rfl (gi_cons 8 rfl rfl (gi_cons 46 rfl rfl (gi_cons 47 rfl rfl (gi_cons 48 rfl rfl (gi_cons 6 rfl rfl (gi_cons 49 rfl rfl (gi_cons 50 rfl rfl (gi_cons 11 rfl rfl (gi_cons 12 rfl rfl (gi_cons 13 rfl rfl (gi_cons 14 rfl rfl (gi_cons 51 rfl rfl (gi_cons 52 rfl rfl (gi_cons 53 rfl rfl (gi_cons 54 rfl rfl (gi_cons 9 rfl rfl (gi_cons 37 rfl rfl (gi_cons 38 rfl rfl (gi_cons 39 rfl rfl (gi_cons 40 rfl rfl (gi_cons 41 rfl rfl (gi_cons 32 rfl rfl (gi_cons 114 rfl rfl (gi_cons 115 rfl rfl (gi_cons 116 rfl rfl (gi_cons 117 rfl rfl (gi_cons 118 rfl rfl gi_nil))))))))))))))))))))))))))))
set_option maxRecDepth 20000 in
theorem gX0_moveThing_X9_cut : GoodIn wsX0_moveThing (wsV RX0 156 RX9 yX9_cut wsX9_cut) := goodIn_app (goodIn_of _ (by decide +kernel)) ggX0_moveThing_X9_cut
set_option maxRecDepth 100000 in
theorem ggX0_moveThing_X9_sizeOf : GoodIn wsX0_moveThing wsX9_sizeOf := (gi_cons 49 rfl rfl (gi_cons 8 rfl rfl (gi_cons 50 rfl rfl (gi_cons 11 rfl rfl (gi_cons 12 rfl rfl (gi_cons 6 rfl rfl (gi_cons 13 rfl rfl (gi_cons 14 rfl rfl (gi_cons 114 rfl rfl (gi_cons 115 rfl rfl (gi_cons 116 rfl rfl (gi_cons 117 rfl rfl (gi_cons 118 rfl rfl gi_nil)))))))))))))
set_option maxRecDepth 20000 in
theorem gX0_moveThing_X9_sizeOf : GoodIn wsX0_moveThing (wsV RX0 166 RX9 yX9_sizeOf wsX9_sizeOf) := goodIn_app (goodIn_of _ (by decide +kernel)) ggX0_moveThing_X9_sizeOf
set_option maxRecDepth 100000 in
theorem ggX0_moveThing_X9_graftBehindAll : GoodIn wsX0_moveThing wsX9_graftBehindAll := (gi_cons 59 rfl rfl (gi_cons 60 rfl rfl (gi_cons 4 rfl rfl (gi_cons 5 rfl rfl (gi_cons 6 rfl rfl (gi_cons 7 rfl rfl (gi_cons 8 rfl rfl (gi_cons 9 rfl rfl (gi_cons 50 rfl rfl (gi_cons 11 rfl rfl (gi_cons 12 rfl rfl (gi_cons 13 rfl rfl (gi_cons 14 rfl rfl (gi_cons 61 rfl rfl (gi_cons 62 rfl rfl (gi_cons 63 rfl rfl (gi_cons 64 rfl rfl (gi_cons 65 rfl rfl (gi_cons 66 rfl rfl (gi_cons 67 rfl rfl (gi_cons 68 rfl rfl (gi_cons 32 rfl rfl (gi_cons 51 rfl rfl (gi_cons 52 rfl rfl (gi_cons 53 rfl rfl (gi_cons 54 rfl rfl (gi_cons 37 rfl rfl (gi_cons 38 rfl rfl (gi_cons 39 rfl rfl (gi_cons 40 rfl rfl (gi_cons 41 rfl rfl (gi_cons 114 rfl rfl (gi_cons 115 rfl rfl (gi_cons 116 rfl rfl (gi_cons 117 rfl rfl (gi_cons 118 rfl rfl gi_nil))))))))))))))))))))))))))))))))))))
set_option maxRecDepth 20000 in
theorem gX0_moveThing_X9_graftBehindAll : GoodIn wsX0_moveThing (wsV RX0 92 RX9 yX9_graftBehindAll wsX9_graftBehindAll) := goodIn_app (goodIn_of _ (by decide +kernel)) ggX0_moveThing_X9_graftBehindAll
set_option maxRecDepth 100000 in
theorem ggX0_moveThing_X0_commit : GoodIn wsX0_moveThing wsX0_commit := (gi_cons 72 rfl rfl (gi_cons 2 rfl rfl (gi_cons 1 rfl rfl (gi_cons 73 rfl rfl (gi_cons 74 rfl rfl (gi_cons 75 rfl rfl (gi_cons 6 rfl rfl (gi_cons 76 rfl rfl (gi_cons 8 rfl rfl (gi_cons 14 rfl rfl (gi_cons 77 rfl rfl (gi_cons 78 rfl rfl (gi_cons 79 rfl rfl (gi_cons 80 rfl rfl (gi_cons 81 rfl rfl (gi_cons 82 rfl rfl (gi_cons 83 rfl rfl (gi_cons 84 rfl rfl (gi_cons 85 rfl rfl (gi_cons 86 rfl rfl (gi_cons 87 rfl rfl (gi_cons 88 rfl rfl (gi_cons 89 rfl rfl (gi_cons 90 rfl rfl (gi_cons 91 rfl rfl (gi_cons 92 rfl rfl (gi_cons 93 rfl rfl (gi_cons 94 rfl rfl (gi_cons 95 rfl rfl (gi_cons 96 rfl rfl (gi_cons 97 rfl rfl (gi_cons 98 rfl rfl (gi_cons 99 rfl rfl (gi_cons 100 rfl rfl (gi_cons 101 rfl rfl (gi_cons 9 rfl rfl (gi_cons 41 rfl rfl (gi_cons 32 rfl rfl (gi_cons 102 rfl rfl (gi_cons 34 rfl rfl (gi_cons 35 rfl rfl (gi_cons 36 rfl rfl (gi_cons 37 rfl rfl (gi_cons 38 rfl rfl (gi_cons 39 rfl rfl (gi_cons 40 rfl rfl (gi_cons 33 rfl rfl (gi_cons 103 rfl rfl (gi_cons 104 rfl rfl (gi_cons 105 rfl rfl (gi_cons 106 rfl rfl (gi_cons 114 rfl rfl (gi_cons 115 rfl rfl (gi_cons 116 rfl rfl (gi_cons 117 rfl rfl (gi_cons 118 rfl rfl (gi_cons 107 rfl rfl (gi_cons 108 rfl rfl (gi_cons 109 rfl rfl (gi_cons 110 rfl rfl (gi_cons 111 rfl rfl (gi_cons 112 rfl rfl (gi_cons 113 rfl rfl gi_nil)))))))))))))))))))))))))))))))))))))))))))))))))))))))))))))))
set_option maxRecDepth 20000 in
theorem gX0_moveThing_X0_commit : GoodIn wsX0_moveThing (wsV RX0 81 RX0 yX0_commit wsX0_commit) := goodIn_app (goodIn_of _ (by decide +kernel)) ggX0_moveThing_X0_commit
theorem dX0_moveThing_0 : decode cX0_moveThing 0 = .ok (.aload_n 0, 1) := by decide +kernel
theorem dX0_moveThing_1 : decode cX0_moveThing 1 = .ok (.getfield 27, 3) := by decide +kernel
theorem dX0_moveThing_4 : decode cX0_moveThing 4 = .ok (.getfield 44, 3) := by decide +kernel
theorem dX0_moveThing_7 : decode cX0_moveThing 7 = .ok (.astore 4, 2) := by decide +kernel
theorem dX0_moveThing_9 : decode cX0_moveThing 9 = .ok (.iload_n 1, 1) := by decide +kernel
theorem dX0_moveThing_10 : decode cX0_moveThing 10 = .ok (.ifCond .eq 21, 3) := by decide +kernel
theorem dX0_moveThing_13 : decode cX0_moveThing 13 = .ok (.aload 4, 2) := by decide +kernel
theorem dX0_moveThing_15 : decode cX0_moveThing 15 = .ok (.iload_n 1, 1) := by decide +kernel
theorem dX0_moveThing_16 : decode cX0_moveThing 16 = .ok (.invokevirtual 159, 3) := by decide +kernel
theorem dX0_moveThing_19 : decode cX0_moveThing 19 = .ok (.ifCond .eq 12, 3) := by decide +kernel
theorem dX0_moveThing_22 : decode cX0_moveThing 22 = .ok (.aload 4, 2) := by decide +kernel
theorem dX0_moveThing_24 : decode cX0_moveThing 24 = .ok (.iload_n 2, 1) := by decide +kernel
theorem dX0_moveThing_25 : decode cX0_moveThing 25 = .ok (.invokevirtual 159, 3) := by decide +kernel
theorem dX0_moveThing_28 : decode cX0_moveThing 28 = .ok (.ifCond .ne 5, 3) := by decide +kernel
theorem dX0_moveThing_31 : decode cX0_moveThing 31 = .ok (.iconst (-1), 1) := by decide +kernel
theorem dX0_moveThing_32 : decode cX0_moveThing 32 = .ok (.ireturn, 1) := by decide +kernel
theorem dX0_moveThing_33 : decode cX0_moveThing 33 = .ok (.iload_n 2, 1) := by decide +kernel
theorem dX0_moveThing_34 : decode cX0_moveThing 34 = .ok (.iload_n 1, 1) := by decide +kernel
theorem dX0_moveThing_35 : decode cX0_moveThing 35 = .ok (.if_icmp .lt 13, 3) := by decide +kernel
theorem dX0_moveThing_38 : decode cX0_moveThing 38 = .ok (.iload_n 2, 1) := by decide +kernel
theorem dX0_moveThing_39 : decode cX0_moveThing 39 = .ok (.aload 4, 2) := by decide +kernel
theorem dX0_moveThing_41 : decode cX0_moveThing 41 = .ok (.iload_n 1, 1) := by decide +kernel
theorem dX0_moveThing_42 : decode cX0_moveThing 42 = .ok (.invokevirtual 85, 3) := by decide +kernel
theorem dX0_moveThing_45 : decode cX0_moveThing 45 = .ok (.if_icmp .le 12, 3) := by decide +kernel
theorem dX0_moveThing_48 : decode cX0_moveThing 48 = .ok (.aload_n 0, 1) := by decide +kernel
theorem dX0_moveThing_49 : decode cX0_moveThing 49 = .ok (.iload_n 2, 1) := by decide +kernel
theorem dX0_moveThing_50 : decode cX0_moveThing 50 = .ok (.iload_n 3, 1) := by decide +kernel
theorem dX0_moveThing_51 : decode cX0_moveThing 51 = .ok (.invokevirtual 163, 3) := by decide +kernel
theorem dX0_moveThing_54 : decode cX0_moveThing 54 = .ok (.ifCond .ne 5, 3) := by decide +kernel
theorem dX0_moveThing_57 : decode cX0_moveThing 57 = .ok (.iconst (-1), 1) := by decide +kernel
theorem dX0_moveThing_58 : decode cX0_moveThing 58 = .ok (.ireturn, 1) := by decide +kernel
theorem dX0_moveThing_59 : decode cX0_moveThing 59 = .ok (.aload_n 0, 1) := by decide +kernel
theorem dX0_moveThing_60 : decode cX0_moveThing 60 = .ok (.getfield 14, 3) := by decide +kernel
theorem dX0_moveThing_63 : decode cX0_moveThing 63 = .ok (.aload 4, 2) := by decide +kernel
theorem dX0_moveThing_65 : decode cX0_moveThing 65 = .ok (.invokevirtual 47, 3) := by decide +kernel
theorem dX0_moveThing_68 : decode cX0_moveThing 68 = .ok (.aload_n 0, 1) := by decide +kernel
theorem dX0_moveThing_69 : decode cX0_moveThing 69 = .ok (.getfield 14, 3) := by decide +kernel
theorem dX0_moveThing_72 : decode cX0_moveThing 72 = .ok (.iload_n 1, 1) := by decide +kernel
theorem dX0_moveThing_73 : decode cX0_moveThing 73 = .ok (.invokevirtual 156, 3) := by decide +kernel
theorem dX0_moveThing_76 : decode cX0_moveThing 76 = .ok (.iload_n 2, 1) := by decide +kernel
theorem dX0_moveThing_77 : decode cX0_moveThing 77 = .ok (.iload_n 1, 1) := by decide +kernel
theorem dX0_moveThing_78 : decode cX0_moveThing 78 = .ok (.if_icmp .ge 7, 3) := by decide +kernel
theorem dX0_moveThing_81 : decode cX0_moveThing 81 = .ok (.iload_n 2, 1) := by decide +kernel
theorem dX0_moveThing_82 : decode cX0_moveThing 82 = .ok (.goto 11, 3) := by decide +kernel
theorem dX0_moveThing_85 : decode cX0_moveThing 85 = .ok (.iload_n 2, 1) := by decide +kernel
theorem dX0_moveThing_86 : decode cX0_moveThing 86 = .ok (.aload 4, 2) := by decide +kernel
theorem dX0_moveThing_88 : decode cX0_moveThing 88 = .ok (.iload_n 1, 1) := by decide +kernel
theorem dX0_moveThing_89 : decode cX0_moveThing 89 = .ok (.invokevirtual 166, 3) := by decide +kernel
theorem dX0_moveThing_92 : decode cX0_moveThing 92 = .ok (.isub, 1) := by decide +kernel
theorem dX0_moveThing_93 : decode cX0_moveThing 93 = .ok (.istore 5, 2) := by decide +kernel
theorem dX0_moveThing_95 : decode cX0_moveThing 95 = .ok (.aload_n 0, 1) := by decide +kernel
theorem dX0_moveThing_96 : decode cX0_moveThing 96 = .ok (.getfield 14, 3) := by decide +kernel
theorem dX0_moveThing_99 : decode cX0_moveThing 99 = .ok (.iload 5, 2) := by decide +kernel
theorem dX0_moveThing_101 : decode cX0_moveThing 101 = .ok (.invokevirtual 85, 3) := by decide +kernel
theorem dX0_moveThing_104 : decode cX0_moveThing 104 = .ok (.iconst 1, 1) := by decide +kernel
theorem dX0_moveThing_105 : decode cX0_moveThing 105 = .ok (.iadd, 1) := by decide +kernel
theorem dX0_moveThing_106 : decode cX0_moveThing 106 = .ok (.istore 6, 2) := by decide +kernel
theorem dX0_moveThing_108 : decode cX0_moveThing 108 = .ok (.aload_n 0, 1) := by decide +kernel
theorem dX0_moveThing_109 : decode cX0_moveThing 109 = .ok (.getfield 14, 3) := by decide +kernel
theorem dX0_moveThing_112 : decode cX0_moveThing 112 = .ok (.iload 5, 2) := by decide +kernel
theorem dX0_moveThing_114 : decode cX0_moveThing 114 = .ok (.iload_n 3, 1) := by decide +kernel
theorem dX0_moveThing_115 : decode cX0_moveThing 115 = .ok (.aload 4, 2) := by decide +kernel
theorem dX0_moveThing_117 : decode cX0_moveThing 117 = .ok (.iload_n 1, 1) := by decide +kernel
theorem dX0_moveThing_118 : decode cX0_moveThing 118 = .ok (.invokevirtual 92, 3) := by decide +kernel
theorem dX0_moveThing_121 : decode cX0_moveThing 121 = .ok (.istore 7, 2) := by decide +kernel
theorem dX0_moveThing_123 : decode cX0_moveThing 123 = .ok (.iload 7, 2) := by decide +kernel
theorem dX0_moveThing_125 : decode cX0_moveThing 125 = .ok (.ifCond .eq 15, 3) := by decide +kernel
theorem dX0_moveThing_128 : decode cX0_moveThing 128 = .ok (.aload_n 0, 1) := by decide +kernel
theorem dX0_moveThing_129 : decode cX0_moveThing 129 = .ok (.invokevirtual 81, 3) := by decide +kernel
theorem dX0_moveThing_132 : decode cX0_moveThing 132 = .ok (.ifCond .eq 8, 3) := by decide +kernel
theorem dX0_moveThing_135 : decode cX0_moveThing 135 = .ok (.iload 6, 2) := by decide +kernel
theorem dX0_moveThing_137 : decode cX0_moveThing 137 = .ok (.goto 4, 3) := by decide +kernel
theorem dX0_moveThing_140 : decode cX0_moveThing 140 = .ok (.iconst (-1), 1) := by decide +kernel
theorem dX0_moveThing_141 : decode cX0_moveThing 141 = .ok (.ireturn, 1) := by decide +kernel
set_option maxRecDepth 100000 in
theorem ggX0_layOn_X9_become : GoodIn wsX0_layOn wsX9_become := (gi_cons 7 rfl rfl (gi_cons 8 rfl rfl (gi_cons 9 rfl rfl (gi_cons 10 rfl rfl (gi_cons 11 rfl rfl (gi_cons 12 rfl rfl (gi_cons 13 rfl rfl (gi_cons 14 rfl rfl (gi_cons 15 rfl rfl (gi_cons 16 rfl rfl (gi_cons 179 rfl rfl (gi_cons 180 rfl rfl (gi_cons 181 rfl rfl (gi_cons 182 rfl rfl (gi_cons 183 rfl rfl gi_nil)))))))))))))))
set_option maxRecDepth 20000 in
theorem gX0_layOn_X9_become : GoodIn wsX0_layOn (wsV RX0 47 RX9 yX9_become wsX9_become) := goodIn_app (goodIn_of _ (by decide +kernel)) ggX0_layOn_X9_become
set_option maxRecDepth 100000 in
theorem ggX0_layOn_X3_layOn : GoodIn wsX0_layOn wsX3_layOn := (gi_cons 21 rfl rfl (gi_cons 22 rfl rfl (gi_cons 23 rfl rfl (gi_cons 24 rfl rfl (gi_cons 25 rfl rfl (gi_cons 26 rfl rfl (gi_cons 27 rfl rfl (gi_cons 20 rfl rfl (gi_cons 28 rfl rfl (gi_cons 29 rfl rfl (gi_cons 30 rfl rfl (gi_cons 31 rfl rfl (gi_cons 32 rfl rfl (gi_cons 33 rfl rfl (gi_cons 34 rfl rfl (gi_cons 35 rfl rfl (gi_cons 36 rfl rfl (gi_cons 37 rfl rfl (gi_cons 38 rfl rfl (gi_cons 39 rfl rfl (gi_cons 40 rfl rfl (gi_cons 41 rfl rfl (gi_cons 42 rfl rfl (gi_cons 43 rfl rfl (gi_cons 6 rfl rfl (gi_cons 44 rfl rfl (gi_cons 8 rfl rfl (gi_cons 16 rfl rfl (gi_cons 45 rfl rfl (gi_cons 46 rfl rfl (gi_cons 47 rfl rfl (gi_cons 48 rfl rfl (gi_cons 49 rfl rfl (gi_cons 50 rfl rfl (gi_cons 51 rfl rfl (gi_cons 52 rfl rfl (gi_cons 53 rfl rfl (gi_cons 54 rfl rfl (gi_cons 55 rfl rfl (gi_cons 56 rfl rfl (gi_cons 57 rfl rfl (gi_cons 58 rfl rfl (gi_cons 59 rfl rfl (gi_cons 9 rfl rfl (gi_cons 60 rfl rfl (gi_cons 61 rfl rfl (gi_cons 62 rfl rfl (gi_cons 63 rfl rfl (gi_cons 15 rfl rfl (gi_cons 64 rfl rfl (gi_cons 65 rfl rfl (gi_cons 66 rfl rfl (gi_cons 67 rfl rfl (gi_cons 68 rfl rfl (gi_cons 69 rfl rfl (gi_cons 70 rfl rfl (gi_cons 71 rfl rfl (gi_cons 72 rfl rfl (gi_cons 73 rfl rfl (gi_cons 74 rfl rfl (gi_cons 75 rfl rfl (gi_cons 76 rfl rfl (gi_cons 77 rfl rfl (gi_cons 78 rfl rfl (gi_cons 79 rfl rfl (gi_cons 80 rfl rfl (gi_cons 81 rfl rfl (gi_cons 82 rfl rfl (gi_cons 83 rfl rfl (gi_cons 84 rfl rfl (gi_cons 85 rfl rfl (gi_cons 86 rfl rfl (gi_cons 87 rfl rfl (gi_cons 88 rfl rfl (gi_cons 89 rfl rfl (gi_cons 90 rfl rfl (gi_cons 91 rfl rfl (gi_cons 92 rfl rfl (gi_cons 93 rfl rfl (gi_cons 94 rfl rfl (gi_cons 95 rfl rfl (gi_cons 96 rfl rfl (gi_cons 10 rfl rfl (gi_cons 11 rfl rfl (gi_cons 12 rfl rfl (gi_cons 13 rfl rfl (gi_cons 14 rfl rfl (gi_cons 97 rfl rfl (gi_cons 98 rfl rfl (gi_cons 99 rfl rfl (gi_cons 100 rfl rfl (gi_cons 101 rfl rfl (gi_cons 102 rfl rfl (gi_cons 103 rfl rfl (gi_cons 104 rfl rfl (gi_cons 105 rfl rfl (gi_cons 106 rfl rfl (gi_cons 107 rfl rfl (gi_cons 108 rfl rfl (gi_cons 109 rfl rfl (gi_cons 110 rfl rfl (gi_cons 111 rfl rfl (gi_cons 112 rfl rfl (gi_cons 113 rfl rfl (gi_cons 114 rfl rfl (gi_cons 115 rfl rfl (gi_cons 116 rfl rfl (gi_cons 117 rfl rfl (gi_cons 118 rfl rfl (gi_cons 119 rfl rfl (gi_cons 120 rfl rfl (gi_cons 121 rfl rfl (gi_cons 122 rfl rfl (gi_cons 123 rfl rfl (gi_cons 124 rfl rfl (gi_cons 125 rfl rfl (gi_cons 126 rfl rfl (gi_cons 127 rfl rfl (gi_cons 163 rfl rfl (gi_cons 164 rfl rfl (gi_cons 165 rfl rfl (gi_cons 166 rfl rfl (gi_cons 167 rfl rfl (gi_cons 179 rfl rfl (gi_cons 180 rfl rfl (gi_cons 181 rfl rfl (gi_cons 182 rfl rfl (gi_cons 183 rfl rfl gi_nil))))))))))))))))))))))))))))))))))))))))))))))))))))))))))))))))))))))))))))))))))))))))))))))))))))))))))))))))))))))))))))))))
set_option maxRecDepth 20000 in
theorem gX0_layOn_X3_layOn : GoodIn wsX0_layOn (wsV RX0 177 RX3 yX3_layOn wsX3_layOn) := goodIn_app (goodIn_of _ (by decide +kernel)) ggX0_layOn_X3_layOn
set_option maxRecDepth 100000 in
theorem ggX0_layOn_X0_commit : GoodIn wsX0_layOn wsX0_commit := (gi_cons 132 rfl rfl (gi_cons 1 rfl rfl (gi_cons 2 rfl rfl (gi_cons 133 rfl rfl (gi_cons 134 rfl rfl (gi_cons 135 rfl rfl (gi_cons 6 rfl rfl (gi_cons 136 rfl rfl (gi_cons 8 rfl rfl (gi_cons 16 rfl rfl (gi_cons 137 rfl rfl (gi_cons 138 rfl rfl (gi_cons 139 rfl rfl (gi_cons 140 rfl rfl (gi_cons 141 rfl rfl (gi_cons 142 rfl rfl (gi_cons 143 rfl rfl (gi_cons 144 rfl rfl (gi_cons 145 rfl rfl (gi_cons 146 rfl rfl (gi_cons 147 rfl rfl (gi_cons 148 rfl rfl (gi_cons 149 rfl rfl (gi_cons 150 rfl rfl (gi_cons 151 rfl rfl (gi_cons 152 rfl rfl (gi_cons 153 rfl rfl (gi_cons 154 rfl rfl (gi_cons 155 rfl rfl (gi_cons 156 rfl rfl (gi_cons 157 rfl rfl (gi_cons 158 rfl rfl (gi_cons 159 rfl rfl (gi_cons 160 rfl rfl (gi_cons 161 rfl rfl (gi_cons 9 rfl rfl (gi_cons 14 rfl rfl (gi_cons 15 rfl rfl (gi_cons 162 rfl rfl (gi_cons 4 rfl rfl (gi_cons 5 rfl rfl (gi_cons 7 rfl rfl (gi_cons 10 rfl rfl (gi_cons 11 rfl rfl (gi_cons 12 rfl rfl (gi_cons 13 rfl rfl (gi_cons 3 rfl rfl (gi_cons 168 rfl rfl (gi_cons 169 rfl rfl (gi_cons 170 rfl rfl (gi_cons 171 rfl rfl (gi_cons 179 rfl rfl (gi_cons 180 rfl rfl (gi_cons 181 rfl rfl (gi_cons 182 rfl rfl (gi_cons 183 rfl rfl (gi_cons 172 rfl rfl (gi_cons 173 rfl rfl (gi_cons 174 rfl rfl (gi_cons 175 rfl rfl (gi_cons 176 rfl rfl (gi_cons 177 rfl rfl (gi_cons 178 rfl rfl gi_nil)))))))))))))))))))))))))))))))))))))))))))))))))))))))))))))))
set_option maxRecDepth 20000 in
theorem gX0_layOn_X0_commit : GoodIn wsX0_layOn (wsV RX0 81 RX0 yX0_commit wsX0_commit) := goodIn_app (goodIn_of _ (by decide +kernel)) ggX0_layOn_X0_commit
theorem dX0_layOn_0 : decode cX0_layOn 0 = .ok (.aload_n 1, 1) := by decide +kernel
theorem dX0_layOn_1 : decode cX0_layOn 1 = .ok (.getfield 172, 3) := by decide +kernel
theorem dX0_layOn_4 : decode cX0_layOn 4 = .ok (.iconst 1, 1) := by decide +kernel
theorem dX0_layOn_5 : decode cX0_layOn 5 = .ok (.if_icmp .ge 5, 3) := by decide +kernel
theorem dX0_layOn_8 : decode cX0_layOn 8 = .ok (.iconst (-1), 1) := by decide +kernel
theorem dX0_layOn_9 : decode cX0_layOn 9 = .ok (.ireturn, 1) := by decide +kernel
theorem dX0_layOn_10 : decode cX0_layOn 10 = .ok (.aload_n 0, 1) := by decide +kernel
theorem dX0_layOn_11 : decode cX0_layOn 11 = .ok (.getfield 14, 3) := by decide +kernel
theorem dX0_layOn_14 : decode cX0_layOn 14 = .ok (.aload_n 0, 1) := by decide +kernel
theorem dX0_layOn_15 : decode cX0_layOn 15 = .ok (.getfield 27, 3) := by decide +kernel
theorem dX0_layOn_18 : decode cX0_layOn 18 = .ok (.getfield 44, 3) := by decide +kernel
theorem dX0_layOn_21 : decode cX0_layOn 21 = .ok (.invokevirtual 47, 3) := by decide +kernel
theorem dX0_layOn_24 : decode cX0_layOn 24 = .ok (.aload_n 1, 1) := by decide +kernel
theorem dX0_layOn_25 : decode cX0_layOn 25 = .ok (.aload_n 0, 1) := by decide +kernel
theorem dX0_layOn_26 : decode cX0_layOn 26 = .ok (.getfield 14, 3) := by decide +kernel
theorem dX0_layOn_29 : decode cX0_layOn 29 = .ok (.iload_n 2, 1) := by decide +kernel
theorem dX0_layOn_30 : decode cX0_layOn 30 = .ok (.invokevirtual 177, 3) := by decide +kernel
theorem dX0_layOn_33 : decode cX0_layOn 33 = .ok (.ifCond .eq 17, 3) := by decide +kernel
theorem dX0_layOn_36 : decode cX0_layOn 36 = .ok (.aload_n 0, 1) := by decide +kernel
theorem dX0_layOn_37 : decode cX0_layOn 37 = .ok (.invokevirtual 81, 3) := by decide +kernel
theorem dX0_layOn_40 : decode cX0_layOn 40 = .ok (.ifCond .eq 10, 3) := by decide +kernel
theorem dX0_layOn_43 : decode cX0_layOn 43 = .ok (.aload_n 1, 1) := by decide +kernel
theorem dX0_layOn_44 : decode cX0_layOn 44 = .ok (.getfield 172, 3) := by decide +kernel
theorem dX0_layOn_47 : decode cX0_layOn 47 = .ok (.goto 4, 3) := by decide +kernel
theorem dX0_layOn_50 : decode cX0_layOn 50 = .ok (.iconst (-1), 1) := by decide +kernel
theorem dX0_layOn_51 : decode cX0_layOn 51 = .ok (.ireturn, 1) := by decide +kernel
set_option maxRecDepth 100000 in
theorem ggX6_remember_X6_loseOldest : GoodIn wsX6_remember wsX6_loseOldest := (gi_cons 11 rfl rfl (gi_cons 2 rfl rfl (gi_cons 1 rfl rfl (gi_cons 32 rfl rfl (gi_cons 33 rfl rfl (gi_cons 34 rfl rfl (gi_cons 35 rfl rfl (gi_cons 36 rfl rfl (gi_cons 37 rfl rfl (gi_cons 38 rfl rfl gi_nil))))))))))
set_option maxRecDepth 20000 in
theorem gX6_remember_X6_loseOldest : GoodIn wsX6_remember (wsV RX6 39 RX6 yX6_loseOldest wsX6_loseOldest) := goodIn_app (goodIn_of _ (by decide +kernel)) ggX6_remember_X6_loseOldest
set_option maxRecDepth 100000 in
theorem ggX6_remember_X9_init : GoodIn wsX6_remember wsX9_init := (gi_cons 14 rfl rfl (gi_cons 15 rfl rfl (gi_cons 16 rfl rfl (gi_cons 17 rfl rfl (gi_cons 18 rfl rfl (gi_cons 19 rfl rfl (gi_cons 20 rfl rfl (gi_cons 21 rfl rfl (gi_cons 22 rfl rfl (gi_cons 39 rfl rfl (gi_cons 40 rfl rfl (gi_cons 41 rfl rfl (gi_cons 42 rfl rfl (gi_cons 43 rfl rfl gi_nil))))))))))))))
set_option maxRecDepth 20000 in
theorem gX6_remember_X9_init : GoodIn wsX6_remember (wsX9_init) := ggX6_remember_X9_init
set_option maxRecDepth 100000 in
theorem ggX6_remember_X9_become : GoodIn wsX6_remember wsX9_become := (gi_cons 26 rfl rfl (gi_cons 27 rfl rfl (gi_cons 19 rfl rfl (gi_cons 28 rfl rfl (gi_cons 29 rfl rfl (gi_cons 30 rfl rfl (gi_cons 31 rfl rfl (gi_cons 20 rfl rfl (gi_cons 21 rfl rfl (gi_cons 22 rfl rfl (gi_cons 39 rfl rfl (gi_cons 40 rfl rfl (gi_cons 41 rfl rfl (gi_cons 42 rfl rfl (gi_cons 43 rfl rfl gi_nil)))))))))))))))
set_option maxRecDepth 20000 in
theorem gX6_remember_X9_become : GoodIn wsX6_remember (wsV RX6 42 RX9 yX9_become wsX9_become) := goodIn_app (goodIn_of _ (by decide +kernel)) ggX6_remember_X9_become
theorem dX6_remember_0 : decode cX6_remember 0 = .ok (.aload_n 0, 1) := by decide +kernel
theorem dX6_remember_1 : decode cX6_remember 1 = .ok (.getfield 35, 3) := by decide +kernel
theorem dX6_remember_4 : decode cX6_remember 4 = .ok (.bipush 40, 2) := by decide +kernel
theorem dX6_remember_6 : decode cX6_remember 6 = .ok (.if_icmp .lt 7, 3) := by decide +kernel
theorem dX6_remember_9 : decode cX6_remember 9 = .ok (.aload_n 0, 1) := by decide +kernel
theorem dX6_remember_10 : decode cX6_remember 10 = .ok (.invokevirtual 39, 3) := by decide +kernel
theorem dX6_remember_13 : decode cX6_remember 13 = .ok (.aload_n 0, 1) := by decide +kernel
theorem dX6_remember_14 : decode cX6_remember 14 = .ok (.getfield 35, 3) := by decide +kernel
theorem dX6_remember_17 : decode cX6_remember 17 = .ok (.ifCond .lt 64, 3) := by decide +kernel
theorem dX6_remember_20 : decode cX6_remember 20 = .ok (.aload_n 0, 1) := by decide +kernel
theorem dX6_remember_21 : decode cX6_remember 21 = .ok (.getfield 35, 3) := by decide +kernel
theorem dX6_remember_24 : decode cX6_remember 24 = .ok (.bipush 40, 2) := by decide +kernel
theorem dX6_remember_26 : decode cX6_remember 26 = .ok (.if_icmp .ge 55, 3) := by decide +kernel
theorem dX6_remember_29 : decode cX6_remember 29 = .ok (.aload_n 0, 1) := by decide +kernel
theorem dX6_remember_30 : decode cX6_remember 30 = .ok (.getfield 20, 3) := by decide +kernel
theorem dX6_remember_33 : decode cX6_remember 33 = .ok (.aload_n 0, 1) := by decide +kernel
theorem dX6_remember_34 : decode cX6_remember 34 = .ok (.getfield 35, 3) := by decide +kernel
theorem dX6_remember_37 : decode cX6_remember 37 = .ok (.aaload, 1) := by decide +kernel
theorem dX6_remember_38 : decode cX6_remember 38 = .ok (.astore_n 1, 1) := by decide +kernel
theorem dX6_remember_39 : decode cX6_remember 39 = .ok (.aload_n 1, 1) := by decide +kernel
theorem dX6_remember_40 : decode cX6_remember 40 = .ok (.ifnonnull 23, 3) := by decide +kernel
theorem dX6_remember_43 : decode cX6_remember 43 = .ok (.new 9, 3) := by decide +kernel
theorem dX6_remember_46 : decode cX6_remember 46 = .ok (.dup, 1) := by decide +kernel
theorem dX6_remember_47 : decode cX6_remember 47 = .ok (.bipush 60, 2) := by decide +kernel
theorem dX6_remember_49 : decode cX6_remember 49 = .ok (.invokespecial 11, 3) := by decide +kernel
theorem dX6_remember_52 : decode cX6_remember 52 = .ok (.astore_n 1, 1) := by decide +kernel
theorem dX6_remember_53 : decode cX6_remember 53 = .ok (.aload_n 0, 1) := by decide +kernel
theorem dX6_remember_54 : decode cX6_remember 54 = .ok (.getfield 20, 3) := by decide +kernel
theorem dX6_remember_57 : decode cX6_remember 57 = .ok (.aload_n 0, 1) := by decide +kernel
theorem dX6_remember_58 : decode cX6_remember 58 = .ok (.getfield 35, 3) := by decide +kernel
theorem dX6_remember_61 : decode cX6_remember 61 = .ok (.aload_n 1, 1) := by decide +kernel
theorem dX6_remember_62 : decode cX6_remember 62 = .ok (.aastore, 1) := by decide +kernel
theorem dX6_remember_63 : decode cX6_remember 63 = .ok (.aload_n 1, 1) := by decide +kernel
theorem dX6_remember_64 : decode cX6_remember 64 = .ok (.aload_n 0, 1) := by decide +kernel
theorem dX6_remember_65 : decode cX6_remember 65 = .ok (.getfield 14, 3) := by decide +kernel
theorem dX6_remember_68 : decode cX6_remember 68 = .ok (.invokevirtual 42, 3) := by decide +kernel
theorem dX6_remember_71 : decode cX6_remember 71 = .ok (.aload_n 0, 1) := by decide +kernel
theorem dX6_remember_72 : decode cX6_remember 72 = .ok (.dup, 1) := by decide +kernel
theorem dX6_remember_73 : decode cX6_remember 73 = .ok (.getfield 35, 3) := by decide +kernel
theorem dX6_remember_76 : decode cX6_remember 76 = .ok (.iconst 1, 1) := by decide +kernel
theorem dX6_remember_77 : decode cX6_remember 77 = .ok (.iadd, 1) := by decide +kernel
theorem dX6_remember_78 : decode cX6_remember 78 = .ok (.putfield 35, 3) := by decide +kernel
theorem dX6_remember_81 : decode cX6_remember 81 = .ok (.return_, 1) := by decide +kernel
set_option maxRecDepth 100000 in
theorem ggX6_takeAll_X9_become : GoodIn wsX6_takeAll wsX9_become := (gi_cons 12 rfl rfl (gi_cons 13 rfl rfl (gi_cons 14 rfl rfl (gi_cons 15 rfl rfl (gi_cons 16 rfl rfl (gi_cons 17 rfl rfl (gi_cons 18 rfl rfl (gi_cons 19 rfl rfl (gi_cons 20 rfl rfl (gi_cons 21 rfl rfl (gi_cons 43 rfl rfl (gi_cons 44 rfl rfl (gi_cons 45 rfl rfl (gi_cons 46 rfl rfl (gi_cons 47 rfl rfl gi_nil)))))))))))))))
set_option maxRecDepth 20000 in
theorem gX6_takeAll_X9_become : GoodIn wsX6_takeAll (wsV RX6 42 RX9 yX9_become wsX9_become) := goodIn_app (goodIn_of _ (by decide +kernel)) ggX6_takeAll_X9_become
set_option maxRecDepth 100000 in
theorem ggX6_takeAll_X6_takeBefore : GoodIn wsX6_takeAll wsX6_takeBefore := (gi_cons 26 rfl rfl (gi_cons 3 rfl rfl (gi_cons 27 rfl rfl (gi_cons 28 rfl rfl (gi_cons 11 rfl rfl (gi_cons 29 rfl rfl (gi_cons 30 rfl rfl (gi_cons 31 rfl rfl (gi_cons 32 rfl rfl (gi_cons 33 rfl rfl (gi_cons 34 rfl rfl (gi_cons 35 rfl rfl (gi_cons 14 rfl rfl (gi_cons 19 rfl rfl (gi_cons 20 rfl rfl (gi_cons 21 rfl rfl (gi_cons 8 rfl rfl (gi_cons 9 rfl rfl (gi_cons 10 rfl rfl (gi_cons 12 rfl rfl (gi_cons 13 rfl rfl (gi_cons 15 rfl rfl (gi_cons 16 rfl rfl (gi_cons 17 rfl rfl (gi_cons 18 rfl rfl (gi_cons 36 rfl rfl (gi_cons 37 rfl rfl (gi_cons 38 rfl rfl (gi_cons 39 rfl rfl (gi_cons 40 rfl rfl (gi_cons 41 rfl rfl (gi_cons 42 rfl rfl (gi_cons 43 rfl rfl (gi_cons 44 rfl rfl (gi_cons 45 rfl rfl (gi_cons 46 rfl rfl (gi_cons 47 rfl rfl gi_nil)))))))))))))))))))))))))))))))))))))
set_option maxRecDepth 20000 in
theorem gX6_takeAll_X6_takeBefore : GoodIn wsX6_takeAll (wsV RX6 53 RX6 yX6_takeBefore wsX6_takeBefore) := goodIn_app (goodIn_of _ (by decide +kernel)) ggX6_takeAll_X6_takeBefore
theorem dX6_takeAll_0 : decode cX6_takeAll 0 = .ok (.aload_n 0, 1) := by decide +kernel
theorem dX6_takeAll_1 : decode cX6_takeAll 1 = .ok (.getfield 14, 3) := by decide +kernel
theorem dX6_takeAll_4 : decode cX6_takeAll 4 = .ok (.aload_n 1, 1) := by decide +kernel
theorem dX6_takeAll_5 : decode cX6_takeAll 5 = .ok (.getfield 14, 3) := by decide +kernel
theorem dX6_takeAll_8 : decode cX6_takeAll 8 = .ok (.invokevirtual 42, 3) := by decide +kernel
theorem dX6_takeAll_11 : decode cX6_takeAll 11 = .ok (.aload_n 0, 1) := by decide +kernel
theorem dX6_takeAll_12 : decode cX6_takeAll 12 = .ok (.aload_n 1, 1) := by decide +kernel
theorem dX6_takeAll_13 : decode cX6_takeAll 13 = .ok (.getfield 35, 3) := by decide +kernel
theorem dX6_takeAll_16 : decode cX6_takeAll 16 = .ok (.putfield 35, 3) := by decide +kernel
theorem dX6_takeAll_19 : decode cX6_takeAll 19 = .ok (.iconst 0, 1) := by decide +kernel
theorem dX6_takeAll_20 : decode cX6_takeAll 20 = .ok (.istore_n 2, 1) := by decide +kernel
theorem dX6_takeAll_21 : decode cX6_takeAll 21 = .ok (.iload_n 2, 1) := by decide +kernel
theorem dX6_takeAll_22 : decode cX6_takeAll 22 = .ok (.aload_n 0, 1) := by decide +kernel
theorem dX6_takeAll_23 : decode cX6_takeAll 23 = .ok (.getfield 35, 3) := by decide +kernel
theorem dX6_takeAll_26 : decode cX6_takeAll 26 = .ok (.if_icmp .ge 26, 3) := by decide +kernel
theorem dX6_takeAll_29 : decode cX6_takeAll 29 = .ok (.iload_n 2, 1) := by decide +kernel
theorem dX6_takeAll_30 : decode cX6_takeAll 30 = .ok (.bipush 40, 2) := by decide +kernel
theorem dX6_takeAll_32 : decode cX6_takeAll 32 = .ok (.if_icmp .ge 20, 3) := by decide +kernel
theorem dX6_takeAll_35 : decode cX6_takeAll 35 = .ok (.aload_n 0, 1) := by decide +kernel
theorem dX6_takeAll_36 : decode cX6_takeAll 36 = .ok (.iload_n 2, 1) := by decide +kernel
theorem dX6_takeAll_37 : decode cX6_takeAll 37 = .ok (.aload_n 1, 1) := by decide +kernel
theorem dX6_takeAll_38 : decode cX6_takeAll 38 = .ok (.getfield 20, 3) := by decide +kernel
theorem dX6_takeAll_41 : decode cX6_takeAll 41 = .ok (.iload_n 2, 1) := by decide +kernel
theorem dX6_takeAll_42 : decode cX6_takeAll 42 = .ok (.aaload, 1) := by decide +kernel
theorem dX6_takeAll_43 : decode cX6_takeAll 43 = .ok (.invokevirtual 53, 3) := by decide +kernel
theorem dX6_takeAll_46 : decode cX6_takeAll 46 = .ok (.iinc 2 1, 3) := by decide +kernel
theorem dX6_takeAll_49 : decode cX6_takeAll 49 = .ok (.goto (-28), 3) := by decide +kernel
theorem dX6_takeAll_52 : decode cX6_takeAll 52 = .ok (.aload_n 0, 1) := by decide +kernel
theorem dX6_takeAll_53 : decode cX6_takeAll 53 = .ok (.aload_n 1, 1) := by decide +kernel
theorem dX6_takeAll_54 : decode cX6_takeAll 54 = .ok (.getfield 46, 3) := by decide +kernel
theorem dX6_takeAll_57 : decode cX6_takeAll 57 = .ok (.putfield 46, 3) := by decide +kernel
theorem dX6_takeAll_60 : decode cX6_takeAll 60 = .ok (.iconst 0, 1) := by decide +kernel
theorem dX6_takeAll_61 : decode cX6_takeAll 61 = .ok (.istore_n 2, 1) := by decide +kernel
theorem dX6_takeAll_62 : decode cX6_takeAll 62 = .ok (.iload_n 2, 1) := by decide +kernel
theorem dX6_takeAll_63 : decode cX6_takeAll 63 = .ok (.bipush 8, 2) := by decide +kernel
theorem dX6_takeAll_65 : decode cX6_takeAll 65 = .ok (.if_icmp .ge 33, 3) := by decide +kernel
theorem dX6_takeAll_68 : decode cX6_takeAll 68 = .ok (.aload_n 0, 1) := by decide +kernel
theorem dX6_takeAll_69 : decode cX6_takeAll 69 = .ok (.getfield 24, 3) := by decide +kernel
theorem dX6_takeAll_72 : decode cX6_takeAll 72 = .ok (.iload_n 2, 1) := by decide +kernel
theorem dX6_takeAll_73 : decode cX6_takeAll 73 = .ok (.aload_n 1, 1) := by decide +kernel
theorem dX6_takeAll_74 : decode cX6_takeAll 74 = .ok (.getfield 24, 3) := by decide +kernel
theorem dX6_takeAll_77 : decode cX6_takeAll 77 = .ok (.iload_n 2, 1) := by decide +kernel
theorem dX6_takeAll_78 : decode cX6_takeAll 78 = .ok (.iaload, 1) := by decide +kernel
theorem dX6_takeAll_79 : decode cX6_takeAll 79 = .ok (.iastore, 1) := by decide +kernel
theorem dX6_takeAll_80 : decode cX6_takeAll 80 = .ok (.aload_n 0, 1) := by decide +kernel
theorem dX6_takeAll_81 : decode cX6_takeAll 81 = .ok (.getfield 28, 3) := by decide +kernel
theorem dX6_takeAll_84 : decode cX6_takeAll 84 = .ok (.iload_n 2, 1) := by decide +kernel
theorem dX6_takeAll_85 : decode cX6_takeAll 85 = .ok (.aload_n 1, 1) := by decide +kernel
theorem dX6_takeAll_86 : decode cX6_takeAll 86 = .ok (.getfield 28, 3) := by decide +kernel
theorem dX6_takeAll_89 : decode cX6_takeAll 89 = .ok (.iload_n 2, 1) := by decide +kernel
theorem dX6_takeAll_90 : decode cX6_takeAll 90 = .ok (.baload, 1) := by decide +kernel
theorem dX6_takeAll_91 : decode cX6_takeAll 91 = .ok (.bastore, 1) := by decide +kernel
theorem dX6_takeAll_92 : decode cX6_takeAll 92 = .ok (.iinc 2 1, 3) := by decide +kernel
theorem dX6_takeAll_95 : decode cX6_takeAll 95 = .ok (.goto (-33), 3) := by decide +kernel
theorem dX6_takeAll_98 : decode cX6_takeAll 98 = .ok (.iconst 0, 1) := by decide +kernel
theorem dX6_takeAll_99 : decode cX6_takeAll 99 = .ok (.istore_n 2, 1) := by decide +kernel
theorem dX6_takeAll_100 : decode cX6_takeAll 100 = .ok (.iload_n 2, 1) := by decide +kernel
theorem dX6_takeAll_101 : decode cX6_takeAll 101 = .ok (.aload_n 0, 1) := by decide +kernel
theorem dX6_takeAll_102 : decode cX6_takeAll 102 = .ok (.getfield 32, 3) := by decide +kernel
theorem dX6_takeAll_105 : decode cX6_takeAll 105 = .ok (.arraylength, 1) := by decide +kernel
theorem dX6_takeAll_106 : decode cX6_takeAll 106 = .ok (.if_icmp .ge 30, 3) := by decide +kernel
theorem dX6_takeAll_109 : decode cX6_takeAll 109 = .ok (.iload_n 2, 1) := by decide +kernel
theorem dX6_takeAll_110 : decode cX6_takeAll 110 = .ok (.aload_n 1, 1) := by decide +kernel
theorem dX6_takeAll_111 : decode cX6_takeAll 111 = .ok (.getfield 32, 3) := by decide +kernel
theorem dX6_takeAll_114 : decode cX6_takeAll 114 = .ok (.arraylength, 1) := by decide +kernel
theorem dX6_takeAll_115 : decode cX6_takeAll 115 = .ok (.if_icmp .ge 21, 3) := by decide +kernel
theorem dX6_takeAll_118 : decode cX6_takeAll 118 = .ok (.aload_n 0, 1) := by decide +kernel
theorem dX6_takeAll_119 : decode cX6_takeAll 119 = .ok (.getfield 32, 3) := by decide +kernel
theorem dX6_takeAll_122 : decode cX6_takeAll 122 = .ok (.iload_n 2, 1) := by decide +kernel
theorem dX6_takeAll_123 : decode cX6_takeAll 123 = .ok (.aload_n 1, 1) := by decide +kernel
theorem dX6_takeAll_124 : decode cX6_takeAll 124 = .ok (.getfield 32, 3) := by decide +kernel
theorem dX6_takeAll_127 : decode cX6_takeAll 127 = .ok (.iload_n 2, 1) := by decide +kernel
theorem dX6_takeAll_128 : decode cX6_takeAll 128 = .ok (.iaload, 1) := by decide +kernel
theorem dX6_takeAll_129 : decode cX6_takeAll 129 = .ok (.iastore, 1) := by decide +kernel
theorem dX6_takeAll_130 : decode cX6_takeAll 130 = .ok (.iinc 2 1, 3) := by decide +kernel
theorem dX6_takeAll_133 : decode cX6_takeAll 133 = .ok (.goto (-33), 3) := by decide +kernel
theorem dX6_takeAll_136 : decode cX6_takeAll 136 = .ok (.return_, 1) := by decide +kernel
set_option maxRecDepth 100000 in
theorem ggX6_takeBefore_X9_init : GoodIn wsX6_takeBefore wsX9_init := (gi_cons 7 rfl rfl (gi_cons 8 rfl rfl (gi_cons 9 rfl rfl (gi_cons 10 rfl rfl (gi_cons 11 rfl rfl (gi_cons 12 rfl rfl (gi_cons 13 rfl rfl (gi_cons 14 rfl rfl (gi_cons 15 rfl rfl (gi_cons 32 rfl rfl (gi_cons 33 rfl rfl (gi_cons 34 rfl rfl (gi_cons 35 rfl rfl (gi_cons 36 rfl rfl gi_nil))))))))))))))
set_option maxRecDepth 20000 in
theorem gX6_takeBefore_X9_init : GoodIn wsX6_takeBefore (wsX9_init) := ggX6_takeBefore_X9_init
set_option maxRecDepth 100000 in
theorem ggX6_takeBefore_X9_become : GoodIn wsX6_takeBefore wsX9_become := (gi_cons 19 rfl rfl (gi_cons 20 rfl rfl (gi_cons 12 rfl rfl (gi_cons 21 rfl rfl (gi_cons 22 rfl rfl (gi_cons 23 rfl rfl (gi_cons 24 rfl rfl (gi_cons 13 rfl rfl (gi_cons 14 rfl rfl (gi_cons 15 rfl rfl (gi_cons 32 rfl rfl (gi_cons 33 rfl rfl (gi_cons 34 rfl rfl (gi_cons 35 rfl rfl (gi_cons 36 rfl rfl gi_nil)))))))))))))))
set_option maxRecDepth 20000 in
theorem gX6_takeBefore_X9_become : GoodIn wsX6_takeBefore (wsV RX6 42 RX9 yX9_become wsX9_become) := goodIn_app (goodIn_of _ (by decide +kernel)) ggX6_takeBefore_X9_become
theorem dX6_takeBefore_0 : decode cX6_takeBefore 0 = .ok (.iload_n 1, 1) := by decide +kernel
theorem dX6_takeBefore_1 : decode cX6_takeBefore 1 = .ok (.ifCond .lt 13, 3) := by decide +kernel
theorem dX6_takeBefore_4 : decode cX6_takeBefore 4 = .ok (.iload_n 1, 1) := by decide +kernel
theorem dX6_takeBefore_5 : decode cX6_takeBefore 5 = .ok (.bipush 40, 2) := by decide +kernel
theorem dX6_takeBefore_7 : decode cX6_takeBefore 7 = .ok (.if_icmp .ge 7, 3) := by decide +kernel
theorem dX6_takeBefore_10 : decode cX6_takeBefore 10 = .ok (.aload_n 2, 1) := by decide +kernel
theorem dX6_takeBefore_11 : decode cX6_takeBefore 11 = .ok (.ifnonnull 4, 3) := by decide +kernel
theorem dX6_takeBefore_14 : decode cX6_takeBefore 14 = .ok (.return_, 1) := by decide +kernel
theorem dX6_takeBefore_15 : decode cX6_takeBefore 15 = .ok (.aload_n 0, 1) := by decide +kernel
theorem dX6_takeBefore_16 : decode cX6_takeBefore 16 = .ok (.getfield 20, 3) := by decide +kernel
theorem dX6_takeBefore_19 : decode cX6_takeBefore 19 = .ok (.iload_n 1, 1) := by decide +kernel
theorem dX6_takeBefore_20 : decode cX6_takeBefore 20 = .ok (.aaload, 1) := by decide +kernel
theorem dX6_takeBefore_21 : decode cX6_takeBefore 21 = .ok (.astore_n 3, 1) := by decide +kernel
theorem dX6_takeBefore_22 : decode cX6_takeBefore 22 = .ok (.aload_n 3, 1) := by decide +kernel
theorem dX6_takeBefore_23 : decode cX6_takeBefore 23 = .ok (.ifnonnull 20, 3) := by decide +kernel
theorem dX6_takeBefore_26 : decode cX6_takeBefore 26 = .ok (.new 9, 3) := by decide +kernel
theorem dX6_takeBefore_29 : decode cX6_takeBefore 29 = .ok (.dup, 1) := by decide +kernel
theorem dX6_takeBefore_30 : decode cX6_takeBefore 30 = .ok (.bipush 60, 2) := by decide +kernel
theorem dX6_takeBefore_32 : decode cX6_takeBefore 32 = .ok (.invokespecial 11, 3) := by decide +kernel
theorem dX6_takeBefore_35 : decode cX6_takeBefore 35 = .ok (.astore_n 3, 1) := by decide +kernel
theorem dX6_takeBefore_36 : decode cX6_takeBefore 36 = .ok (.aload_n 0, 1) := by decide +kernel
theorem dX6_takeBefore_37 : decode cX6_takeBefore 37 = .ok (.getfield 20, 3) := by decide +kernel
theorem dX6_takeBefore_40 : decode cX6_takeBefore 40 = .ok (.iload_n 1, 1) := by decide +kernel
theorem dX6_takeBefore_41 : decode cX6_takeBefore 41 = .ok (.aload_n 3, 1) := by decide +kernel
theorem dX6_takeBefore_42 : decode cX6_takeBefore 42 = .ok (.aastore, 1) := by decide +kernel
theorem dX6_takeBefore_43 : decode cX6_takeBefore 43 = .ok (.aload_n 3, 1) := by decide +kernel
theorem dX6_takeBefore_44 : decode cX6_takeBefore 44 = .ok (.aload_n 2, 1) := by decide +kernel
theorem dX6_takeBefore_45 : decode cX6_takeBefore 45 = .ok (.invokevirtual 42, 3) := by decide +kernel
theorem dX6_takeBefore_48 : decode cX6_takeBefore 48 = .ok (.return_, 1) := by decide +kernel
theorem dX9_deepest_0 : decode cX9_deepest 0 = .ok (.iconst 0, 1) := by decide +kernel
theorem dX9_deepest_1 : decode cX9_deepest 1 = .ok (.istore_n 1, 1) := by decide +kernel
theorem dX9_deepest_2 : decode cX9_deepest 2 = .ok (.iconst 0, 1) := by decide +kernel
theorem dX9_deepest_3 : decode cX9_deepest 3 = .ok (.istore_n 2, 1) := by decide +kernel
theorem dX9_deepest_4 : decode cX9_deepest 4 = .ok (.iload_n 2, 1) := by decide +kernel
theorem dX9_deepest_5 : decode cX9_deepest 5 = .ok (.aload_n 0, 1) := by decide +kernel
theorem dX9_deepest_6 : decode cX9_deepest 6 = .ok (.getfield 24, 3) := by decide +kernel
theorem dX9_deepest_9 : decode cX9_deepest 9 = .ok (.if_icmp .ge 20, 3) := by decide +kernel
theorem dX9_deepest_12 : decode cX9_deepest 12 = .ok (.iload_n 1, 1) := by decide +kernel
theorem dX9_deepest_13 : decode cX9_deepest 13 = .ok (.aload_n 0, 1) := by decide +kernel
theorem dX9_deepest_14 : decode cX9_deepest 14 = .ok (.getfield 21, 3) := by decide +kernel
theorem dX9_deepest_17 : decode cX9_deepest 17 = .ok (.iload_n 2, 1) := by decide +kernel
theorem dX9_deepest_18 : decode cX9_deepest 18 = .ok (.iaload, 1) := by decide +kernel
theorem dX9_deepest_19 : decode cX9_deepest 19 = .ok (.invokestatic 32, 3) := by decide +kernel
theorem dX9_deepest_22 : decode cX9_deepest 22 = .ok (.istore_n 1, 1) := by decide +kernel
theorem dX9_deepest_23 : decode cX9_deepest 23 = .ok (.iinc 2 1, 3) := by decide +kernel
theorem dX9_deepest_26 : decode cX9_deepest 26 = .ok (.goto (-22), 3) := by decide +kernel
theorem dX9_deepest_29 : decode cX9_deepest 29 = .ok (.iload_n 1, 1) := by decide +kernel
theorem dX9_deepest_30 : decode cX9_deepest 30 = .ok (.ireturn, 1) := by decide +kernel
set_option maxRecDepth 100000 in
theorem ggX10_add_X10_adding : GoodIn wsX10_add wsX10_adding := (gi_cons 5 rfl rfl (gi_cons 6 rfl rfl (gi_cons 7 rfl rfl (gi_cons 8 rfl rfl (gi_cons 9 rfl rfl (gi_cons 10 rfl rfl (gi_cons 4 rfl rfl (gi_cons 11 rfl rfl (gi_cons 12 rfl rfl (gi_cons 13 rfl rfl (gi_cons 14 rfl rfl (gi_cons 15 rfl rfl (gi_cons 16 rfl rfl (gi_cons 17 rfl rfl (gi_cons 18 rfl rfl (gi_cons 19 rfl rfl (gi_cons 20 rfl rfl (gi_cons 21 rfl rfl (gi_cons 22 rfl rfl (gi_cons 23 rfl rfl (gi_cons 24 rfl rfl (gi_cons 25 rfl rfl (gi_cons 26 rfl rfl (gi_cons 27 rfl rfl (gi_cons 28 rfl rfl (gi_cons 29 rfl rfl (gi_cons 30 rfl rfl (gi_cons 31 rfl rfl (gi_cons 32 rfl rfl (gi_cons 33 rfl rfl (gi_cons 34 rfl rfl (gi_cons 35 rfl rfl (gi_cons 36 rfl rfl (gi_cons 37 rfl rfl (gi_cons 38 rfl rfl (gi_cons 39 rfl rfl (gi_cons 40 rfl rfl (gi_cons 41 rfl rfl (gi_cons 42 rfl rfl (gi_cons 43 rfl rfl (gi_cons 44 rfl rfl (gi_cons 45 rfl rfl (gi_cons 46 rfl rfl (gi_cons 47 rfl rfl (gi_cons 48 rfl rfl (gi_cons 49 rfl rfl (gi_cons 50 rfl rfl (gi_cons 51 rfl rfl (gi_cons 52 rfl rfl (gi_cons 53 rfl rfl (gi_cons 54 rfl rfl (gi_cons 55 rfl rfl (gi_cons 56 rfl rfl (gi_cons 57 rfl rfl (gi_cons 58 rfl rfl (gi_cons 59 rfl rfl (gi_cons 60 rfl rfl (gi_cons 61 rfl rfl (gi_cons 62 rfl rfl (gi_cons 63 rfl rfl (gi_cons 64 rfl rfl (gi_cons 65 rfl rfl (gi_cons 66 rfl rfl (gi_cons 67 rfl rfl (gi_cons 68 rfl rfl (gi_cons 69 rfl rfl (gi_cons 70 rfl rfl (gi_cons 71 rfl rfl (gi_cons 72 rfl rfl (gi_cons 73 rfl rfl (gi_cons 74 rfl rfl (gi_cons 75 rfl rfl (gi_cons 76 rfl rfl (gi_cons 77 rfl rfl (gi_cons 78 rfl rfl (gi_cons 79 rfl rfl (gi_cons 80 rfl rfl (gi_cons 81 rfl rfl (gi_cons 82 rfl rfl (gi_cons 83 rfl rfl (gi_cons 84 rfl rfl (gi_cons 85 rfl rfl (gi_cons 86 rfl rfl (gi_cons 87 rfl rfl (gi_cons 88 rfl rfl (gi_cons 89 rfl rfl (gi_cons 90 rfl rfl (gi_cons 91 rfl rfl (gi_cons 92 rfl rfl (gi_cons 93 rfl rfl (gi_cons 94 rfl rfl (gi_cons 95 rfl rfl (gi_cons 96 rfl rfl (gi_cons 97 rfl rfl (gi_cons 98 rfl rfl (gi_cons 99 rfl rfl (gi_cons 100 rfl rfl (gi_cons 101 rfl rfl (gi_cons 102 rfl rfl (gi_cons 103 rfl rfl (gi_cons 104 rfl rfl (gi_cons 105 rfl rfl (gi_cons 106 rfl rfl (gi_cons 107 rfl rfl (gi_cons 108 rfl rfl (gi_cons 109 rfl rfl (gi_cons 110 rfl rfl (gi_cons 111 rfl rfl (gi_cons 112 rfl rfl (gi_cons 113 rfl rfl (gi_cons 114 rfl rfl (gi_cons 115 rfl rfl (gi_cons 116 rfl rfl (gi_cons 117 rfl rfl (gi_cons 118 rfl rfl (gi_cons 119 rfl rfl (gi_cons 120 rfl rfl (gi_cons 121 rfl rfl (gi_cons 122 rfl rfl (gi_cons 123 rfl rfl (gi_cons 124 rfl rfl (gi_cons 125 rfl rfl (gi_cons 126 rfl rfl (gi_cons 127 rfl rfl (gi_cons 128 rfl rfl (gi_cons 129 rfl rfl (gi_cons 130 rfl rfl (gi_cons 131 rfl rfl (gi_cons 132 rfl rfl (gi_cons 133 rfl rfl (gi_cons 134 rfl rfl (gi_cons 135 rfl rfl (gi_cons 136 rfl rfl (gi_cons 137 rfl rfl (gi_cons 138 rfl rfl (gi_cons 139 rfl rfl (gi_cons 140 rfl rfl (gi_cons 141 rfl rfl (gi_cons 142 rfl rfl (gi_cons 143 rfl rfl (gi_cons 144 rfl rfl (gi_cons 145 rfl rfl (gi_cons 146 rfl rfl (gi_cons 147 rfl rfl (gi_cons 148 rfl rfl (gi_cons 149 rfl rfl (gi_cons 150 rfl rfl (gi_cons 151 rfl rfl (gi_cons 152 rfl rfl (gi_cons 153 rfl rfl (gi_cons 154 rfl rfl (gi_cons 155 rfl rfl (gi_cons 156 rfl rfl (gi_cons 157 rfl rfl (gi_cons 158 rfl rfl (gi_cons 159 rfl rfl (gi_cons 160 rfl rfl (gi_cons 161 rfl rfl (gi_cons 162 rfl rfl (gi_cons 172 rfl rfl (gi_cons 173 rfl rfl (gi_cons 174 rfl rfl (gi_cons 175 rfl rfl (gi_cons 176 rfl rfl (gi_cons 177 rfl rfl (gi_cons 178 rfl rfl (gi_cons 179 rfl rfl (gi_cons 180 rfl rfl (gi_cons 181 rfl rfl (gi_cons 182 rfl rfl (gi_cons 183 rfl rfl (gi_cons 184 rfl rfl (gi_cons 185 rfl rfl (gi_cons 186 rfl rfl (gi_cons 187 rfl rfl (gi_cons 188 rfl rfl (gi_cons 189 rfl rfl (gi_cons 190 rfl rfl (gi_cons 191 rfl rfl (gi_cons 192 rfl rfl (gi_cons 193 rfl rfl (gi_cons 194 rfl rfl (gi_cons 195 rfl rfl (gi_cons 196 rfl rfl (gi_cons 197 rfl rfl (gi_cons 198 rfl rfl (gi_cons 199 rfl rfl (gi_cons 200 rfl rfl (gi_cons 201 rfl rfl (gi_cons 202 rfl rfl (gi_cons 203 rfl rfl (gi_cons 204 rfl rfl (gi_cons 205 rfl rfl (gi_cons 206 rfl rfl (gi_cons 207 rfl rfl (gi_cons 208 rfl rfl (gi_cons 209 rfl rfl (gi_cons 210 rfl rfl (gi_cons 211 rfl rfl (gi_cons 212 rfl rfl (gi_cons 213 rfl rfl (gi_cons 214 rfl rfl (gi_cons 215 rfl rfl (gi_cons 216 rfl rfl (gi_cons 217 rfl rfl (gi_cons 218 rfl rfl (gi_cons 219 rfl rfl gi_nil)))))))))))))))))))))))))))))))))))))))))))))))))))))))))))))))))))))))))))))))))))))))))))))))))))))))))))))))))))))))))))))))))))))))))))))))))))))))))))))))))))))))))))))))))))))))))))))))))))))))))))))))
set_option maxRecDepth 20000 in
theorem gX10_add_X10_adding : GoodIn wsX10_add (wsV RX10 324 RX10 yX10_adding wsX10_adding) := goodIn_app (goodIn_of _ (by decide +kernel)) ggX10_add_X10_adding
set_option maxRecDepth 100000 in
theorem ggX10_add_X10_actDone : GoodIn wsX10_add wsX10_actDone := (gi_cons 166 rfl rfl (gi_cons 7 rfl rfl (gi_cons 167 rfl rfl (gi_cons 168 rfl rfl (gi_cons 169 rfl rfl (gi_cons 137 rfl rfl (gi_cons 170 rfl rfl (gi_cons 171 rfl rfl (gi_cons 172 rfl rfl (gi_cons 173 rfl rfl (gi_cons 174 rfl rfl (gi_cons 175 rfl rfl (gi_cons 176 rfl rfl (gi_cons 177 rfl rfl (gi_cons 178 rfl rfl (gi_cons 179 rfl rfl (gi_cons 180 rfl rfl (gi_cons 181 rfl rfl (gi_cons 182 rfl rfl (gi_cons 183 rfl rfl (gi_cons 184 rfl rfl (gi_cons 185 rfl rfl (gi_cons 186 rfl rfl (gi_cons 187 rfl rfl (gi_cons 188 rfl rfl (gi_cons 189 rfl rfl (gi_cons 190 rfl rfl (gi_cons 191 rfl rfl (gi_cons 192 rfl rfl (gi_cons 193 rfl rfl (gi_cons 194 rfl rfl (gi_cons 195 rfl rfl (gi_cons 196 rfl rfl gi_nil)))))))))))))))))))))))))))))))))
set_option maxRecDepth 20000 in
theorem gX10_add_X10_actDone : GoodIn wsX10_add (wsV RX10 311 RX10 yX10_actDone wsX10_actDone) := goodIn_app (goodIn_of _ (by decide +kernel)) ggX10_add_X10_actDone
theorem dX10_add_0 : decode cX10_add 0 = .ok (.aload_n 0, 1) := by decide +kernel
theorem dX10_add_1 : decode cX10_add 1 = .ok (.aload_n 0, 1) := by decide +kernel
theorem dX10_add_2 : decode cX10_add 2 = .ok (.iload_n 1, 1) := by decide +kernel
theorem dX10_add_3 : decode cX10_add 3 = .ok (.iload_n 2, 1) := by decide +kernel
theorem dX10_add_4 : decode cX10_add 4 = .ok (.invokevirtual 324, 3) := by decide +kernel
theorem dX10_add_7 : decode cX10_add 7 = .ok (.invokevirtual 311, 3) := by decide +kernel
theorem dX10_add_10 : decode cX10_add 10 = .ok (.ireturn, 1) := by decide +kernel
set_option maxRecDepth 100000 in
theorem ggX10_change_X10_changing : GoodIn wsX10_change wsX10_changing := (gi_cons 5 rfl rfl (gi_cons 6 rfl rfl (gi_cons 7 rfl rfl (gi_cons 8 rfl rfl (gi_cons 9 rfl rfl (gi_cons 10 rfl rfl (gi_cons 4 rfl rfl (gi_cons 11 rfl rfl (gi_cons 12 rfl rfl (gi_cons 13 rfl rfl (gi_cons 14 rfl rfl (gi_cons 15 rfl rfl (gi_cons 16 rfl rfl (gi_cons 17 rfl rfl (gi_cons 18 rfl rfl (gi_cons 19 rfl rfl (gi_cons 20 rfl rfl (gi_cons 21 rfl rfl (gi_cons 22 rfl rfl (gi_cons 23 rfl rfl (gi_cons 24 rfl rfl (gi_cons 25 rfl rfl (gi_cons 26 rfl rfl (gi_cons 27 rfl rfl (gi_cons 28 rfl rfl (gi_cons 29 rfl rfl (gi_cons 30 rfl rfl (gi_cons 31 rfl rfl (gi_cons 32 rfl rfl (gi_cons 33 rfl rfl (gi_cons 34 rfl rfl (gi_cons 35 rfl rfl (gi_cons 36 rfl rfl (gi_cons 37 rfl rfl (gi_cons 38 rfl rfl (gi_cons 39 rfl rfl (gi_cons 40 rfl rfl (gi_cons 41 rfl rfl (gi_cons 42 rfl rfl (gi_cons 43 rfl rfl (gi_cons 44 rfl rfl (gi_cons 45 rfl rfl (gi_cons 46 rfl rfl (gi_cons 47 rfl rfl (gi_cons 48 rfl rfl (gi_cons 49 rfl rfl (gi_cons 50 rfl rfl (gi_cons 51 rfl rfl (gi_cons 52 rfl rfl (gi_cons 53 rfl rfl (gi_cons 54 rfl rfl (gi_cons 55 rfl rfl (gi_cons 56 rfl rfl (gi_cons 57 rfl rfl (gi_cons 58 rfl rfl (gi_cons 59 rfl rfl (gi_cons 60 rfl rfl (gi_cons 61 rfl rfl (gi_cons 62 rfl rfl (gi_cons 63 rfl rfl (gi_cons 64 rfl rfl (gi_cons 65 rfl rfl (gi_cons 66 rfl rfl (gi_cons 67 rfl rfl (gi_cons 68 rfl rfl (gi_cons 69 rfl rfl (gi_cons 70 rfl rfl (gi_cons 71 rfl rfl (gi_cons 72 rfl rfl (gi_cons 73 rfl rfl (gi_cons 74 rfl rfl (gi_cons 75 rfl rfl (gi_cons 76 rfl rfl (gi_cons 77 rfl rfl (gi_cons 78 rfl rfl (gi_cons 79 rfl rfl (gi_cons 80 rfl rfl (gi_cons 81 rfl rfl (gi_cons 82 rfl rfl (gi_cons 83 rfl rfl (gi_cons 84 rfl rfl (gi_cons 85 rfl rfl (gi_cons 86 rfl rfl (gi_cons 87 rfl rfl (gi_cons 88 rfl rfl (gi_cons 89 rfl rfl (gi_cons 90 rfl rfl (gi_cons 91 rfl rfl (gi_cons 92 rfl rfl (gi_cons 93 rfl rfl (gi_cons 94 rfl rfl (gi_cons 95 rfl rfl (gi_cons 96 rfl rfl (gi_cons 97 rfl rfl (gi_cons 98 rfl rfl (gi_cons 99 rfl rfl (gi_cons 100 rfl rfl (gi_cons 101 rfl rfl (gi_cons 102 rfl rfl (gi_cons 103 rfl rfl (gi_cons 104 rfl rfl (gi_cons 105 rfl rfl (gi_cons 106 rfl rfl (gi_cons 107 rfl rfl (gi_cons 108 rfl rfl (gi_cons 109 rfl rfl (gi_cons 110 rfl rfl (gi_cons 111 rfl rfl (gi_cons 112 rfl rfl (gi_cons 113 rfl rfl (gi_cons 114 rfl rfl (gi_cons 115 rfl rfl (gi_cons 116 rfl rfl (gi_cons 117 rfl rfl (gi_cons 118 rfl rfl (gi_cons 119 rfl rfl (gi_cons 120 rfl rfl (gi_cons 121 rfl rfl (gi_cons 122 rfl rfl (gi_cons 123 rfl rfl (gi_cons 124 rfl rfl (gi_cons 125 rfl rfl (gi_cons 126 rfl rfl (gi_cons 127 rfl rfl (gi_cons 128 rfl rfl (gi_cons 129 rfl rfl (gi_cons 130 rfl rfl (gi_cons 131 rfl rfl (gi_cons 132 rfl rfl (gi_cons 133 rfl rfl (gi_cons 134 rfl rfl (gi_cons 135 rfl rfl (gi_cons 136 rfl rfl (gi_cons 137 rfl rfl (gi_cons 138 rfl rfl (gi_cons 139 rfl rfl (gi_cons 140 rfl rfl (gi_cons 141 rfl rfl (gi_cons 142 rfl rfl (gi_cons 143 rfl rfl (gi_cons 144 rfl rfl (gi_cons 145 rfl rfl (gi_cons 146 rfl rfl (gi_cons 147 rfl rfl (gi_cons 148 rfl rfl (gi_cons 149 rfl rfl (gi_cons 150 rfl rfl (gi_cons 151 rfl rfl (gi_cons 152 rfl rfl (gi_cons 153 rfl rfl (gi_cons 154 rfl rfl (gi_cons 155 rfl rfl (gi_cons 156 rfl rfl (gi_cons 157 rfl rfl (gi_cons 158 rfl rfl (gi_cons 159 rfl rfl (gi_cons 160 rfl rfl (gi_cons 161 rfl rfl (gi_cons 162 rfl rfl (gi_cons 163 rfl rfl (gi_cons 164 rfl rfl (gi_cons 165 rfl rfl (gi_cons 166 rfl rfl (gi_cons 167 rfl rfl (gi_cons 168 rfl rfl (gi_cons 169 rfl rfl (gi_cons 170 rfl rfl (gi_cons 171 rfl rfl (gi_cons 172 rfl rfl (gi_cons 173 rfl rfl (gi_cons 174 rfl rfl (gi_cons 175 rfl rfl (gi_cons 176 rfl rfl (gi_cons 177 rfl rfl (gi_cons 178 rfl rfl (gi_cons 179 rfl rfl (gi_cons 180 rfl rfl (gi_cons 181 rfl rfl (gi_cons 182 rfl rfl (gi_cons 183 rfl rfl (gi_cons 184 rfl rfl (gi_cons 185 rfl rfl (gi_cons 186 rfl rfl (gi_cons 187 rfl rfl (gi_cons 188 rfl rfl (gi_cons 189 rfl rfl (gi_cons 190 rfl rfl (gi_cons 191 rfl rfl (gi_cons 192 rfl rfl (gi_cons 193 rfl rfl (gi_cons 194 rfl rfl (gi_cons 195 rfl rfl (gi_cons 196 rfl rfl (gi_cons 197 rfl rfl (gi_cons 198 rfl rfl (gi_cons 199 rfl rfl (gi_cons 200 rfl rfl (gi_cons 201 rfl rfl (gi_cons 202 rfl rfl (gi_cons 203 rfl rfl (gi_cons 204 rfl rfl (gi_cons 205 rfl rfl (gi_cons 206 rfl rfl (gi_cons 207 rfl rfl (gi_cons 208 rfl rfl (gi_cons 209 rfl rfl (gi_cons 210 rfl rfl (gi_cons 211 rfl rfl (gi_cons 212 rfl rfl (gi_cons 222 rfl rfl (gi_cons 223 rfl rfl (gi_cons 224 rfl rfl (gi_cons 225 rfl rfl (gi_cons 226 rfl rfl (gi_cons 227 rfl rfl (gi_cons 228 rfl rfl (gi_cons 229 rfl rfl (gi_cons 230 rfl rfl (gi_cons 231 rfl rfl (gi_cons 232 rfl rfl (gi_cons 233 rfl rfl (gi_cons 234 rfl rfl (gi_cons 235 rfl rfl (gi_cons 236 rfl rfl (gi_cons 237 rfl rfl (gi_cons 238 rfl rfl (gi_cons 239 rfl rfl (gi_cons 240 rfl rfl (gi_cons 241 rfl rfl (gi_cons 242 rfl rfl (gi_cons 243 rfl rfl (gi_cons 244 rfl rfl (gi_cons 245 rfl rfl (gi_cons 246 rfl rfl (gi_cons 247 rfl rfl (gi_cons 248 rfl rfl (gi_cons 249 rfl rfl (gi_cons 250 rfl rfl (gi_cons 251 rfl rfl (gi_cons 252 rfl rfl (gi_cons 253 rfl rfl (gi_cons 254 rfl rfl (gi_cons 255 rfl rfl (gi_cons 256 rfl rfl (gi_cons 257 rfl rfl (gi_cons 258 rfl rfl (gi_cons 259 rfl rfl (gi_cons 260 rfl rfl (gi_cons 261 rfl rfl (gi_cons 262 rfl rfl (gi_cons 263 rfl rfl (gi_cons 264 rfl rfl (gi_cons 265 rfl rfl (gi_cons 266 rfl rfl (gi_cons 267 rfl rfl (gi_cons 268 rfl rfl (gi_cons 269 rfl rfl gi_nil)))))))))))))))))))))))))))))))))))))))))))))))))))))))))))))))))))))))))))))))))))))))))))))))))))))))))))))))))))))))))))))))))))))))))))))))))))))))))))))))))))))))))))))))))))))))))))))))))))))))))))))))))))))))))))))))))))))))))))))))))))))))))))))))))
set_option maxRecDepth 20000 in
theorem gX10_change_X10_changing : GoodIn wsX10_change (wsV RX10 327 RX10 yX10_changing wsX10_changing) := goodIn_app (goodIn_of _ (by decide +kernel)) ggX10_change_X10_changing
set_option maxRecDepth 100000 in
theorem ggX10_change_X10_actDone : GoodIn wsX10_change wsX10_actDone := (gi_cons 216 rfl rfl (gi_cons 6 rfl rfl (gi_cons 217 rfl rfl (gi_cons 218 rfl rfl (gi_cons 219 rfl rfl (gi_cons 136 rfl rfl (gi_cons 220 rfl rfl (gi_cons 221 rfl rfl (gi_cons 222 rfl rfl (gi_cons 223 rfl rfl (gi_cons 224 rfl rfl (gi_cons 225 rfl rfl (gi_cons 226 rfl rfl (gi_cons 227 rfl rfl (gi_cons 228 rfl rfl (gi_cons 229 rfl rfl (gi_cons 230 rfl rfl (gi_cons 231 rfl rfl (gi_cons 232 rfl rfl (gi_cons 233 rfl rfl (gi_cons 234 rfl rfl (gi_cons 235 rfl rfl (gi_cons 236 rfl rfl (gi_cons 237 rfl rfl (gi_cons 238 rfl rfl (gi_cons 239 rfl rfl (gi_cons 240 rfl rfl (gi_cons 241 rfl rfl (gi_cons 242 rfl rfl (gi_cons 243 rfl rfl (gi_cons 244 rfl rfl (gi_cons 245 rfl rfl (gi_cons 246 rfl rfl gi_nil)))))))))))))))))))))))))))))))))
set_option maxRecDepth 20000 in
theorem gX10_change_X10_actDone : GoodIn wsX10_change (wsV RX10 311 RX10 yX10_actDone wsX10_actDone) := goodIn_app (goodIn_of _ (by decide +kernel)) ggX10_change_X10_actDone
theorem dX10_change_0 : decode cX10_change 0 = .ok (.aload_n 0, 1) := by decide +kernel
theorem dX10_change_1 : decode cX10_change 1 = .ok (.aload_n 0, 1) := by decide +kernel
theorem dX10_change_2 : decode cX10_change 2 = .ok (.iload_n 1, 1) := by decide +kernel
theorem dX10_change_3 : decode cX10_change 3 = .ok (.iload_n 2, 1) := by decide +kernel
theorem dX10_change_4 : decode cX10_change 4 = .ok (.invokevirtual 327, 3) := by decide +kernel
theorem dX10_change_7 : decode cX10_change 7 = .ok (.invokevirtual 311, 3) := by decide +kernel
theorem dX10_change_10 : decode cX10_change 10 = .ok (.ireturn, 1) := by decide +kernel
set_option maxRecDepth 100000 in
theorem ggX10_move_X0_moveThing : GoodIn wsX10_move wsX0_moveThing := (gi_cons 6 rfl rfl (gi_cons 7 rfl rfl (gi_cons 8 rfl rfl (gi_cons 9 rfl rfl (gi_cons 10 rfl rfl (gi_cons 11 rfl rfl (gi_cons 12 rfl rfl (gi_cons 13 rfl rfl (gi_cons 14 rfl rfl (gi_cons 15 rfl rfl (gi_cons 16 rfl rfl (gi_cons 17 rfl rfl (gi_cons 18 rfl rfl (gi_cons 19 rfl rfl (gi_cons 20 rfl rfl (gi_cons 21 rfl rfl (gi_cons 22 rfl rfl (gi_cons 23 rfl rfl (gi_cons 5 rfl rfl (gi_cons 24 rfl rfl (gi_cons 25 rfl rfl (gi_cons 26 rfl rfl (gi_cons 27 rfl rfl (gi_cons 28 rfl rfl (gi_cons 29 rfl rfl (gi_cons 30 rfl rfl (gi_cons 31 rfl rfl (gi_cons 32 rfl rfl (gi_cons 33 rfl rfl (gi_cons 34 rfl rfl (gi_cons 35 rfl rfl (gi_cons 36 rfl rfl (gi_cons 37 rfl rfl (gi_cons 38 rfl rfl (gi_cons 39 rfl rfl (gi_cons 40 rfl rfl (gi_cons 41 rfl rfl (gi_cons 42 rfl rfl (gi_cons 43 rfl rfl (gi_cons 44 rfl rfl (gi_cons 45 rfl rfl (gi_cons 46 rfl rfl (gi_cons 47 rfl rfl (gi_cons 48 rfl rfl (gi_cons 49 rfl rfl (gi_cons 50 rfl rfl (gi_cons 51 rfl rfl (gi_cons 52 rfl rfl (gi_cons 53 rfl rfl (gi_cons 54 rfl rfl (gi_cons 55 rfl rfl (gi_cons 56 rfl rfl (gi_cons 57 rfl rfl (gi_cons 58 rfl rfl (gi_cons 59 rfl rfl (gi_cons 60 rfl rfl (gi_cons 61 rfl rfl (gi_cons 62 rfl rfl (gi_cons 63 rfl rfl (gi_cons 64 rfl rfl (gi_cons 65 rfl rfl (gi_cons 66 rfl rfl (gi_cons 67 rfl rfl (gi_cons 68 rfl rfl (gi_cons 69 rfl rfl (gi_cons 70 rfl rfl (gi_cons 71 rfl rfl (gi_cons 72 rfl rfl (gi_cons 73 rfl rfl (gi_cons 74 rfl rfl (gi_cons 75 rfl rfl (gi_cons 76 rfl rfl (gi_cons 77 rfl rfl (gi_cons 78 rfl rfl (gi_cons 79 rfl rfl (gi_cons 80 rfl rfl (gi_cons 81 rfl rfl (gi_cons 82 rfl rfl (gi_cons 83 rfl rfl (gi_cons 84 rfl rfl (gi_cons 85 rfl rfl (gi_cons 86 rfl rfl (gi_cons 87 rfl rfl (gi_cons 88 rfl rfl (gi_cons 89 rfl rfl (gi_cons 90 rfl rfl (gi_cons 91 rfl rfl (gi_cons 92 rfl rfl (gi_cons 93 rfl rfl (gi_cons 94 rfl rfl (gi_cons 95 rfl rfl (gi_cons 96 rfl rfl (gi_cons 97 rfl rfl (gi_cons 98 rfl rfl (gi_cons 99 rfl rfl (gi_cons 100 rfl rfl (gi_cons 101 rfl rfl (gi_cons 102 rfl rfl (gi_cons 103 rfl rfl (gi_cons 104 rfl rfl (gi_cons 105 rfl rfl (gi_cons 106 rfl rfl (gi_cons 107 rfl rfl (gi_cons 136 rfl rfl (gi_cons 137 rfl rfl (gi_cons 138 rfl rfl (gi_cons 139 rfl rfl (gi_cons 140 rfl rfl (gi_cons 141 rfl rfl (gi_cons 142 rfl rfl (gi_cons 143 rfl rfl (gi_cons 144 rfl rfl (gi_cons 145 rfl rfl (gi_cons 146 rfl rfl (gi_cons 147 rfl rfl (gi_cons 148 rfl rfl (gi_cons 149 rfl rfl (gi_cons 150 rfl rfl (gi_cons 151 rfl rfl gi_nil)))))))))))))))))))))))))))))))))))))))))))))))))))))))))))))))))))))))))))))))))))))))))))))))))))))))))))))))))))))))
set_option maxRecDepth 20000 in
theorem gX10_move_X0_moveThing : GoodIn wsX10_move (wsV RX10 330 RX0 yX0_moveThing wsX0_moveThing) := goodIn_app (goodIn_of _ (by decide +kernel)) ggX10_move_X0_moveThing
set_option maxRecDepth 100000 in
theorem ggX10_move_X10_actDone : GoodIn wsX10_move wsX10_actDone := (gi_cons 111 rfl rfl (gi_cons 112 rfl rfl (gi_cons 113 rfl rfl (gi_cons 114 rfl rfl (gi_cons 115 rfl rfl (gi_cons 89 rfl rfl (gi_cons 116 rfl rfl (gi_cons 117 rfl rfl (gi_cons 118 rfl rfl (gi_cons 119 rfl rfl (gi_cons 120 rfl rfl (gi_cons 121 rfl rfl (gi_cons 122 rfl rfl (gi_cons 123 rfl rfl (gi_cons 124 rfl rfl (gi_cons 125 rfl rfl (gi_cons 126 rfl rfl (gi_cons 127 rfl rfl (gi_cons 128 rfl rfl (gi_cons 129 rfl rfl (gi_cons 130 rfl rfl (gi_cons 131 rfl rfl (gi_cons 132 rfl rfl (gi_cons 133 rfl rfl (gi_cons 134 rfl rfl (gi_cons 135 rfl rfl (gi_cons 140 rfl rfl (gi_cons 141 rfl rfl (gi_cons 142 rfl rfl (gi_cons 143 rfl rfl (gi_cons 144 rfl rfl (gi_cons 145 rfl rfl (gi_cons 146 rfl rfl gi_nil)))))))))))))))))))))))))))))))))
set_option maxRecDepth 20000 in
theorem gX10_move_X10_actDone : GoodIn wsX10_move (wsV RX10 311 RX10 yX10_actDone wsX10_actDone) := goodIn_app (goodIn_of _ (by decide +kernel)) ggX10_move_X10_actDone
theorem dX10_move_0 : decode cX10_move 0 = .ok (.aload_n 0, 1) := by decide +kernel
theorem dX10_move_1 : decode cX10_move 1 = .ok (.aload_n 0, 1) := by decide +kernel
theorem dX10_move_2 : decode cX10_move 2 = .ok (.getfield 75, 3) := by decide +kernel
theorem dX10_move_5 : decode cX10_move 5 = .ok (.iload_n 1, 1) := by decide +kernel
theorem dX10_move_6 : decode cX10_move 6 = .ok (.iload_n 2, 1) := by decide +kernel
theorem dX10_move_7 : decode cX10_move 7 = .ok (.iload_n 3, 1) := by decide +kernel
theorem dX10_move_8 : decode cX10_move 8 = .ok (.invokevirtual 330, 3) := by decide +kernel
theorem dX10_move_11 : decode cX10_move 11 = .ok (.invokevirtual 311, 3) := by decide +kernel
theorem dX10_move_14 : decode cX10_move 14 = .ok (.ireturn, 1) := by decide +kernel
set_option maxRecDepth 100000 in
theorem ggX10_apply_X0_layOn : GoodIn wsX10_apply wsX0_layOn := (gi_cons 7 rfl rfl (gi_cons 8 rfl rfl (gi_cons 9 rfl rfl (gi_cons 10 rfl rfl (gi_cons 11 rfl rfl (gi_cons 12 rfl rfl (gi_cons 13 rfl rfl (gi_cons 14 rfl rfl (gi_cons 15 rfl rfl (gi_cons 16 rfl rfl (gi_cons 17 rfl rfl (gi_cons 18 rfl rfl (gi_cons 19 rfl rfl (gi_cons 20 rfl rfl (gi_cons 21 rfl rfl (gi_cons 22 rfl rfl (gi_cons 23 rfl rfl (gi_cons 24 rfl rfl (gi_cons 25 rfl rfl (gi_cons 26 rfl rfl (gi_cons 27 rfl rfl (gi_cons 28 rfl rfl (gi_cons 29 rfl rfl (gi_cons 30 rfl rfl (gi_cons 31 rfl rfl (gi_cons 32 rfl rfl (gi_cons 33 rfl rfl (gi_cons 34 rfl rfl (gi_cons 35 rfl rfl (gi_cons 36 rfl rfl (gi_cons 37 rfl rfl (gi_cons 38 rfl rfl (gi_cons 39 rfl rfl (gi_cons 40 rfl rfl (gi_cons 41 rfl rfl (gi_cons 42 rfl rfl (gi_cons 43 rfl rfl (gi_cons 44 rfl rfl (gi_cons 45 rfl rfl (gi_cons 46 rfl rfl (gi_cons 47 rfl rfl (gi_cons 48 rfl rfl (gi_cons 49 rfl rfl (gi_cons 50 rfl rfl (gi_cons 51 rfl rfl (gi_cons 52 rfl rfl (gi_cons 53 rfl rfl (gi_cons 54 rfl rfl (gi_cons 55 rfl rfl (gi_cons 56 rfl rfl (gi_cons 57 rfl rfl (gi_cons 58 rfl rfl (gi_cons 59 rfl rfl (gi_cons 60 rfl rfl (gi_cons 61 rfl rfl (gi_cons 62 rfl rfl (gi_cons 63 rfl rfl (gi_cons 64 rfl rfl (gi_cons 65 rfl rfl (gi_cons 66 rfl rfl (gi_cons 67 rfl rfl (gi_cons 68 rfl rfl (gi_cons 69 rfl rfl (gi_cons 70 rfl rfl (gi_cons 71 rfl rfl (gi_cons 72 rfl rfl (gi_cons 73 rfl rfl (gi_cons 74 rfl rfl (gi_cons 75 rfl rfl (gi_cons 76 rfl rfl (gi_cons 77 rfl rfl (gi_cons 78 rfl rfl (gi_cons 79 rfl rfl (gi_cons 80 rfl rfl (gi_cons 81 rfl rfl (gi_cons 82 rfl rfl (gi_cons 83 rfl rfl (gi_cons 84 rfl rfl (gi_cons 85 rfl rfl (gi_cons 86 rfl rfl (gi_cons 87 rfl rfl (gi_cons 88 rfl rfl (gi_cons 89 rfl rfl (gi_cons 90 rfl rfl (gi_cons 91 rfl rfl (gi_cons 92 rfl rfl (gi_cons 93 rfl rfl (gi_cons 94 rfl rfl (gi_cons 95 rfl rfl (gi_cons 96 rfl rfl (gi_cons 97 rfl rfl (gi_cons 98 rfl rfl (gi_cons 99 rfl rfl (gi_cons 100 rfl rfl (gi_cons 101 rfl rfl (gi_cons 102 rfl rfl (gi_cons 103 rfl rfl (gi_cons 104 rfl rfl (gi_cons 105 rfl rfl (gi_cons 106 rfl rfl (gi_cons 107 rfl rfl (gi_cons 108 rfl rfl (gi_cons 109 rfl rfl (gi_cons 110 rfl rfl (gi_cons 111 rfl rfl (gi_cons 112 rfl rfl (gi_cons 113 rfl rfl (gi_cons 114 rfl rfl (gi_cons 115 rfl rfl (gi_cons 116 rfl rfl (gi_cons 117 rfl rfl (gi_cons 118 rfl rfl (gi_cons 119 rfl rfl (gi_cons 120 rfl rfl (gi_cons 121 rfl rfl (gi_cons 122 rfl rfl (gi_cons 123 rfl rfl (gi_cons 124 rfl rfl (gi_cons 125 rfl rfl (gi_cons 126 rfl rfl (gi_cons 127 rfl rfl (gi_cons 128 rfl rfl (gi_cons 129 rfl rfl (gi_cons 130 rfl rfl (gi_cons 131 rfl rfl (gi_cons 132 rfl rfl (gi_cons 133 rfl rfl (gi_cons 134 rfl rfl (gi_cons 135 rfl rfl (gi_cons 136 rfl rfl (gi_cons 137 rfl rfl (gi_cons 6 rfl rfl (gi_cons 138 rfl rfl (gi_cons 139 rfl rfl (gi_cons 140 rfl rfl (gi_cons 141 rfl rfl (gi_cons 142 rfl rfl (gi_cons 143 rfl rfl (gi_cons 144 rfl rfl (gi_cons 145 rfl rfl (gi_cons 146 rfl rfl (gi_cons 147 rfl rfl (gi_cons 148 rfl rfl (gi_cons 149 rfl rfl (gi_cons 150 rfl rfl (gi_cons 151 rfl rfl (gi_cons 152 rfl rfl (gi_cons 153 rfl rfl (gi_cons 154 rfl rfl (gi_cons 155 rfl rfl (gi_cons 156 rfl rfl (gi_cons 157 rfl rfl (gi_cons 158 rfl rfl (gi_cons 159 rfl rfl (gi_cons 160 rfl rfl (gi_cons 161 rfl rfl (gi_cons 162 rfl rfl (gi_cons 163 rfl rfl (gi_cons 164 rfl rfl (gi_cons 165 rfl rfl (gi_cons 166 rfl rfl (gi_cons 167 rfl rfl (gi_cons 168 rfl rfl (gi_cons 198 rfl rfl (gi_cons 199 rfl rfl (gi_cons 200 rfl rfl (gi_cons 201 rfl rfl (gi_cons 202 rfl rfl (gi_cons 203 rfl rfl (gi_cons 204 rfl rfl (gi_cons 205 rfl rfl (gi_cons 206 rfl rfl (gi_cons 207 rfl rfl (gi_cons 208 rfl rfl (gi_cons 209 rfl rfl (gi_cons 210 rfl rfl (gi_cons 211 rfl rfl (gi_cons 212 rfl rfl (gi_cons 213 rfl rfl (gi_cons 214 rfl rfl (gi_cons 215 rfl rfl (gi_cons 216 rfl rfl (gi_cons 217 rfl rfl (gi_cons 218 rfl rfl gi_nil))))))))))))))))))))))))))))))))))))))))))))))))))))))))))))))))))))))))))))))))))))))))))))))))))))))))))))))))))))))))))))))))))))))))))))))))))))))))))))))))))))))))))))))))))))))))
set_option maxRecDepth 20000 in
theorem gX10_apply_X0_layOn : GoodIn wsX10_apply (wsV RX10 334 RX0 yX0_layOn wsX0_layOn) := goodIn_app (goodIn_of _ (by decide +kernel)) ggX10_apply_X0_layOn
set_option maxRecDepth 100000 in
theorem ggX10_apply_X10_actDone : GoodIn wsX10_apply wsX10_actDone := (gi_cons 173 rfl rfl (gi_cons 174 rfl rfl (gi_cons 175 rfl rfl (gi_cons 176 rfl rfl (gi_cons 177 rfl rfl (gi_cons 150 rfl rfl (gi_cons 178 rfl rfl (gi_cons 179 rfl rfl (gi_cons 180 rfl rfl (gi_cons 181 rfl rfl (gi_cons 182 rfl rfl (gi_cons 183 rfl rfl (gi_cons 184 rfl rfl (gi_cons 185 rfl rfl (gi_cons 186 rfl rfl (gi_cons 187 rfl rfl (gi_cons 188 rfl rfl (gi_cons 189 rfl rfl (gi_cons 190 rfl rfl (gi_cons 191 rfl rfl (gi_cons 192 rfl rfl (gi_cons 193 rfl rfl (gi_cons 194 rfl rfl (gi_cons 195 rfl rfl (gi_cons 196 rfl rfl (gi_cons 197 rfl rfl (gi_cons 207 rfl rfl (gi_cons 208 rfl rfl (gi_cons 209 rfl rfl (gi_cons 210 rfl rfl (gi_cons 211 rfl rfl (gi_cons 212 rfl rfl (gi_cons 213 rfl rfl gi_nil)))))))))))))))))))))))))))))))))
set_option maxRecDepth 20000 in
theorem gX10_apply_X10_actDone : GoodIn wsX10_apply (wsV RX10 311 RX10 yX10_actDone wsX10_actDone) := goodIn_app (goodIn_of _ (by decide +kernel)) ggX10_apply_X10_actDone
theorem dX10_apply_0 : decode cX10_apply 0 = .ok (.aload_n 0, 1) := by decide +kernel
theorem dX10_apply_1 : decode cX10_apply 1 = .ok (.aload_n 0, 1) := by decide +kernel
theorem dX10_apply_2 : decode cX10_apply 2 = .ok (.getfield 75, 3) := by decide +kernel
theorem dX10_apply_5 : decode cX10_apply 5 = .ok (.aload_n 0, 1) := by decide +kernel
theorem dX10_apply_6 : decode cX10_apply 6 = .ok (.getfield 82, 3) := by decide +kernel
theorem dX10_apply_9 : decode cX10_apply 9 = .ok (.iload_n 1, 1) := by decide +kernel
theorem dX10_apply_10 : decode cX10_apply 10 = .ok (.invokevirtual 334, 3) := by decide +kernel
theorem dX10_apply_13 : decode cX10_apply 13 = .ok (.invokevirtual 311, 3) := by decide +kernel
theorem dX10_apply_16 : decode cX10_apply 16 = .ok (.ireturn, 1) := by decide +kernel
set_option maxRecDepth 100000 in
theorem ggX10_image_X6_takeAll : GoodIn wsX10_image wsX6_takeAll := (gi_cons 8 rfl rfl (gi_cons 9 rfl rfl (gi_cons 10 rfl rfl (gi_cons 11 rfl rfl (gi_cons 12 rfl rfl (gi_cons 13 rfl rfl (gi_cons 14 rfl rfl (gi_cons 15 rfl rfl (gi_cons 16 rfl rfl (gi_cons 17 rfl rfl (gi_cons 18 rfl rfl (gi_cons 19 rfl rfl (gi_cons 20 rfl rfl (gi_cons 21 rfl rfl (gi_cons 22 rfl rfl (gi_cons 23 rfl rfl (gi_cons 24 rfl rfl (gi_cons 25 rfl rfl (gi_cons 26 rfl rfl (gi_cons 27 rfl rfl (gi_cons 28 rfl rfl (gi_cons 29 rfl rfl (gi_cons 30 rfl rfl (gi_cons 31 rfl rfl (gi_cons 32 rfl rfl (gi_cons 7 rfl rfl (gi_cons 33 rfl rfl (gi_cons 34 rfl rfl (gi_cons 35 rfl rfl (gi_cons 36 rfl rfl (gi_cons 37 rfl rfl (gi_cons 38 rfl rfl (gi_cons 39 rfl rfl (gi_cons 40 rfl rfl (gi_cons 41 rfl rfl (gi_cons 42 rfl rfl (gi_cons 61 rfl rfl (gi_cons 62 rfl rfl (gi_cons 63 rfl rfl (gi_cons 64 rfl rfl (gi_cons 65 rfl rfl (gi_cons 66 rfl rfl (gi_cons 67 rfl rfl (gi_cons 68 rfl rfl (gi_cons 69 rfl rfl (gi_cons 70 rfl rfl (gi_cons 71 rfl rfl (gi_cons 72 rfl rfl gi_nil))))))))))))))))))))))))))))))))))))))))))))))))
set_option maxRecDepth 20000 in
theorem gX10_image_X6_takeAll : GoodIn wsX10_image (wsV RX10 373 RX6 yX6_takeAll wsX6_takeAll) := goodIn_app (goodIn_of _ (by decide +kernel)) ggX10_image_X6_takeAll
theorem dX10_image_0 : decode cX10_image 0 = .ok (.aload_n 0, 1) := by decide +kernel
theorem dX10_image_1 : decode cX10_image 1 = .ok (.getfield 67, 3) := by decide +kernel
theorem dX10_image_4 : decode cX10_image 4 = .ok (.aload_n 0, 1) := by decide +kernel
theorem dX10_image_5 : decode cX10_image 5 = .ok (.getfield 63, 3) := by decide +kernel
theorem dX10_image_8 : decode cX10_image 8 = .ok (.invokevirtual 373, 3) := by decide +kernel
theorem dX10_image_11 : decode cX10_image 11 = .ok (.aload_n 0, 1) := by decide +kernel
theorem dX10_image_12 : decode cX10_image 12 = .ok (.iconst 1, 1) := by decide +kernel
theorem dX10_image_13 : decode cX10_image 13 = .ok (.putfield 145, 3) := by decide +kernel
theorem dX10_image_16 : decode cX10_image 16 = .ok (.return_, 1) := by decide +kernel
set_option maxRecDepth 100000 in
theorem ggX10_restore_X6_takeAll : GoodIn wsX10_restore wsX6_takeAll := (gi_cons 8 rfl rfl (gi_cons 9 rfl rfl (gi_cons 10 rfl rfl (gi_cons 11 rfl rfl (gi_cons 12 rfl rfl (gi_cons 13 rfl rfl (gi_cons 14 rfl rfl (gi_cons 15 rfl rfl (gi_cons 16 rfl rfl (gi_cons 17 rfl rfl (gi_cons 18 rfl rfl (gi_cons 19 rfl rfl (gi_cons 20 rfl rfl (gi_cons 21 rfl rfl (gi_cons 22 rfl rfl (gi_cons 23 rfl rfl (gi_cons 24 rfl rfl (gi_cons 25 rfl rfl (gi_cons 26 rfl rfl (gi_cons 27 rfl rfl (gi_cons 28 rfl rfl (gi_cons 29 rfl rfl (gi_cons 30 rfl rfl (gi_cons 31 rfl rfl (gi_cons 32 rfl rfl (gi_cons 7 rfl rfl (gi_cons 33 rfl rfl (gi_cons 34 rfl rfl (gi_cons 35 rfl rfl (gi_cons 36 rfl rfl (gi_cons 37 rfl rfl (gi_cons 38 rfl rfl (gi_cons 39 rfl rfl (gi_cons 40 rfl rfl (gi_cons 41 rfl rfl (gi_cons 42 rfl rfl (gi_cons 61 rfl rfl (gi_cons 62 rfl rfl (gi_cons 63 rfl rfl (gi_cons 64 rfl rfl (gi_cons 65 rfl rfl (gi_cons 66 rfl rfl (gi_cons 67 rfl rfl (gi_cons 68 rfl rfl (gi_cons 69 rfl rfl (gi_cons 70 rfl rfl (gi_cons 71 rfl rfl (gi_cons 72 rfl rfl gi_nil))))))))))))))))))))))))))))))))))))))))))))))))
set_option maxRecDepth 20000 in
theorem gX10_restore_X6_takeAll : GoodIn wsX10_restore (wsV RX10 373 RX6 yX6_takeAll wsX6_takeAll) := goodIn_app (goodIn_of _ (by decide +kernel)) ggX10_restore_X6_takeAll
theorem dX10_restore_0 : decode cX10_restore 0 = .ok (.aload_n 0, 1) := by decide +kernel
theorem dX10_restore_1 : decode cX10_restore 1 = .ok (.getfield 145, 3) := by decide +kernel
theorem dX10_restore_4 : decode cX10_restore 4 = .ok (.ifCond .eq 14, 3) := by decide +kernel
theorem dX10_restore_7 : decode cX10_restore 7 = .ok (.aload_n 0, 1) := by decide +kernel
theorem dX10_restore_8 : decode cX10_restore 8 = .ok (.getfield 63, 3) := by decide +kernel
theorem dX10_restore_11 : decode cX10_restore 11 = .ok (.aload_n 0, 1) := by decide +kernel
theorem dX10_restore_12 : decode cX10_restore 12 = .ok (.getfield 67, 3) := by decide +kernel
theorem dX10_restore_15 : decode cX10_restore 15 = .ok (.invokevirtual 373, 3) := by decide +kernel
theorem dX10_restore_18 : decode cX10_restore 18 = .ok (.aload_n 0, 1) := by decide +kernel
theorem dX10_restore_19 : decode cX10_restore 19 = .ok (.getfield 145, 3) := by decide +kernel
theorem dX10_restore_22 : decode cX10_restore 22 = .ok (.ireturn, 1) := by decide +kernel
set_option maxRecDepth 100000 in
theorem ggX10_adding_X10_pathAt : GoodIn wsX10_adding wsX10_pathAt := (gi_cons 7 rfl rfl (gi_cons 8 rfl rfl (gi_cons 159 rfl rfl (gi_cons 160 rfl rfl (gi_cons 161 rfl rfl (gi_cons 162 rfl rfl (gi_cons 163 rfl rfl (gi_cons 164 rfl rfl (gi_cons 165 rfl rfl (gi_cons 166 rfl rfl (gi_cons 167 rfl rfl (gi_cons 168 rfl rfl (gi_cons 169 rfl rfl (gi_cons 170 rfl rfl (gi_cons 171 rfl rfl (gi_cons 172 rfl rfl (gi_cons 173 rfl rfl (gi_cons 174 rfl rfl (gi_cons 175 rfl rfl (gi_cons 176 rfl rfl gi_nil))))))))))))))))))))
set_option maxRecDepth 20000 in
theorem gX10_adding_X10_pathAt : GoodIn wsX10_adding (wsV RX10 257 RX10 yX10_pathAt wsX10_pathAt) := goodIn_app (goodIn_of _ (by decide +kernel)) ggX10_adding_X10_pathAt
set_option maxRecDepth 100000 in
theorem ggX10_adding_X4_answersIn : GoodIn wsX10_adding wsX4_answersIn := (gi_cons 13 rfl rfl (gi_cons 14 rfl rfl (gi_cons 15 rfl rfl (gi_cons 16 rfl rfl (gi_cons 17 rfl rfl (gi_cons 12 rfl rfl (gi_cons 18 rfl rfl (gi_cons 19 rfl rfl (gi_cons 20 rfl rfl (gi_cons 21 rfl rfl (gi_cons 22 rfl rfl (gi_cons 23 rfl rfl (gi_cons 24 rfl rfl (gi_cons 25 rfl rfl (gi_cons 26 rfl rfl (gi_cons 27 rfl rfl (gi_cons 28 rfl rfl (gi_cons 29 rfl rfl (gi_cons 30 rfl rfl (gi_cons 6 rfl rfl (gi_cons 31 rfl rfl (gi_cons 32 rfl rfl (gi_cons 33 rfl rfl (gi_cons 34 rfl rfl (gi_cons 35 rfl rfl (gi_cons 36 rfl rfl (gi_cons 37 rfl rfl (gi_cons 38 rfl rfl (gi_cons 39 rfl rfl (gi_cons 40 rfl rfl (gi_cons 41 rfl rfl (gi_cons 42 rfl rfl (gi_cons 43 rfl rfl (gi_cons 44 rfl rfl (gi_cons 45 rfl rfl (gi_cons 46 rfl rfl (gi_cons 47 rfl rfl (gi_cons 48 rfl rfl (gi_cons 49 rfl rfl (gi_cons 50 rfl rfl (gi_cons 51 rfl rfl (gi_cons 52 rfl rfl (gi_cons 53 rfl rfl (gi_cons 54 rfl rfl (gi_cons 55 rfl rfl (gi_cons 56 rfl rfl (gi_cons 57 rfl rfl (gi_cons 58 rfl rfl (gi_cons 59 rfl rfl (gi_cons 60 rfl rfl (gi_cons 61 rfl rfl (gi_cons 62 rfl rfl (gi_cons 63 rfl rfl (gi_cons 64 rfl rfl (gi_cons 65 rfl rfl (gi_cons 66 rfl rfl (gi_cons 67 rfl rfl (gi_cons 68 rfl rfl (gi_cons 69 rfl rfl (gi_cons 70 rfl rfl (gi_cons 71 rfl rfl (gi_cons 72 rfl rfl (gi_cons 73 rfl rfl (gi_cons 74 rfl rfl (gi_cons 75 rfl rfl (gi_cons 76 rfl rfl (gi_cons 77 rfl rfl (gi_cons 78 rfl rfl (gi_cons 79 rfl rfl (gi_cons 80 rfl rfl (gi_cons 81 rfl rfl (gi_cons 82 rfl rfl (gi_cons 83 rfl rfl (gi_cons 84 rfl rfl (gi_cons 85 rfl rfl (gi_cons 86 rfl rfl (gi_cons 87 rfl rfl (gi_cons 88 rfl rfl (gi_cons 184 rfl rfl (gi_cons 185 rfl rfl (gi_cons 186 rfl rfl (gi_cons 187 rfl rfl (gi_cons 188 rfl rfl (gi_cons 189 rfl rfl (gi_cons 190 rfl rfl (gi_cons 191 rfl rfl (gi_cons 192 rfl rfl (gi_cons 193 rfl rfl (gi_cons 194 rfl rfl (gi_cons 195 rfl rfl (gi_cons 196 rfl rfl (gi_cons 197 rfl rfl (gi_cons 198 rfl rfl (gi_cons 199 rfl rfl (gi_cons 200 rfl rfl (gi_cons 201 rfl rfl (gi_cons 202 rfl rfl gi_nil)))))))))))))))))))))))))))))))))))))))))))))))))))))))))))))))))))))))))))))))))))))))))))))))))
set_option maxRecDepth 20000 in
theorem gX10_adding_X4_answersIn : GoodIn wsX10_adding (wsV RX10 263 RX4 yX4_answersIn wsX4_answersIn) := goodIn_app (goodIn_of _ (by decide +kernel)) ggX10_adding_X4_answersIn
set_option maxRecDepth 100000 in
theorem ggX10_adding_X0_addAll : GoodIn wsX10_adding wsX0_addAll := (gi_cons 93 rfl rfl (gi_cons 94 rfl rfl (gi_cons 95 rfl rfl (gi_cons 96 rfl rfl (gi_cons 97 rfl rfl (gi_cons 69 rfl rfl (gi_cons 98 rfl rfl (gi_cons 99 rfl rfl (gi_cons 68 rfl rfl (gi_cons 70 rfl rfl (gi_cons 100 rfl rfl (gi_cons 101 rfl rfl (gi_cons 102 rfl rfl (gi_cons 92 rfl rfl (gi_cons 103 rfl rfl (gi_cons 104 rfl rfl (gi_cons 6 rfl rfl (gi_cons 105 rfl rfl (gi_cons 106 rfl rfl (gi_cons 30 rfl rfl (gi_cons 31 rfl rfl (gi_cons 107 rfl rfl (gi_cons 56 rfl rfl (gi_cons 57 rfl rfl (gi_cons 24 rfl rfl (gi_cons 58 rfl rfl (gi_cons 26 rfl rfl (gi_cons 27 rfl rfl (gi_cons 108 rfl rfl (gi_cons 109 rfl rfl (gi_cons 110 rfl rfl (gi_cons 111 rfl rfl (gi_cons 112 rfl rfl (gi_cons 113 rfl rfl (gi_cons 114 rfl rfl (gi_cons 115 rfl rfl (gi_cons 88 rfl rfl (gi_cons 29 rfl rfl (gi_cons 28 rfl rfl (gi_cons 116 rfl rfl (gi_cons 85 rfl rfl (gi_cons 86 rfl rfl (gi_cons 87 rfl rfl (gi_cons 117 rfl rfl (gi_cons 118 rfl rfl (gi_cons 119 rfl rfl (gi_cons 120 rfl rfl (gi_cons 121 rfl rfl (gi_cons 122 rfl rfl (gi_cons 123 rfl rfl (gi_cons 124 rfl rfl (gi_cons 125 rfl rfl (gi_cons 126 rfl rfl (gi_cons 127 rfl rfl (gi_cons 128 rfl rfl (gi_cons 129 rfl rfl (gi_cons 130 rfl rfl (gi_cons 131 rfl rfl (gi_cons 132 rfl rfl (gi_cons 133 rfl rfl (gi_cons 134 rfl rfl (gi_cons 135 rfl rfl (gi_cons 136 rfl rfl (gi_cons 137 rfl rfl (gi_cons 138 rfl rfl (gi_cons 139 rfl rfl (gi_cons 140 rfl rfl (gi_cons 141 rfl rfl (gi_cons 142 rfl rfl (gi_cons 143 rfl rfl (gi_cons 144 rfl rfl (gi_cons 145 rfl rfl (gi_cons 146 rfl rfl (gi_cons 147 rfl rfl (gi_cons 148 rfl rfl (gi_cons 149 rfl rfl (gi_cons 150 rfl rfl (gi_cons 151 rfl rfl (gi_cons 152 rfl rfl (gi_cons 153 rfl rfl (gi_cons 154 rfl rfl (gi_cons 155 rfl rfl (gi_cons 156 rfl rfl (gi_cons 157 rfl rfl (gi_cons 158 rfl rfl (gi_cons 203 rfl rfl (gi_cons 204 rfl rfl (gi_cons 205 rfl rfl (gi_cons 206 rfl rfl (gi_cons 177 rfl rfl (gi_cons 178 rfl rfl (gi_cons 179 rfl rfl (gi_cons 180 rfl rfl (gi_cons 181 rfl rfl (gi_cons 182 rfl rfl (gi_cons 183 rfl rfl (gi_cons 198 rfl rfl (gi_cons 199 rfl rfl (gi_cons 200 rfl rfl (gi_cons 201 rfl rfl (gi_cons 202 rfl rfl gi_nil)))))))))))))))))))))))))))))))))))))))))))))))))))))))))))))))))))))))))))))))))))))))))))))))))))))
set_option maxRecDepth 20000 in
theorem gX10_adding_X0_addAll : GoodIn wsX10_adding (wsV RX10 380 RX0 yX0_addAll wsX0_addAll) := goodIn_app (goodIn_of _ (by decide +kernel)) ggX10_adding_X0_addAll
theorem dX10_adding_0 : decode cX10_adding 0 = .ok (.aload_n 0, 1) := by decide +kernel
theorem dX10_adding_1 : decode cX10_adding 1 = .ok (.iload_n 1, 1) := by decide +kernel
theorem dX10_adding_2 : decode cX10_adding 2 = .ok (.invokevirtual 257, 3) := by decide +kernel
theorem dX10_adding_5 : decode cX10_adding 5 = .ok (.astore_n 3, 1) := by decide +kernel
theorem dX10_adding_6 : decode cX10_adding 6 = .ok (.aload_n 3, 1) := by decide +kernel
theorem dX10_adding_7 : decode cX10_adding 7 = .ok (.ifnull 17, 3) := by decide +kernel
theorem dX10_adding_10 : decode cX10_adding 10 = .ok (.iload_n 2, 1) := by decide +kernel
theorem dX10_adding_11 : decode cX10_adding 11 = .ok (.sipush (-999), 3) := by decide +kernel
theorem dX10_adding_14 : decode cX10_adding 14 = .ok (.if_icmp .lt 10, 3) := by decide +kernel
theorem dX10_adding_17 : decode cX10_adding 17 = .ok (.iload_n 2, 1) := by decide +kernel
theorem dX10_adding_18 : decode cX10_adding 18 = .ok (.sipush 999, 3) := by decide +kernel
theorem dX10_adding_21 : decode cX10_adding 21 = .ok (.if_icmp .le 5, 3) := by decide +kernel
theorem dX10_adding_24 : decode cX10_adding 24 = .ok (.iconst (-1), 1) := by decide +kernel
theorem dX10_adding_25 : decode cX10_adding 25 = .ok (.ireturn, 1) := by decide +kernel
theorem dX10_adding_26 : decode cX10_adding 26 = .ok (.aload_n 0, 1) := by decide +kernel
theorem dX10_adding_27 : decode cX10_adding 27 = .ok (.getfield 75, 3) := by decide +kernel
theorem dX10_adding_30 : decode cX10_adding 30 = .ok (.aload_n 3, 1) := by decide +kernel
theorem dX10_adding_31 : decode cX10_adding 31 = .ok (.aload_n 0, 1) := by decide +kernel
theorem dX10_adding_32 : decode cX10_adding 32 = .ok (.getfield 63, 3) := by decide +kernel
theorem dX10_adding_35 : decode cX10_adding 35 = .ok (.getfield 107, 3) := by decide +kernel
theorem dX10_adding_38 : decode cX10_adding 38 = .ok (.bipush 8, 2) := by decide +kernel
theorem dX10_adding_40 : decode cX10_adding 40 = .ok (.invokevirtual 263, 3) := by decide +kernel
theorem dX10_adding_43 : decode cX10_adding 43 = .ok (.iload_n 2, 1) := by decide +kernel
theorem dX10_adding_44 : decode cX10_adding 44 = .ok (.invokevirtual 380, 3) := by decide +kernel
theorem dX10_adding_47 : decode cX10_adding 47 = .ok (.ireturn, 1) := by decide +kernel
set_option maxRecDepth 100000 in
theorem ggX10_changing_X10_pathAt : GoodIn wsX10_changing wsX10_pathAt := (gi_cons 7 rfl rfl (gi_cons 8 rfl rfl (gi_cons 209 rfl rfl (gi_cons 210 rfl rfl (gi_cons 211 rfl rfl (gi_cons 212 rfl rfl (gi_cons 213 rfl rfl (gi_cons 214 rfl rfl (gi_cons 215 rfl rfl (gi_cons 216 rfl rfl (gi_cons 217 rfl rfl (gi_cons 218 rfl rfl (gi_cons 219 rfl rfl (gi_cons 220 rfl rfl (gi_cons 221 rfl rfl (gi_cons 222 rfl rfl (gi_cons 223 rfl rfl (gi_cons 224 rfl rfl (gi_cons 225 rfl rfl (gi_cons 226 rfl rfl gi_nil))))))))))))))))))))
set_option maxRecDepth 20000 in
theorem gX10_changing_X10_pathAt : GoodIn wsX10_changing (wsV RX10 257 RX10 yX10_pathAt wsX10_pathAt) := goodIn_app (goodIn_of _ (by decide +kernel)) ggX10_changing_X10_pathAt
set_option maxRecDepth 100000 in
theorem ggX10_changing_X4_answersIn : GoodIn wsX10_changing wsX4_answersIn := (gi_cons 13 rfl rfl (gi_cons 14 rfl rfl (gi_cons 15 rfl rfl (gi_cons 16 rfl rfl (gi_cons 17 rfl rfl (gi_cons 12 rfl rfl (gi_cons 18 rfl rfl (gi_cons 19 rfl rfl (gi_cons 20 rfl rfl (gi_cons 21 rfl rfl (gi_cons 22 rfl rfl (gi_cons 23 rfl rfl (gi_cons 24 rfl rfl (gi_cons 25 rfl rfl (gi_cons 26 rfl rfl (gi_cons 27 rfl rfl (gi_cons 28 rfl rfl (gi_cons 29 rfl rfl (gi_cons 30 rfl rfl (gi_cons 6 rfl rfl (gi_cons 31 rfl rfl (gi_cons 32 rfl rfl (gi_cons 33 rfl rfl (gi_cons 34 rfl rfl (gi_cons 35 rfl rfl (gi_cons 36 rfl rfl (gi_cons 37 rfl rfl (gi_cons 38 rfl rfl (gi_cons 39 rfl rfl (gi_cons 40 rfl rfl (gi_cons 41 rfl rfl (gi_cons 42 rfl rfl (gi_cons 43 rfl rfl (gi_cons 44 rfl rfl (gi_cons 45 rfl rfl (gi_cons 46 rfl rfl (gi_cons 47 rfl rfl (gi_cons 48 rfl rfl (gi_cons 49 rfl rfl (gi_cons 50 rfl rfl (gi_cons 51 rfl rfl (gi_cons 52 rfl rfl (gi_cons 53 rfl rfl (gi_cons 54 rfl rfl (gi_cons 55 rfl rfl (gi_cons 56 rfl rfl (gi_cons 57 rfl rfl (gi_cons 58 rfl rfl (gi_cons 59 rfl rfl (gi_cons 60 rfl rfl (gi_cons 61 rfl rfl (gi_cons 62 rfl rfl (gi_cons 63 rfl rfl (gi_cons 64 rfl rfl (gi_cons 65 rfl rfl (gi_cons 66 rfl rfl (gi_cons 67 rfl rfl (gi_cons 68 rfl rfl (gi_cons 69 rfl rfl (gi_cons 70 rfl rfl (gi_cons 71 rfl rfl (gi_cons 72 rfl rfl (gi_cons 73 rfl rfl (gi_cons 74 rfl rfl (gi_cons 75 rfl rfl (gi_cons 76 rfl rfl (gi_cons 77 rfl rfl (gi_cons 78 rfl rfl (gi_cons 79 rfl rfl (gi_cons 80 rfl rfl (gi_cons 81 rfl rfl (gi_cons 82 rfl rfl (gi_cons 83 rfl rfl (gi_cons 84 rfl rfl (gi_cons 85 rfl rfl (gi_cons 86 rfl rfl (gi_cons 87 rfl rfl (gi_cons 88 rfl rfl (gi_cons 234 rfl rfl (gi_cons 235 rfl rfl (gi_cons 236 rfl rfl (gi_cons 237 rfl rfl (gi_cons 238 rfl rfl (gi_cons 239 rfl rfl (gi_cons 240 rfl rfl (gi_cons 241 rfl rfl (gi_cons 242 rfl rfl (gi_cons 243 rfl rfl (gi_cons 244 rfl rfl (gi_cons 245 rfl rfl (gi_cons 246 rfl rfl (gi_cons 247 rfl rfl (gi_cons 248 rfl rfl (gi_cons 249 rfl rfl (gi_cons 250 rfl rfl (gi_cons 251 rfl rfl (gi_cons 252 rfl rfl gi_nil)))))))))))))))))))))))))))))))))))))))))))))))))))))))))))))))))))))))))))))))))))))))))))))))))
set_option maxRecDepth 20000 in
theorem gX10_changing_X4_answersIn : GoodIn wsX10_changing (wsV RX10 263 RX4 yX4_answersIn wsX4_answersIn) := goodIn_app (goodIn_of _ (by decide +kernel)) ggX10_changing_X4_answersIn
set_option maxRecDepth 100000 in
theorem ggX10_changing_X0_dropAll : GoodIn wsX10_changing wsX0_dropAll := (gi_cons 93 rfl rfl (gi_cons 94 rfl rfl (gi_cons 95 rfl rfl (gi_cons 96 rfl rfl (gi_cons 6 rfl rfl (gi_cons 97 rfl rfl (gi_cons 98 rfl rfl (gi_cons 30 rfl rfl (gi_cons 31 rfl rfl (gi_cons 99 rfl rfl (gi_cons 100 rfl rfl (gi_cons 101 rfl rfl (gi_cons 24 rfl rfl (gi_cons 102 rfl rfl (gi_cons 26 rfl rfl (gi_cons 27 rfl rfl (gi_cons 103 rfl rfl (gi_cons 104 rfl rfl (gi_cons 105 rfl rfl (gi_cons 106 rfl rfl (gi_cons 88 rfl rfl (gi_cons 29 rfl rfl (gi_cons 28 rfl rfl (gi_cons 107 rfl rfl (gi_cons 108 rfl rfl (gi_cons 109 rfl rfl (gi_cons 110 rfl rfl (gi_cons 111 rfl rfl (gi_cons 112 rfl rfl (gi_cons 113 rfl rfl (gi_cons 114 rfl rfl (gi_cons 115 rfl rfl (gi_cons 40 rfl rfl (gi_cons 41 rfl rfl (gi_cons 42 rfl rfl (gi_cons 116 rfl rfl (gi_cons 117 rfl rfl (gi_cons 118 rfl rfl (gi_cons 119 rfl rfl (gi_cons 120 rfl rfl (gi_cons 121 rfl rfl (gi_cons 122 rfl rfl (gi_cons 92 rfl rfl (gi_cons 123 rfl rfl (gi_cons 124 rfl rfl (gi_cons 125 rfl rfl (gi_cons 126 rfl rfl (gi_cons 127 rfl rfl (gi_cons 128 rfl rfl (gi_cons 68 rfl rfl (gi_cons 69 rfl rfl (gi_cons 70 rfl rfl (gi_cons 129 rfl rfl (gi_cons 130 rfl rfl (gi_cons 131 rfl rfl (gi_cons 132 rfl rfl (gi_cons 133 rfl rfl (gi_cons 134 rfl rfl (gi_cons 135 rfl rfl (gi_cons 136 rfl rfl (gi_cons 137 rfl rfl (gi_cons 138 rfl rfl (gi_cons 139 rfl rfl (gi_cons 140 rfl rfl (gi_cons 141 rfl rfl (gi_cons 142 rfl rfl (gi_cons 143 rfl rfl (gi_cons 144 rfl rfl (gi_cons 145 rfl rfl (gi_cons 146 rfl rfl (gi_cons 147 rfl rfl (gi_cons 148 rfl rfl (gi_cons 149 rfl rfl (gi_cons 150 rfl rfl (gi_cons 151 rfl rfl (gi_cons 152 rfl rfl (gi_cons 153 rfl rfl (gi_cons 154 rfl rfl (gi_cons 155 rfl rfl (gi_cons 156 rfl rfl (gi_cons 157 rfl rfl (gi_cons 253 rfl rfl (gi_cons 254 rfl rfl (gi_cons 255 rfl rfl (gi_cons 256 rfl rfl (gi_cons 227 rfl rfl (gi_cons 228 rfl rfl (gi_cons 229 rfl rfl (gi_cons 230 rfl rfl (gi_cons 231 rfl rfl (gi_cons 232 rfl rfl (gi_cons 233 rfl rfl (gi_cons 248 rfl rfl (gi_cons 249 rfl rfl (gi_cons 250 rfl rfl (gi_cons 251 rfl rfl (gi_cons 252 rfl rfl gi_nil)))))))))))))))))))))))))))))))))))))))))))))))))))))))))))))))))))))))))))))))))))))))))))))))))
set_option maxRecDepth 20000 in
theorem gX10_changing_X0_dropAll : GoodIn wsX10_changing (wsV RX10 383 RX0 yX0_dropAll wsX0_dropAll) := goodIn_app (goodIn_of _ (by decide +kernel)) ggX10_changing_X0_dropAll
set_option maxRecDepth 100000 in
theorem ggX10_changing_X0_rearrangeAll : GoodIn wsX10_changing wsX0_rearrangeAll := (gi_cons 161 rfl rfl (gi_cons 94 rfl rfl (gi_cons 95 rfl rfl (gi_cons 162 rfl rfl (gi_cons 163 rfl rfl (gi_cons 164 rfl rfl (gi_cons 92 rfl rfl (gi_cons 165 rfl rfl (gi_cons 96 rfl rfl (gi_cons 6 rfl rfl (gi_cons 97 rfl rfl (gi_cons 98 rfl rfl (gi_cons 30 rfl rfl (gi_cons 31 rfl rfl (gi_cons 166 rfl rfl (gi_cons 56 rfl rfl (gi_cons 57 rfl rfl (gi_cons 24 rfl rfl (gi_cons 58 rfl rfl (gi_cons 26 rfl rfl (gi_cons 27 rfl rfl (gi_cons 99 rfl rfl (gi_cons 100 rfl rfl (gi_cons 101 rfl rfl (gi_cons 102 rfl rfl (gi_cons 103 rfl rfl (gi_cons 104 rfl rfl (gi_cons 105 rfl rfl (gi_cons 106 rfl rfl (gi_cons 88 rfl rfl (gi_cons 29 rfl rfl (gi_cons 28 rfl rfl (gi_cons 167 rfl rfl (gi_cons 168 rfl rfl (gi_cons 169 rfl rfl (gi_cons 170 rfl rfl (gi_cons 171 rfl rfl (gi_cons 172 rfl rfl (gi_cons 173 rfl rfl (gi_cons 174 rfl rfl (gi_cons 175 rfl rfl (gi_cons 176 rfl rfl (gi_cons 177 rfl rfl (gi_cons 178 rfl rfl (gi_cons 69 rfl rfl (gi_cons 179 rfl rfl (gi_cons 180 rfl rfl (gi_cons 60 rfl rfl (gi_cons 61 rfl rfl (gi_cons 62 rfl rfl (gi_cons 181 rfl rfl (gi_cons 182 rfl rfl (gi_cons 183 rfl rfl (gi_cons 184 rfl rfl (gi_cons 185 rfl rfl (gi_cons 85 rfl rfl (gi_cons 86 rfl rfl (gi_cons 87 rfl rfl (gi_cons 186 rfl rfl (gi_cons 40 rfl rfl (gi_cons 41 rfl rfl (gi_cons 42 rfl rfl (gi_cons 187 rfl rfl (gi_cons 188 rfl rfl (gi_cons 189 rfl rfl (gi_cons 190 rfl rfl (gi_cons 191 rfl rfl (gi_cons 36 rfl rfl (gi_cons 37 rfl rfl (gi_cons 38 rfl rfl (gi_cons 192 rfl rfl (gi_cons 193 rfl rfl (gi_cons 194 rfl rfl (gi_cons 195 rfl rfl (gi_cons 196 rfl rfl (gi_cons 197 rfl rfl (gi_cons 198 rfl rfl (gi_cons 199 rfl rfl (gi_cons 115 rfl rfl (gi_cons 200 rfl rfl (gi_cons 201 rfl rfl (gi_cons 202 rfl rfl (gi_cons 203 rfl rfl (gi_cons 116 rfl rfl (gi_cons 117 rfl rfl (gi_cons 118 rfl rfl (gi_cons 119 rfl rfl (gi_cons 204 rfl rfl (gi_cons 205 rfl rfl (gi_cons 206 rfl rfl (gi_cons 207 rfl rfl (gi_cons 208 rfl rfl (gi_cons 120 rfl rfl (gi_cons 121 rfl rfl (gi_cons 122 rfl rfl (gi_cons 123 rfl rfl (gi_cons 124 rfl rfl (gi_cons 125 rfl rfl (gi_cons 126 rfl rfl (gi_cons 127 rfl rfl (gi_cons 128 rfl rfl (gi_cons 68 rfl rfl (gi_cons 70 rfl rfl (gi_cons 129 rfl rfl (gi_cons 130 rfl rfl (gi_cons 131 rfl rfl (gi_cons 132 rfl rfl (gi_cons 133 rfl rfl (gi_cons 134 rfl rfl (gi_cons 135 rfl rfl (gi_cons 136 rfl rfl (gi_cons 137 rfl rfl (gi_cons 138 rfl rfl (gi_cons 139 rfl rfl (gi_cons 140 rfl rfl (gi_cons 141 rfl rfl (gi_cons 142 rfl rfl (gi_cons 143 rfl rfl (gi_cons 144 rfl rfl (gi_cons 145 rfl rfl (gi_cons 146 rfl rfl (gi_cons 147 rfl rfl (gi_cons 148 rfl rfl (gi_cons 149 rfl rfl (gi_cons 150 rfl rfl (gi_cons 151 rfl rfl (gi_cons 152 rfl rfl (gi_cons 153 rfl rfl (gi_cons 154 rfl rfl (gi_cons 155 rfl rfl (gi_cons 156 rfl rfl (gi_cons 157 rfl rfl (gi_cons 253 rfl rfl (gi_cons 254 rfl rfl (gi_cons 255 rfl rfl (gi_cons 256 rfl rfl (gi_cons 227 rfl rfl (gi_cons 228 rfl rfl (gi_cons 229 rfl rfl (gi_cons 230 rfl rfl (gi_cons 231 rfl rfl (gi_cons 232 rfl rfl (gi_cons 233 rfl rfl (gi_cons 248 rfl rfl (gi_cons 249 rfl rfl (gi_cons 250 rfl rfl (gi_cons 251 rfl rfl (gi_cons 252 rfl rfl gi_nil))))))))))))))))))))))))))))))))))))))))))))))))))))))))))))))))))))))))))))))))))))))))))))))))))))))))))))))))))))))))))))))))))))))))))))))))))))
set_option maxRecDepth 20000 in
theorem gX10_changing_X0_rearrangeAll : GoodIn wsX10_changing (wsV RX10 386 RX0 yX0_rearrangeAll wsX0_rearrangeAll) := goodIn_app (goodIn_of _ (by decide +kernel)) ggX10_changing_X0_rearrangeAll
theorem dX10_changing_0 : decode cX10_changing 0 = .ok (.aload_n 0, 1) := by decide +kernel
theorem dX10_changing_1 : decode cX10_changing 1 = .ok (.iload_n 1, 1) := by decide +kernel
theorem dX10_changing_2 : decode cX10_changing 2 = .ok (.invokevirtual 257, 3) := by decide +kernel
theorem dX10_changing_5 : decode cX10_changing 5 = .ok (.astore_n 3, 1) := by decide +kernel
theorem dX10_changing_6 : decode cX10_changing 6 = .ok (.aload_n 3, 1) := by decide +kernel
theorem dX10_changing_7 : decode cX10_changing 7 = .ok (.ifnull 12, 3) := by decide +kernel
theorem dX10_changing_10 : decode cX10_changing 10 = .ok (.iload_n 2, 1) := by decide +kernel
theorem dX10_changing_11 : decode cX10_changing 11 = .ok (.ifCond .lt 8, 3) := by decide +kernel
theorem dX10_changing_14 : decode cX10_changing 14 = .ok (.iload_n 2, 1) := by decide +kernel
theorem dX10_changing_15 : decode cX10_changing 15 = .ok (.iconst 2, 1) := by decide +kernel
theorem dX10_changing_16 : decode cX10_changing 16 = .ok (.if_icmp .le 5, 3) := by decide +kernel
theorem dX10_changing_19 : decode cX10_changing 19 = .ok (.iconst (-1), 1) := by decide +kernel
theorem dX10_changing_20 : decode cX10_changing 20 = .ok (.ireturn, 1) := by decide +kernel
theorem dX10_changing_21 : decode cX10_changing 21 = .ok (.aload_n 3, 1) := by decide +kernel
theorem dX10_changing_22 : decode cX10_changing 22 = .ok (.aload_n 0, 1) := by decide +kernel
theorem dX10_changing_23 : decode cX10_changing 23 = .ok (.getfield 63, 3) := by decide +kernel
theorem dX10_changing_26 : decode cX10_changing 26 = .ok (.getfield 107, 3) := by decide +kernel
theorem dX10_changing_29 : decode cX10_changing 29 = .ok (.bipush 8, 2) := by decide +kernel
theorem dX10_changing_31 : decode cX10_changing 31 = .ok (.invokevirtual 263, 3) := by decide +kernel
theorem dX10_changing_34 : decode cX10_changing 34 = .ok (.lstore 4, 2) := by decide +kernel
theorem dX10_changing_36 : decode cX10_changing 36 = .ok (.iload_n 2, 1) := by decide +kernel
theorem dX10_changing_37 : decode cX10_changing 37 = .ok (.iconst 2, 1) := by decide +kernel
theorem dX10_changing_38 : decode cX10_changing 38 = .ok (.if_icmp .ne 15, 3) := by decide +kernel
theorem dX10_changing_41 : decode cX10_changing 41 = .ok (.aload_n 0, 1) := by decide +kernel
theorem dX10_changing_42 : decode cX10_changing 42 = .ok (.getfield 75, 3) := by decide +kernel
theorem dX10_changing_45 : decode cX10_changing 45 = .ok (.lload 4, 2) := by decide +kernel
theorem dX10_changing_47 : decode cX10_changing 47 = .ok (.invokevirtual 383, 3) := by decide +kernel
theorem dX10_changing_50 : decode cX10_changing 50 = .ok (.goto 22, 3) := by decide +kernel
theorem dX10_changing_53 : decode cX10_changing 53 = .ok (.aload_n 0, 1) := by decide +kernel
theorem dX10_changing_54 : decode cX10_changing 54 = .ok (.getfield 75, 3) := by decide +kernel
theorem dX10_changing_57 : decode cX10_changing 57 = .ok (.lload 4, 2) := by decide +kernel
theorem dX10_changing_59 : decode cX10_changing 59 = .ok (.iload_n 2, 1) := by decide +kernel
theorem dX10_changing_60 : decode cX10_changing 60 = .ok (.iconst 1, 1) := by decide +kernel
theorem dX10_changing_61 : decode cX10_changing 61 = .ok (.if_icmp .ne 7, 3) := by decide +kernel
theorem dX10_changing_64 : decode cX10_changing 64 = .ok (.iconst 1, 1) := by decide +kernel
theorem dX10_changing_65 : decode cX10_changing 65 = .ok (.goto 4, 3) := by decide +kernel
theorem dX10_changing_68 : decode cX10_changing 68 = .ok (.iconst 0, 1) := by decide +kernel
theorem dX10_changing_69 : decode cX10_changing 69 = .ok (.invokevirtual 386, 3) := by decide +kernel
theorem dX10_changing_72 : decode cX10_changing 72 = .ok (.ireturn, 1) := by decide +kernel
set_option maxRecDepth 100000 in
theorem ggX10_oneYear_X2_next : GoodIn wsX10_oneYear wsX2_next := (gi_cons 8 rfl rfl (gi_cons 9 rfl rfl (gi_cons 10 rfl rfl (gi_cons 283 rfl rfl gi_nil))))
set_option maxRecDepth 20000 in
theorem gX10_oneYear_X2_next : GoodIn wsX10_oneYear (wsV RX10 390 RX2 yX2_next wsX2_next) := goodIn_app (goodIn_of _ (by decide +kernel)) ggX10_oneYear_X2_next
set_option maxRecDepth 100000 in
theorem ggX10_oneYear_X10_adding : GoodIn wsX10_oneYear wsX10_adding := (gi_cons 15 rfl rfl (gi_cons 3 rfl rfl (gi_cons 2 rfl rfl (gi_cons 16 rfl rfl (gi_cons 17 rfl rfl (gi_cons 18 rfl rfl (gi_cons 14 rfl rfl (gi_cons 19 rfl rfl (gi_cons 20 rfl rfl (gi_cons 21 rfl rfl (gi_cons 22 rfl rfl (gi_cons 23 rfl rfl (gi_cons 24 rfl rfl (gi_cons 25 rfl rfl (gi_cons 26 rfl rfl (gi_cons 27 rfl rfl (gi_cons 28 rfl rfl (gi_cons 29 rfl rfl (gi_cons 30 rfl rfl (gi_cons 31 rfl rfl (gi_cons 32 rfl rfl (gi_cons 33 rfl rfl (gi_cons 34 rfl rfl (gi_cons 35 rfl rfl (gi_cons 36 rfl rfl (gi_cons 37 rfl rfl (gi_cons 38 rfl rfl (gi_cons 39 rfl rfl (gi_cons 40 rfl rfl (gi_cons 41 rfl rfl (gi_cons 42 rfl rfl (gi_cons 43 rfl rfl (gi_cons 44 rfl rfl (gi_cons 45 rfl rfl (gi_cons 46 rfl rfl (gi_cons 47 rfl rfl (gi_cons 48 rfl rfl (gi_cons 49 rfl rfl (gi_cons 50 rfl rfl (gi_cons 51 rfl rfl (gi_cons 52 rfl rfl (gi_cons 53 rfl rfl (gi_cons 54 rfl rfl (gi_cons 55 rfl rfl (gi_cons 56 rfl rfl (gi_cons 57 rfl rfl (gi_cons 58 rfl rfl (gi_cons 59 rfl rfl (gi_cons 60 rfl rfl (gi_cons 61 rfl rfl (gi_cons 62 rfl rfl (gi_cons 63 rfl rfl (gi_cons 64 rfl rfl (gi_cons 65 rfl rfl (gi_cons 66 rfl rfl (gi_cons 67 rfl rfl (gi_cons 68 rfl rfl (gi_cons 69 rfl rfl (gi_cons 70 rfl rfl (gi_cons 71 rfl rfl (gi_cons 72 rfl rfl (gi_cons 73 rfl rfl (gi_cons 74 rfl rfl (gi_cons 75 rfl rfl (gi_cons 76 rfl rfl (gi_cons 77 rfl rfl (gi_cons 78 rfl rfl (gi_cons 79 rfl rfl (gi_cons 80 rfl rfl (gi_cons 81 rfl rfl (gi_cons 82 rfl rfl (gi_cons 83 rfl rfl (gi_cons 84 rfl rfl (gi_cons 85 rfl rfl (gi_cons 86 rfl rfl (gi_cons 87 rfl rfl (gi_cons 88 rfl rfl (gi_cons 89 rfl rfl (gi_cons 90 rfl rfl (gi_cons 91 rfl rfl (gi_cons 92 rfl rfl (gi_cons 93 rfl rfl (gi_cons 94 rfl rfl (gi_cons 95 rfl rfl (gi_cons 96 rfl rfl (gi_cons 97 rfl rfl (gi_cons 98 rfl rfl (gi_cons 99 rfl rfl (gi_cons 100 rfl rfl (gi_cons 101 rfl rfl (gi_cons 102 rfl rfl (gi_cons 103 rfl rfl (gi_cons 104 rfl rfl (gi_cons 105 rfl rfl (gi_cons 106 rfl rfl (gi_cons 107 rfl rfl (gi_cons 108 rfl rfl (gi_cons 109 rfl rfl (gi_cons 110 rfl rfl (gi_cons 111 rfl rfl (gi_cons 112 rfl rfl (gi_cons 113 rfl rfl (gi_cons 114 rfl rfl (gi_cons 115 rfl rfl (gi_cons 116 rfl rfl (gi_cons 117 rfl rfl (gi_cons 118 rfl rfl (gi_cons 119 rfl rfl (gi_cons 120 rfl rfl (gi_cons 121 rfl rfl (gi_cons 122 rfl rfl (gi_cons 123 rfl rfl (gi_cons 124 rfl rfl (gi_cons 125 rfl rfl (gi_cons 126 rfl rfl (gi_cons 127 rfl rfl (gi_cons 128 rfl rfl (gi_cons 129 rfl rfl (gi_cons 130 rfl rfl (gi_cons 131 rfl rfl (gi_cons 132 rfl rfl (gi_cons 133 rfl rfl (gi_cons 134 rfl rfl (gi_cons 135 rfl rfl (gi_cons 136 rfl rfl (gi_cons 137 rfl rfl (gi_cons 138 rfl rfl (gi_cons 139 rfl rfl (gi_cons 140 rfl rfl (gi_cons 141 rfl rfl (gi_cons 142 rfl rfl (gi_cons 143 rfl rfl (gi_cons 144 rfl rfl (gi_cons 145 rfl rfl (gi_cons 146 rfl rfl (gi_cons 147 rfl rfl (gi_cons 148 rfl rfl (gi_cons 149 rfl rfl (gi_cons 150 rfl rfl (gi_cons 151 rfl rfl (gi_cons 152 rfl rfl (gi_cons 153 rfl rfl (gi_cons 154 rfl rfl (gi_cons 155 rfl rfl (gi_cons 156 rfl rfl (gi_cons 157 rfl rfl (gi_cons 158 rfl rfl (gi_cons 159 rfl rfl (gi_cons 160 rfl rfl (gi_cons 161 rfl rfl (gi_cons 162 rfl rfl (gi_cons 163 rfl rfl (gi_cons 164 rfl rfl (gi_cons 165 rfl rfl (gi_cons 166 rfl rfl (gi_cons 167 rfl rfl (gi_cons 168 rfl rfl (gi_cons 169 rfl rfl (gi_cons 170 rfl rfl (gi_cons 253 rfl rfl (gi_cons 254 rfl rfl (gi_cons 255 rfl rfl (gi_cons 256 rfl rfl (gi_cons 257 rfl rfl (gi_cons 258 rfl rfl (gi_cons 259 rfl rfl (gi_cons 260 rfl rfl (gi_cons 261 rfl rfl (gi_cons 262 rfl rfl (gi_cons 263 rfl rfl (gi_cons 264 rfl rfl (gi_cons 265 rfl rfl (gi_cons 266 rfl rfl (gi_cons 267 rfl rfl (gi_cons 268 rfl rfl (gi_cons 269 rfl rfl (gi_cons 270 rfl rfl (gi_cons 271 rfl rfl (gi_cons 272 rfl rfl (gi_cons 273 rfl rfl (gi_cons 274 rfl rfl (gi_cons 275 rfl rfl (gi_cons 276 rfl rfl (gi_cons 277 rfl rfl (gi_cons 284 rfl rfl (gi_cons 285 rfl rfl (gi_cons 286 rfl rfl (gi_cons 287 rfl rfl (gi_cons 288 rfl rfl (gi_cons 289 rfl rfl (gi_cons 290 rfl rfl (gi_cons 291 rfl rfl (gi_cons 292 rfl rfl (gi_cons 293 rfl rfl (gi_cons 294 rfl rfl (gi_cons 295 rfl rfl (gi_cons 296 rfl rfl (gi_cons 297 rfl rfl (gi_cons 278 rfl rfl (gi_cons 279 rfl rfl (gi_cons 280 rfl rfl (gi_cons 281 rfl rfl (gi_cons 282 rfl rfl (gi_cons 298 rfl rfl (gi_cons 299 rfl rfl (gi_cons 300 rfl rfl (gi_cons 301 rfl rfl gi_nil)))))))))))))))))))))))))))))))))))))))))))))))))))))))))))))))))))))))))))))))))))))))))))))))))))))))))))))))))))))))))))))))))))))))))))))))))))))))))))))))))))))))))))))))))))))))))))))))))))))))))))))))
set_option maxRecDepth 20000 in
theorem gX10_oneYear_X10_adding : GoodIn wsX10_oneYear (wsV RX10 324 RX10 yX10_adding wsX10_adding) := goodIn_app (goodIn_of _ (by decide +kernel)) ggX10_oneYear_X10_adding
set_option maxRecDepth 100000 in
theorem ggX10_oneYear_X10_changing : GoodIn wsX10_oneYear wsX10_changing := (gi_cons 174 rfl rfl (gi_cons 2 rfl rfl (gi_cons 3 rfl rfl (gi_cons 16 rfl rfl (gi_cons 17 rfl rfl (gi_cons 18 rfl rfl (gi_cons 14 rfl rfl (gi_cons 19 rfl rfl (gi_cons 20 rfl rfl (gi_cons 21 rfl rfl (gi_cons 22 rfl rfl (gi_cons 23 rfl rfl (gi_cons 24 rfl rfl (gi_cons 25 rfl rfl (gi_cons 26 rfl rfl (gi_cons 27 rfl rfl (gi_cons 28 rfl rfl (gi_cons 29 rfl rfl (gi_cons 30 rfl rfl (gi_cons 31 rfl rfl (gi_cons 32 rfl rfl (gi_cons 33 rfl rfl (gi_cons 34 rfl rfl (gi_cons 35 rfl rfl (gi_cons 36 rfl rfl (gi_cons 37 rfl rfl (gi_cons 38 rfl rfl (gi_cons 39 rfl rfl (gi_cons 40 rfl rfl (gi_cons 41 rfl rfl (gi_cons 42 rfl rfl (gi_cons 43 rfl rfl (gi_cons 44 rfl rfl (gi_cons 45 rfl rfl (gi_cons 46 rfl rfl (gi_cons 47 rfl rfl (gi_cons 48 rfl rfl (gi_cons 49 rfl rfl (gi_cons 50 rfl rfl (gi_cons 51 rfl rfl (gi_cons 52 rfl rfl (gi_cons 53 rfl rfl (gi_cons 54 rfl rfl (gi_cons 55 rfl rfl (gi_cons 56 rfl rfl (gi_cons 57 rfl rfl (gi_cons 58 rfl rfl (gi_cons 59 rfl rfl (gi_cons 60 rfl rfl (gi_cons 61 rfl rfl (gi_cons 62 rfl rfl (gi_cons 63 rfl rfl (gi_cons 64 rfl rfl (gi_cons 65 rfl rfl (gi_cons 66 rfl rfl (gi_cons 67 rfl rfl (gi_cons 68 rfl rfl (gi_cons 69 rfl rfl (gi_cons 70 rfl rfl (gi_cons 71 rfl rfl (gi_cons 72 rfl rfl (gi_cons 73 rfl rfl (gi_cons 74 rfl rfl (gi_cons 75 rfl rfl (gi_cons 76 rfl rfl (gi_cons 77 rfl rfl (gi_cons 78 rfl rfl (gi_cons 79 rfl rfl (gi_cons 80 rfl rfl (gi_cons 81 rfl rfl (gi_cons 82 rfl rfl (gi_cons 83 rfl rfl (gi_cons 84 rfl rfl (gi_cons 85 rfl rfl (gi_cons 86 rfl rfl (gi_cons 87 rfl rfl (gi_cons 88 rfl rfl (gi_cons 89 rfl rfl (gi_cons 90 rfl rfl (gi_cons 91 rfl rfl (gi_cons 92 rfl rfl (gi_cons 93 rfl rfl (gi_cons 94 rfl rfl (gi_cons 95 rfl rfl (gi_cons 96 rfl rfl (gi_cons 97 rfl rfl (gi_cons 98 rfl rfl (gi_cons 99 rfl rfl (gi_cons 100 rfl rfl (gi_cons 175 rfl rfl (gi_cons 176 rfl rfl (gi_cons 177 rfl rfl (gi_cons 104 rfl rfl (gi_cons 178 rfl rfl (gi_cons 106 rfl rfl (gi_cons 107 rfl rfl (gi_cons 116 rfl rfl (gi_cons 117 rfl rfl (gi_cons 118 rfl rfl (gi_cons 120 rfl rfl (gi_cons 121 rfl rfl (gi_cons 122 rfl rfl (gi_cons 123 rfl rfl (gi_cons 124 rfl rfl (gi_cons 125 rfl rfl (gi_cons 126 rfl rfl (gi_cons 127 rfl rfl (gi_cons 179 rfl rfl (gi_cons 180 rfl rfl (gi_cons 181 rfl rfl (gi_cons 182 rfl rfl (gi_cons 183 rfl rfl (gi_cons 184 rfl rfl (gi_cons 185 rfl rfl (gi_cons 186 rfl rfl (gi_cons 187 rfl rfl (gi_cons 188 rfl rfl (gi_cons 189 rfl rfl (gi_cons 190 rfl rfl (gi_cons 191 rfl rfl (gi_cons 133 rfl rfl (gi_cons 134 rfl rfl (gi_cons 135 rfl rfl (gi_cons 136 rfl rfl (gi_cons 137 rfl rfl (gi_cons 138 rfl rfl (gi_cons 139 rfl rfl (gi_cons 140 rfl rfl (gi_cons 141 rfl rfl (gi_cons 142 rfl rfl (gi_cons 143 rfl rfl (gi_cons 144 rfl rfl (gi_cons 145 rfl rfl (gi_cons 146 rfl rfl (gi_cons 147 rfl rfl (gi_cons 148 rfl rfl (gi_cons 149 rfl rfl (gi_cons 150 rfl rfl (gi_cons 151 rfl rfl (gi_cons 152 rfl rfl (gi_cons 153 rfl rfl (gi_cons 154 rfl rfl (gi_cons 155 rfl rfl (gi_cons 156 rfl rfl (gi_cons 157 rfl rfl (gi_cons 158 rfl rfl (gi_cons 159 rfl rfl (gi_cons 160 rfl rfl (gi_cons 161 rfl rfl (gi_cons 162 rfl rfl (gi_cons 163 rfl rfl (gi_cons 164 rfl rfl (gi_cons 165 rfl rfl (gi_cons 166 rfl rfl (gi_cons 167 rfl rfl (gi_cons 168 rfl rfl (gi_cons 169 rfl rfl (gi_cons 170 rfl rfl (gi_cons 192 rfl rfl (gi_cons 193 rfl rfl (gi_cons 194 rfl rfl (gi_cons 195 rfl rfl (gi_cons 112 rfl rfl (gi_cons 113 rfl rfl (gi_cons 114 rfl rfl (gi_cons 115 rfl rfl (gi_cons 119 rfl rfl (gi_cons 196 rfl rfl (gi_cons 197 rfl rfl (gi_cons 198 rfl rfl (gi_cons 199 rfl rfl (gi_cons 200 rfl rfl (gi_cons 201 rfl rfl (gi_cons 202 rfl rfl (gi_cons 203 rfl rfl (gi_cons 204 rfl rfl (gi_cons 205 rfl rfl (gi_cons 108 rfl rfl (gi_cons 109 rfl rfl (gi_cons 110 rfl rfl (gi_cons 206 rfl rfl (gi_cons 207 rfl rfl (gi_cons 208 rfl rfl (gi_cons 209 rfl rfl (gi_cons 210 rfl rfl (gi_cons 128 rfl rfl (gi_cons 211 rfl rfl (gi_cons 212 rfl rfl (gi_cons 213 rfl rfl (gi_cons 214 rfl rfl (gi_cons 215 rfl rfl (gi_cons 216 rfl rfl (gi_cons 217 rfl rfl (gi_cons 218 rfl rfl (gi_cons 219 rfl rfl (gi_cons 220 rfl rfl (gi_cons 221 rfl rfl (gi_cons 222 rfl rfl (gi_cons 223 rfl rfl (gi_cons 224 rfl rfl (gi_cons 225 rfl rfl (gi_cons 226 rfl rfl (gi_cons 227 rfl rfl (gi_cons 228 rfl rfl (gi_cons 229 rfl rfl (gi_cons 230 rfl rfl (gi_cons 231 rfl rfl (gi_cons 232 rfl rfl (gi_cons 233 rfl rfl (gi_cons 253 rfl rfl (gi_cons 254 rfl rfl (gi_cons 255 rfl rfl (gi_cons 256 rfl rfl (gi_cons 257 rfl rfl (gi_cons 258 rfl rfl (gi_cons 259 rfl rfl (gi_cons 260 rfl rfl (gi_cons 261 rfl rfl (gi_cons 262 rfl rfl (gi_cons 263 rfl rfl (gi_cons 264 rfl rfl (gi_cons 265 rfl rfl (gi_cons 266 rfl rfl (gi_cons 267 rfl rfl (gi_cons 268 rfl rfl (gi_cons 269 rfl rfl (gi_cons 270 rfl rfl (gi_cons 271 rfl rfl (gi_cons 272 rfl rfl (gi_cons 273 rfl rfl (gi_cons 274 rfl rfl (gi_cons 275 rfl rfl (gi_cons 276 rfl rfl (gi_cons 277 rfl rfl (gi_cons 284 rfl rfl (gi_cons 285 rfl rfl (gi_cons 286 rfl rfl (gi_cons 287 rfl rfl (gi_cons 288 rfl rfl (gi_cons 289 rfl rfl (gi_cons 290 rfl rfl (gi_cons 291 rfl rfl (gi_cons 292 rfl rfl (gi_cons 293 rfl rfl (gi_cons 294 rfl rfl (gi_cons 295 rfl rfl (gi_cons 296 rfl rfl (gi_cons 297 rfl rfl (gi_cons 278 rfl rfl (gi_cons 279 rfl rfl (gi_cons 280 rfl rfl (gi_cons 281 rfl rfl (gi_cons 282 rfl rfl (gi_cons 298 rfl rfl (gi_cons 299 rfl rfl (gi_cons 300 rfl rfl (gi_cons 301 rfl rfl gi_nil)))))))))))))))))))))))))))))))))))))))))))))))))))))))))))))))))))))))))))))))))))))))))))))))))))))))))))))))))))))))))))))))))))))))))))))))))))))))))))))))))))))))))))))))))))))))))))))))))))))))))))))))))))))))))))))))))))))))))))))))))))))))))))))))))
set_option maxRecDepth 20000 in
theorem gX10_oneYear_X10_changing : GoodIn wsX10_oneYear (wsV RX10 327 RX10 yX10_changing wsX10_changing) := goodIn_app (goodIn_of _ (by decide +kernel)) ggX10_oneYear_X10_changing
set_option maxRecDepth 100000 in
theorem ggX10_oneYear_X0_moveThing : GoodIn wsX10_oneYear wsX0_moveThing := (gi_cons 237 rfl rfl (gi_cons 107 rfl rfl (gi_cons 106 rfl rfl (gi_cons 238 rfl rfl (gi_cons 226 rfl rfl (gi_cons 227 rfl rfl (gi_cons 36 rfl rfl (gi_cons 228 rfl rfl (gi_cons 38 rfl rfl (gi_cons 39 rfl rfl (gi_cons 211 rfl rfl (gi_cons 52 rfl rfl (gi_cons 53 rfl rfl (gi_cons 54 rfl rfl (gi_cons 40 rfl rfl (gi_cons 239 rfl rfl (gi_cons 240 rfl rfl (gi_cons 241 rfl rfl (gi_cons 104 rfl rfl (gi_cons 242 rfl rfl (gi_cons 119 rfl rfl (gi_cons 68 rfl rfl (gi_cons 69 rfl rfl (gi_cons 70 rfl rfl (gi_cons 243 rfl rfl (gi_cons 14 rfl rfl (gi_cons 244 rfl rfl (gi_cons 245 rfl rfl (gi_cons 246 rfl rfl (gi_cons 34 rfl rfl (gi_cons 35 rfl rfl (gi_cons 37 rfl rfl (gi_cons 41 rfl rfl (gi_cons 120 rfl rfl (gi_cons 121 rfl rfl (gi_cons 122 rfl rfl (gi_cons 123 rfl rfl (gi_cons 124 rfl rfl (gi_cons 125 rfl rfl (gi_cons 126 rfl rfl (gi_cons 127 rfl rfl (gi_cons 100 rfl rfl (gi_cons 179 rfl rfl (gi_cons 180 rfl rfl (gi_cons 181 rfl rfl (gi_cons 182 rfl rfl (gi_cons 183 rfl rfl (gi_cons 184 rfl rfl (gi_cons 185 rfl rfl (gi_cons 186 rfl rfl (gi_cons 187 rfl rfl (gi_cons 188 rfl rfl (gi_cons 189 rfl rfl (gi_cons 190 rfl rfl (gi_cons 191 rfl rfl (gi_cons 247 rfl rfl (gi_cons 248 rfl rfl (gi_cons 249 rfl rfl (gi_cons 250 rfl rfl (gi_cons 251 rfl rfl (gi_cons 225 rfl rfl (gi_cons 229 rfl rfl (gi_cons 48 rfl rfl (gi_cons 49 rfl rfl (gi_cons 50 rfl rfl (gi_cons 252 rfl rfl (gi_cons 222 rfl rfl (gi_cons 223 rfl rfl (gi_cons 224 rfl rfl (gi_cons 133 rfl rfl (gi_cons 134 rfl rfl (gi_cons 135 rfl rfl (gi_cons 136 rfl rfl (gi_cons 137 rfl rfl (gi_cons 138 rfl rfl (gi_cons 139 rfl rfl (gi_cons 140 rfl rfl (gi_cons 141 rfl rfl (gi_cons 80 rfl rfl (gi_cons 81 rfl rfl (gi_cons 82 rfl rfl (gi_cons 142 rfl rfl (gi_cons 143 rfl rfl (gi_cons 144 rfl rfl (gi_cons 145 rfl rfl (gi_cons 146 rfl rfl (gi_cons 147 rfl rfl (gi_cons 148 rfl rfl (gi_cons 149 rfl rfl (gi_cons 150 rfl rfl (gi_cons 151 rfl rfl (gi_cons 152 rfl rfl (gi_cons 153 rfl rfl (gi_cons 154 rfl rfl (gi_cons 155 rfl rfl (gi_cons 156 rfl rfl (gi_cons 157 rfl rfl (gi_cons 158 rfl rfl (gi_cons 159 rfl rfl (gi_cons 160 rfl rfl (gi_cons 161 rfl rfl (gi_cons 162 rfl rfl (gi_cons 163 rfl rfl (gi_cons 298 rfl rfl (gi_cons 299 rfl rfl (gi_cons 300 rfl rfl (gi_cons 301 rfl rfl (gi_cons 271 rfl rfl (gi_cons 272 rfl rfl (gi_cons 273 rfl rfl (gi_cons 274 rfl rfl (gi_cons 275 rfl rfl (gi_cons 276 rfl rfl (gi_cons 277 rfl rfl (gi_cons 278 rfl rfl (gi_cons 279 rfl rfl (gi_cons 280 rfl rfl (gi_cons 281 rfl rfl (gi_cons 282 rfl rfl gi_nil)))))))))))))))))))))))))))))))))))))))))))))))))))))))))))))))))))))))))))))))))))))))))))))))))))))))))))))))))))))))
set_option maxRecDepth 20000 in
theorem gX10_oneYear_X0_moveThing : GoodIn wsX10_oneYear (wsV RX10 330 RX0 yX0_moveThing wsX0_moveThing) := goodIn_app (goodIn_of _ (by decide +kernel)) ggX10_oneYear_X0_moveThing
theorem dX10_oneYear_0 : decode cX10_oneYear 0 = .ok (.aload_n 0, 1) := by decide +kernel
theorem dX10_oneYear_1 : decode cX10_oneYear 1 = .ok (.getfield 103, 3) := by decide +kernel
theorem dX10_oneYear_4 : decode cX10_oneYear 4 = .ok (.iconst 5, 1) := by decide +kernel
theorem dX10_oneYear_5 : decode cX10_oneYear 5 = .ok (.invokevirtual 390, 3) := by decide +kernel
theorem dX10_oneYear_8 : decode cX10_oneYear 8 = .ok (.istore_n 1, 1) := by decide +kernel
theorem dX10_oneYear_9 : decode cX10_oneYear 9 = .ok (.iload_n 1, 1) := by decide +kernel
theorem dX10_oneYear_10 : decode cX10_oneYear 10 = .ok (.ifCond .ne 30, 3) := by decide +kernel
theorem dX10_oneYear_13 : decode cX10_oneYear 13 = .ok (.aload_n 0, 1) := by decide +kernel
theorem dX10_oneYear_14 : decode cX10_oneYear 14 = .ok (.getfield 103, 3) := by decide +kernel
theorem dX10_oneYear_17 : decode cX10_oneYear 17 = .ok (.iconst 4, 1) := by decide +kernel
theorem dX10_oneYear_18 : decode cX10_oneYear 18 = .ok (.invokevirtual 390, 3) := by decide +kernel
theorem dX10_oneYear_21 : decode cX10_oneYear 21 = .ok (.istore_n 2, 1) := by decide +kernel
theorem dX10_oneYear_22 : decode cX10_oneYear 22 = .ok (.aload_n 0, 1) := by decide +kernel
theorem dX10_oneYear_23 : decode cX10_oneYear 23 = .ok (.iload_n 2, 1) := by decide +kernel
theorem dX10_oneYear_24 : decode cX10_oneYear 24 = .ok (.aload_n 0, 1) := by decide +kernel
theorem dX10_oneYear_25 : decode cX10_oneYear 25 = .ok (.getfield 103, 3) := by decide +kernel
theorem dX10_oneYear_28 : decode cX10_oneYear 28 = .ok (.bipush 21, 2) := by decide +kernel
theorem dX10_oneYear_30 : decode cX10_oneYear 30 = .ok (.invokevirtual 390, 3) := by decide +kernel
theorem dX10_oneYear_33 : decode cX10_oneYear 33 = .ok (.bipush 10, 2) := by decide +kernel
theorem dX10_oneYear_35 : decode cX10_oneYear 35 = .ok (.isub, 1) := by decide +kernel
theorem dX10_oneYear_36 : decode cX10_oneYear 36 = .ok (.invokevirtual 324, 3) := by decide +kernel
theorem dX10_oneYear_39 : decode cX10_oneYear 39 = .ok (.ireturn, 1) := by decide +kernel
theorem dX10_oneYear_40 : decode cX10_oneYear 40 = .ok (.iload_n 1, 1) := by decide +kernel
theorem dX10_oneYear_41 : decode cX10_oneYear 41 = .ok (.iconst 4, 1) := by decide +kernel
theorem dX10_oneYear_42 : decode cX10_oneYear 42 = .ok (.if_icmp .ge 19, 3) := by decide +kernel
theorem dX10_oneYear_45 : decode cX10_oneYear 45 = .ok (.aload_n 0, 1) := by decide +kernel
theorem dX10_oneYear_46 : decode cX10_oneYear 46 = .ok (.aload_n 0, 1) := by decide +kernel
theorem dX10_oneYear_47 : decode cX10_oneYear 47 = .ok (.getfield 103, 3) := by decide +kernel
theorem dX10_oneYear_50 : decode cX10_oneYear 50 = .ok (.iconst 4, 1) := by decide +kernel
theorem dX10_oneYear_51 : decode cX10_oneYear 51 = .ok (.invokevirtual 390, 3) := by decide +kernel
theorem dX10_oneYear_54 : decode cX10_oneYear 54 = .ok (.iload_n 1, 1) := by decide +kernel
theorem dX10_oneYear_55 : decode cX10_oneYear 55 = .ok (.iconst 1, 1) := by decide +kernel
theorem dX10_oneYear_56 : decode cX10_oneYear 56 = .ok (.isub, 1) := by decide +kernel
theorem dX10_oneYear_57 : decode cX10_oneYear 57 = .ok (.invokevirtual 327, 3) := by decide +kernel
theorem dX10_oneYear_60 : decode cX10_oneYear 60 = .ok (.ireturn, 1) := by decide +kernel
theorem dX10_oneYear_61 : decode cX10_oneYear 61 = .ok (.aload_n 0, 1) := by decide +kernel
theorem dX10_oneYear_62 : decode cX10_oneYear 62 = .ok (.getfield 103, 3) := by decide +kernel
theorem dX10_oneYear_65 : decode cX10_oneYear 65 = .ok (.aload_n 0, 1) := by decide +kernel
theorem dX10_oneYear_66 : decode cX10_oneYear 66 = .ok (.getfield 63, 3) := by decide +kernel
theorem dX10_oneYear_69 : decode cX10_oneYear 69 = .ok (.getfield 107, 3) := by decide +kernel
theorem dX10_oneYear_72 : decode cX10_oneYear 72 = .ok (.getfield 161, 3) := by decide +kernel
theorem dX10_oneYear_75 : decode cX10_oneYear 75 = .ok (.invokevirtual 390, 3) := by decide +kernel
theorem dX10_oneYear_78 : decode cX10_oneYear 78 = .ok (.istore_n 2, 1) := by decide +kernel
theorem dX10_oneYear_79 : decode cX10_oneYear 79 = .ok (.aload_n 0, 1) := by decide +kernel
theorem dX10_oneYear_80 : decode cX10_oneYear 80 = .ok (.getfield 75, 3) := by decide +kernel
theorem dX10_oneYear_83 : decode cX10_oneYear 83 = .ok (.iload_n 2, 1) := by decide +kernel
theorem dX10_oneYear_84 : decode cX10_oneYear 84 = .ok (.aload_n 0, 1) := by decide +kernel
theorem dX10_oneYear_85 : decode cX10_oneYear 85 = .ok (.getfield 103, 3) := by decide +kernel
theorem dX10_oneYear_88 : decode cX10_oneYear 88 = .ok (.aload_n 0, 1) := by decide +kernel
theorem dX10_oneYear_89 : decode cX10_oneYear 89 = .ok (.getfield 63, 3) := by decide +kernel
theorem dX10_oneYear_92 : decode cX10_oneYear 92 = .ok (.getfield 107, 3) := by decide +kernel
theorem dX10_oneYear_95 : decode cX10_oneYear 95 = .ok (.getfield 161, 3) := by decide +kernel
theorem dX10_oneYear_98 : decode cX10_oneYear 98 = .ok (.invokevirtual 390, 3) := by decide +kernel
theorem dX10_oneYear_101 : decode cX10_oneYear 101 = .ok (.iconst 0, 1) := by decide +kernel
theorem dX10_oneYear_102 : decode cX10_oneYear 102 = .ok (.invokevirtual 330, 3) := by decide +kernel
theorem dX10_oneYear_105 : decode cX10_oneYear 105 = .ok (.ireturn, 1) := by decide +kernel
