set_option maxRecDepth 100000 in
theorem ggX0_ofKind_X10_isIn : GoodIn wsX0_ofKind wsX10_isIn := (gi_cons 4 rfl rfl (gi_cons 5 rfl rfl (gi_cons 6 rfl rfl (gi_cons 3 rfl rfl (gi_cons 7 rfl rfl gi_nil)))))
set_option maxRecDepth 20000 in
theorem gX0_ofKind_X10_isIn_n51 : GoodIn wsX0_ofKind (wsX10_isIn) := ggX0_ofKind_X10_isIn
set_option maxRecDepth 100000 in
theorem ggX0_ofKind_X9_kindAt : GoodIn wsX0_ofKind wsX9_kindAt := (gi_cons 12 rfl rfl (gi_cons 13 rfl rfl (gi_cons 14 rfl rfl (gi_cons 26 rfl rfl (gi_cons 27 rfl rfl (gi_cons 28 rfl rfl (gi_cons 29 rfl rfl (gi_cons 30 rfl rfl gi_nil))))))))
set_option maxRecDepth 20000 in
theorem gX0_ofKind_X9_kindAt : GoodIn wsX0_ofKind (wsV RX0 55 RX9 yX9_kindAt wsX9_kindAt) := goodIn_app (goodIn_of _ (by decide +kernel)) ggX0_ofKind_X9_kindAt
set_option maxRecDepth 100000 in
theorem ggX0_ofKind_X10_bit : GoodIn wsX0_ofKind wsX10_bit := (gi_cons 7 rfl rfl gi_nil)
set_option maxRecDepth 20000 in
theorem gX0_ofKind_X10_bit_n59 : GoodIn wsX0_ofKind (wsX10_bit) := ggX0_ofKind_X10_bit
theorem dX0_ofKind_0 : decode cX0_ofKind 0 = .ok (.lconst 0, 1) := by decide +kernel
theorem dX0_ofKind_1 : decode cX0_ofKind 1 = .ok (.lstore 4, 2) := by decide +kernel
theorem dX0_ofKind_3 : decode cX0_ofKind 3 = .ok (.iconst 0, 1) := by decide +kernel
theorem dX0_ofKind_4 : decode cX0_ofKind 4 = .ok (.istore 6, 2) := by decide +kernel
theorem dX0_ofKind_6 : decode cX0_ofKind 6 = .ok (.iload 6, 2) := by decide +kernel
theorem dX0_ofKind_8 : decode cX0_ofKind 8 = .ok (.aload_n 0, 1) := by decide +kernel
theorem dX0_ofKind_9 : decode cX0_ofKind 9 = .ok (.getfield 27, 3) := by decide +kernel
theorem dX0_ofKind_12 : decode cX0_ofKind 12 = .ok (.getfield 44, 3) := by decide +kernel
theorem dX0_ofKind_15 : decode cX0_ofKind 15 = .ok (.getfield 31, 3) := by decide +kernel
theorem dX0_ofKind_18 : decode cX0_ofKind 18 = .ok (.if_icmp .ge 44, 3) := by decide +kernel
theorem dX0_ofKind_21 : decode cX0_ofKind 21 = .ok (.lload_n 1, 1) := by decide +kernel
theorem dX0_ofKind_22 : decode cX0_ofKind 22 = .ok (.iload 6, 2) := by decide +kernel
theorem dX0_ofKind_24 : decode cX0_ofKind 24 = .ok (.invokestatic 51, 3) := by decide +kernel
theorem dX0_ofKind_27 : decode cX0_ofKind 27 = .ok (.ifCond .eq 29, 3) := by decide +kernel
theorem dX0_ofKind_30 : decode cX0_ofKind 30 = .ok (.aload_n 0, 1) := by decide +kernel
theorem dX0_ofKind_31 : decode cX0_ofKind 31 = .ok (.getfield 27, 3) := by decide +kernel
theorem dX0_ofKind_34 : decode cX0_ofKind 34 = .ok (.getfield 44, 3) := by decide +kernel
theorem dX0_ofKind_37 : decode cX0_ofKind 37 = .ok (.iload 6, 2) := by decide +kernel
theorem dX0_ofKind_39 : decode cX0_ofKind 39 = .ok (.invokevirtual 55, 3) := by decide +kernel
theorem dX0_ofKind_42 : decode cX0_ofKind 42 = .ok (.iload_n 3, 1) := by decide +kernel
theorem dX0_ofKind_43 : decode cX0_ofKind 43 = .ok (.if_icmp .ne 13, 3) := by decide +kernel
theorem dX0_ofKind_46 : decode cX0_ofKind 46 = .ok (.lload 4, 2) := by decide +kernel
theorem dX0_ofKind_48 : decode cX0_ofKind 48 = .ok (.iload 6, 2) := by decide +kernel
theorem dX0_ofKind_50 : decode cX0_ofKind 50 = .ok (.invokestatic 59, 3) := by decide +kernel
theorem dX0_ofKind_53 : decode cX0_ofKind 53 = .ok (.lor, 1) := by decide +kernel
theorem dX0_ofKind_54 : decode cX0_ofKind 54 = .ok (.lstore 4, 2) := by decide +kernel
theorem dX0_ofKind_56 : decode cX0_ofKind 56 = .ok (.iinc 6 1, 3) := by decide +kernel
theorem dX0_ofKind_59 : decode cX0_ofKind 59 = .ok (.goto (-53), 3) := by decide +kernel
theorem dX0_ofKind_62 : decode cX0_ofKind 62 = .ok (.lload 4, 2) := by decide +kernel
theorem dX0_ofKind_64 : decode cX0_ofKind 64 = .ok (.lreturn, 1) := by decide +kernel
set_option maxRecDepth 100000 in
theorem ggX0_tooManyCopies_J13_bitCount_95d88 : GoodIn wsX0_tooManyCopies wsJ13_bitCount_95d88 := (gi_cons 4 rfl rfl (gi_cons 5 rfl rfl (gi_cons 6 rfl rfl (gi_cons 7 rfl rfl gi_nil))))
set_option maxRecDepth 20000 in
theorem gX0_tooManyCopies_J13_bitCount_95d88 : GoodIn wsX0_tooManyCopies (va_wsS RX0 63 yJ13_bitCount_95d88 wsJ13_bitCount_95d88) := goodIn_app (goodIn_of _ (by decide +kernel)) ggX0_tooManyCopies_J13_bitCount_95d88
theorem dX0_tooManyCopies_0 : decode cX0_tooManyCopies 0 = .ok (.lload_n 0, 1) := by decide +kernel
theorem dX0_tooManyCopies_1 : decode cX0_tooManyCopies 1 = .ok (.invokestatic 63, 3) := by decide +kernel
theorem dX0_tooManyCopies_4 : decode cX0_tooManyCopies 4 = .ok (.aload_n 2, 1) := by decide +kernel
theorem dX0_tooManyCopies_5 : decode cX0_tooManyCopies 5 = .ok (.getfield 31, 3) := by decide +kernel
theorem dX0_tooManyCopies_8 : decode cX0_tooManyCopies 8 = .ok (.imul, 1) := by decide +kernel
theorem dX0_tooManyCopies_9 : decode cX0_tooManyCopies 9 = .ok (.bipush 60, 2) := by decide +kernel
theorem dX0_tooManyCopies_11 : decode cX0_tooManyCopies 11 = .ok (.if_icmp .le 7, 3) := by decide +kernel
theorem dX0_tooManyCopies_14 : decode cX0_tooManyCopies 14 = .ok (.iconst 1, 1) := by decide +kernel
theorem dX0_tooManyCopies_15 : decode cX0_tooManyCopies 15 = .ok (.goto 4, 3) := by decide +kernel
theorem dX0_tooManyCopies_18 : decode cX0_tooManyCopies 18 = .ok (.iconst 0, 1) := by decide +kernel
theorem dX0_tooManyCopies_19 : decode cX0_tooManyCopies 19 = .ok (.ireturn, 1) := by decide +kernel
set_option maxRecDepth 100000 in
theorem ggX0_outermost_X10_isIn : GoodIn wsX0_outermost wsX10_isIn := (gi_cons 4 rfl rfl (gi_cons 5 rfl rfl (gi_cons 6 rfl rfl (gi_cons 3 rfl rfl (gi_cons 7 rfl rfl gi_nil)))))
set_option maxRecDepth 20000 in
theorem gX0_outermost_X10_isIn_n51 : GoodIn wsX0_outermost (wsX10_isIn) := ggX0_outermost_X10_isIn
set_option maxRecDepth 100000 in
theorem ggX0_outermost_X10_bit : GoodIn wsX0_outermost wsX10_bit := (gi_cons 7 rfl rfl gi_nil)
set_option maxRecDepth 20000 in
theorem gX0_outermost_X10_bit_n59 : GoodIn wsX0_outermost (wsX10_bit) := ggX0_outermost_X10_bit
set_option maxRecDepth 100000 in
theorem ggX0_outermost_X9_end : GoodIn wsX0_outermost wsX9_end := (gi_cons 12 rfl rfl (gi_cons 13 rfl rfl (gi_cons 14 rfl rfl (gi_cons 26 rfl rfl (gi_cons 27 rfl rfl (gi_cons 28 rfl rfl (gi_cons 29 rfl rfl (gi_cons 30 rfl rfl gi_nil))))))))
set_option maxRecDepth 20000 in
theorem gX0_outermost_X9_end : GoodIn wsX0_outermost (wsV RX0 85 RX9 yX9_end wsX9_end) := goodIn_app (goodIn_of _ (by decide +kernel)) ggX0_outermost_X9_end
theorem dX0_outermost_0 : decode cX0_outermost 0 = .ok (.lconst 0, 1) := by decide +kernel
theorem dX0_outermost_1 : decode cX0_outermost 1 = .ok (.lstore_n 3, 1) := by decide +kernel
theorem dX0_outermost_2 : decode cX0_outermost 2 = .ok (.iconst (-1), 1) := by decide +kernel
theorem dX0_outermost_3 : decode cX0_outermost 3 = .ok (.istore 5, 2) := by decide +kernel
theorem dX0_outermost_5 : decode cX0_outermost 5 = .ok (.iconst 0, 1) := by decide +kernel
theorem dX0_outermost_6 : decode cX0_outermost 6 = .ok (.istore 6, 2) := by decide +kernel
theorem dX0_outermost_8 : decode cX0_outermost 8 = .ok (.iload 6, 2) := by decide +kernel
theorem dX0_outermost_10 : decode cX0_outermost 10 = .ok (.aload_n 0, 1) := by decide +kernel
theorem dX0_outermost_11 : decode cX0_outermost 11 = .ok (.getfield 27, 3) := by decide +kernel
theorem dX0_outermost_14 : decode cX0_outermost 14 = .ok (.getfield 44, 3) := by decide +kernel
theorem dX0_outermost_17 : decode cX0_outermost 17 = .ok (.getfield 31, 3) := by decide +kernel
theorem dX0_outermost_20 : decode cX0_outermost 20 = .ok (.if_icmp .ge 47, 3) := by decide +kernel
theorem dX0_outermost_23 : decode cX0_outermost 23 = .ok (.iload 6, 2) := by decide +kernel
theorem dX0_outermost_25 : decode cX0_outermost 25 = .ok (.iload 5, 2) := by decide +kernel
theorem dX0_outermost_27 : decode cX0_outermost 27 = .ok (.if_icmp .le 34, 3) := by decide +kernel
theorem dX0_outermost_30 : decode cX0_outermost 30 = .ok (.lload_n 1, 1) := by decide +kernel
theorem dX0_outermost_31 : decode cX0_outermost 31 = .ok (.iload 6, 2) := by decide +kernel
theorem dX0_outermost_33 : decode cX0_outermost 33 = .ok (.invokestatic 51, 3) := by decide +kernel
theorem dX0_outermost_36 : decode cX0_outermost 36 = .ok (.ifCond .eq 25, 3) := by decide +kernel
theorem dX0_outermost_39 : decode cX0_outermost 39 = .ok (.lload_n 3, 1) := by decide +kernel
theorem dX0_outermost_40 : decode cX0_outermost 40 = .ok (.iload 6, 2) := by decide +kernel
theorem dX0_outermost_42 : decode cX0_outermost 42 = .ok (.invokestatic 59, 3) := by decide +kernel
theorem dX0_outermost_45 : decode cX0_outermost 45 = .ok (.lor, 1) := by decide +kernel
theorem dX0_outermost_46 : decode cX0_outermost 46 = .ok (.lstore_n 3, 1) := by decide +kernel
theorem dX0_outermost_47 : decode cX0_outermost 47 = .ok (.aload_n 0, 1) := by decide +kernel
theorem dX0_outermost_48 : decode cX0_outermost 48 = .ok (.getfield 27, 3) := by decide +kernel
theorem dX0_outermost_51 : decode cX0_outermost 51 = .ok (.getfield 44, 3) := by decide +kernel
theorem dX0_outermost_54 : decode cX0_outermost 54 = .ok (.iload 6, 2) := by decide +kernel
theorem dX0_outermost_56 : decode cX0_outermost 56 = .ok (.invokevirtual 85, 3) := by decide +kernel
theorem dX0_outermost_59 : decode cX0_outermost 59 = .ok (.istore 5, 2) := by decide +kernel
theorem dX0_outermost_61 : decode cX0_outermost 61 = .ok (.iinc 6 1, 3) := by decide +kernel
theorem dX0_outermost_64 : decode cX0_outermost 64 = .ok (.goto (-56), 3) := by decide +kernel
theorem dX0_outermost_67 : decode cX0_outermost 67 = .ok (.lload_n 3, 1) := by decide +kernel
theorem dX0_outermost_68 : decode cX0_outermost 68 = .ok (.lreturn, 1) := by decide +kernel
set_option maxRecDepth 100000 in
theorem ggX0_replacedByKey_X10_isIn : GoodIn wsX0_replacedByKey wsX10_isIn := (gi_cons 8 rfl rfl (gi_cons 9 rfl rfl (gi_cons 10 rfl rfl (gi_cons 7 rfl rfl (gi_cons 11 rfl rfl gi_nil)))))
set_option maxRecDepth 20000 in
theorem gX0_replacedByKey_X10_isIn_n51 : GoodIn wsX0_replacedByKey (wsX10_isIn) := ggX0_replacedByKey_X10_isIn
set_option maxRecDepth 100000 in
theorem ggX0_replacedByKey_X9_childBy : GoodIn wsX0_replacedByKey wsX9_childBy := (gi_cons 16 rfl rfl (gi_cons 17 rfl rfl (gi_cons 18 rfl rfl (gi_cons 19 rfl rfl (gi_cons 20 rfl rfl (gi_cons 36 rfl rfl (gi_cons 37 rfl rfl (gi_cons 38 rfl rfl (gi_cons 39 rfl rfl (gi_cons 40 rfl rfl gi_nil))))))))))
set_option maxRecDepth 20000 in
theorem gX0_replacedByKey_X9_childBy : GoodIn wsX0_replacedByKey (wsV RX0 105 RX9 yX9_childBy wsX9_childBy) := goodIn_app (goodIn_of _ (by decide +kernel)) ggX0_replacedByKey_X9_childBy
set_option maxRecDepth 100000 in
theorem ggX0_replacedByKey_X9_end : GoodIn wsX0_replacedByKey wsX9_end := (gi_cons 24 rfl rfl (gi_cons 17 rfl rfl (gi_cons 19 rfl rfl (gi_cons 36 rfl rfl (gi_cons 37 rfl rfl (gi_cons 38 rfl rfl (gi_cons 39 rfl rfl (gi_cons 40 rfl rfl gi_nil))))))))
set_option maxRecDepth 20000 in
theorem gX0_replacedByKey_X9_end : GoodIn wsX0_replacedByKey (wsV RX0 85 RX9 yX9_end wsX9_end) := goodIn_app (goodIn_of _ (by decide +kernel)) ggX0_replacedByKey_X9_end
set_option maxRecDepth 100000 in
theorem ggX0_replacedByKey_X10_bit : GoodIn wsX0_replacedByKey wsX10_bit := (gi_cons 11 rfl rfl gi_nil)
set_option maxRecDepth 20000 in
theorem gX0_replacedByKey_X10_bit_n59 : GoodIn wsX0_replacedByKey (wsX10_bit) := ggX0_replacedByKey_X10_bit
theorem dX0_replacedByKey_0 : decode cX0_replacedByKey 0 = .ok (.lconst 0, 1) := by decide +kernel
theorem dX0_replacedByKey_1 : decode cX0_replacedByKey 1 = .ok (.lstore 4, 2) := by decide +kernel
theorem dX0_replacedByKey_3 : decode cX0_replacedByKey 3 = .ok (.iconst 0, 1) := by decide +kernel
theorem dX0_replacedByKey_4 : decode cX0_replacedByKey 4 = .ok (.istore 6, 2) := by decide +kernel
theorem dX0_replacedByKey_6 : decode cX0_replacedByKey 6 = .ok (.iload 6, 2) := by decide +kernel
theorem dX0_replacedByKey_8 : decode cX0_replacedByKey 8 = .ok (.aload_n 0, 1) := by decide +kernel
theorem dX0_replacedByKey_9 : decode cX0_replacedByKey 9 = .ok (.getfield 27, 3) := by decide +kernel
theorem dX0_replacedByKey_12 : decode cX0_replacedByKey 12 = .ok (.getfield 44, 3) := by decide +kernel
theorem dX0_replacedByKey_15 : decode cX0_replacedByKey 15 = .ok (.getfield 31, 3) := by decide +kernel
theorem dX0_replacedByKey_18 : decode cX0_replacedByKey 18 = .ok (.if_icmp .ge 82, 3) := by decide +kernel
theorem dX0_replacedByKey_21 : decode cX0_replacedByKey 21 = .ok (.lload_n 1, 1) := by decide +kernel
theorem dX0_replacedByKey_22 : decode cX0_replacedByKey 22 = .ok (.iload 6, 2) := by decide +kernel
theorem dX0_replacedByKey_24 : decode cX0_replacedByKey 24 = .ok (.invokestatic 51, 3) := by decide +kernel
theorem dX0_replacedByKey_27 : decode cX0_replacedByKey 27 = .ok (.ifCond .eq 19, 3) := by decide +kernel
theorem dX0_replacedByKey_30 : decode cX0_replacedByKey 30 = .ok (.aload_n 0, 1) := by decide +kernel
theorem dX0_replacedByKey_31 : decode cX0_replacedByKey 31 = .ok (.getfield 27, 3) := by decide +kernel
theorem dX0_replacedByKey_34 : decode cX0_replacedByKey 34 = .ok (.getfield 44, 3) := by decide +kernel
theorem dX0_replacedByKey_37 : decode cX0_replacedByKey 37 = .ok (.iload 6, 2) := by decide +kernel
theorem dX0_replacedByKey_39 : decode cX0_replacedByKey 39 = .ok (.iload_n 3, 1) := by decide +kernel
theorem dX0_replacedByKey_40 : decode cX0_replacedByKey 40 = .ok (.invokevirtual 105, 3) := by decide +kernel
theorem dX0_replacedByKey_43 : decode cX0_replacedByKey 43 = .ok (.goto 4, 3) := by decide +kernel
theorem dX0_replacedByKey_46 : decode cX0_replacedByKey 46 = .ok (.iconst (-1), 1) := by decide +kernel
theorem dX0_replacedByKey_47 : decode cX0_replacedByKey 47 = .ok (.istore 7, 2) := by decide +kernel
theorem dX0_replacedByKey_49 : decode cX0_replacedByKey 49 = .ok (.aload_n 0, 1) := by decide +kernel
theorem dX0_replacedByKey_50 : decode cX0_replacedByKey 50 = .ok (.getfield 27, 3) := by decide +kernel
theorem dX0_replacedByKey_53 : decode cX0_replacedByKey 53 = .ok (.getfield 44, 3) := by decide +kernel
theorem dX0_replacedByKey_56 : decode cX0_replacedByKey 56 = .ok (.iload 7, 2) := by decide +kernel
theorem dX0_replacedByKey_58 : decode cX0_replacedByKey 58 = .ok (.invokevirtual 85, 3) := by decide +kernel
theorem dX0_replacedByKey_61 : decode cX0_replacedByKey 61 = .ok (.istore 8, 2) := by decide +kernel
theorem dX0_replacedByKey_63 : decode cX0_replacedByKey 63 = .ok (.iconst 0, 1) := by decide +kernel
theorem dX0_replacedByKey_64 : decode cX0_replacedByKey 64 = .ok (.iload 7, 2) := by decide +kernel
theorem dX0_replacedByKey_66 : decode cX0_replacedByKey 66 = .ok (.invokestatic 109, 3) := by decide +kernel
theorem dX0_replacedByKey_69 : decode cX0_replacedByKey 69 = .ok (.istore 9, 2) := by decide +kernel
theorem dX0_replacedByKey_71 : decode cX0_replacedByKey 71 = .ok (.iload 9, 2) := by decide +kernel
theorem dX0_replacedByKey_73 : decode cX0_replacedByKey 73 = .ok (.iload 8, 2) := by decide +kernel
theorem dX0_replacedByKey_75 : decode cX0_replacedByKey 75 = .ok (.if_icmp .gt 19, 3) := by decide +kernel
theorem dX0_replacedByKey_78 : decode cX0_replacedByKey 78 = .ok (.lload 4, 2) := by decide +kernel
theorem dX0_replacedByKey_80 : decode cX0_replacedByKey 80 = .ok (.iload 9, 2) := by decide +kernel
theorem dX0_replacedByKey_82 : decode cX0_replacedByKey 82 = .ok (.invokestatic 59, 3) := by decide +kernel
theorem dX0_replacedByKey_85 : decode cX0_replacedByKey 85 = .ok (.lor, 1) := by decide +kernel
theorem dX0_replacedByKey_86 : decode cX0_replacedByKey 86 = .ok (.lstore 4, 2) := by decide +kernel
theorem dX0_replacedByKey_88 : decode cX0_replacedByKey 88 = .ok (.iinc 9 1, 3) := by decide +kernel
theorem dX0_replacedByKey_91 : decode cX0_replacedByKey 91 = .ok (.goto (-20), 3) := by decide +kernel
theorem dX0_replacedByKey_94 : decode cX0_replacedByKey 94 = .ok (.iinc 6 1, 3) := by decide +kernel
theorem dX0_replacedByKey_97 : decode cX0_replacedByKey 97 = .ok (.goto (-91), 3) := by decide +kernel
theorem dX0_replacedByKey_100 : decode cX0_replacedByKey 100 = .ok (.lload 4, 2) := by decide +kernel
theorem dX0_replacedByKey_102 : decode cX0_replacedByKey 102 = .ok (.lreturn, 1) := by decide +kernel
set_option maxRecDepth 100000 in
theorem ggX0_setByKey_X9_childBy : GoodIn wsX0_setByKey wsX9_childBy := (gi_cons 6 rfl rfl (gi_cons 7 rfl rfl (gi_cons 8 rfl rfl (gi_cons 9 rfl rfl (gi_cons 10 rfl rfl (gi_cons 60 rfl rfl (gi_cons 61 rfl rfl (gi_cons 62 rfl rfl (gi_cons 63 rfl rfl (gi_cons 64 rfl rfl gi_nil))))))))))
set_option maxRecDepth 20000 in
theorem gX0_setByKey_X9_childBy : GoodIn wsX0_setByKey (wsV RX0 105 RX9 yX9_childBy wsX9_childBy) := goodIn_app (goodIn_of _ (by decide +kernel)) ggX0_setByKey_X9_childBy
set_option maxRecDepth 100000 in
theorem ggX0_setByKey_X9_graftBehindAll : GoodIn wsX0_setByKey wsX9_graftBehindAll := (gi_cons 14 rfl rfl (gi_cons 15 rfl rfl (gi_cons 16 rfl rfl (gi_cons 17 rfl rfl (gi_cons 5 rfl rfl (gi_cons 18 rfl rfl (gi_cons 7 rfl rfl (gi_cons 8 rfl rfl (gi_cons 19 rfl rfl (gi_cons 20 rfl rfl (gi_cons 21 rfl rfl (gi_cons 22 rfl rfl (gi_cons 9 rfl rfl (gi_cons 23 rfl rfl (gi_cons 24 rfl rfl (gi_cons 25 rfl rfl (gi_cons 26 rfl rfl (gi_cons 27 rfl rfl (gi_cons 28 rfl rfl (gi_cons 29 rfl rfl (gi_cons 30 rfl rfl (gi_cons 10 rfl rfl (gi_cons 31 rfl rfl (gi_cons 32 rfl rfl (gi_cons 33 rfl rfl (gi_cons 34 rfl rfl (gi_cons 35 rfl rfl (gi_cons 36 rfl rfl (gi_cons 37 rfl rfl (gi_cons 38 rfl rfl (gi_cons 39 rfl rfl (gi_cons 60 rfl rfl (gi_cons 61 rfl rfl (gi_cons 62 rfl rfl (gi_cons 63 rfl rfl (gi_cons 64 rfl rfl gi_nil))))))))))))))))))))))))))))))))))))
set_option maxRecDepth 20000 in
theorem gX0_setByKey_X9_graftBehindAll : GoodIn wsX0_setByKey (wsV RX0 92 RX9 yX9_graftBehindAll wsX9_graftBehindAll) := goodIn_app (goodIn_of _ (by decide +kernel)) ggX0_setByKey_X9_graftBehindAll
set_option maxRecDepth 100000 in
theorem ggX0_setByKey_X9_replace : GoodIn wsX0_setByKey wsX9_replace := (gi_cons 43 rfl rfl (gi_cons 23 rfl rfl (gi_cons 24 rfl rfl (gi_cons 25 rfl rfl (gi_cons 5 rfl rfl (gi_cons 26 rfl rfl (gi_cons 7 rfl rfl (gi_cons 9 rfl rfl (gi_cons 44 rfl rfl (gi_cons 45 rfl rfl (gi_cons 46 rfl rfl (gi_cons 47 rfl rfl (gi_cons 10 rfl rfl (gi_cons 48 rfl rfl (gi_cons 49 rfl rfl (gi_cons 50 rfl rfl (gi_cons 51 rfl rfl (gi_cons 52 rfl rfl (gi_cons 53 rfl rfl (gi_cons 54 rfl rfl (gi_cons 55 rfl rfl (gi_cons 19 rfl rfl (gi_cons 20 rfl rfl (gi_cons 21 rfl rfl (gi_cons 22 rfl rfl (gi_cons 31 rfl rfl (gi_cons 32 rfl rfl (gi_cons 33 rfl rfl (gi_cons 34 rfl rfl (gi_cons 8 rfl rfl (gi_cons 35 rfl rfl (gi_cons 36 rfl rfl (gi_cons 37 rfl rfl (gi_cons 38 rfl rfl (gi_cons 39 rfl rfl (gi_cons 27 rfl rfl (gi_cons 28 rfl rfl (gi_cons 29 rfl rfl (gi_cons 30 rfl rfl (gi_cons 15 rfl rfl (gi_cons 16 rfl rfl (gi_cons 17 rfl rfl (gi_cons 18 rfl rfl (gi_cons 60 rfl rfl (gi_cons 61 rfl rfl (gi_cons 62 rfl rfl (gi_cons 63 rfl rfl (gi_cons 64 rfl rfl gi_nil))))))))))))))))))))))))))))))))))))))))))))))))
set_option maxRecDepth 20000 in
theorem gX0_setByKey_X9_replace : GoodIn wsX0_setByKey (wsV RX0 77 RX9 yX9_replace wsX9_replace) := goodIn_app (goodIn_of _ (by decide +kernel)) ggX0_setByKey_X9_replace
theorem dX0_setByKey_0 : decode cX0_setByKey 0 = .ok (.aload_n 0, 1) := by decide +kernel
theorem dX0_setByKey_1 : decode cX0_setByKey 1 = .ok (.getfield 14, 3) := by decide +kernel
theorem dX0_setByKey_4 : decode cX0_setByKey 4 = .ok (.iload_n 1, 1) := by decide +kernel
theorem dX0_setByKey_5 : decode cX0_setByKey 5 = .ok (.iload_n 2, 1) := by decide +kernel
theorem dX0_setByKey_6 : decode cX0_setByKey 6 = .ok (.invokevirtual 105, 3) := by decide +kernel
theorem dX0_setByKey_9 : decode cX0_setByKey 9 = .ok (.istore 4, 2) := by decide +kernel
theorem dX0_setByKey_11 : decode cX0_setByKey 11 = .ok (.iload 4, 2) := by decide +kernel
theorem dX0_setByKey_13 : decode cX0_setByKey 13 = .ok (.iconst (-1), 1) := by decide +kernel
theorem dX0_setByKey_14 : decode cX0_setByKey 14 = .ok (.if_icmp .ne 17, 3) := by decide +kernel
theorem dX0_setByKey_17 : decode cX0_setByKey 17 = .ok (.aload_n 0, 1) := by decide +kernel
theorem dX0_setByKey_18 : decode cX0_setByKey 18 = .ok (.getfield 14, 3) := by decide +kernel
theorem dX0_setByKey_21 : decode cX0_setByKey 21 = .ok (.iload_n 1, 1) := by decide +kernel
theorem dX0_setByKey_22 : decode cX0_setByKey 22 = .ok (.iload_n 2, 1) := by decide +kernel
theorem dX0_setByKey_23 : decode cX0_setByKey 23 = .ok (.aload_n 3, 1) := by decide +kernel
theorem dX0_setByKey_24 : decode cX0_setByKey 24 = .ok (.iconst 0, 1) := by decide +kernel
theorem dX0_setByKey_25 : decode cX0_setByKey 25 = .ok (.invokevirtual 92, 3) := by decide +kernel
theorem dX0_setByKey_28 : decode cX0_setByKey 28 = .ok (.goto 14, 3) := by decide +kernel
theorem dX0_setByKey_31 : decode cX0_setByKey 31 = .ok (.aload_n 0, 1) := by decide +kernel
theorem dX0_setByKey_32 : decode cX0_setByKey 32 = .ok (.getfield 14, 3) := by decide +kernel
theorem dX0_setByKey_35 : decode cX0_setByKey 35 = .ok (.iload 4, 2) := by decide +kernel
theorem dX0_setByKey_37 : decode cX0_setByKey 37 = .ok (.aload_n 3, 1) := by decide +kernel
theorem dX0_setByKey_38 : decode cX0_setByKey 38 = .ok (.iconst 0, 1) := by decide +kernel
theorem dX0_setByKey_39 : decode cX0_setByKey 39 = .ok (.invokevirtual 77, 3) := by decide +kernel
theorem dX0_setByKey_42 : decode cX0_setByKey 42 = .ok (.ireturn, 1) := by decide +kernel
set_option maxRecDepth 100000 in
theorem ggX0_rearrange_X0_orderOf : GoodIn wsX0_rearrange wsX0_orderOf := (gi_cons 8 rfl rfl (gi_cons 3 rfl rfl (gi_cons 9 rfl rfl (gi_cons 10 rfl rfl (gi_cons 11 rfl rfl (gi_cons 12 rfl rfl (gi_cons 2 rfl rfl (gi_cons 13 rfl rfl (gi_cons 14 rfl rfl (gi_cons 15 rfl rfl (gi_cons 16 rfl rfl (gi_cons 17 rfl rfl (gi_cons 18 rfl rfl (gi_cons 19 rfl rfl (gi_cons 20 rfl rfl (gi_cons 21 rfl rfl (gi_cons 22 rfl rfl (gi_cons 7 rfl rfl (gi_cons 23 rfl rfl (gi_cons 24 rfl rfl (gi_cons 25 rfl rfl (gi_cons 26 rfl rfl (gi_cons 27 rfl rfl (gi_cons 28 rfl rfl (gi_cons 29 rfl rfl (gi_cons 30 rfl rfl (gi_cons 31 rfl rfl (gi_cons 32 rfl rfl (gi_cons 33 rfl rfl (gi_cons 34 rfl rfl (gi_cons 35 rfl rfl (gi_cons 36 rfl rfl (gi_cons 37 rfl rfl (gi_cons 73 rfl rfl (gi_cons 74 rfl rfl (gi_cons 75 rfl rfl (gi_cons 76 rfl rfl (gi_cons 77 rfl rfl (gi_cons 78 rfl rfl (gi_cons 79 rfl rfl (gi_cons 80 rfl rfl (gi_cons 81 rfl rfl gi_nil))))))))))))))))))))))))))))))))))))))))))
set_option maxRecDepth 20000 in
theorem gX0_rearrange_X0_orderOf : GoodIn wsX0_rearrange (wsV RX0 128 RX0 yX0_orderOf wsX0_orderOf) := goodIn_app (goodIn_of _ (by decide +kernel)) ggX0_rearrange_X0_orderOf
set_option maxRecDepth 100000 in
theorem ggX0_rearrange_X9_clear : GoodIn wsX0_rearrange wsX9_clear := (gi_cons 41 rfl rfl (gi_cons 18 rfl rfl (gi_cons 77 rfl rfl (gi_cons 78 rfl rfl (gi_cons 79 rfl rfl (gi_cons 80 rfl rfl (gi_cons 81 rfl rfl gi_nil)))))))
set_option maxRecDepth 20000 in
theorem gX0_rearrange_X9_clear : GoodIn wsX0_rearrange (wsV RX0 132 RX9 yX9_clear wsX9_clear) := goodIn_app (goodIn_of _ (by decide +kernel)) ggX0_rearrange_X9_clear
set_option maxRecDepth 100000 in
theorem ggX0_rearrange_X9_depthAt : GoodIn wsX0_rearrange wsX9_depthAt := (gi_cons 45 rfl rfl (gi_cons 18 rfl rfl (gi_cons 19 rfl rfl (gi_cons 77 rfl rfl (gi_cons 78 rfl rfl (gi_cons 79 rfl rfl (gi_cons 80 rfl rfl (gi_cons 81 rfl rfl gi_nil))))))))
set_option maxRecDepth 20000 in
theorem gX0_rearrange_X9_depthAt : GoodIn wsX0_rearrange (wsV RX0 135 RX9 yX9_depthAt wsX9_depthAt) := goodIn_app (goodIn_of _ (by decide +kernel)) ggX0_rearrange_X9_depthAt
set_option maxRecDepth 100000 in
theorem ggX0_rearrange_X9_keyAt : GoodIn wsX0_rearrange wsX9_keyAt := (gi_cons 49 rfl rfl (gi_cons 18 rfl rfl (gi_cons 50 rfl rfl (gi_cons 77 rfl rfl (gi_cons 78 rfl rfl (gi_cons 79 rfl rfl (gi_cons 80 rfl rfl (gi_cons 81 rfl rfl gi_nil))))))))
set_option maxRecDepth 20000 in
theorem gX0_rearrange_X9_keyAt : GoodIn wsX0_rearrange (wsV RX0 138 RX9 yX9_keyAt wsX9_keyAt) := goodIn_app (goodIn_of _ (by decide +kernel)) ggX0_rearrange_X9_keyAt
set_option maxRecDepth 100000 in
theorem ggX0_rearrange_X9_graft : GoodIn wsX0_rearrange wsX9_graft := (gi_cons 54 rfl rfl (gi_cons 18 rfl rfl (gi_cons 28 rfl rfl (gi_cons 19 rfl rfl (gi_cons 50 rfl rfl (gi_cons 55 rfl rfl (gi_cons 35 rfl rfl (gi_cons 36 rfl rfl (gi_cons 16 rfl rfl (gi_cons 37 rfl rfl (gi_cons 56 rfl rfl (gi_cons 57 rfl rfl (gi_cons 58 rfl rfl (gi_cons 59 rfl rfl (gi_cons 60 rfl rfl (gi_cons 61 rfl rfl (gi_cons 62 rfl rfl (gi_cons 63 rfl rfl (gi_cons 64 rfl rfl (gi_cons 65 rfl rfl (gi_cons 66 rfl rfl (gi_cons 67 rfl rfl (gi_cons 33 rfl rfl (gi_cons 68 rfl rfl (gi_cons 43 rfl rfl (gi_cons 44 rfl rfl (gi_cons 45 rfl rfl (gi_cons 77 rfl rfl (gi_cons 78 rfl rfl (gi_cons 79 rfl rfl (gi_cons 80 rfl rfl (gi_cons 81 rfl rfl gi_nil))))))))))))))))))))))))))))))))
set_option maxRecDepth 20000 in
theorem gX0_rearrange_X9_graft : GoodIn wsX0_rearrange (wsV RX0 141 RX9 yX9_graft wsX9_graft) := goodIn_app (goodIn_of _ (by decide +kernel)) ggX0_rearrange_X9_graft
set_option maxRecDepth 100000 in
theorem ggX0_rearrange_X9_overlay : GoodIn wsX0_rearrange wsX9_overlay := (gi_cons 72 rfl rfl (gi_cons 18 rfl rfl (gi_cons 60 rfl rfl (gi_cons 61 rfl rfl (gi_cons 62 rfl rfl (gi_cons 16 rfl rfl (gi_cons 63 rfl rfl (gi_cons 28 rfl rfl (gi_cons 64 rfl rfl (gi_cons 65 rfl rfl (gi_cons 66 rfl rfl (gi_cons 67 rfl rfl (gi_cons 33 rfl rfl (gi_cons 50 rfl rfl (gi_cons 19 rfl rfl (gi_cons 77 rfl rfl (gi_cons 78 rfl rfl (gi_cons 79 rfl rfl (gi_cons 80 rfl rfl (gi_cons 81 rfl rfl gi_nil))))))))))))))))))))
set_option maxRecDepth 20000 in
theorem gX0_rearrange_X9_overlay : GoodIn wsX0_rearrange (wsV RX0 145 RX9 yX9_overlay wsX9_overlay) := goodIn_app (goodIn_of _ (by decide +kernel)) ggX0_rearrange_X9_overlay
theorem dX0_rearrange_0 : decode cX0_rearrange 0 = .ok (.aload_n 0, 1) := by decide +kernel
theorem dX0_rearrange_1 : decode cX0_rearrange 1 = .ok (.iload_n 1, 1) := by decide +kernel
theorem dX0_rearrange_2 : decode cX0_rearrange 2 = .ok (.iload_n 2, 1) := by decide +kernel
theorem dX0_rearrange_3 : decode cX0_rearrange 3 = .ok (.invokevirtual 128, 3) := by decide +kernel
theorem dX0_rearrange_6 : decode cX0_rearrange 6 = .ok (.istore_n 3, 1) := by decide +kernel
theorem dX0_rearrange_7 : decode cX0_rearrange 7 = .ok (.aload_n 0, 1) := by decide +kernel
theorem dX0_rearrange_8 : decode cX0_rearrange 8 = .ok (.getfield 20, 3) := by decide +kernel
theorem dX0_rearrange_11 : decode cX0_rearrange 11 = .ok (.invokevirtual 132, 3) := by decide +kernel
theorem dX0_rearrange_14 : decode cX0_rearrange 14 = .ok (.iconst 0, 1) := by decide +kernel
theorem dX0_rearrange_15 : decode cX0_rearrange 15 = .ok (.istore 4, 2) := by decide +kernel
theorem dX0_rearrange_17 : decode cX0_rearrange 17 = .ok (.iload 4, 2) := by decide +kernel
theorem dX0_rearrange_19 : decode cX0_rearrange 19 = .ok (.iload_n 3, 1) := by decide +kernel
theorem dX0_rearrange_20 : decode cX0_rearrange 20 = .ok (.if_icmp .ge 78, 3) := by decide +kernel
theorem dX0_rearrange_23 : decode cX0_rearrange 23 = .ok (.iload 4, 2) := by decide +kernel
theorem dX0_rearrange_25 : decode cX0_rearrange 25 = .ok (.sipush 128, 3) := by decide +kernel
theorem dX0_rearrange_28 : decode cX0_rearrange 28 = .ok (.if_icmp .ge 70, 3) := by decide +kernel
theorem dX0_rearrange_31 : decode cX0_rearrange 31 = .ok (.aload_n 0, 1) := by decide +kernel
theorem dX0_rearrange_32 : decode cX0_rearrange 32 = .ok (.getfield 23, 3) := by decide +kernel
theorem dX0_rearrange_35 : decode cX0_rearrange 35 = .ok (.iload_n 2, 1) := by decide +kernel
theorem dX0_rearrange_36 : decode cX0_rearrange 36 = .ok (.ifCond .eq 8, 3) := by decide +kernel
theorem dX0_rearrange_39 : decode cX0_rearrange 39 = .ok (.iload 4, 2) := by decide +kernel
theorem dX0_rearrange_41 : decode cX0_rearrange 41 = .ok (.goto 9, 3) := by decide +kernel
theorem dX0_rearrange_44 : decode cX0_rearrange 44 = .ok (.iload_n 3, 1) := by decide +kernel
theorem dX0_rearrange_45 : decode cX0_rearrange 45 = .ok (.iconst 1, 1) := by decide +kernel
theorem dX0_rearrange_46 : decode cX0_rearrange 46 = .ok (.isub, 1) := by decide +kernel
theorem dX0_rearrange_47 : decode cX0_rearrange 47 = .ok (.iload 4, 2) := by decide +kernel
theorem dX0_rearrange_49 : decode cX0_rearrange 49 = .ok (.isub, 1) := by decide +kernel
theorem dX0_rearrange_50 : decode cX0_rearrange 50 = .ok (.iaload, 1) := by decide +kernel
theorem dX0_rearrange_51 : decode cX0_rearrange 51 = .ok (.istore 5, 2) := by decide +kernel
theorem dX0_rearrange_53 : decode cX0_rearrange 53 = .ok (.aload_n 0, 1) := by decide +kernel
theorem dX0_rearrange_54 : decode cX0_rearrange 54 = .ok (.getfield 20, 3) := by decide +kernel
theorem dX0_rearrange_57 : decode cX0_rearrange 57 = .ok (.aload_n 0, 1) := by decide +kernel
theorem dX0_rearrange_58 : decode cX0_rearrange 58 = .ok (.getfield 20, 3) := by decide +kernel
theorem dX0_rearrange_61 : decode cX0_rearrange 61 = .ok (.getfield 31, 3) := by decide +kernel
theorem dX0_rearrange_64 : decode cX0_rearrange 64 = .ok (.aload_n 0, 1) := by decide +kernel
theorem dX0_rearrange_65 : decode cX0_rearrange 65 = .ok (.getfield 14, 3) := by decide +kernel
theorem dX0_rearrange_68 : decode cX0_rearrange 68 = .ok (.iload 5, 2) := by decide +kernel
theorem dX0_rearrange_70 : decode cX0_rearrange 70 = .ok (.invokevirtual 135, 3) := by decide +kernel
theorem dX0_rearrange_73 : decode cX0_rearrange 73 = .ok (.aload_n 0, 1) := by decide +kernel
theorem dX0_rearrange_74 : decode cX0_rearrange 74 = .ok (.getfield 14, 3) := by decide +kernel
theorem dX0_rearrange_77 : decode cX0_rearrange 77 = .ok (.iload 5, 2) := by decide +kernel
theorem dX0_rearrange_79 : decode cX0_rearrange 79 = .ok (.invokevirtual 138, 3) := by decide +kernel
theorem dX0_rearrange_82 : decode cX0_rearrange 82 = .ok (.aload_n 0, 1) := by decide +kernel
theorem dX0_rearrange_83 : decode cX0_rearrange 83 = .ok (.getfield 14, 3) := by decide +kernel
theorem dX0_rearrange_86 : decode cX0_rearrange 86 = .ok (.iload 5, 2) := by decide +kernel
theorem dX0_rearrange_88 : decode cX0_rearrange 88 = .ok (.invokevirtual 141, 3) := by decide +kernel
theorem dX0_rearrange_91 : decode cX0_rearrange 91 = .ok (.pop, 1) := by decide +kernel
theorem dX0_rearrange_92 : decode cX0_rearrange 92 = .ok (.iinc 4 1, 3) := by decide +kernel
theorem dX0_rearrange_95 : decode cX0_rearrange 95 = .ok (.goto (-78), 3) := by decide +kernel
theorem dX0_rearrange_98 : decode cX0_rearrange 98 = .ok (.aload_n 0, 1) := by decide +kernel
theorem dX0_rearrange_99 : decode cX0_rearrange 99 = .ok (.getfield 14, 3) := by decide +kernel
theorem dX0_rearrange_102 : decode cX0_rearrange 102 = .ok (.iload_n 1, 1) := by decide +kernel
theorem dX0_rearrange_103 : decode cX0_rearrange 103 = .ok (.iconst 1, 1) := by decide +kernel
theorem dX0_rearrange_104 : decode cX0_rearrange 104 = .ok (.iadd, 1) := by decide +kernel
theorem dX0_rearrange_105 : decode cX0_rearrange 105 = .ok (.aload_n 0, 1) := by decide +kernel
theorem dX0_rearrange_106 : decode cX0_rearrange 106 = .ok (.getfield 20, 3) := by decide +kernel
theorem dX0_rearrange_109 : decode cX0_rearrange 109 = .ok (.invokevirtual 145, 3) := by decide +kernel
theorem dX0_rearrange_112 : decode cX0_rearrange 112 = .ok (.return_, 1) := by decide +kernel
set_option maxRecDepth 100000 in
theorem ggX0_orderOf_X9_childCount : GoodIn wsX0_orderOf wsX9_childCount := (gi_cons 11 rfl rfl (gi_cons 12 rfl rfl (gi_cons 13 rfl rfl (gi_cons 37 rfl rfl (gi_cons 38 rfl rfl (gi_cons 39 rfl rfl (gi_cons 40 rfl rfl (gi_cons 41 rfl rfl gi_nil))))))))
set_option maxRecDepth 20000 in
theorem gX0_orderOf_X9_childCount : GoodIn wsX0_orderOf (wsV RX0 149 RX9 yX9_childCount wsX9_childCount) := goodIn_app (goodIn_of _ (by decide +kernel)) ggX0_orderOf_X9_childCount
set_option maxRecDepth 100000 in
theorem ggX0_orderOf_X0_isBehind : GoodIn wsX0_orderOf wsX0_isBehind := (gi_cons 18 rfl rfl (gi_cons 1 rfl rfl (gi_cons 19 rfl rfl (gi_cons 20 rfl rfl (gi_cons 21 rfl rfl (gi_cons 10 rfl rfl (gi_cons 22 rfl rfl (gi_cons 12 rfl rfl (gi_cons 23 rfl rfl (gi_cons 24 rfl rfl (gi_cons 25 rfl rfl (gi_cons 26 rfl rfl (gi_cons 27 rfl rfl (gi_cons 28 rfl rfl (gi_cons 33 rfl rfl (gi_cons 34 rfl rfl (gi_cons 35 rfl rfl (gi_cons 36 rfl rfl (gi_cons 37 rfl rfl (gi_cons 38 rfl rfl (gi_cons 39 rfl rfl (gi_cons 40 rfl rfl (gi_cons 41 rfl rfl gi_nil)))))))))))))))))))))))
set_option maxRecDepth 20000 in
theorem gX0_orderOf_X0_isBehind : GoodIn wsX0_orderOf (wsV RX0 152 RX0 yX0_isBehind wsX0_isBehind) := goodIn_app (goodIn_of _ (by decide +kernel)) ggX0_orderOf_X0_isBehind
set_option maxRecDepth 100000 in
theorem ggX0_orderOf_X9_end : GoodIn wsX0_orderOf wsX9_end := (gi_cons 32 rfl rfl (gi_cons 12 rfl rfl (gi_cons 13 rfl rfl (gi_cons 37 rfl rfl (gi_cons 38 rfl rfl (gi_cons 39 rfl rfl (gi_cons 40 rfl rfl (gi_cons 41 rfl rfl gi_nil))))))))
set_option maxRecDepth 20000 in
theorem gX0_orderOf_X9_end : GoodIn wsX0_orderOf (wsV RX0 85 RX9 yX9_end wsX9_end) := goodIn_app (goodIn_of _ (by decide +kernel)) ggX0_orderOf_X9_end
theorem dX0_orderOf_0 : decode cX0_orderOf 0 = .ok (.aload_n 0, 1) := by decide +kernel
theorem dX0_orderOf_1 : decode cX0_orderOf 1 = .ok (.getfield 14, 3) := by decide +kernel
theorem dX0_orderOf_4 : decode cX0_orderOf 4 = .ok (.iload_n 1, 1) := by decide +kernel
theorem dX0_orderOf_5 : decode cX0_orderOf 5 = .ok (.invokevirtual 149, 3) := by decide +kernel
theorem dX0_orderOf_8 : decode cX0_orderOf 8 = .ok (.sipush 128, 3) := by decide +kernel
theorem dX0_orderOf_11 : decode cX0_orderOf 11 = .ok (.invokestatic 117, 3) := by decide +kernel
theorem dX0_orderOf_14 : decode cX0_orderOf 14 = .ok (.istore_n 3, 1) := by decide +kernel
theorem dX0_orderOf_15 : decode cX0_orderOf 15 = .ok (.iload_n 1, 1) := by decide +kernel
theorem dX0_orderOf_16 : decode cX0_orderOf 16 = .ok (.iconst 1, 1) := by decide +kernel
theorem dX0_orderOf_17 : decode cX0_orderOf 17 = .ok (.iadd, 1) := by decide +kernel
theorem dX0_orderOf_18 : decode cX0_orderOf 18 = .ok (.istore 4, 2) := by decide +kernel
theorem dX0_orderOf_20 : decode cX0_orderOf 20 = .ok (.iconst 0, 1) := by decide +kernel
theorem dX0_orderOf_21 : decode cX0_orderOf 21 = .ok (.istore 5, 2) := by decide +kernel
theorem dX0_orderOf_23 : decode cX0_orderOf 23 = .ok (.iload 5, 2) := by decide +kernel
theorem dX0_orderOf_25 : decode cX0_orderOf 25 = .ok (.iload_n 3, 1) := by decide +kernel
theorem dX0_orderOf_26 : decode cX0_orderOf 26 = .ok (.if_icmp .ge 84, 3) := by decide +kernel
theorem dX0_orderOf_29 : decode cX0_orderOf 29 = .ok (.iload 5, 2) := by decide +kernel
theorem dX0_orderOf_31 : decode cX0_orderOf 31 = .ok (.istore 6, 2) := by decide +kernel
theorem dX0_orderOf_33 : decode cX0_orderOf 33 = .ok (.iload_n 2, 1) := by decide +kernel
theorem dX0_orderOf_34 : decode cX0_orderOf 34 = .ok (.ifCond .eq 48, 3) := by decide +kernel
theorem dX0_orderOf_37 : decode cX0_orderOf 37 = .ok (.iload 6, 2) := by decide +kernel
theorem dX0_orderOf_39 : decode cX0_orderOf 39 = .ok (.ifCond .le 43, 3) := by decide +kernel
theorem dX0_orderOf_42 : decode cX0_orderOf 42 = .ok (.aload_n 0, 1) := by decide +kernel
theorem dX0_orderOf_43 : decode cX0_orderOf 43 = .ok (.aload_n 0, 1) := by decide +kernel
theorem dX0_orderOf_44 : decode cX0_orderOf 44 = .ok (.getfield 23, 3) := by decide +kernel
theorem dX0_orderOf_47 : decode cX0_orderOf 47 = .ok (.iload 6, 2) := by decide +kernel
theorem dX0_orderOf_49 : decode cX0_orderOf 49 = .ok (.iconst 1, 1) := by decide +kernel
theorem dX0_orderOf_50 : decode cX0_orderOf 50 = .ok (.isub, 1) := by decide +kernel
theorem dX0_orderOf_51 : decode cX0_orderOf 51 = .ok (.iaload, 1) := by decide +kernel
theorem dX0_orderOf_52 : decode cX0_orderOf 52 = .ok (.iload 4, 2) := by decide +kernel
theorem dX0_orderOf_54 : decode cX0_orderOf 54 = .ok (.invokevirtual 152, 3) := by decide +kernel
theorem dX0_orderOf_57 : decode cX0_orderOf 57 = .ok (.ifCond .eq 25, 3) := by decide +kernel
theorem dX0_orderOf_60 : decode cX0_orderOf 60 = .ok (.aload_n 0, 1) := by decide +kernel
theorem dX0_orderOf_61 : decode cX0_orderOf 61 = .ok (.getfield 23, 3) := by decide +kernel
theorem dX0_orderOf_64 : decode cX0_orderOf 64 = .ok (.iload 6, 2) := by decide +kernel
theorem dX0_orderOf_66 : decode cX0_orderOf 66 = .ok (.aload_n 0, 1) := by decide +kernel
theorem dX0_orderOf_67 : decode cX0_orderOf 67 = .ok (.getfield 23, 3) := by decide +kernel
theorem dX0_orderOf_70 : decode cX0_orderOf 70 = .ok (.iload 6, 2) := by decide +kernel
theorem dX0_orderOf_72 : decode cX0_orderOf 72 = .ok (.iconst 1, 1) := by decide +kernel
theorem dX0_orderOf_73 : decode cX0_orderOf 73 = .ok (.isub, 1) := by decide +kernel
theorem dX0_orderOf_74 : decode cX0_orderOf 74 = .ok (.iaload, 1) := by decide +kernel
theorem dX0_orderOf_75 : decode cX0_orderOf 75 = .ok (.iastore, 1) := by decide +kernel
theorem dX0_orderOf_76 : decode cX0_orderOf 76 = .ok (.iinc 6 (-1), 3) := by decide +kernel
theorem dX0_orderOf_79 : decode cX0_orderOf 79 = .ok (.goto (-46), 3) := by decide +kernel
theorem dX0_orderOf_82 : decode cX0_orderOf 82 = .ok (.aload_n 0, 1) := by decide +kernel
theorem dX0_orderOf_83 : decode cX0_orderOf 83 = .ok (.getfield 23, 3) := by decide +kernel
theorem dX0_orderOf_86 : decode cX0_orderOf 86 = .ok (.iload 6, 2) := by decide +kernel
theorem dX0_orderOf_88 : decode cX0_orderOf 88 = .ok (.iload 4, 2) := by decide +kernel
theorem dX0_orderOf_90 : decode cX0_orderOf 90 = .ok (.iastore, 1) := by decide +kernel
theorem dX0_orderOf_91 : decode cX0_orderOf 91 = .ok (.aload_n 0, 1) := by decide +kernel
theorem dX0_orderOf_92 : decode cX0_orderOf 92 = .ok (.getfield 14, 3) := by decide +kernel
theorem dX0_orderOf_95 : decode cX0_orderOf 95 = .ok (.iload 4, 2) := by decide +kernel
theorem dX0_orderOf_97 : decode cX0_orderOf 97 = .ok (.invokevirtual 85, 3) := by decide +kernel
theorem dX0_orderOf_100 : decode cX0_orderOf 100 = .ok (.iconst 1, 1) := by decide +kernel
theorem dX0_orderOf_101 : decode cX0_orderOf 101 = .ok (.iadd, 1) := by decide +kernel
theorem dX0_orderOf_102 : decode cX0_orderOf 102 = .ok (.istore 4, 2) := by decide +kernel
theorem dX0_orderOf_104 : decode cX0_orderOf 104 = .ok (.iinc 5 1, 3) := by decide +kernel
theorem dX0_orderOf_107 : decode cX0_orderOf 107 = .ok (.goto (-84), 3) := by decide +kernel
theorem dX0_orderOf_110 : decode cX0_orderOf 110 = .ok (.iload_n 3, 1) := by decide +kernel
theorem dX0_orderOf_111 : decode cX0_orderOf 111 = .ok (.ireturn, 1) := by decide +kernel
set_option maxRecDepth 100000 in
theorem ggX0_isBehind_X9_kindAt : GoodIn wsX0_isBehind wsX9_kindAt := (gi_cons 6 rfl rfl (gi_cons 7 rfl rfl (gi_cons 8 rfl rfl (gi_cons 18 rfl rfl (gi_cons 19 rfl rfl (gi_cons 20 rfl rfl (gi_cons 21 rfl rfl (gi_cons 22 rfl rfl gi_nil))))))))
set_option maxRecDepth 20000 in
theorem gX0_isBehind_X9_kindAt : GoodIn wsX0_isBehind (wsV RX0 55 RX9 yX9_kindAt wsX9_kindAt) := goodIn_app (goodIn_of _ (by decide +kernel)) ggX0_isBehind_X9_kindAt
set_option maxRecDepth 100000 in
theorem ggX0_isBehind_X9_valueAt : GoodIn wsX0_isBehind wsX9_valueAt := (gi_cons 12 rfl rfl (gi_cons 7 rfl rfl (gi_cons 13 rfl rfl (gi_cons 18 rfl rfl (gi_cons 19 rfl rfl (gi_cons 20 rfl rfl (gi_cons 21 rfl rfl (gi_cons 22 rfl rfl gi_nil))))))))
set_option maxRecDepth 20000 in
theorem gX0_isBehind_X9_valueAt : GoodIn wsX0_isBehind (wsV RX0 114 RX9 yX9_valueAt wsX9_valueAt) := goodIn_app (goodIn_of _ (by decide +kernel)) ggX0_isBehind_X9_valueAt
theorem dX0_isBehind_0 : decode cX0_isBehind 0 = .ok (.aload_n 0, 1) := by decide +kernel
theorem dX0_isBehind_1 : decode cX0_isBehind 1 = .ok (.getfield 14, 3) := by decide +kernel
theorem dX0_isBehind_4 : decode cX0_isBehind 4 = .ok (.iload_n 1, 1) := by decide +kernel
theorem dX0_isBehind_5 : decode cX0_isBehind 5 = .ok (.invokevirtual 55, 3) := by decide +kernel
theorem dX0_isBehind_8 : decode cX0_isBehind 8 = .ok (.istore_n 3, 1) := by decide +kernel
theorem dX0_isBehind_9 : decode cX0_isBehind 9 = .ok (.aload_n 0, 1) := by decide +kernel
theorem dX0_isBehind_10 : decode cX0_isBehind 10 = .ok (.getfield 14, 3) := by decide +kernel
theorem dX0_isBehind_13 : decode cX0_isBehind 13 = .ok (.iload_n 2, 1) := by decide +kernel
theorem dX0_isBehind_14 : decode cX0_isBehind 14 = .ok (.invokevirtual 55, 3) := by decide +kernel
theorem dX0_isBehind_17 : decode cX0_isBehind 17 = .ok (.istore 4, 2) := by decide +kernel
theorem dX0_isBehind_19 : decode cX0_isBehind 19 = .ok (.iload_n 3, 1) := by decide +kernel
theorem dX0_isBehind_20 : decode cX0_isBehind 20 = .ok (.iload 4, 2) := by decide +kernel
theorem dX0_isBehind_22 : decode cX0_isBehind 22 = .ok (.if_icmp .ne 30, 3) := by decide +kernel
theorem dX0_isBehind_25 : decode cX0_isBehind 25 = .ok (.aload_n 0, 1) := by decide +kernel
theorem dX0_isBehind_26 : decode cX0_isBehind 26 = .ok (.getfield 14, 3) := by decide +kernel
theorem dX0_isBehind_29 : decode cX0_isBehind 29 = .ok (.iload_n 1, 1) := by decide +kernel
theorem dX0_isBehind_30 : decode cX0_isBehind 30 = .ok (.invokevirtual 114, 3) := by decide +kernel
theorem dX0_isBehind_33 : decode cX0_isBehind 33 = .ok (.aload_n 0, 1) := by decide +kernel
theorem dX0_isBehind_34 : decode cX0_isBehind 34 = .ok (.getfield 14, 3) := by decide +kernel
theorem dX0_isBehind_37 : decode cX0_isBehind 37 = .ok (.iload_n 2, 1) := by decide +kernel
theorem dX0_isBehind_38 : decode cX0_isBehind 38 = .ok (.invokevirtual 114, 3) := by decide +kernel
theorem dX0_isBehind_41 : decode cX0_isBehind 41 = .ok (.if_icmp .le 7, 3) := by decide +kernel
theorem dX0_isBehind_44 : decode cX0_isBehind 44 = .ok (.iconst 1, 1) := by decide +kernel
theorem dX0_isBehind_45 : decode cX0_isBehind 45 = .ok (.goto 18, 3) := by decide +kernel
theorem dX0_isBehind_48 : decode cX0_isBehind 48 = .ok (.iconst 0, 1) := by decide +kernel
theorem dX0_isBehind_49 : decode cX0_isBehind 49 = .ok (.goto 14, 3) := by decide +kernel
theorem dX0_isBehind_52 : decode cX0_isBehind 52 = .ok (.iload_n 3, 1) := by decide +kernel
theorem dX0_isBehind_53 : decode cX0_isBehind 53 = .ok (.iload 4, 2) := by decide +kernel
theorem dX0_isBehind_55 : decode cX0_isBehind 55 = .ok (.if_icmp .le 7, 3) := by decide +kernel
theorem dX0_isBehind_58 : decode cX0_isBehind 58 = .ok (.iconst 1, 1) := by decide +kernel
theorem dX0_isBehind_59 : decode cX0_isBehind 59 = .ok (.goto 4, 3) := by decide +kernel
theorem dX0_isBehind_62 : decode cX0_isBehind 62 = .ok (.iconst 0, 1) := by decide +kernel
theorem dX0_isBehind_63 : decode cX0_isBehind 63 = .ok (.ireturn, 1) := by decide +kernel
set_option maxRecDepth 100000 in
theorem ggX0_takesBehindAll_X9_kindAt : GoodIn wsX0_takesBehindAll wsX9_kindAt := (gi_cons 6 rfl rfl (gi_cons 7 rfl rfl (gi_cons 8 rfl rfl (gi_cons 30 rfl rfl (gi_cons 31 rfl rfl (gi_cons 32 rfl rfl (gi_cons 33 rfl rfl (gi_cons 34 rfl rfl gi_nil))))))))
set_option maxRecDepth 20000 in
theorem gX0_takesBehindAll_X9_kindAt : GoodIn wsX0_takesBehindAll (wsV RX0 55 RX9 yX9_kindAt wsX9_kindAt) := goodIn_app (goodIn_of _ (by decide +kernel)) ggX0_takesBehindAll_X9_kindAt
set_option maxRecDepth 100000 in
theorem ggX0_takesBehindAll_X10_isWord : GoodIn wsX0_takesBehindAll wsX10_isWord := (gi_cons 11 rfl rfl (gi_cons 12 rfl rfl gi_nil))
set_option maxRecDepth 20000 in
theorem gX0_takesBehindAll_X10_isWord_n169 : GoodIn wsX0_takesBehindAll (wsX10_isWord) := ggX0_takesBehindAll_X10_isWord
set_option maxRecDepth 100000 in
theorem ggX0_takesBehindAll_X9_childBy : GoodIn wsX0_takesBehindAll wsX9_childBy := (gi_cons 16 rfl rfl (gi_cons 7 rfl rfl (gi_cons 8 rfl rfl (gi_cons 17 rfl rfl (gi_cons 18 rfl rfl (gi_cons 30 rfl rfl (gi_cons 31 rfl rfl (gi_cons 32 rfl rfl (gi_cons 33 rfl rfl (gi_cons 34 rfl rfl gi_nil))))))))))
set_option maxRecDepth 20000 in
theorem gX0_takesBehindAll_X9_childBy : GoodIn wsX0_takesBehindAll (wsV RX0 105 RX9 yX9_childBy wsX9_childBy) := goodIn_app (goodIn_of _ (by decide +kernel)) ggX0_takesBehindAll_X9_childBy
theorem dX0_takesBehindAll_0 : decode cX0_takesBehindAll 0 = .ok (.aload_n 0, 1) := by decide +kernel
theorem dX0_takesBehindAll_1 : decode cX0_takesBehindAll 1 = .ok (.getfield 27, 3) := by decide +kernel
theorem dX0_takesBehindAll_4 : decode cX0_takesBehindAll 4 = .ok (.getfield 44, 3) := by decide +kernel
theorem dX0_takesBehindAll_7 : decode cX0_takesBehindAll 7 = .ok (.iload_n 1, 1) := by decide +kernel
theorem dX0_takesBehindAll_8 : decode cX0_takesBehindAll 8 = .ok (.invokevirtual 55, 3) := by decide +kernel
theorem dX0_takesBehindAll_11 : decode cX0_takesBehindAll 11 = .ok (.iconst 2, 1) := by decide +kernel
theorem dX0_takesBehindAll_12 : decode cX0_takesBehindAll 12 = .ok (.if_icmp .ne 13, 3) := by decide +kernel
theorem dX0_takesBehindAll_15 : decode cX0_takesBehindAll 15 = .ok (.iload_n 2, 1) := by decide +kernel
theorem dX0_takesBehindAll_16 : decode cX0_takesBehindAll 16 = .ok (.ifCond .ne 7, 3) := by decide +kernel
theorem dX0_takesBehindAll_19 : decode cX0_takesBehindAll 19 = .ok (.iconst 1, 1) := by decide +kernel
theorem dX0_takesBehindAll_20 : decode cX0_takesBehindAll 20 = .ok (.goto 4, 3) := by decide +kernel
theorem dX0_takesBehindAll_23 : decode cX0_takesBehindAll 23 = .ok (.iconst 0, 1) := by decide +kernel
theorem dX0_takesBehindAll_24 : decode cX0_takesBehindAll 24 = .ok (.ireturn, 1) := by decide +kernel
theorem dX0_takesBehindAll_25 : decode cX0_takesBehindAll 25 = .ok (.aload_n 0, 1) := by decide +kernel
theorem dX0_takesBehindAll_26 : decode cX0_takesBehindAll 26 = .ok (.getfield 27, 3) := by decide +kernel
theorem dX0_takesBehindAll_29 : decode cX0_takesBehindAll 29 = .ok (.getfield 44, 3) := by decide +kernel
theorem dX0_takesBehindAll_32 : decode cX0_takesBehindAll 32 = .ok (.iload_n 1, 1) := by decide +kernel
theorem dX0_takesBehindAll_33 : decode cX0_takesBehindAll 33 = .ok (.invokevirtual 55, 3) := by decide +kernel
theorem dX0_takesBehindAll_36 : decode cX0_takesBehindAll 36 = .ok (.iconst 3, 1) := by decide +kernel
theorem dX0_takesBehindAll_37 : decode cX0_takesBehindAll 37 = .ok (.if_icmp .ne 30, 3) := by decide +kernel
theorem dX0_takesBehindAll_40 : decode cX0_takesBehindAll 40 = .ok (.iload_n 2, 1) := by decide +kernel
theorem dX0_takesBehindAll_41 : decode cX0_takesBehindAll 41 = .ok (.invokestatic 169, 3) := by decide +kernel
theorem dX0_takesBehindAll_44 : decode cX0_takesBehindAll 44 = .ok (.ifCond .eq 23, 3) := by decide +kernel
theorem dX0_takesBehindAll_47 : decode cX0_takesBehindAll 47 = .ok (.aload_n 0, 1) := by decide +kernel
theorem dX0_takesBehindAll_48 : decode cX0_takesBehindAll 48 = .ok (.getfield 27, 3) := by decide +kernel
theorem dX0_takesBehindAll_51 : decode cX0_takesBehindAll 51 = .ok (.getfield 44, 3) := by decide +kernel
theorem dX0_takesBehindAll_54 : decode cX0_takesBehindAll 54 = .ok (.iload_n 1, 1) := by decide +kernel
theorem dX0_takesBehindAll_55 : decode cX0_takesBehindAll 55 = .ok (.iload_n 2, 1) := by decide +kernel
theorem dX0_takesBehindAll_56 : decode cX0_takesBehindAll 56 = .ok (.invokevirtual 105, 3) := by decide +kernel
theorem dX0_takesBehindAll_59 : decode cX0_takesBehindAll 59 = .ok (.iconst (-1), 1) := by decide +kernel
theorem dX0_takesBehindAll_60 : decode cX0_takesBehindAll 60 = .ok (.if_icmp .ne 7, 3) := by decide +kernel
theorem dX0_takesBehindAll_63 : decode cX0_takesBehindAll 63 = .ok (.iconst 1, 1) := by decide +kernel
theorem dX0_takesBehindAll_64 : decode cX0_takesBehindAll 64 = .ok (.goto 4, 3) := by decide +kernel
theorem dX0_takesBehindAll_67 : decode cX0_takesBehindAll 67 = .ok (.iconst 0, 1) := by decide +kernel
theorem dX0_takesBehindAll_68 : decode cX0_takesBehindAll 68 = .ok (.ireturn, 1) := by decide +kernel
set_option maxRecDepth 100000 in
theorem ggX3_compare_X9_become : GoodIn wsX3_compare wsX9_become := (gi_cons 8 rfl rfl (gi_cons 9 rfl rfl (gi_cons 10 rfl rfl (gi_cons 11 rfl rfl (gi_cons 12 rfl rfl (gi_cons 13 rfl rfl (gi_cons 14 rfl rfl (gi_cons 15 rfl rfl (gi_cons 16 rfl rfl (gi_cons 17 rfl rfl (gi_cons 87 rfl rfl (gi_cons 88 rfl rfl (gi_cons 89 rfl rfl (gi_cons 90 rfl rfl (gi_cons 91 rfl rfl gi_nil)))))))))))))))
set_option maxRecDepth 20000 in
theorem gX3_compare_X9_become : GoodIn wsX3_compare (wsV RX3 30 RX9 yX9_become wsX9_become) := goodIn_app (goodIn_of _ (by decide +kernel)) ggX3_compare_X9_become
set_option maxRecDepth 100000 in
theorem ggX3_compare_X3_rowsOf : GoodIn wsX3_compare wsX3_rowsOf := (gi_cons 22 rfl rfl (gi_cons 1 rfl rfl (gi_cons 2 rfl rfl (gi_cons 23 rfl rfl (gi_cons 24 rfl rfl (gi_cons 25 rfl rfl (gi_cons 7 rfl rfl (gi_cons 26 rfl rfl (gi_cons 27 rfl rfl (gi_cons 28 rfl rfl (gi_cons 29 rfl rfl (gi_cons 30 rfl rfl (gi_cons 9 rfl rfl (gi_cons 10 rfl rfl (gi_cons 31 rfl rfl (gi_cons 32 rfl rfl (gi_cons 33 rfl rfl (gi_cons 34 rfl rfl (gi_cons 15 rfl rfl (gi_cons 35 rfl rfl (gi_cons 36 rfl rfl (gi_cons 37 rfl rfl (gi_cons 38 rfl rfl (gi_cons 39 rfl rfl (gi_cons 40 rfl rfl (gi_cons 41 rfl rfl (gi_cons 42 rfl rfl (gi_cons 17 rfl rfl (gi_cons 43 rfl rfl (gi_cons 44 rfl rfl (gi_cons 45 rfl rfl (gi_cons 46 rfl rfl (gi_cons 47 rfl rfl (gi_cons 48 rfl rfl (gi_cons 49 rfl rfl (gi_cons 50 rfl rfl (gi_cons 16 rfl rfl (gi_cons 51 rfl rfl (gi_cons 52 rfl rfl (gi_cons 53 rfl rfl (gi_cons 54 rfl rfl (gi_cons 55 rfl rfl (gi_cons 56 rfl rfl (gi_cons 57 rfl rfl (gi_cons 58 rfl rfl (gi_cons 59 rfl rfl (gi_cons 21 rfl rfl (gi_cons 60 rfl rfl (gi_cons 61 rfl rfl (gi_cons 62 rfl rfl (gi_cons 63 rfl rfl (gi_cons 64 rfl rfl (gi_cons 65 rfl rfl (gi_cons 66 rfl rfl (gi_cons 3 rfl rfl (gi_cons 67 rfl rfl (gi_cons 68 rfl rfl (gi_cons 69 rfl rfl (gi_cons 70 rfl rfl (gi_cons 71 rfl rfl (gi_cons 72 rfl rfl (gi_cons 73 rfl rfl (gi_cons 74 rfl rfl (gi_cons 75 rfl rfl (gi_cons 76 rfl rfl (gi_cons 77 rfl rfl (gi_cons 78 rfl rfl (gi_cons 18 rfl rfl (gi_cons 19 rfl rfl (gi_cons 20 rfl rfl (gi_cons 79 rfl rfl (gi_cons 80 rfl rfl (gi_cons 81 rfl rfl (gi_cons 82 rfl rfl (gi_cons 83 rfl rfl (gi_cons 84 rfl rfl (gi_cons 85 rfl rfl (gi_cons 86 rfl rfl (gi_cons 87 rfl rfl (gi_cons 88 rfl rfl (gi_cons 89 rfl rfl (gi_cons 90 rfl rfl (gi_cons 91 rfl rfl gi_nil)))))))))))))))))))))))))))))))))))))))))))))))))))))))))))))))))))))))))))))))))))
set_option maxRecDepth 20000 in
theorem gX3_compare_X3_rowsOf : GoodIn wsX3_compare (wsV RX3 38 RX3 yX3_rowsOf wsX3_rowsOf) := goodIn_app (goodIn_of _ (by decide +kernel)) ggX3_compare_X3_rowsOf
theorem dX3_compare_0 : decode cX3_compare 0 = .ok (.aload_n 0, 1) := by decide +kernel
theorem dX3_compare_1 : decode cX3_compare 1 = .ok (.getfield 14, 3) := by decide +kernel
theorem dX3_compare_4 : decode cX3_compare 4 = .ok (.aload_n 1, 1) := by decide +kernel
theorem dX3_compare_5 : decode cX3_compare 5 = .ok (.invokevirtual 30, 3) := by decide +kernel
theorem dX3_compare_8 : decode cX3_compare 8 = .ok (.aload_n 0, 1) := by decide +kernel
theorem dX3_compare_9 : decode cX3_compare 9 = .ok (.getfield 20, 3) := by decide +kernel
theorem dX3_compare_12 : decode cX3_compare 12 = .ok (.aload_n 2, 1) := by decide +kernel
theorem dX3_compare_13 : decode cX3_compare 13 = .ok (.invokevirtual 30, 3) := by decide +kernel
theorem dX3_compare_16 : decode cX3_compare 16 = .ok (.aload_n 0, 1) := by decide +kernel
theorem dX3_compare_17 : decode cX3_compare 17 = .ok (.iconst 0, 1) := by decide +kernel
theorem dX3_compare_18 : decode cX3_compare 18 = .ok (.putfield 34, 3) := by decide +kernel
theorem dX3_compare_21 : decode cX3_compare 21 = .ok (.aload_n 0, 1) := by decide +kernel
theorem dX3_compare_22 : decode cX3_compare 22 = .ok (.iconst 0, 1) := by decide +kernel
theorem dX3_compare_23 : decode cX3_compare 23 = .ok (.iconst 0, 1) := by decide +kernel
theorem dX3_compare_24 : decode cX3_compare 24 = .ok (.iconst 0, 1) := by decide +kernel
theorem dX3_compare_25 : decode cX3_compare 25 = .ok (.invokevirtual 38, 3) := by decide +kernel
theorem dX3_compare_28 : decode cX3_compare 28 = .ok (.aload_n 0, 1) := by decide +kernel
theorem dX3_compare_29 : decode cX3_compare 29 = .ok (.getfield 34, 3) := by decide +kernel
theorem dX3_compare_32 : decode cX3_compare 32 = .ok (.ireturn, 1) := by decide +kernel
theorem dX3_addRow_0 : decode cX3_addRow 0 = .ok (.aload_n 0, 1) := by decide +kernel
theorem dX3_addRow_1 : decode cX3_addRow 1 = .ok (.getfield 34, 3) := by decide +kernel
theorem dX3_addRow_4 : decode cX3_addRow 4 = .ok (.ifCond .lt 42, 3) := by decide +kernel
theorem dX3_addRow_7 : decode cX3_addRow 7 = .ok (.aload_n 0, 1) := by decide +kernel
theorem dX3_addRow_8 : decode cX3_addRow 8 = .ok (.getfield 34, 3) := by decide +kernel
theorem dX3_addRow_11 : decode cX3_addRow 11 = .ok (.bipush 120, 2) := by decide +kernel
theorem dX3_addRow_13 : decode cX3_addRow 13 = .ok (.if_icmp .ge 33, 3) := by decide +kernel
theorem dX3_addRow_16 : decode cX3_addRow 16 = .ok (.aload_n 0, 1) := by decide +kernel
theorem dX3_addRow_17 : decode cX3_addRow 17 = .ok (.getfield 23, 3) := by decide +kernel
theorem dX3_addRow_20 : decode cX3_addRow 20 = .ok (.aload_n 0, 1) := by decide +kernel
theorem dX3_addRow_21 : decode cX3_addRow 21 = .ok (.getfield 34, 3) := by decide +kernel
theorem dX3_addRow_24 : decode cX3_addRow 24 = .ok (.iload_n 1, 1) := by decide +kernel
theorem dX3_addRow_25 : decode cX3_addRow 25 = .ok (.iastore, 1) := by decide +kernel
theorem dX3_addRow_26 : decode cX3_addRow 26 = .ok (.aload_n 0, 1) := by decide +kernel
theorem dX3_addRow_27 : decode cX3_addRow 27 = .ok (.getfield 27, 3) := by decide +kernel
theorem dX3_addRow_30 : decode cX3_addRow 30 = .ok (.aload_n 0, 1) := by decide +kernel
theorem dX3_addRow_31 : decode cX3_addRow 31 = .ok (.getfield 34, 3) := by decide +kernel
theorem dX3_addRow_34 : decode cX3_addRow 34 = .ok (.iload_n 2, 1) := by decide +kernel
theorem dX3_addRow_35 : decode cX3_addRow 35 = .ok (.iastore, 1) := by decide +kernel
theorem dX3_addRow_36 : decode cX3_addRow 36 = .ok (.aload_n 0, 1) := by decide +kernel
theorem dX3_addRow_37 : decode cX3_addRow 37 = .ok (.dup, 1) := by decide +kernel
theorem dX3_addRow_38 : decode cX3_addRow 38 = .ok (.getfield 34, 3) := by decide +kernel
theorem dX3_addRow_41 : decode cX3_addRow 41 = .ok (.iconst 1, 1) := by decide +kernel
theorem dX3_addRow_42 : decode cX3_addRow 42 = .ok (.iadd, 1) := by decide +kernel
theorem dX3_addRow_43 : decode cX3_addRow 43 = .ok (.putfield 34, 3) := by decide +kernel
theorem dX3_addRow_46 : decode cX3_addRow 46 = .ok (.return_, 1) := by decide +kernel
set_option maxRecDepth 100000 in
theorem ggX3_rowsOf_X9_like : GoodIn wsX3_rowsOf wsX9_like := (gi_cons 7 rfl rfl (gi_cons 8 rfl rfl (gi_cons 9 rfl rfl (gi_cons 10 rfl rfl (gi_cons 6 rfl rfl (gi_cons 11 rfl rfl (gi_cons 12 rfl rfl (gi_cons 13 rfl rfl (gi_cons 14 rfl rfl (gi_cons 15 rfl rfl (gi_cons 16 rfl rfl (gi_cons 17 rfl rfl (gi_cons 18 rfl rfl (gi_cons 19 rfl rfl (gi_cons 20 rfl rfl (gi_cons 21 rfl rfl (gi_cons 22 rfl rfl (gi_cons 23 rfl rfl (gi_cons 24 rfl rfl (gi_cons 25 rfl rfl (gi_cons 26 rfl rfl (gi_cons 27 rfl rfl (gi_cons 28 rfl rfl (gi_cons 29 rfl rfl (gi_cons 30 rfl rfl (gi_cons 31 rfl rfl (gi_cons 32 rfl rfl (gi_cons 33 rfl rfl (gi_cons 34 rfl rfl (gi_cons 35 rfl rfl (gi_cons 36 rfl rfl (gi_cons 37 rfl rfl (gi_cons 38 rfl rfl (gi_cons 39 rfl rfl (gi_cons 40 rfl rfl (gi_cons 41 rfl rfl (gi_cons 4 rfl rfl (gi_cons 5 rfl rfl (gi_cons 78 rfl rfl (gi_cons 79 rfl rfl (gi_cons 80 rfl rfl (gi_cons 81 rfl rfl (gi_cons 82 rfl rfl gi_nil)))))))))))))))))))))))))))))))))))))))))))
set_option maxRecDepth 20000 in
theorem gX3_rowsOf_X9_like : GoodIn wsX3_rowsOf (wsV RX3 42 RX9 yX9_like wsX9_like) := goodIn_app (goodIn_of _ (by decide +kernel)) ggX3_rowsOf_X9_like
set_option maxRecDepth 100000 in
theorem ggX3_rowsOf_X9_kindAt : GoodIn wsX3_rowsOf wsX9_kindAt := (gi_cons 11 rfl rfl (gi_cons 12 rfl rfl (gi_cons 13 rfl rfl (gi_cons 78 rfl rfl (gi_cons 79 rfl rfl (gi_cons 80 rfl rfl (gi_cons 81 rfl rfl (gi_cons 82 rfl rfl gi_nil))))))))
set_option maxRecDepth 20000 in
theorem gX3_rowsOf_X9_kindAt : GoodIn wsX3_rowsOf (wsV RX3 46 RX9 yX9_kindAt wsX9_kindAt) := goodIn_app (goodIn_of _ (by decide +kernel)) ggX3_rowsOf_X9_kindAt
set_option maxRecDepth 100000 in
theorem ggX3_rowsOf_X3_rowsOfMaps : GoodIn wsX3_rowsOf wsX3_rowsOfMaps := (gi_cons 70 rfl rfl (gi_cons 1 rfl rfl (gi_cons 2 rfl rfl (gi_cons 62 rfl rfl (gi_cons 29 rfl rfl (gi_cons 30 rfl rfl (gi_cons 6 rfl rfl (gi_cons 31 rfl rfl (gi_cons 12 rfl rfl (gi_cons 27 rfl rfl (gi_cons 63 rfl rfl (gi_cons 64 rfl rfl (gi_cons 65 rfl rfl (gi_cons 66 rfl rfl (gi_cons 71 rfl rfl (gi_cons 33 rfl rfl (gi_cons 34 rfl rfl (gi_cons 35 rfl rfl (gi_cons 36 rfl rfl (gi_cons 72 rfl rfl (gi_cons 38 rfl rfl (gi_cons 39 rfl rfl (gi_cons 40 rfl rfl (gi_cons 13 rfl rfl (gi_cons 50 rfl rfl (gi_cons 51 rfl rfl (gi_cons 52 rfl rfl (gi_cons 46 rfl rfl (gi_cons 53 rfl rfl (gi_cons 54 rfl rfl (gi_cons 55 rfl rfl (gi_cons 56 rfl rfl (gi_cons 67 rfl rfl (gi_cons 68 rfl rfl (gi_cons 69 rfl rfl (gi_cons 0 rfl rfl (gi_cons 3 rfl rfl (gi_cons 4 rfl rfl (gi_cons 5 rfl rfl (gi_cons 7 rfl rfl (gi_cons 8 rfl rfl (gi_cons 9 rfl rfl (gi_cons 10 rfl rfl (gi_cons 11 rfl rfl (gi_cons 14 rfl rfl (gi_cons 15 rfl rfl (gi_cons 16 rfl rfl (gi_cons 17 rfl rfl (gi_cons 18 rfl rfl (gi_cons 19 rfl rfl (gi_cons 20 rfl rfl (gi_cons 21 rfl rfl (gi_cons 22 rfl rfl (gi_cons 23 rfl rfl (gi_cons 24 rfl rfl (gi_cons 25 rfl rfl (gi_cons 26 rfl rfl (gi_cons 28 rfl rfl (gi_cons 32 rfl rfl (gi_cons 37 rfl rfl (gi_cons 41 rfl rfl (gi_cons 42 rfl rfl (gi_cons 43 rfl rfl (gi_cons 44 rfl rfl (gi_cons 45 rfl rfl (gi_cons 47 rfl rfl (gi_cons 48 rfl rfl (gi_cons 49 rfl rfl (gi_cons 57 rfl rfl (gi_cons 58 rfl rfl (gi_cons 59 rfl rfl (gi_cons 60 rfl rfl (gi_cons 61 rfl rfl (gi_cons 73 rfl rfl (gi_cons 74 rfl rfl (gi_cons 75 rfl rfl (gi_cons 76 rfl rfl (gi_cons 77 rfl rfl (gi_cons 78 rfl rfl (gi_cons 79 rfl rfl (gi_cons 80 rfl rfl (gi_cons 81 rfl rfl (gi_cons 82 rfl rfl gi_nil)))))))))))))))))))))))))))))))))))))))))))))))))))))))))))))))))))))))))))))))))))
set_option maxRecDepth 20000 in
theorem gX3_rowsOf_X3_rowsOfMaps : GoodIn wsX3_rowsOf (wsV RX3 50 RX3 yX3_rowsOfMaps wsX3_rowsOfMaps) := goodIn_app (goodIn_of _ (by decide +kernel)) ggX3_rowsOf_X3_rowsOfMaps
set_option maxRecDepth 100000 in
theorem ggX3_rowsOf_X3_rowsOfLists : GoodIn wsX3_rowsOf wsX3_rowsOfLists := (gi_cons 57 rfl rfl (gi_cons 1 rfl rfl (gi_cons 2 rfl rfl (gi_cons 58 rfl rfl (gi_cons 59 rfl rfl (gi_cons 60 rfl rfl (gi_cons 61 rfl rfl (gi_cons 62 rfl rfl (gi_cons 29 rfl rfl (gi_cons 30 rfl rfl (gi_cons 6 rfl rfl (gi_cons 31 rfl rfl (gi_cons 12 rfl rfl (gi_cons 27 rfl rfl (gi_cons 63 rfl rfl (gi_cons 64 rfl rfl (gi_cons 65 rfl rfl (gi_cons 66 rfl rfl (gi_cons 67 rfl rfl (gi_cons 68 rfl rfl (gi_cons 69 rfl rfl (gi_cons 46 rfl rfl (gi_cons 50 rfl rfl (gi_cons 51 rfl rfl (gi_cons 52 rfl rfl (gi_cons 53 rfl rfl (gi_cons 54 rfl rfl (gi_cons 55 rfl rfl (gi_cons 56 rfl rfl (gi_cons 0 rfl rfl (gi_cons 3 rfl rfl (gi_cons 4 rfl rfl (gi_cons 5 rfl rfl (gi_cons 7 rfl rfl (gi_cons 8 rfl rfl (gi_cons 9 rfl rfl (gi_cons 10 rfl rfl (gi_cons 11 rfl rfl (gi_cons 13 rfl rfl (gi_cons 14 rfl rfl (gi_cons 15 rfl rfl (gi_cons 16 rfl rfl (gi_cons 17 rfl rfl (gi_cons 18 rfl rfl (gi_cons 19 rfl rfl (gi_cons 20 rfl rfl (gi_cons 21 rfl rfl (gi_cons 22 rfl rfl (gi_cons 23 rfl rfl (gi_cons 24 rfl rfl (gi_cons 25 rfl rfl (gi_cons 26 rfl rfl (gi_cons 28 rfl rfl (gi_cons 32 rfl rfl (gi_cons 33 rfl rfl (gi_cons 34 rfl rfl (gi_cons 35 rfl rfl (gi_cons 36 rfl rfl (gi_cons 37 rfl rfl (gi_cons 38 rfl rfl (gi_cons 39 rfl rfl (gi_cons 40 rfl rfl (gi_cons 41 rfl rfl (gi_cons 42 rfl rfl (gi_cons 43 rfl rfl (gi_cons 44 rfl rfl (gi_cons 45 rfl rfl (gi_cons 47 rfl rfl (gi_cons 48 rfl rfl (gi_cons 49 rfl rfl (gi_cons 70 rfl rfl (gi_cons 71 rfl rfl (gi_cons 72 rfl rfl (gi_cons 73 rfl rfl (gi_cons 74 rfl rfl (gi_cons 75 rfl rfl (gi_cons 76 rfl rfl (gi_cons 77 rfl rfl (gi_cons 78 rfl rfl (gi_cons 79 rfl rfl (gi_cons 80 rfl rfl (gi_cons 81 rfl rfl (gi_cons 82 rfl rfl gi_nil)))))))))))))))))))))))))))))))))))))))))))))))))))))))))))))))))))))))))))))))))))
set_option maxRecDepth 20000 in
theorem gX3_rowsOf_X3_rowsOfLists : GoodIn wsX3_rowsOf (wsV RX3 53 RX3 yX3_rowsOfLists wsX3_rowsOfLists) := goodIn_app (goodIn_of _ (by decide +kernel)) ggX3_rowsOf_X3_rowsOfLists
set_option maxRecDepth 100000 in
theorem ggX3_rowsOf_X3_addRow : GoodIn wsX3_rowsOf wsX3_addRow := (gi_cons 53 rfl rfl (gi_cons 54 rfl rfl (gi_cons 55 rfl rfl (gi_cons 56 rfl rfl (gi_cons 73 rfl rfl (gi_cons 74 rfl rfl (gi_cons 75 rfl rfl (gi_cons 76 rfl rfl (gi_cons 77 rfl rfl gi_nil)))))))))
set_option maxRecDepth 20000 in
theorem gX3_rowsOf_X3_addRow : GoodIn wsX3_rowsOf (wsV RX3 56 RX3 yX3_addRow wsX3_addRow) := goodIn_app (goodIn_of _ (by decide +kernel)) ggX3_rowsOf_X3_addRow
theorem dX3_rowsOf_0 : decode cX3_rowsOf 0 = .ok (.iload_n 3, 1) := by decide +kernel
theorem dX3_rowsOf_1 : decode cX3_rowsOf 1 = .ok (.bipush 16, 2) := by decide +kernel
theorem dX3_rowsOf_3 : decode cX3_rowsOf 3 = .ok (.if_icmp .gt 20, 3) := by decide +kernel
theorem dX3_rowsOf_6 : decode cX3_rowsOf 6 = .ok (.aload_n 0, 1) := by decide +kernel
theorem dX3_rowsOf_7 : decode cX3_rowsOf 7 = .ok (.getfield 14, 3) := by decide +kernel
theorem dX3_rowsOf_10 : decode cX3_rowsOf 10 = .ok (.iload_n 1, 1) := by decide +kernel
theorem dX3_rowsOf_11 : decode cX3_rowsOf 11 = .ok (.aload_n 0, 1) := by decide +kernel
theorem dX3_rowsOf_12 : decode cX3_rowsOf 12 = .ok (.getfield 20, 3) := by decide +kernel
theorem dX3_rowsOf_15 : decode cX3_rowsOf 15 = .ok (.iload_n 2, 1) := by decide +kernel
theorem dX3_rowsOf_16 : decode cX3_rowsOf 16 = .ok (.iconst 0, 1) := by decide +kernel
theorem dX3_rowsOf_17 : decode cX3_rowsOf 17 = .ok (.invokevirtual 42, 3) := by decide +kernel
theorem dX3_rowsOf_20 : decode cX3_rowsOf 20 = .ok (.ifCond .eq 4, 3) := by decide +kernel
theorem dX3_rowsOf_23 : decode cX3_rowsOf 23 = .ok (.return_, 1) := by decide +kernel
theorem dX3_rowsOf_24 : decode cX3_rowsOf 24 = .ok (.aload_n 0, 1) := by decide +kernel
theorem dX3_rowsOf_25 : decode cX3_rowsOf 25 = .ok (.getfield 14, 3) := by decide +kernel
theorem dX3_rowsOf_28 : decode cX3_rowsOf 28 = .ok (.iload_n 1, 1) := by decide +kernel
theorem dX3_rowsOf_29 : decode cX3_rowsOf 29 = .ok (.invokevirtual 46, 3) := by decide +kernel
theorem dX3_rowsOf_32 : decode cX3_rowsOf 32 = .ok (.istore 4, 2) := by decide +kernel
theorem dX3_rowsOf_34 : decode cX3_rowsOf 34 = .ok (.iload 4, 2) := by decide +kernel
theorem dX3_rowsOf_36 : decode cX3_rowsOf 36 = .ok (.iconst 3, 1) := by decide +kernel
theorem dX3_rowsOf_37 : decode cX3_rowsOf 37 = .ok (.if_icmp .ne 25, 3) := by decide +kernel
theorem dX3_rowsOf_40 : decode cX3_rowsOf 40 = .ok (.aload_n 0, 1) := by decide +kernel
theorem dX3_rowsOf_41 : decode cX3_rowsOf 41 = .ok (.getfield 20, 3) := by decide +kernel
theorem dX3_rowsOf_44 : decode cX3_rowsOf 44 = .ok (.iload_n 2, 1) := by decide +kernel
theorem dX3_rowsOf_45 : decode cX3_rowsOf 45 = .ok (.invokevirtual 46, 3) := by decide +kernel
theorem dX3_rowsOf_48 : decode cX3_rowsOf 48 = .ok (.iconst 3, 1) := by decide +kernel
theorem dX3_rowsOf_49 : decode cX3_rowsOf 49 = .ok (.if_icmp .ne 13, 3) := by decide +kernel
theorem dX3_rowsOf_52 : decode cX3_rowsOf 52 = .ok (.aload_n 0, 1) := by decide +kernel
theorem dX3_rowsOf_53 : decode cX3_rowsOf 53 = .ok (.iload_n 1, 1) := by decide +kernel
theorem dX3_rowsOf_54 : decode cX3_rowsOf 54 = .ok (.iload_n 2, 1) := by decide +kernel
theorem dX3_rowsOf_55 : decode cX3_rowsOf 55 = .ok (.iload_n 3, 1) := by decide +kernel
theorem dX3_rowsOf_56 : decode cX3_rowsOf 56 = .ok (.invokevirtual 50, 3) := by decide +kernel
theorem dX3_rowsOf_59 : decode cX3_rowsOf 59 = .ok (.goto 37, 3) := by decide +kernel
theorem dX3_rowsOf_62 : decode cX3_rowsOf 62 = .ok (.iload 4, 2) := by decide +kernel
theorem dX3_rowsOf_64 : decode cX3_rowsOf 64 = .ok (.iconst 2, 1) := by decide +kernel
theorem dX3_rowsOf_65 : decode cX3_rowsOf 65 = .ok (.if_icmp .ne 25, 3) := by decide +kernel
theorem dX3_rowsOf_68 : decode cX3_rowsOf 68 = .ok (.aload_n 0, 1) := by decide +kernel
theorem dX3_rowsOf_69 : decode cX3_rowsOf 69 = .ok (.getfield 20, 3) := by decide +kernel
theorem dX3_rowsOf_72 : decode cX3_rowsOf 72 = .ok (.iload_n 2, 1) := by decide +kernel
theorem dX3_rowsOf_73 : decode cX3_rowsOf 73 = .ok (.invokevirtual 46, 3) := by decide +kernel
theorem dX3_rowsOf_76 : decode cX3_rowsOf 76 = .ok (.iconst 2, 1) := by decide +kernel
theorem dX3_rowsOf_77 : decode cX3_rowsOf 77 = .ok (.if_icmp .ne 13, 3) := by decide +kernel
theorem dX3_rowsOf_80 : decode cX3_rowsOf 80 = .ok (.aload_n 0, 1) := by decide +kernel
theorem dX3_rowsOf_81 : decode cX3_rowsOf 81 = .ok (.iload_n 1, 1) := by decide +kernel
theorem dX3_rowsOf_82 : decode cX3_rowsOf 82 = .ok (.iload_n 2, 1) := by decide +kernel
theorem dX3_rowsOf_83 : decode cX3_rowsOf 83 = .ok (.iload_n 3, 1) := by decide +kernel
theorem dX3_rowsOf_84 : decode cX3_rowsOf 84 = .ok (.invokevirtual 53, 3) := by decide +kernel
theorem dX3_rowsOf_87 : decode cX3_rowsOf 87 = .ok (.goto 9, 3) := by decide +kernel
theorem dX3_rowsOf_90 : decode cX3_rowsOf 90 = .ok (.aload_n 0, 1) := by decide +kernel
theorem dX3_rowsOf_91 : decode cX3_rowsOf 91 = .ok (.iload_n 1, 1) := by decide +kernel
theorem dX3_rowsOf_92 : decode cX3_rowsOf 92 = .ok (.iload_n 2, 1) := by decide +kernel
theorem dX3_rowsOf_93 : decode cX3_rowsOf 93 = .ok (.invokevirtual 56, 3) := by decide +kernel
theorem dX3_rowsOf_96 : decode cX3_rowsOf 96 = .ok (.return_, 1) := by decide +kernel
set_option maxRecDepth 100000 in
theorem ggX3_rowsOfMaps_X9_childCount : GoodIn wsX3_rowsOfMaps wsX9_childCount := (gi_cons 7 rfl rfl (gi_cons 8 rfl rfl (gi_cons 9 rfl rfl (gi_cons 78 rfl rfl (gi_cons 79 rfl rfl (gi_cons 80 rfl rfl (gi_cons 81 rfl rfl (gi_cons 82 rfl rfl gi_nil))))))))
set_option maxRecDepth 20000 in
theorem gX3_rowsOfMaps_X9_childCount : GoodIn wsX3_rowsOfMaps (wsV RX3 60 RX9 yX9_childCount wsX9_childCount) := goodIn_app (goodIn_of _ (by decide +kernel)) ggX3_rowsOfMaps_X9_childCount
set_option maxRecDepth 100000 in
theorem ggX3_rowsOfMaps_X9_childAt : GoodIn wsX3_rowsOfMaps wsX9_childAt := (gi_cons 13 rfl rfl (gi_cons 8 rfl rfl (gi_cons 9 rfl rfl (gi_cons 78 rfl rfl (gi_cons 79 rfl rfl (gi_cons 80 rfl rfl (gi_cons 81 rfl rfl (gi_cons 82 rfl rfl gi_nil))))))))
set_option maxRecDepth 20000 in
theorem gX3_rowsOfMaps_X9_childAt : GoodIn wsX3_rowsOfMaps (wsV RX3 63 RX9 yX9_childAt wsX9_childAt) := goodIn_app (goodIn_of _ (by decide +kernel)) ggX3_rowsOfMaps_X9_childAt
set_option maxRecDepth 100000 in
theorem ggX3_rowsOfMaps_X9_keyAt : GoodIn wsX3_rowsOfMaps wsX9_keyAt := (gi_cons 17 rfl rfl (gi_cons 8 rfl rfl (gi_cons 18 rfl rfl (gi_cons 78 rfl rfl (gi_cons 79 rfl rfl (gi_cons 80 rfl rfl (gi_cons 81 rfl rfl (gi_cons 82 rfl rfl gi_nil))))))))
set_option maxRecDepth 20000 in
theorem gX3_rowsOfMaps_X9_keyAt : GoodIn wsX3_rowsOfMaps (wsV RX3 67 RX9 yX9_keyAt wsX9_keyAt) := goodIn_app (goodIn_of _ (by decide +kernel)) ggX3_rowsOfMaps_X9_keyAt
set_option maxRecDepth 100000 in
theorem ggX3_rowsOfMaps_X9_childBy : GoodIn wsX3_rowsOfMaps wsX9_childBy := (gi_cons 22 rfl rfl (gi_cons 8 rfl rfl (gi_cons 23 rfl rfl (gi_cons 9 rfl rfl (gi_cons 18 rfl rfl (gi_cons 78 rfl rfl (gi_cons 79 rfl rfl (gi_cons 80 rfl rfl (gi_cons 81 rfl rfl (gi_cons 82 rfl rfl gi_nil))))))))))
set_option maxRecDepth 20000 in
theorem gX3_rowsOfMaps_X9_childBy : GoodIn wsX3_rowsOfMaps (wsV RX3 70 RX9 yX9_childBy wsX9_childBy) := goodIn_app (goodIn_of _ (by decide +kernel)) ggX3_rowsOfMaps_X9_childBy
set_option maxRecDepth 100000 in
theorem ggX3_rowsOfMaps_X3_addRow : GoodIn wsX3_rowsOfMaps wsX3_addRow := (gi_cons 28 rfl rfl (gi_cons 29 rfl rfl (gi_cons 30 rfl rfl (gi_cons 31 rfl rfl (gi_cons 73 rfl rfl (gi_cons 74 rfl rfl (gi_cons 75 rfl rfl (gi_cons 76 rfl rfl (gi_cons 77 rfl rfl gi_nil)))))))))
set_option maxRecDepth 20000 in
theorem gX3_rowsOfMaps_X3_addRow : GoodIn wsX3_rowsOfMaps (wsV RX3 56 RX3 yX3_addRow wsX3_addRow) := goodIn_app (goodIn_of _ (by decide +kernel)) ggX3_rowsOfMaps_X3_addRow
set_option maxRecDepth 100000 in
theorem ggX3_rowsOfMaps_X3_rowsOf : GoodIn wsX3_rowsOfMaps wsX3_rowsOf := (gi_cons 35 rfl rfl (gi_cons 1 rfl rfl (gi_cons 2 rfl rfl (gi_cons 36 rfl rfl (gi_cons 37 rfl rfl (gi_cons 38 rfl rfl (gi_cons 6 rfl rfl (gi_cons 39 rfl rfl (gi_cons 40 rfl rfl (gi_cons 41 rfl rfl (gi_cons 42 rfl rfl (gi_cons 43 rfl rfl (gi_cons 8 rfl rfl (gi_cons 23 rfl rfl (gi_cons 44 rfl rfl (gi_cons 45 rfl rfl (gi_cons 46 rfl rfl (gi_cons 47 rfl rfl (gi_cons 48 rfl rfl (gi_cons 49 rfl rfl (gi_cons 50 rfl rfl (gi_cons 51 rfl rfl (gi_cons 52 rfl rfl (gi_cons 53 rfl rfl (gi_cons 54 rfl rfl (gi_cons 55 rfl rfl (gi_cons 56 rfl rfl (gi_cons 9 rfl rfl (gi_cons 57 rfl rfl (gi_cons 4 rfl rfl (gi_cons 5 rfl rfl (gi_cons 7 rfl rfl (gi_cons 58 rfl rfl (gi_cons 15 rfl rfl (gi_cons 16 rfl rfl (gi_cons 17 rfl rfl (gi_cons 18 rfl rfl (gi_cons 59 rfl rfl (gi_cons 20 rfl rfl (gi_cons 21 rfl rfl (gi_cons 22 rfl rfl (gi_cons 60 rfl rfl (gi_cons 61 rfl rfl (gi_cons 62 rfl rfl (gi_cons 63 rfl rfl (gi_cons 64 rfl rfl (gi_cons 27 rfl rfl (gi_cons 65 rfl rfl (gi_cons 66 rfl rfl (gi_cons 67 rfl rfl (gi_cons 24 rfl rfl (gi_cons 25 rfl rfl (gi_cons 26 rfl rfl (gi_cons 28 rfl rfl (gi_cons 29 rfl rfl (gi_cons 30 rfl rfl (gi_cons 31 rfl rfl (gi_cons 68 rfl rfl (gi_cons 69 rfl rfl (gi_cons 70 rfl rfl (gi_cons 71 rfl rfl (gi_cons 72 rfl rfl (gi_cons 3 rfl rfl (gi_cons 10 rfl rfl (gi_cons 11 rfl rfl (gi_cons 12 rfl rfl (gi_cons 13 rfl rfl (gi_cons 32 rfl rfl (gi_cons 33 rfl rfl (gi_cons 34 rfl rfl (gi_cons 0 rfl rfl (gi_cons 14 rfl rfl (gi_cons 19 rfl rfl (gi_cons 73 rfl rfl (gi_cons 74 rfl rfl (gi_cons 75 rfl rfl (gi_cons 76 rfl rfl (gi_cons 77 rfl rfl (gi_cons 78 rfl rfl (gi_cons 79 rfl rfl (gi_cons 80 rfl rfl (gi_cons 81 rfl rfl (gi_cons 82 rfl rfl gi_nil)))))))))))))))))))))))))))))))))))))))))))))))))))))))))))))))))))))))))))))))))))
set_option maxRecDepth 20000 in
theorem gX3_rowsOfMaps_X3_rowsOf : GoodIn wsX3_rowsOfMaps (wsV RX3 38 RX3 yX3_rowsOf wsX3_rowsOf) := goodIn_app (goodIn_of _ (by decide +kernel)) ggX3_rowsOfMaps_X3_rowsOf
theorem dX3_rowsOfMaps_0 : decode cX3_rowsOfMaps 0 = .ok (.aload_n 0, 1) := by decide +kernel
theorem dX3_rowsOfMaps_1 : decode cX3_rowsOfMaps 1 = .ok (.getfield 14, 3) := by decide +kernel
theorem dX3_rowsOfMaps_4 : decode cX3_rowsOfMaps 4 = .ok (.iload_n 1, 1) := by decide +kernel
theorem dX3_rowsOfMaps_5 : decode cX3_rowsOfMaps 5 = .ok (.invokevirtual 60, 3) := by decide +kernel
theorem dX3_rowsOfMaps_8 : decode cX3_rowsOfMaps 8 = .ok (.istore 4, 2) := by decide +kernel
theorem dX3_rowsOfMaps_10 : decode cX3_rowsOfMaps 10 = .ok (.iconst 0, 1) := by decide +kernel
theorem dX3_rowsOfMaps_11 : decode cX3_rowsOfMaps 11 = .ok (.istore 5, 2) := by decide +kernel
theorem dX3_rowsOfMaps_13 : decode cX3_rowsOfMaps 13 = .ok (.iload 5, 2) := by decide +kernel
theorem dX3_rowsOfMaps_15 : decode cX3_rowsOfMaps 15 = .ok (.iload 4, 2) := by decide +kernel
theorem dX3_rowsOfMaps_17 : decode cX3_rowsOfMaps 17 = .ok (.if_icmp .ge 67, 3) := by decide +kernel
theorem dX3_rowsOfMaps_20 : decode cX3_rowsOfMaps 20 = .ok (.aload_n 0, 1) := by decide +kernel
theorem dX3_rowsOfMaps_21 : decode cX3_rowsOfMaps 21 = .ok (.getfield 14, 3) := by decide +kernel
theorem dX3_rowsOfMaps_24 : decode cX3_rowsOfMaps 24 = .ok (.iload_n 1, 1) := by decide +kernel
theorem dX3_rowsOfMaps_25 : decode cX3_rowsOfMaps 25 = .ok (.iload 5, 2) := by decide +kernel
theorem dX3_rowsOfMaps_27 : decode cX3_rowsOfMaps 27 = .ok (.invokevirtual 63, 3) := by decide +kernel
theorem dX3_rowsOfMaps_30 : decode cX3_rowsOfMaps 30 = .ok (.istore 6, 2) := by decide +kernel
theorem dX3_rowsOfMaps_32 : decode cX3_rowsOfMaps 32 = .ok (.aload_n 0, 1) := by decide +kernel
theorem dX3_rowsOfMaps_33 : decode cX3_rowsOfMaps 33 = .ok (.getfield 20, 3) := by decide +kernel
theorem dX3_rowsOfMaps_36 : decode cX3_rowsOfMaps 36 = .ok (.iload_n 2, 1) := by decide +kernel
theorem dX3_rowsOfMaps_37 : decode cX3_rowsOfMaps 37 = .ok (.aload_n 0, 1) := by decide +kernel
theorem dX3_rowsOfMaps_38 : decode cX3_rowsOfMaps 38 = .ok (.getfield 14, 3) := by decide +kernel
theorem dX3_rowsOfMaps_41 : decode cX3_rowsOfMaps 41 = .ok (.iload 6, 2) := by decide +kernel
theorem dX3_rowsOfMaps_43 : decode cX3_rowsOfMaps 43 = .ok (.invokevirtual 67, 3) := by decide +kernel
theorem dX3_rowsOfMaps_46 : decode cX3_rowsOfMaps 46 = .ok (.invokevirtual 70, 3) := by decide +kernel
theorem dX3_rowsOfMaps_49 : decode cX3_rowsOfMaps 49 = .ok (.istore 7, 2) := by decide +kernel
theorem dX3_rowsOfMaps_51 : decode cX3_rowsOfMaps 51 = .ok (.iload 7, 2) := by decide +kernel
theorem dX3_rowsOfMaps_53 : decode cX3_rowsOfMaps 53 = .ok (.iconst (-1), 1) := by decide +kernel
theorem dX3_rowsOfMaps_54 : decode cX3_rowsOfMaps 54 = .ok (.if_icmp .ne 13, 3) := by decide +kernel
theorem dX3_rowsOfMaps_57 : decode cX3_rowsOfMaps 57 = .ok (.aload_n 0, 1) := by decide +kernel
theorem dX3_rowsOfMaps_58 : decode cX3_rowsOfMaps 58 = .ok (.iload 6, 2) := by decide +kernel
theorem dX3_rowsOfMaps_60 : decode cX3_rowsOfMaps 60 = .ok (.iconst (-1), 1) := by decide +kernel
theorem dX3_rowsOfMaps_61 : decode cX3_rowsOfMaps 61 = .ok (.invokevirtual 56, 3) := by decide +kernel
theorem dX3_rowsOfMaps_64 : decode cX3_rowsOfMaps 64 = .ok (.goto 14, 3) := by decide +kernel
theorem dX3_rowsOfMaps_67 : decode cX3_rowsOfMaps 67 = .ok (.aload_n 0, 1) := by decide +kernel
theorem dX3_rowsOfMaps_68 : decode cX3_rowsOfMaps 68 = .ok (.iload 6, 2) := by decide +kernel
theorem dX3_rowsOfMaps_70 : decode cX3_rowsOfMaps 70 = .ok (.iload 7, 2) := by decide +kernel
theorem dX3_rowsOfMaps_72 : decode cX3_rowsOfMaps 72 = .ok (.iload_n 3, 1) := by decide +kernel
theorem dX3_rowsOfMaps_73 : decode cX3_rowsOfMaps 73 = .ok (.iconst 1, 1) := by decide +kernel
theorem dX3_rowsOfMaps_74 : decode cX3_rowsOfMaps 74 = .ok (.iadd, 1) := by decide +kernel
theorem dX3_rowsOfMaps_75 : decode cX3_rowsOfMaps 75 = .ok (.invokevirtual 38, 3) := by decide +kernel
theorem dX3_rowsOfMaps_78 : decode cX3_rowsOfMaps 78 = .ok (.iinc 5 1, 3) := by decide +kernel
theorem dX3_rowsOfMaps_81 : decode cX3_rowsOfMaps 81 = .ok (.goto (-68), 3) := by decide +kernel
theorem dX3_rowsOfMaps_84 : decode cX3_rowsOfMaps 84 = .ok (.aload_n 0, 1) := by decide +kernel
theorem dX3_rowsOfMaps_85 : decode cX3_rowsOfMaps 85 = .ok (.getfield 20, 3) := by decide +kernel
theorem dX3_rowsOfMaps_88 : decode cX3_rowsOfMaps 88 = .ok (.iload_n 2, 1) := by decide +kernel
theorem dX3_rowsOfMaps_89 : decode cX3_rowsOfMaps 89 = .ok (.invokevirtual 60, 3) := by decide +kernel
theorem dX3_rowsOfMaps_92 : decode cX3_rowsOfMaps 92 = .ok (.istore 5, 2) := by decide +kernel
theorem dX3_rowsOfMaps_94 : decode cX3_rowsOfMaps 94 = .ok (.iconst 0, 1) := by decide +kernel
theorem dX3_rowsOfMaps_95 : decode cX3_rowsOfMaps 95 = .ok (.istore 6, 2) := by decide +kernel
theorem dX3_rowsOfMaps_97 : decode cX3_rowsOfMaps 97 = .ok (.iload 6, 2) := by decide +kernel
theorem dX3_rowsOfMaps_99 : decode cX3_rowsOfMaps 99 = .ok (.iload 5, 2) := by decide +kernel
theorem dX3_rowsOfMaps_101 : decode cX3_rowsOfMaps 101 = .ok (.if_icmp .ge 49, 3) := by decide +kernel
theorem dX3_rowsOfMaps_104 : decode cX3_rowsOfMaps 104 = .ok (.aload_n 0, 1) := by decide +kernel
theorem dX3_rowsOfMaps_105 : decode cX3_rowsOfMaps 105 = .ok (.getfield 20, 3) := by decide +kernel
theorem dX3_rowsOfMaps_108 : decode cX3_rowsOfMaps 108 = .ok (.iload_n 2, 1) := by decide +kernel
theorem dX3_rowsOfMaps_109 : decode cX3_rowsOfMaps 109 = .ok (.iload 6, 2) := by decide +kernel
theorem dX3_rowsOfMaps_111 : decode cX3_rowsOfMaps 111 = .ok (.invokevirtual 63, 3) := by decide +kernel
theorem dX3_rowsOfMaps_114 : decode cX3_rowsOfMaps 114 = .ok (.istore 7, 2) := by decide +kernel
theorem dX3_rowsOfMaps_116 : decode cX3_rowsOfMaps 116 = .ok (.aload_n 0, 1) := by decide +kernel
theorem dX3_rowsOfMaps_117 : decode cX3_rowsOfMaps 117 = .ok (.getfield 14, 3) := by decide +kernel
theorem dX3_rowsOfMaps_120 : decode cX3_rowsOfMaps 120 = .ok (.iload_n 1, 1) := by decide +kernel
theorem dX3_rowsOfMaps_121 : decode cX3_rowsOfMaps 121 = .ok (.aload_n 0, 1) := by decide +kernel
theorem dX3_rowsOfMaps_122 : decode cX3_rowsOfMaps 122 = .ok (.getfield 20, 3) := by decide +kernel
theorem dX3_rowsOfMaps_125 : decode cX3_rowsOfMaps 125 = .ok (.iload 7, 2) := by decide +kernel
theorem dX3_rowsOfMaps_127 : decode cX3_rowsOfMaps 127 = .ok (.invokevirtual 67, 3) := by decide +kernel
theorem dX3_rowsOfMaps_130 : decode cX3_rowsOfMaps 130 = .ok (.invokevirtual 70, 3) := by decide +kernel
theorem dX3_rowsOfMaps_133 : decode cX3_rowsOfMaps 133 = .ok (.iconst (-1), 1) := by decide +kernel
theorem dX3_rowsOfMaps_134 : decode cX3_rowsOfMaps 134 = .ok (.if_icmp .ne 10, 3) := by decide +kernel
theorem dX3_rowsOfMaps_137 : decode cX3_rowsOfMaps 137 = .ok (.aload_n 0, 1) := by decide +kernel
theorem dX3_rowsOfMaps_138 : decode cX3_rowsOfMaps 138 = .ok (.iconst (-1), 1) := by decide +kernel
theorem dX3_rowsOfMaps_139 : decode cX3_rowsOfMaps 139 = .ok (.iload 7, 2) := by decide +kernel
theorem dX3_rowsOfMaps_141 : decode cX3_rowsOfMaps 141 = .ok (.invokevirtual 56, 3) := by decide +kernel
theorem dX3_rowsOfMaps_144 : decode cX3_rowsOfMaps 144 = .ok (.iinc 6 1, 3) := by decide +kernel
theorem dX3_rowsOfMaps_147 : decode cX3_rowsOfMaps 147 = .ok (.goto (-50), 3) := by decide +kernel
theorem dX3_rowsOfMaps_150 : decode cX3_rowsOfMaps 150 = .ok (.return_, 1) := by decide +kernel
set_option maxRecDepth 100000 in
theorem ggX3_rowsOfLists_X9_childCount : GoodIn wsX3_rowsOfLists wsX9_childCount := (gi_cons 11 rfl rfl (gi_cons 12 rfl rfl (gi_cons 13 rfl rfl (gi_cons 78 rfl rfl (gi_cons 79 rfl rfl (gi_cons 80 rfl rfl (gi_cons 81 rfl rfl (gi_cons 82 rfl rfl gi_nil))))))))
set_option maxRecDepth 20000 in
theorem gX3_rowsOfLists_X9_childCount : GoodIn wsX3_rowsOfLists (wsV RX3 60 RX9 yX9_childCount wsX9_childCount) := goodIn_app (goodIn_of _ (by decide +kernel)) ggX3_rowsOfLists_X9_childCount
set_option maxRecDepth 100000 in
theorem ggX3_rowsOfLists_X9_childAt : GoodIn wsX3_rowsOfLists wsX9_childAt := (gi_cons 17 rfl rfl (gi_cons 12 rfl rfl (gi_cons 13 rfl rfl (gi_cons 78 rfl rfl (gi_cons 79 rfl rfl (gi_cons 80 rfl rfl (gi_cons 81 rfl rfl (gi_cons 82 rfl rfl gi_nil))))))))
set_option maxRecDepth 20000 in
theorem gX3_rowsOfLists_X9_childAt : GoodIn wsX3_rowsOfLists (wsV RX3 63 RX9 yX9_childAt wsX9_childAt) := goodIn_app (goodIn_of _ (by decide +kernel)) ggX3_rowsOfLists_X9_childAt
set_option maxRecDepth 100000 in
theorem ggX3_rowsOfLists_X3_rowsOf : GoodIn wsX3_rowsOfLists wsX3_rowsOf := (gi_cons 29 rfl rfl (gi_cons 1 rfl rfl (gi_cons 2 rfl rfl (gi_cons 30 rfl rfl (gi_cons 31 rfl rfl (gi_cons 32 rfl rfl (gi_cons 10 rfl rfl (gi_cons 33 rfl rfl (gi_cons 34 rfl rfl (gi_cons 35 rfl rfl (gi_cons 36 rfl rfl (gi_cons 37 rfl rfl (gi_cons 12 rfl rfl (gi_cons 38 rfl rfl (gi_cons 39 rfl rfl (gi_cons 40 rfl rfl (gi_cons 41 rfl rfl (gi_cons 42 rfl rfl (gi_cons 43 rfl rfl (gi_cons 44 rfl rfl (gi_cons 45 rfl rfl (gi_cons 46 rfl rfl (gi_cons 47 rfl rfl (gi_cons 48 rfl rfl (gi_cons 49 rfl rfl (gi_cons 50 rfl rfl (gi_cons 51 rfl rfl (gi_cons 13 rfl rfl (gi_cons 52 rfl rfl (gi_cons 8 rfl rfl (gi_cons 9 rfl rfl (gi_cons 11 rfl rfl (gi_cons 53 rfl rfl (gi_cons 54 rfl rfl (gi_cons 55 rfl rfl (gi_cons 56 rfl rfl (gi_cons 57 rfl rfl (gi_cons 58 rfl rfl (gi_cons 59 rfl rfl (gi_cons 60 rfl rfl (gi_cons 61 rfl rfl (gi_cons 62 rfl rfl (gi_cons 63 rfl rfl (gi_cons 64 rfl rfl (gi_cons 65 rfl rfl (gi_cons 66 rfl rfl (gi_cons 21 rfl rfl (gi_cons 67 rfl rfl (gi_cons 68 rfl rfl (gi_cons 69 rfl rfl (gi_cons 22 rfl rfl (gi_cons 23 rfl rfl (gi_cons 24 rfl rfl (gi_cons 25 rfl rfl (gi_cons 26 rfl rfl (gi_cons 27 rfl rfl (gi_cons 28 rfl rfl (gi_cons 0 rfl rfl (gi_cons 3 rfl rfl (gi_cons 4 rfl rfl (gi_cons 5 rfl rfl (gi_cons 6 rfl rfl (gi_cons 7 rfl rfl (gi_cons 14 rfl rfl (gi_cons 15 rfl rfl (gi_cons 16 rfl rfl (gi_cons 17 rfl rfl (gi_cons 18 rfl rfl (gi_cons 19 rfl rfl (gi_cons 20 rfl rfl (gi_cons 70 rfl rfl (gi_cons 71 rfl rfl (gi_cons 72 rfl rfl (gi_cons 73 rfl rfl (gi_cons 74 rfl rfl (gi_cons 75 rfl rfl (gi_cons 76 rfl rfl (gi_cons 77 rfl rfl (gi_cons 78 rfl rfl (gi_cons 79 rfl rfl (gi_cons 80 rfl rfl (gi_cons 81 rfl rfl (gi_cons 82 rfl rfl gi_nil)))))))))))))))))))))))))))))))))))))))))))))))))))))))))))))))))))))))))))))))))))
set_option maxRecDepth 20000 in
theorem gX3_rowsOfLists_X3_rowsOf : GoodIn wsX3_rowsOfLists (wsV RX3 38 RX3 yX3_rowsOf wsX3_rowsOf) := goodIn_app (goodIn_of _ (by decide +kernel)) ggX3_rowsOfLists_X3_rowsOf
set_option maxRecDepth 100000 in
theorem ggX3_rowsOfLists_X3_addRow : GoodIn wsX3_rowsOfLists wsX3_addRow := (gi_cons 25 rfl rfl (gi_cons 26 rfl rfl (gi_cons 27 rfl rfl (gi_cons 28 rfl rfl (gi_cons 73 rfl rfl (gi_cons 74 rfl rfl (gi_cons 75 rfl rfl (gi_cons 76 rfl rfl (gi_cons 77 rfl rfl gi_nil)))))))))
set_option maxRecDepth 20000 in
theorem gX3_rowsOfLists_X3_addRow : GoodIn wsX3_rowsOfLists (wsV RX3 56 RX3 yX3_addRow wsX3_addRow) := goodIn_app (goodIn_of _ (by decide +kernel)) ggX3_rowsOfLists_X3_addRow
theorem dX3_rowsOfLists_0 : decode cX3_rowsOfLists 0 = .ok (.aload_n 0, 1) := by decide +kernel
theorem dX3_rowsOfLists_1 : decode cX3_rowsOfLists 1 = .ok (.getfield 14, 3) := by decide +kernel
theorem dX3_rowsOfLists_4 : decode cX3_rowsOfLists 4 = .ok (.iload_n 1, 1) := by decide +kernel
theorem dX3_rowsOfLists_5 : decode cX3_rowsOfLists 5 = .ok (.invokevirtual 60, 3) := by decide +kernel
theorem dX3_rowsOfLists_8 : decode cX3_rowsOfLists 8 = .ok (.istore 4, 2) := by decide +kernel
theorem dX3_rowsOfLists_10 : decode cX3_rowsOfLists 10 = .ok (.aload_n 0, 1) := by decide +kernel
theorem dX3_rowsOfLists_11 : decode cX3_rowsOfLists 11 = .ok (.getfield 20, 3) := by decide +kernel
theorem dX3_rowsOfLists_14 : decode cX3_rowsOfLists 14 = .ok (.iload_n 2, 1) := by decide +kernel
theorem dX3_rowsOfLists_15 : decode cX3_rowsOfLists 15 = .ok (.invokevirtual 60, 3) := by decide +kernel
theorem dX3_rowsOfLists_18 : decode cX3_rowsOfLists 18 = .ok (.istore 5, 2) := by decide +kernel
theorem dX3_rowsOfLists_20 : decode cX3_rowsOfLists 20 = .ok (.iload 4, 2) := by decide +kernel
theorem dX3_rowsOfLists_22 : decode cX3_rowsOfLists 22 = .ok (.iload 5, 2) := by decide +kernel
theorem dX3_rowsOfLists_24 : decode cX3_rowsOfLists 24 = .ok (.invokestatic 73, 3) := by decide +kernel
theorem dX3_rowsOfLists_27 : decode cX3_rowsOfLists 27 = .ok (.istore 6, 2) := by decide +kernel
theorem dX3_rowsOfLists_29 : decode cX3_rowsOfLists 29 = .ok (.iconst 0, 1) := by decide +kernel
theorem dX3_rowsOfLists_30 : decode cX3_rowsOfLists 30 = .ok (.istore 7, 2) := by decide +kernel
theorem dX3_rowsOfLists_32 : decode cX3_rowsOfLists 32 = .ok (.iload 7, 2) := by decide +kernel
theorem dX3_rowsOfLists_34 : decode cX3_rowsOfLists 34 = .ok (.iload 6, 2) := by decide +kernel
theorem dX3_rowsOfLists_36 : decode cX3_rowsOfLists 36 = .ok (.if_icmp .ge 36, 3) := by decide +kernel
theorem dX3_rowsOfLists_39 : decode cX3_rowsOfLists 39 = .ok (.aload_n 0, 1) := by decide +kernel
theorem dX3_rowsOfLists_40 : decode cX3_rowsOfLists 40 = .ok (.aload_n 0, 1) := by decide +kernel
theorem dX3_rowsOfLists_41 : decode cX3_rowsOfLists 41 = .ok (.getfield 14, 3) := by decide +kernel
theorem dX3_rowsOfLists_44 : decode cX3_rowsOfLists 44 = .ok (.iload_n 1, 1) := by decide +kernel
theorem dX3_rowsOfLists_45 : decode cX3_rowsOfLists 45 = .ok (.iload 7, 2) := by decide +kernel
theorem dX3_rowsOfLists_47 : decode cX3_rowsOfLists 47 = .ok (.invokevirtual 63, 3) := by decide +kernel
theorem dX3_rowsOfLists_50 : decode cX3_rowsOfLists 50 = .ok (.aload_n 0, 1) := by decide +kernel
theorem dX3_rowsOfLists_51 : decode cX3_rowsOfLists 51 = .ok (.getfield 20, 3) := by decide +kernel
theorem dX3_rowsOfLists_54 : decode cX3_rowsOfLists 54 = .ok (.iload_n 2, 1) := by decide +kernel
theorem dX3_rowsOfLists_55 : decode cX3_rowsOfLists 55 = .ok (.iload 7, 2) := by decide +kernel
theorem dX3_rowsOfLists_57 : decode cX3_rowsOfLists 57 = .ok (.invokevirtual 63, 3) := by decide +kernel
theorem dX3_rowsOfLists_60 : decode cX3_rowsOfLists 60 = .ok (.iload_n 3, 1) := by decide +kernel
theorem dX3_rowsOfLists_61 : decode cX3_rowsOfLists 61 = .ok (.iconst 1, 1) := by decide +kernel
theorem dX3_rowsOfLists_62 : decode cX3_rowsOfLists 62 = .ok (.iadd, 1) := by decide +kernel
theorem dX3_rowsOfLists_63 : decode cX3_rowsOfLists 63 = .ok (.invokevirtual 38, 3) := by decide +kernel
theorem dX3_rowsOfLists_66 : decode cX3_rowsOfLists 66 = .ok (.iinc 7 1, 3) := by decide +kernel
theorem dX3_rowsOfLists_69 : decode cX3_rowsOfLists 69 = .ok (.goto (-37), 3) := by decide +kernel
theorem dX3_rowsOfLists_72 : decode cX3_rowsOfLists 72 = .ok (.iload 6, 2) := by decide +kernel
theorem dX3_rowsOfLists_74 : decode cX3_rowsOfLists 74 = .ok (.istore 7, 2) := by decide +kernel
theorem dX3_rowsOfLists_76 : decode cX3_rowsOfLists 76 = .ok (.iload 7, 2) := by decide +kernel
theorem dX3_rowsOfLists_78 : decode cX3_rowsOfLists 78 = .ok (.iload 5, 2) := by decide +kernel
theorem dX3_rowsOfLists_80 : decode cX3_rowsOfLists 80 = .ok (.if_icmp .ge 24, 3) := by decide +kernel
theorem dX3_rowsOfLists_83 : decode cX3_rowsOfLists 83 = .ok (.aload_n 0, 1) := by decide +kernel
theorem dX3_rowsOfLists_84 : decode cX3_rowsOfLists 84 = .ok (.iconst (-1), 1) := by decide +kernel
theorem dX3_rowsOfLists_85 : decode cX3_rowsOfLists 85 = .ok (.aload_n 0, 1) := by decide +kernel
theorem dX3_rowsOfLists_86 : decode cX3_rowsOfLists 86 = .ok (.getfield 20, 3) := by decide +kernel
theorem dX3_rowsOfLists_89 : decode cX3_rowsOfLists 89 = .ok (.iload_n 2, 1) := by decide +kernel
theorem dX3_rowsOfLists_90 : decode cX3_rowsOfLists 90 = .ok (.iload 7, 2) := by decide +kernel
theorem dX3_rowsOfLists_92 : decode cX3_rowsOfLists 92 = .ok (.invokevirtual 63, 3) := by decide +kernel
theorem dX3_rowsOfLists_95 : decode cX3_rowsOfLists 95 = .ok (.invokevirtual 56, 3) := by decide +kernel
theorem dX3_rowsOfLists_98 : decode cX3_rowsOfLists 98 = .ok (.iinc 7 1, 3) := by decide +kernel
theorem dX3_rowsOfLists_101 : decode cX3_rowsOfLists 101 = .ok (.goto (-25), 3) := by decide +kernel
theorem dX3_rowsOfLists_104 : decode cX3_rowsOfLists 104 = .ok (.iload 4, 2) := by decide +kernel
theorem dX3_rowsOfLists_106 : decode cX3_rowsOfLists 106 = .ok (.iconst 1, 1) := by decide +kernel
theorem dX3_rowsOfLists_107 : decode cX3_rowsOfLists 107 = .ok (.isub, 1) := by decide +kernel
theorem dX3_rowsOfLists_108 : decode cX3_rowsOfLists 108 = .ok (.istore 7, 2) := by decide +kernel
theorem dX3_rowsOfLists_110 : decode cX3_rowsOfLists 110 = .ok (.iload 7, 2) := by decide +kernel
theorem dX3_rowsOfLists_112 : decode cX3_rowsOfLists 112 = .ok (.iload 6, 2) := by decide +kernel
theorem dX3_rowsOfLists_114 : decode cX3_rowsOfLists 114 = .ok (.if_icmp .lt 24, 3) := by decide +kernel
theorem dX3_rowsOfLists_117 : decode cX3_rowsOfLists 117 = .ok (.aload_n 0, 1) := by decide +kernel
theorem dX3_rowsOfLists_118 : decode cX3_rowsOfLists 118 = .ok (.aload_n 0, 1) := by decide +kernel
theorem dX3_rowsOfLists_119 : decode cX3_rowsOfLists 119 = .ok (.getfield 14, 3) := by decide +kernel
theorem dX3_rowsOfLists_122 : decode cX3_rowsOfLists 122 = .ok (.iload_n 1, 1) := by decide +kernel
theorem dX3_rowsOfLists_123 : decode cX3_rowsOfLists 123 = .ok (.iload 7, 2) := by decide +kernel
theorem dX3_rowsOfLists_125 : decode cX3_rowsOfLists 125 = .ok (.invokevirtual 63, 3) := by decide +kernel
theorem dX3_rowsOfLists_128 : decode cX3_rowsOfLists 128 = .ok (.iconst (-1), 1) := by decide +kernel
theorem dX3_rowsOfLists_129 : decode cX3_rowsOfLists 129 = .ok (.invokevirtual 56, 3) := by decide +kernel
theorem dX3_rowsOfLists_132 : decode cX3_rowsOfLists 132 = .ok (.iinc 7 (-1), 3) := by decide +kernel
theorem dX3_rowsOfLists_135 : decode cX3_rowsOfLists 135 = .ok (.goto (-25), 3) := by decide +kernel
theorem dX3_rowsOfLists_138 : decode cX3_rowsOfLists 138 = .ok (.return_, 1) := by decide +kernel
theorem dX3_wasOf_0 : decode cX3_wasOf 0 = .ok (.iload_n 1, 1) := by decide +kernel
theorem dX3_wasOf_1 : decode cX3_wasOf 1 = .ok (.ifCond .lt 11, 3) := by decide +kernel
theorem dX3_wasOf_4 : decode cX3_wasOf 4 = .ok (.iload_n 1, 1) := by decide +kernel
theorem dX3_wasOf_5 : decode cX3_wasOf 5 = .ok (.aload_n 0, 1) := by decide +kernel
theorem dX3_wasOf_6 : decode cX3_wasOf 6 = .ok (.getfield 34, 3) := by decide +kernel
theorem dX3_wasOf_9 : decode cX3_wasOf 9 = .ok (.if_icmp .lt 7, 3) := by decide +kernel
theorem dX3_wasOf_12 : decode cX3_wasOf 12 = .ok (.iconst (-1), 1) := by decide +kernel
theorem dX3_wasOf_13 : decode cX3_wasOf 13 = .ok (.goto 9, 3) := by decide +kernel
theorem dX3_wasOf_16 : decode cX3_wasOf 16 = .ok (.aload_n 0, 1) := by decide +kernel
theorem dX3_wasOf_17 : decode cX3_wasOf 17 = .ok (.getfield 23, 3) := by decide +kernel
theorem dX3_wasOf_20 : decode cX3_wasOf 20 = .ok (.iload_n 1, 1) := by decide +kernel
theorem dX3_wasOf_21 : decode cX3_wasOf 21 = .ok (.iaload, 1) := by decide +kernel
theorem dX3_wasOf_22 : decode cX3_wasOf 22 = .ok (.ireturn, 1) := by decide +kernel
theorem dX3_isOf_0 : decode cX3_isOf 0 = .ok (.iload_n 1, 1) := by decide +kernel
theorem dX3_isOf_1 : decode cX3_isOf 1 = .ok (.ifCond .lt 11, 3) := by decide +kernel
theorem dX3_isOf_4 : decode cX3_isOf 4 = .ok (.iload_n 1, 1) := by decide +kernel
theorem dX3_isOf_5 : decode cX3_isOf 5 = .ok (.aload_n 0, 1) := by decide +kernel
theorem dX3_isOf_6 : decode cX3_isOf 6 = .ok (.getfield 34, 3) := by decide +kernel
theorem dX3_isOf_9 : decode cX3_isOf 9 = .ok (.if_icmp .lt 7, 3) := by decide +kernel
theorem dX3_isOf_12 : decode cX3_isOf 12 = .ok (.iconst (-1), 1) := by decide +kernel
theorem dX3_isOf_13 : decode cX3_isOf 13 = .ok (.goto 9, 3) := by decide +kernel
theorem dX3_isOf_16 : decode cX3_isOf 16 = .ok (.aload_n 0, 1) := by decide +kernel
theorem dX3_isOf_17 : decode cX3_isOf 17 = .ok (.getfield 27, 3) := by decide +kernel
theorem dX3_isOf_20 : decode cX3_isOf 20 = .ok (.iload_n 1, 1) := by decide +kernel
theorem dX3_isOf_21 : decode cX3_isOf 21 = .ok (.iaload, 1) := by decide +kernel
theorem dX3_isOf_22 : decode cX3_isOf 22 = .ok (.ireturn, 1) := by decide +kernel
set_option maxRecDepth 100000 in
theorem ggX3_kindOf_X3_wasOf : GoodIn wsX3_kindOf wsX3_wasOf := (gi_cons 5 rfl rfl (gi_cons 6 rfl rfl (gi_cons 7 rfl rfl (gi_cons 13 rfl rfl (gi_cons 14 rfl rfl (gi_cons 15 rfl rfl (gi_cons 16 rfl rfl (gi_cons 17 rfl rfl gi_nil))))))))
set_option maxRecDepth 20000 in
theorem gX3_kindOf_X3_wasOf : GoodIn wsX3_kindOf (wsV RX3 78 RX3 yX3_wasOf wsX3_wasOf) := goodIn_app (goodIn_of _ (by decide +kernel)) ggX3_kindOf_X3_wasOf
set_option maxRecDepth 100000 in
theorem ggX3_kindOf_X3_isOf : GoodIn wsX3_kindOf wsX3_isOf := (gi_cons 11 rfl rfl (gi_cons 6 rfl rfl (gi_cons 12 rfl rfl (gi_cons 13 rfl rfl (gi_cons 14 rfl rfl (gi_cons 15 rfl rfl (gi_cons 16 rfl rfl (gi_cons 17 rfl rfl gi_nil))))))))
set_option maxRecDepth 20000 in
theorem gX3_kindOf_X3_isOf : GoodIn wsX3_kindOf (wsV RX3 81 RX3 yX3_isOf wsX3_isOf) := goodIn_app (goodIn_of _ (by decide +kernel)) ggX3_kindOf_X3_isOf
theorem dX3_kindOf_0 : decode cX3_kindOf 0 = .ok (.aload_n 0, 1) := by decide +kernel
theorem dX3_kindOf_1 : decode cX3_kindOf 1 = .ok (.iload_n 1, 1) := by decide +kernel
theorem dX3_kindOf_2 : decode cX3_kindOf 2 = .ok (.invokevirtual 78, 3) := by decide +kernel
theorem dX3_kindOf_5 : decode cX3_kindOf 5 = .ok (.iconst (-1), 1) := by decide +kernel
theorem dX3_kindOf_6 : decode cX3_kindOf 6 = .ok (.if_icmp .ne 5, 3) := by decide +kernel
theorem dX3_kindOf_9 : decode cX3_kindOf 9 = .ok (.iconst 1, 1) := by decide +kernel
theorem dX3_kindOf_10 : decode cX3_kindOf 10 = .ok (.ireturn, 1) := by decide +kernel
theorem dX3_kindOf_11 : decode cX3_kindOf 11 = .ok (.aload_n 0, 1) := by decide +kernel
theorem dX3_kindOf_12 : decode cX3_kindOf 12 = .ok (.iload_n 1, 1) := by decide +kernel
theorem dX3_kindOf_13 : decode cX3_kindOf 13 = .ok (.invokevirtual 81, 3) := by decide +kernel
theorem dX3_kindOf_16 : decode cX3_kindOf 16 = .ok (.iconst (-1), 1) := by decide +kernel
theorem dX3_kindOf_17 : decode cX3_kindOf 17 = .ok (.if_icmp .ne 7, 3) := by decide +kernel
theorem dX3_kindOf_20 : decode cX3_kindOf 20 = .ok (.iconst 2, 1) := by decide +kernel
theorem dX3_kindOf_21 : decode cX3_kindOf 21 = .ok (.goto 4, 3) := by decide +kernel
theorem dX3_kindOf_24 : decode cX3_kindOf 24 = .ok (.iconst 3, 1) := by decide +kernel
theorem dX3_kindOf_25 : decode cX3_kindOf 25 = .ok (.ireturn, 1) := by decide +kernel
set_option maxRecDepth 100000 in
theorem ggX3_stepsOf_X3_wasOf : GoodIn wsX3_stepsOf wsX3_wasOf := (gi_cons 7 rfl rfl (gi_cons 8 rfl rfl (gi_cons 9 rfl rfl (gi_cons 22 rfl rfl (gi_cons 23 rfl rfl (gi_cons 24 rfl rfl (gi_cons 25 rfl rfl (gi_cons 26 rfl rfl gi_nil))))))))
set_option maxRecDepth 20000 in
theorem gX3_stepsOf_X3_wasOf : GoodIn wsX3_stepsOf (wsV RX3 78 RX3 yX3_wasOf wsX3_wasOf) := goodIn_app (goodIn_of _ (by decide +kernel)) ggX3_stepsOf_X3_wasOf
set_option maxRecDepth 100000 in
theorem ggX3_stepsOf_X3_isOf : GoodIn wsX3_stepsOf wsX3_isOf := (gi_cons 13 rfl rfl (gi_cons 8 rfl rfl (gi_cons 14 rfl rfl (gi_cons 22 rfl rfl (gi_cons 23 rfl rfl (gi_cons 24 rfl rfl (gi_cons 25 rfl rfl (gi_cons 26 rfl rfl gi_nil))))))))
set_option maxRecDepth 20000 in
theorem gX3_stepsOf_X3_isOf : GoodIn wsX3_stepsOf (wsV RX3 81 RX3 yX3_isOf wsX3_isOf) := goodIn_app (goodIn_of _ (by decide +kernel)) ggX3_stepsOf_X3_isOf
set_option maxRecDepth 100000 in
theorem ggX3_stepsOf_X9_depthAt : GoodIn wsX3_stepsOf wsX9_depthAt := (gi_cons 19 rfl rfl (gi_cons 20 rfl rfl (gi_cons 21 rfl rfl (gi_cons 27 rfl rfl (gi_cons 28 rfl rfl (gi_cons 29 rfl rfl (gi_cons 30 rfl rfl (gi_cons 31 rfl rfl gi_nil))))))))
set_option maxRecDepth 20000 in
theorem gX3_stepsOf_X9_depthAt : GoodIn wsX3_stepsOf (wsV RX3 84 RX9 yX9_depthAt wsX9_depthAt) := goodIn_app (goodIn_of _ (by decide +kernel)) ggX3_stepsOf_X9_depthAt
theorem dX3_stepsOf_0 : decode cX3_stepsOf 0 = .ok (.aload_n 0, 1) := by decide +kernel
theorem dX3_stepsOf_1 : decode cX3_stepsOf 1 = .ok (.iload_n 1, 1) := by decide +kernel
theorem dX3_stepsOf_2 : decode cX3_stepsOf 2 = .ok (.invokevirtual 78, 3) := by decide +kernel
theorem dX3_stepsOf_5 : decode cX3_stepsOf 5 = .ok (.iconst (-1), 1) := by decide +kernel
theorem dX3_stepsOf_6 : decode cX3_stepsOf 6 = .ok (.if_icmp .ne 18, 3) := by decide +kernel
theorem dX3_stepsOf_9 : decode cX3_stepsOf 9 = .ok (.aload_n 0, 1) := by decide +kernel
theorem dX3_stepsOf_10 : decode cX3_stepsOf 10 = .ok (.getfield 20, 3) := by decide +kernel
theorem dX3_stepsOf_13 : decode cX3_stepsOf 13 = .ok (.aload_n 0, 1) := by decide +kernel
theorem dX3_stepsOf_14 : decode cX3_stepsOf 14 = .ok (.iload_n 1, 1) := by decide +kernel
theorem dX3_stepsOf_15 : decode cX3_stepsOf 15 = .ok (.invokevirtual 81, 3) := by decide +kernel
theorem dX3_stepsOf_18 : decode cX3_stepsOf 18 = .ok (.invokevirtual 84, 3) := by decide +kernel
theorem dX3_stepsOf_21 : decode cX3_stepsOf 21 = .ok (.goto 15, 3) := by decide +kernel
theorem dX3_stepsOf_24 : decode cX3_stepsOf 24 = .ok (.aload_n 0, 1) := by decide +kernel
theorem dX3_stepsOf_25 : decode cX3_stepsOf 25 = .ok (.getfield 14, 3) := by decide +kernel
theorem dX3_stepsOf_28 : decode cX3_stepsOf 28 = .ok (.aload_n 0, 1) := by decide +kernel
theorem dX3_stepsOf_29 : decode cX3_stepsOf 29 = .ok (.iload_n 1, 1) := by decide +kernel
theorem dX3_stepsOf_30 : decode cX3_stepsOf 30 = .ok (.invokevirtual 78, 3) := by decide +kernel
theorem dX3_stepsOf_33 : decode cX3_stepsOf 33 = .ok (.invokevirtual 84, 3) := by decide +kernel
theorem dX3_stepsOf_36 : decode cX3_stepsOf 36 = .ok (.ireturn, 1) := by decide +kernel
set_option maxRecDepth 100000 in
theorem ggX3_thingsBefore_X3_wasOf : GoodIn wsX3_thingsBefore wsX3_wasOf := (gi_cons 6 rfl rfl (gi_cons 7 rfl rfl (gi_cons 8 rfl rfl (gi_cons 20 rfl rfl (gi_cons 21 rfl rfl (gi_cons 22 rfl rfl (gi_cons 23 rfl rfl (gi_cons 24 rfl rfl gi_nil))))))))
set_option maxRecDepth 20000 in
theorem gX3_thingsBefore_X3_wasOf : GoodIn wsX3_thingsBefore (wsV RX3 78 RX3 yX3_wasOf wsX3_wasOf) := goodIn_app (goodIn_of _ (by decide +kernel)) ggX3_thingsBefore_X3_wasOf
set_option maxRecDepth 100000 in
theorem ggX3_thingsBefore_X9_sizeOf : GoodIn wsX3_thingsBefore wsX9_sizeOf := (gi_cons 13 rfl rfl (gi_cons 14 rfl rfl (gi_cons 15 rfl rfl (gi_cons 16 rfl rfl (gi_cons 17 rfl rfl (gi_cons 12 rfl rfl (gi_cons 18 rfl rfl (gi_cons 19 rfl rfl (gi_cons 25 rfl rfl (gi_cons 26 rfl rfl (gi_cons 27 rfl rfl (gi_cons 28 rfl rfl (gi_cons 29 rfl rfl gi_nil)))))))))))))
set_option maxRecDepth 20000 in
theorem gX3_thingsBefore_X9_sizeOf : GoodIn wsX3_thingsBefore (wsV RX3 87 RX9 yX9_sizeOf wsX9_sizeOf) := goodIn_app (goodIn_of _ (by decide +kernel)) ggX3_thingsBefore_X9_sizeOf
theorem dX3_thingsBefore_0 : decode cX3_thingsBefore 0 = .ok (.aload_n 0, 1) := by decide +kernel
theorem dX3_thingsBefore_1 : decode cX3_thingsBefore 1 = .ok (.getfield 14, 3) := by decide +kernel
theorem dX3_thingsBefore_4 : decode cX3_thingsBefore 4 = .ok (.aload_n 0, 1) := by decide +kernel
theorem dX3_thingsBefore_5 : decode cX3_thingsBefore 5 = .ok (.iload_n 1, 1) := by decide +kernel
theorem dX3_thingsBefore_6 : decode cX3_thingsBefore 6 = .ok (.invokevirtual 78, 3) := by decide +kernel
theorem dX3_thingsBefore_9 : decode cX3_thingsBefore 9 = .ok (.invokevirtual 87, 3) := by decide +kernel
theorem dX3_thingsBefore_12 : decode cX3_thingsBefore 12 = .ok (.ireturn, 1) := by decide +kernel
set_option maxRecDepth 100000 in
theorem ggX3_thingsAfter_X3_isOf : GoodIn wsX3_thingsAfter wsX3_isOf := (gi_cons 6 rfl rfl (gi_cons 7 rfl rfl (gi_cons 8 rfl rfl (gi_cons 20 rfl rfl (gi_cons 21 rfl rfl (gi_cons 22 rfl rfl (gi_cons 23 rfl rfl (gi_cons 24 rfl rfl gi_nil))))))))
set_option maxRecDepth 20000 in
theorem gX3_thingsAfter_X3_isOf : GoodIn wsX3_thingsAfter (wsV RX3 81 RX3 yX3_isOf wsX3_isOf) := goodIn_app (goodIn_of _ (by decide +kernel)) ggX3_thingsAfter_X3_isOf
set_option maxRecDepth 100000 in
theorem ggX3_thingsAfter_X9_sizeOf : GoodIn wsX3_thingsAfter wsX9_sizeOf := (gi_cons 13 rfl rfl (gi_cons 14 rfl rfl (gi_cons 15 rfl rfl (gi_cons 16 rfl rfl (gi_cons 17 rfl rfl (gi_cons 12 rfl rfl (gi_cons 18 rfl rfl (gi_cons 19 rfl rfl (gi_cons 25 rfl rfl (gi_cons 26 rfl rfl (gi_cons 27 rfl rfl (gi_cons 28 rfl rfl (gi_cons 29 rfl rfl gi_nil)))))))))))))
set_option maxRecDepth 20000 in
theorem gX3_thingsAfter_X9_sizeOf : GoodIn wsX3_thingsAfter (wsV RX3 87 RX9 yX9_sizeOf wsX9_sizeOf) := goodIn_app (goodIn_of _ (by decide +kernel)) ggX3_thingsAfter_X9_sizeOf
theorem dX3_thingsAfter_0 : decode cX3_thingsAfter 0 = .ok (.aload_n 0, 1) := by decide +kernel
theorem dX3_thingsAfter_1 : decode cX3_thingsAfter 1 = .ok (.getfield 20, 3) := by decide +kernel
theorem dX3_thingsAfter_4 : decode cX3_thingsAfter 4 = .ok (.aload_n 0, 1) := by decide +kernel
theorem dX3_thingsAfter_5 : decode cX3_thingsAfter 5 = .ok (.iload_n 1, 1) := by decide +kernel
theorem dX3_thingsAfter_6 : decode cX3_thingsAfter 6 = .ok (.invokevirtual 81, 3) := by decide +kernel
theorem dX3_thingsAfter_9 : decode cX3_thingsAfter 9 = .ok (.invokevirtual 87, 3) := by decide +kernel
theorem dX3_thingsAfter_12 : decode cX3_thingsAfter 12 = .ok (.ireturn, 1) := by decide +kernel
set_option maxRecDepth 100000 in
theorem ggX3_tellRow_X3_kindOf : GoodIn wsX3_tellRow wsX3_kindOf := (gi_cons 7 rfl rfl (gi_cons 8 rfl rfl (gi_cons 9 rfl rfl (gi_cons 10 rfl rfl (gi_cons 6 rfl rfl (gi_cons 11 rfl rfl (gi_cons 12 rfl rfl (gi_cons 13 rfl rfl (gi_cons 14 rfl rfl (gi_cons 15 rfl rfl (gi_cons 16 rfl rfl (gi_cons 17 rfl rfl (gi_cons 18 rfl rfl (gi_cons 98 rfl rfl (gi_cons 99 rfl rfl (gi_cons 100 rfl rfl (gi_cons 101 rfl rfl (gi_cons 102 rfl rfl gi_nil))))))))))))))))))
set_option maxRecDepth 20000 in
theorem gX3_tellRow_X3_kindOf : GoodIn wsX3_tellRow (wsV RX3 90 RX3 yX3_kindOf wsX3_kindOf) := goodIn_app (goodIn_of _ (by decide +kernel)) ggX3_tellRow_X3_kindOf
set_option maxRecDepth 100000 in
theorem ggX3_tellRow_X7_clear : GoodIn wsX3_tellRow wsX7_clear := (gi_cons 23 rfl rfl (gi_cons 24 rfl rfl (gi_cons 103 rfl rfl (gi_cons 104 rfl rfl gi_nil))))
set_option maxRecDepth 20000 in
theorem gX3_tellRow_X7_clear : GoodIn wsX3_tellRow (wsV RX3 93 RX7 yX7_clear wsX7_clear) := goodIn_app (goodIn_of _ (by decide +kernel)) ggX3_tellRow_X7_clear
set_option maxRecDepth 100000 in
theorem ggX3_tellRow_X7_write : GoodIn wsX3_tellRow wsX7_write := (gi_cons 28 rfl rfl (gi_cons 24 rfl rfl (gi_cons 29 rfl rfl (gi_cons 103 rfl rfl (gi_cons 104 rfl rfl gi_nil)))))
set_option maxRecDepth 20000 in
theorem gX3_tellRow_X7_write : GoodIn wsX3_tellRow (wsV RX3 98 RX7 yX7_write wsX7_write) := goodIn_app (goodIn_of _ (by decide +kernel)) ggX3_tellRow_X7_write
set_option maxRecDepth 100000 in
theorem ggX3_tellRow_X3_isOf : GoodIn wsX3_tellRow wsX3_isOf := (gi_cons 17 rfl rfl (gi_cons 12 rfl rfl (gi_cons 18 rfl rfl (gi_cons 98 rfl rfl (gi_cons 99 rfl rfl (gi_cons 100 rfl rfl (gi_cons 101 rfl rfl (gi_cons 102 rfl rfl gi_nil))))))))
set_option maxRecDepth 20000 in
theorem gX3_tellRow_X3_isOf : GoodIn wsX3_tellRow (wsV RX3 81 RX3 yX3_isOf wsX3_isOf) := goodIn_app (goodIn_of _ (by decide +kernel)) ggX3_tellRow_X3_isOf
set_option maxRecDepth 100000 in
theorem ggX3_tellRow_X7_writePath : GoodIn wsX3_tellRow wsX7_writePath := (gi_cons 33 rfl rfl (gi_cons 34 rfl rfl (gi_cons 35 rfl rfl (gi_cons 36 rfl rfl (gi_cons 37 rfl rfl (gi_cons 38 rfl rfl (gi_cons 39 rfl rfl (gi_cons 40 rfl rfl (gi_cons 41 rfl rfl (gi_cons 42 rfl rfl (gi_cons 43 rfl rfl (gi_cons 44 rfl rfl (gi_cons 45 rfl rfl (gi_cons 46 rfl rfl (gi_cons 47 rfl rfl (gi_cons 48 rfl rfl (gi_cons 49 rfl rfl (gi_cons 50 rfl rfl (gi_cons 51 rfl rfl (gi_cons 52 rfl rfl (gi_cons 53 rfl rfl (gi_cons 54 rfl rfl (gi_cons 26 rfl rfl (gi_cons 27 rfl rfl (gi_cons 22 rfl rfl (gi_cons 28 rfl rfl (gi_cons 24 rfl rfl (gi_cons 29 rfl rfl (gi_cons 55 rfl rfl (gi_cons 56 rfl rfl (gi_cons 57 rfl rfl (gi_cons 58 rfl rfl (gi_cons 59 rfl rfl (gi_cons 60 rfl rfl (gi_cons 61 rfl rfl (gi_cons 62 rfl rfl (gi_cons 63 rfl rfl (gi_cons 64 rfl rfl (gi_cons 65 rfl rfl (gi_cons 66 rfl rfl (gi_cons 67 rfl rfl (gi_cons 68 rfl rfl (gi_cons 69 rfl rfl (gi_cons 70 rfl rfl (gi_cons 71 rfl rfl (gi_cons 72 rfl rfl (gi_cons 73 rfl rfl (gi_cons 74 rfl rfl (gi_cons 75 rfl rfl (gi_cons 105 rfl rfl (gi_cons 106 rfl rfl (gi_cons 107 rfl rfl (gi_cons 108 rfl rfl (gi_cons 109 rfl rfl (gi_cons 103 rfl rfl (gi_cons 104 rfl rfl gi_nil))))))))))))))))))))))))))))))))))))))))))))))))))))))))
set_option maxRecDepth 20000 in
theorem gX3_tellRow_X7_writePath : GoodIn wsX3_tellRow (wsV RX3 101 RX7 yX7_writePath wsX7_writePath) := goodIn_app (goodIn_of _ (by decide +kernel)) ggX3_tellRow_X7_writePath
set_option maxRecDepth 100000 in
theorem ggX3_tellRow_X3_wasOf : GoodIn wsX3_tellRow wsX3_wasOf := (gi_cons 11 rfl rfl (gi_cons 12 rfl rfl (gi_cons 13 rfl rfl (gi_cons 98 rfl rfl (gi_cons 99 rfl rfl (gi_cons 100 rfl rfl (gi_cons 101 rfl rfl (gi_cons 102 rfl rfl gi_nil))))))))
set_option maxRecDepth 20000 in
theorem gX3_tellRow_X3_wasOf : GoodIn wsX3_tellRow (wsV RX3 78 RX3 yX3_wasOf wsX3_wasOf) := goodIn_app (goodIn_of _ (by decide +kernel)) ggX3_tellRow_X3_wasOf
set_option maxRecDepth 100000 in
theorem ggX3_tellRow_X7_writeThing : GoodIn wsX3_tellRow wsX7_writeThing := (gi_cons 79 rfl rfl (gi_cons 49 rfl rfl (gi_cons 50 rfl rfl (gi_cons 51 rfl rfl (gi_cons 37 rfl rfl (gi_cons 52 rfl rfl (gi_cons 39 rfl rfl (gi_cons 53 rfl rfl (gi_cons 80 rfl rfl (gi_cons 81 rfl rfl (gi_cons 82 rfl rfl (gi_cons 83 rfl rfl (gi_cons 84 rfl rfl (gi_cons 68 rfl rfl (gi_cons 69 rfl rfl (gi_cons 70 rfl rfl (gi_cons 22 rfl rfl (gi_cons 71 rfl rfl (gi_cons 72 rfl rfl (gi_cons 73 rfl rfl (gi_cons 74 rfl rfl (gi_cons 75 rfl rfl (gi_cons 54 rfl rfl (gi_cons 26 rfl rfl (gi_cons 27 rfl rfl (gi_cons 28 rfl rfl (gi_cons 24 rfl rfl (gi_cons 29 rfl rfl (gi_cons 60 rfl rfl (gi_cons 61 rfl rfl (gi_cons 62 rfl rfl (gi_cons 63 rfl rfl (gi_cons 85 rfl rfl (gi_cons 86 rfl rfl (gi_cons 87 rfl rfl (gi_cons 88 rfl rfl (gi_cons 89 rfl rfl (gi_cons 90 rfl rfl (gi_cons 91 rfl rfl (gi_cons 92 rfl rfl (gi_cons 40 rfl rfl (gi_cons 55 rfl rfl (gi_cons 56 rfl rfl (gi_cons 57 rfl rfl (gi_cons 58 rfl rfl (gi_cons 59 rfl rfl (gi_cons 93 rfl rfl (gi_cons 77 rfl rfl (gi_cons 78 rfl rfl (gi_cons 94 rfl rfl (gi_cons 95 rfl rfl (gi_cons 96 rfl rfl (gi_cons 97 rfl rfl (gi_cons 105 rfl rfl (gi_cons 106 rfl rfl (gi_cons 107 rfl rfl (gi_cons 108 rfl rfl (gi_cons 109 rfl rfl (gi_cons 103 rfl rfl (gi_cons 104 rfl rfl gi_nil))))))))))))))))))))))))))))))))))))))))))))))))))))))))))))
set_option maxRecDepth 20000 in
theorem gX3_tellRow_X7_writeThing : GoodIn wsX3_tellRow (wsV RX3 105 RX7 yX7_writeThing wsX7_writeThing) := goodIn_app (goodIn_of _ (by decide +kernel)) ggX3_tellRow_X7_writeThing
theorem dX3_tellRow_0 : decode cX3_tellRow 0 = .ok (.aload_n 0, 1) := by decide +kernel
theorem dX3_tellRow_1 : decode cX3_tellRow 1 = .ok (.iload_n 1, 1) := by decide +kernel
theorem dX3_tellRow_2 : decode cX3_tellRow 2 = .ok (.invokevirtual 90, 3) := by decide +kernel
theorem dX3_tellRow_5 : decode cX3_tellRow 5 = .ok (.istore_n 3, 1) := by decide +kernel
theorem dX3_tellRow_6 : decode cX3_tellRow 6 = .ok (.aload_n 2, 1) := by decide +kernel
theorem dX3_tellRow_7 : decode cX3_tellRow 7 = .ok (.invokevirtual 93, 3) := by decide +kernel
theorem dX3_tellRow_10 : decode cX3_tellRow 10 = .ok (.aload_n 2, 1) := by decide +kernel
theorem dX3_tellRow_11 : decode cX3_tellRow 11 = .ok (.iload_n 3, 1) := by decide +kernel
theorem dX3_tellRow_12 : decode cX3_tellRow 12 = .ok (.iconst 1, 1) := by decide +kernel
theorem dX3_tellRow_13 : decode cX3_tellRow 13 = .ok (.if_icmp .ne 8, 3) := by decide +kernel
theorem dX3_tellRow_16 : decode cX3_tellRow 16 = .ok (.bipush 43, 2) := by decide +kernel
theorem dX3_tellRow_18 : decode cX3_tellRow 18 = .ok (.goto 15, 3) := by decide +kernel
theorem dX3_tellRow_21 : decode cX3_tellRow 21 = .ok (.iload_n 3, 1) := by decide +kernel
theorem dX3_tellRow_22 : decode cX3_tellRow 22 = .ok (.iconst 2, 1) := by decide +kernel
theorem dX3_tellRow_23 : decode cX3_tellRow 23 = .ok (.if_icmp .ne 8, 3) := by decide +kernel
theorem dX3_tellRow_26 : decode cX3_tellRow 26 = .ok (.bipush 45, 2) := by decide +kernel
theorem dX3_tellRow_28 : decode cX3_tellRow 28 = .ok (.goto 5, 3) := by decide +kernel
theorem dX3_tellRow_31 : decode cX3_tellRow 31 = .ok (.bipush 61, 2) := by decide +kernel
theorem dX3_tellRow_33 : decode cX3_tellRow 33 = .ok (.invokevirtual 98, 3) := by decide +kernel
theorem dX3_tellRow_36 : decode cX3_tellRow 36 = .ok (.iload_n 3, 1) := by decide +kernel
theorem dX3_tellRow_37 : decode cX3_tellRow 37 = .ok (.iconst 1, 1) := by decide +kernel
theorem dX3_tellRow_38 : decode cX3_tellRow 38 = .ok (.if_icmp .ne 19, 3) := by decide +kernel
theorem dX3_tellRow_41 : decode cX3_tellRow 41 = .ok (.aload_n 2, 1) := by decide +kernel
theorem dX3_tellRow_42 : decode cX3_tellRow 42 = .ok (.aload_n 0, 1) := by decide +kernel
theorem dX3_tellRow_43 : decode cX3_tellRow 43 = .ok (.getfield 20, 3) := by decide +kernel
theorem dX3_tellRow_46 : decode cX3_tellRow 46 = .ok (.aload_n 0, 1) := by decide +kernel
theorem dX3_tellRow_47 : decode cX3_tellRow 47 = .ok (.iload_n 1, 1) := by decide +kernel
theorem dX3_tellRow_48 : decode cX3_tellRow 48 = .ok (.invokevirtual 81, 3) := by decide +kernel
theorem dX3_tellRow_51 : decode cX3_tellRow 51 = .ok (.invokevirtual 101, 3) := by decide +kernel
theorem dX3_tellRow_54 : decode cX3_tellRow 54 = .ok (.goto 16, 3) := by decide +kernel
theorem dX3_tellRow_57 : decode cX3_tellRow 57 = .ok (.aload_n 2, 1) := by decide +kernel
theorem dX3_tellRow_58 : decode cX3_tellRow 58 = .ok (.aload_n 0, 1) := by decide +kernel
theorem dX3_tellRow_59 : decode cX3_tellRow 59 = .ok (.getfield 14, 3) := by decide +kernel
theorem dX3_tellRow_62 : decode cX3_tellRow 62 = .ok (.aload_n 0, 1) := by decide +kernel
theorem dX3_tellRow_63 : decode cX3_tellRow 63 = .ok (.iload_n 1, 1) := by decide +kernel
theorem dX3_tellRow_64 : decode cX3_tellRow 64 = .ok (.invokevirtual 78, 3) := by decide +kernel
theorem dX3_tellRow_67 : decode cX3_tellRow 67 = .ok (.invokevirtual 101, 3) := by decide +kernel
theorem dX3_tellRow_70 : decode cX3_tellRow 70 = .ok (.iload_n 3, 1) := by decide +kernel
theorem dX3_tellRow_71 : decode cX3_tellRow 71 = .ok (.iconst 2, 1) := by decide +kernel
theorem dX3_tellRow_72 : decode cX3_tellRow 72 = .ok (.if_icmp .eq 23, 3) := by decide +kernel
theorem dX3_tellRow_75 : decode cX3_tellRow 75 = .ok (.aload_n 2, 1) := by decide +kernel
theorem dX3_tellRow_76 : decode cX3_tellRow 76 = .ok (.bipush 32, 2) := by decide +kernel
theorem dX3_tellRow_78 : decode cX3_tellRow 78 = .ok (.invokevirtual 98, 3) := by decide +kernel
theorem dX3_tellRow_81 : decode cX3_tellRow 81 = .ok (.aload_n 2, 1) := by decide +kernel
theorem dX3_tellRow_82 : decode cX3_tellRow 82 = .ok (.aload_n 0, 1) := by decide +kernel
theorem dX3_tellRow_83 : decode cX3_tellRow 83 = .ok (.getfield 20, 3) := by decide +kernel
theorem dX3_tellRow_86 : decode cX3_tellRow 86 = .ok (.aload_n 0, 1) := by decide +kernel
theorem dX3_tellRow_87 : decode cX3_tellRow 87 = .ok (.iload_n 1, 1) := by decide +kernel
theorem dX3_tellRow_88 : decode cX3_tellRow 88 = .ok (.invokevirtual 81, 3) := by decide +kernel
theorem dX3_tellRow_91 : decode cX3_tellRow 91 = .ok (.iconst 0, 1) := by decide +kernel
theorem dX3_tellRow_92 : decode cX3_tellRow 92 = .ok (.invokevirtual 105, 3) := by decide +kernel
theorem dX3_tellRow_95 : decode cX3_tellRow 95 = .ok (.return_, 1) := by decide +kernel
set_option maxRecDepth 100000 in
theorem ggX3_layOn_X3_isOf : GoodIn wsX3_layOn wsX3_isOf := (gi_cons 8 rfl rfl (gi_cons 1 rfl rfl (gi_cons 9 rfl rfl (gi_cons 118 rfl rfl (gi_cons 119 rfl rfl (gi_cons 120 rfl rfl (gi_cons 121 rfl rfl (gi_cons 122 rfl rfl gi_nil))))))))
set_option maxRecDepth 20000 in
theorem gX3_layOn_X3_isOf : GoodIn wsX3_layOn (wsV RX3 81 RX3 yX3_isOf wsX3_isOf) := goodIn_app (goodIn_of _ (by decide +kernel)) ggX3_layOn_X3_isOf
set_option maxRecDepth 100000 in
theorem ggX3_layOn_X3_wasOf : GoodIn wsX3_layOn wsX3_wasOf := (gi_cons 13 rfl rfl (gi_cons 1 rfl rfl (gi_cons 14 rfl rfl (gi_cons 118 rfl rfl (gi_cons 119 rfl rfl (gi_cons 120 rfl rfl (gi_cons 121 rfl rfl (gi_cons 122 rfl rfl gi_nil))))))))
set_option maxRecDepth 20000 in
theorem gX3_layOn_X3_wasOf : GoodIn wsX3_layOn (wsV RX3 78 RX3 yX3_wasOf wsX3_wasOf) := goodIn_app (goodIn_of _ (by decide +kernel)) ggX3_layOn_X3_wasOf
set_option maxRecDepth 100000 in
theorem ggX3_layOn_X3_layRow : GoodIn wsX3_layOn wsX3_layRow := (gi_cons 17 rfl rfl (gi_cons 18 rfl rfl (gi_cons 19 rfl rfl (gi_cons 7 rfl rfl (gi_cons 20 rfl rfl (gi_cons 21 rfl rfl (gi_cons 22 rfl rfl (gi_cons 23 rfl rfl (gi_cons 24 rfl rfl (gi_cons 25 rfl rfl (gi_cons 26 rfl rfl (gi_cons 27 rfl rfl (gi_cons 28 rfl rfl (gi_cons 29 rfl rfl (gi_cons 30 rfl rfl (gi_cons 31 rfl rfl (gi_cons 32 rfl rfl (gi_cons 33 rfl rfl (gi_cons 34 rfl rfl (gi_cons 35 rfl rfl (gi_cons 36 rfl rfl (gi_cons 37 rfl rfl (gi_cons 38 rfl rfl (gi_cons 39 rfl rfl (gi_cons 40 rfl rfl (gi_cons 41 rfl rfl (gi_cons 42 rfl rfl (gi_cons 43 rfl rfl (gi_cons 44 rfl rfl (gi_cons 45 rfl rfl (gi_cons 46 rfl rfl (gi_cons 47 rfl rfl (gi_cons 48 rfl rfl (gi_cons 49 rfl rfl (gi_cons 50 rfl rfl (gi_cons 51 rfl rfl (gi_cons 52 rfl rfl (gi_cons 53 rfl rfl (gi_cons 54 rfl rfl (gi_cons 55 rfl rfl (gi_cons 56 rfl rfl (gi_cons 57 rfl rfl (gi_cons 58 rfl rfl (gi_cons 59 rfl rfl (gi_cons 60 rfl rfl (gi_cons 61 rfl rfl (gi_cons 62 rfl rfl (gi_cons 63 rfl rfl (gi_cons 64 rfl rfl (gi_cons 65 rfl rfl (gi_cons 66 rfl rfl (gi_cons 67 rfl rfl (gi_cons 68 rfl rfl (gi_cons 69 rfl rfl (gi_cons 70 rfl rfl (gi_cons 71 rfl rfl (gi_cons 72 rfl rfl (gi_cons 73 rfl rfl (gi_cons 74 rfl rfl (gi_cons 75 rfl rfl (gi_cons 76 rfl rfl (gi_cons 77 rfl rfl (gi_cons 78 rfl rfl (gi_cons 79 rfl rfl (gi_cons 80 rfl rfl (gi_cons 81 rfl rfl (gi_cons 82 rfl rfl (gi_cons 83 rfl rfl (gi_cons 84 rfl rfl (gi_cons 85 rfl rfl (gi_cons 86 rfl rfl (gi_cons 87 rfl rfl (gi_cons 88 rfl rfl (gi_cons 89 rfl rfl (gi_cons 90 rfl rfl (gi_cons 91 rfl rfl (gi_cons 92 rfl rfl (gi_cons 93 rfl rfl (gi_cons 94 rfl rfl (gi_cons 95 rfl rfl (gi_cons 96 rfl rfl (gi_cons 97 rfl rfl (gi_cons 98 rfl rfl (gi_cons 99 rfl rfl (gi_cons 100 rfl rfl (gi_cons 101 rfl rfl (gi_cons 102 rfl rfl (gi_cons 103 rfl rfl (gi_cons 104 rfl rfl (gi_cons 105 rfl rfl (gi_cons 106 rfl rfl (gi_cons 107 rfl rfl (gi_cons 108 rfl rfl (gi_cons 109 rfl rfl (gi_cons 110 rfl rfl (gi_cons 111 rfl rfl (gi_cons 112 rfl rfl (gi_cons 113 rfl rfl (gi_cons 114 rfl rfl (gi_cons 115 rfl rfl (gi_cons 116 rfl rfl (gi_cons 117 rfl rfl (gi_cons 123 rfl rfl (gi_cons 124 rfl rfl (gi_cons 125 rfl rfl (gi_cons 126 rfl rfl (gi_cons 127 rfl rfl gi_nil)))))))))))))))))))))))))))))))))))))))))))))))))))))))))))))))))))))))))))))))))))))))))))))))))))))))))))
set_option maxRecDepth 20000 in
theorem gX3_layOn_X3_layRow : GoodIn wsX3_layOn (va_wsS RX3 109 yX3_layRow wsX3_layRow) := goodIn_app (goodIn_of _ (by decide +kernel)) ggX3_layOn_X3_layRow
theorem dX3_layOn_0 : decode cX3_layOn 0 = .ok (.iconst 1, 1) := by decide +kernel
theorem dX3_layOn_1 : decode cX3_layOn 1 = .ok (.istore_n 3, 1) := by decide +kernel
theorem dX3_layOn_2 : decode cX3_layOn 2 = .ok (.iconst 0, 1) := by decide +kernel
theorem dX3_layOn_3 : decode cX3_layOn 3 = .ok (.istore 4, 2) := by decide +kernel
theorem dX3_layOn_5 : decode cX3_layOn 5 = .ok (.iload 4, 2) := by decide +kernel
theorem dX3_layOn_7 : decode cX3_layOn 7 = .ok (.aload_n 0, 1) := by decide +kernel
theorem dX3_layOn_8 : decode cX3_layOn 8 = .ok (.getfield 34, 3) := by decide +kernel
theorem dX3_layOn_11 : decode cX3_layOn 11 = .ok (.if_icmp .ge 83, 3) := by decide +kernel
theorem dX3_layOn_14 : decode cX3_layOn 14 = .ok (.iload_n 3, 1) := by decide +kernel
theorem dX3_layOn_15 : decode cX3_layOn 15 = .ok (.ifCond .eq 79, 3) := by decide +kernel
theorem dX3_layOn_18 : decode cX3_layOn 18 = .ok (.iload_n 2, 1) := by decide +kernel
theorem dX3_layOn_19 : decode cX3_layOn 19 = .ok (.ifCond .eq 44, 3) := by decide +kernel
theorem dX3_layOn_22 : decode cX3_layOn 22 = .ok (.aload_n 1, 1) := by decide +kernel
theorem dX3_layOn_23 : decode cX3_layOn 23 = .ok (.aload_n 0, 1) := by decide +kernel
theorem dX3_layOn_24 : decode cX3_layOn 24 = .ok (.getfield 20, 3) := by decide +kernel
theorem dX3_layOn_27 : decode cX3_layOn 27 = .ok (.aload_n 0, 1) := by decide +kernel
theorem dX3_layOn_28 : decode cX3_layOn 28 = .ok (.aload_n 0, 1) := by decide +kernel
theorem dX3_layOn_29 : decode cX3_layOn 29 = .ok (.getfield 34, 3) := by decide +kernel
theorem dX3_layOn_32 : decode cX3_layOn 32 = .ok (.iconst 1, 1) := by decide +kernel
theorem dX3_layOn_33 : decode cX3_layOn 33 = .ok (.isub, 1) := by decide +kernel
theorem dX3_layOn_34 : decode cX3_layOn 34 = .ok (.iload 4, 2) := by decide +kernel
theorem dX3_layOn_36 : decode cX3_layOn 36 = .ok (.isub, 1) := by decide +kernel
theorem dX3_layOn_37 : decode cX3_layOn 37 = .ok (.invokevirtual 81, 3) := by decide +kernel
theorem dX3_layOn_40 : decode cX3_layOn 40 = .ok (.aload_n 0, 1) := by decide +kernel
theorem dX3_layOn_41 : decode cX3_layOn 41 = .ok (.getfield 14, 3) := by decide +kernel
theorem dX3_layOn_44 : decode cX3_layOn 44 = .ok (.aload_n 0, 1) := by decide +kernel
theorem dX3_layOn_45 : decode cX3_layOn 45 = .ok (.aload_n 0, 1) := by decide +kernel
theorem dX3_layOn_46 : decode cX3_layOn 46 = .ok (.getfield 34, 3) := by decide +kernel
theorem dX3_layOn_49 : decode cX3_layOn 49 = .ok (.iconst 1, 1) := by decide +kernel
theorem dX3_layOn_50 : decode cX3_layOn 50 = .ok (.isub, 1) := by decide +kernel
theorem dX3_layOn_51 : decode cX3_layOn 51 = .ok (.iload 4, 2) := by decide +kernel
theorem dX3_layOn_53 : decode cX3_layOn 53 = .ok (.isub, 1) := by decide +kernel
theorem dX3_layOn_54 : decode cX3_layOn 54 = .ok (.invokevirtual 78, 3) := by decide +kernel
theorem dX3_layOn_57 : decode cX3_layOn 57 = .ok (.invokestatic 109, 3) := by decide +kernel
theorem dX3_layOn_60 : decode cX3_layOn 60 = .ok (.goto 27, 3) := by decide +kernel
theorem dX3_layOn_63 : decode cX3_layOn 63 = .ok (.aload_n 1, 1) := by decide +kernel
theorem dX3_layOn_64 : decode cX3_layOn 64 = .ok (.aload_n 0, 1) := by decide +kernel
theorem dX3_layOn_65 : decode cX3_layOn 65 = .ok (.getfield 14, 3) := by decide +kernel
theorem dX3_layOn_68 : decode cX3_layOn 68 = .ok (.aload_n 0, 1) := by decide +kernel
theorem dX3_layOn_69 : decode cX3_layOn 69 = .ok (.iload 4, 2) := by decide +kernel
theorem dX3_layOn_71 : decode cX3_layOn 71 = .ok (.invokevirtual 78, 3) := by decide +kernel
theorem dX3_layOn_74 : decode cX3_layOn 74 = .ok (.aload_n 0, 1) := by decide +kernel
theorem dX3_layOn_75 : decode cX3_layOn 75 = .ok (.getfield 20, 3) := by decide +kernel
theorem dX3_layOn_78 : decode cX3_layOn 78 = .ok (.aload_n 0, 1) := by decide +kernel
theorem dX3_layOn_79 : decode cX3_layOn 79 = .ok (.iload 4, 2) := by decide +kernel
theorem dX3_layOn_81 : decode cX3_layOn 81 = .ok (.invokevirtual 81, 3) := by decide +kernel
theorem dX3_layOn_84 : decode cX3_layOn 84 = .ok (.invokestatic 109, 3) := by decide +kernel
theorem dX3_layOn_87 : decode cX3_layOn 87 = .ok (.istore_n 3, 1) := by decide +kernel
theorem dX3_layOn_88 : decode cX3_layOn 88 = .ok (.iinc 4 1, 3) := by decide +kernel
theorem dX3_layOn_91 : decode cX3_layOn 91 = .ok (.goto (-86), 3) := by decide +kernel
theorem dX3_layOn_94 : decode cX3_layOn 94 = .ok (.iload_n 3, 1) := by decide +kernel
theorem dX3_layOn_95 : decode cX3_layOn 95 = .ok (.ireturn, 1) := by decide +kernel
set_option maxRecDepth 100000 in
theorem ggX3_layRow_X3_layComing : GoodIn wsX3_layRow wsX3_layComing := (gi_cons 4 rfl rfl (gi_cons 5 rfl rfl (gi_cons 6 rfl rfl (gi_cons 7 rfl rfl (gi_cons 8 rfl rfl (gi_cons 9 rfl rfl (gi_cons 10 rfl rfl (gi_cons 11 rfl rfl (gi_cons 12 rfl rfl (gi_cons 13 rfl rfl (gi_cons 3 rfl rfl (gi_cons 14 rfl rfl (gi_cons 15 rfl rfl (gi_cons 16 rfl rfl (gi_cons 17 rfl rfl (gi_cons 18 rfl rfl (gi_cons 19 rfl rfl (gi_cons 20 rfl rfl (gi_cons 21 rfl rfl (gi_cons 22 rfl rfl (gi_cons 23 rfl rfl (gi_cons 24 rfl rfl (gi_cons 25 rfl rfl (gi_cons 26 rfl rfl (gi_cons 27 rfl rfl (gi_cons 28 rfl rfl (gi_cons 29 rfl rfl (gi_cons 30 rfl rfl (gi_cons 31 rfl rfl (gi_cons 32 rfl rfl (gi_cons 33 rfl rfl (gi_cons 34 rfl rfl (gi_cons 35 rfl rfl (gi_cons 36 rfl rfl (gi_cons 37 rfl rfl (gi_cons 38 rfl rfl (gi_cons 39 rfl rfl (gi_cons 40 rfl rfl (gi_cons 41 rfl rfl (gi_cons 42 rfl rfl (gi_cons 43 rfl rfl (gi_cons 44 rfl rfl (gi_cons 45 rfl rfl (gi_cons 46 rfl rfl (gi_cons 47 rfl rfl (gi_cons 48 rfl rfl (gi_cons 49 rfl rfl (gi_cons 50 rfl rfl (gi_cons 51 rfl rfl (gi_cons 52 rfl rfl (gi_cons 53 rfl rfl (gi_cons 54 rfl rfl (gi_cons 55 rfl rfl (gi_cons 56 rfl rfl (gi_cons 57 rfl rfl (gi_cons 58 rfl rfl (gi_cons 59 rfl rfl (gi_cons 60 rfl rfl (gi_cons 61 rfl rfl (gi_cons 62 rfl rfl (gi_cons 63 rfl rfl (gi_cons 64 rfl rfl (gi_cons 65 rfl rfl (gi_cons 66 rfl rfl (gi_cons 67 rfl rfl (gi_cons 68 rfl rfl (gi_cons 69 rfl rfl (gi_cons 70 rfl rfl (gi_cons 71 rfl rfl (gi_cons 102 rfl rfl (gi_cons 103 rfl rfl (gi_cons 104 rfl rfl (gi_cons 105 rfl rfl (gi_cons 106 rfl rfl gi_nil))))))))))))))))))))))))))))))))))))))))))))))))))))))))))))))))))))))))))
set_option maxRecDepth 20000 in
theorem gX3_layRow_X3_layComing : GoodIn wsX3_layRow (va_wsS RX3 113 yX3_layComing wsX3_layComing) := goodIn_app (goodIn_of _ (by decide +kernel)) ggX3_layRow_X3_layComing
set_option maxRecDepth 100000 in
theorem ggX3_layRow_X9_depthAt : GoodIn wsX3_layRow wsX9_depthAt := (gi_cons 9 rfl rfl (gi_cons 10 rfl rfl (gi_cons 11 rfl rfl (gi_cons 102 rfl rfl (gi_cons 103 rfl rfl (gi_cons 104 rfl rfl (gi_cons 105 rfl rfl (gi_cons 106 rfl rfl gi_nil))))))))
set_option maxRecDepth 20000 in
theorem gX3_layRow_X9_depthAt : GoodIn wsX3_layRow (wsV RX3 84 RX9 yX9_depthAt wsX9_depthAt) := goodIn_app (goodIn_of _ (by decide +kernel)) ggX3_layRow_X9_depthAt
set_option maxRecDepth 100000 in
theorem ggX3_layRow_X3_ledTo : GoodIn wsX3_layRow wsX3_ledTo := (gi_cons 14 rfl rfl (gi_cons 15 rfl rfl (gi_cons 16 rfl rfl (gi_cons 17 rfl rfl (gi_cons 8 rfl rfl (gi_cons 18 rfl rfl (gi_cons 10 rfl rfl (gi_cons 11 rfl rfl (gi_cons 19 rfl rfl (gi_cons 20 rfl rfl (gi_cons 21 rfl rfl (gi_cons 22 rfl rfl (gi_cons 23 rfl rfl (gi_cons 24 rfl rfl (gi_cons 25 rfl rfl (gi_cons 26 rfl rfl (gi_cons 27 rfl rfl (gi_cons 28 rfl rfl (gi_cons 29 rfl rfl (gi_cons 30 rfl rfl (gi_cons 31 rfl rfl (gi_cons 32 rfl rfl (gi_cons 33 rfl rfl (gi_cons 34 rfl rfl (gi_cons 35 rfl rfl (gi_cons 36 rfl rfl (gi_cons 37 rfl rfl (gi_cons 38 rfl rfl (gi_cons 39 rfl rfl (gi_cons 40 rfl rfl (gi_cons 41 rfl rfl (gi_cons 42 rfl rfl (gi_cons 43 rfl rfl (gi_cons 44 rfl rfl (gi_cons 102 rfl rfl (gi_cons 103 rfl rfl (gi_cons 104 rfl rfl (gi_cons 105 rfl rfl (gi_cons 106 rfl rfl gi_nil)))))))))))))))))))))))))))))))))))))))
set_option maxRecDepth 20000 in
theorem gX3_layRow_X3_ledTo : GoodIn wsX3_layRow (va_wsS RX3 117 yX3_ledTo wsX3_ledTo) := goodIn_app (goodIn_of _ (by decide +kernel)) ggX3_layRow_X3_ledTo
set_option maxRecDepth 100000 in
theorem ggX3_layRow_X9_like : GoodIn wsX3_layRow wsX9_like := (gi_cons 75 rfl rfl (gi_cons 76 rfl rfl (gi_cons 24 rfl rfl (gi_cons 25 rfl rfl (gi_cons 8 rfl rfl (gi_cons 26 rfl rfl (gi_cons 10 rfl rfl (gi_cons 27 rfl rfl (gi_cons 77 rfl rfl (gi_cons 78 rfl rfl (gi_cons 79 rfl rfl (gi_cons 80 rfl rfl (gi_cons 70 rfl rfl (gi_cons 81 rfl rfl (gi_cons 82 rfl rfl (gi_cons 83 rfl rfl (gi_cons 84 rfl rfl (gi_cons 57 rfl rfl (gi_cons 50 rfl rfl (gi_cons 51 rfl rfl (gi_cons 52 rfl rfl (gi_cons 11 rfl rfl (gi_cons 85 rfl rfl (gi_cons 46 rfl rfl (gi_cons 47 rfl rfl (gi_cons 48 rfl rfl (gi_cons 86 rfl rfl (gi_cons 29 rfl rfl (gi_cons 30 rfl rfl (gi_cons 31 rfl rfl (gi_cons 32 rfl rfl (gi_cons 87 rfl rfl (gi_cons 34 rfl rfl (gi_cons 35 rfl rfl (gi_cons 36 rfl rfl (gi_cons 88 rfl rfl (gi_cons 73 rfl rfl (gi_cons 74 rfl rfl (gi_cons 102 rfl rfl (gi_cons 103 rfl rfl (gi_cons 104 rfl rfl (gi_cons 105 rfl rfl (gi_cons 106 rfl rfl gi_nil)))))))))))))))))))))))))))))))))))))))))))
set_option maxRecDepth 20000 in
theorem gX3_layRow_X9_like : GoodIn wsX3_layRow (wsV RX3 42 RX9 yX9_like wsX9_like) := goodIn_app (goodIn_of _ (by decide +kernel)) ggX3_layRow_X9_like
set_option maxRecDepth 100000 in
theorem ggX3_layRow_X9_replace : GoodIn wsX3_layRow wsX9_replace := (gi_cons 92 rfl rfl (gi_cons 71 rfl rfl (gi_cons 6 rfl rfl (gi_cons 7 rfl rfl (gi_cons 8 rfl rfl (gi_cons 9 rfl rfl (gi_cons 10 rfl rfl (gi_cons 11 rfl rfl (gi_cons 86 rfl rfl (gi_cons 29 rfl rfl (gi_cons 30 rfl rfl (gi_cons 31 rfl rfl (gi_cons 32 rfl rfl (gi_cons 93 rfl rfl (gi_cons 94 rfl rfl (gi_cons 95 rfl rfl (gi_cons 96 rfl rfl (gi_cons 81 rfl rfl (gi_cons 82 rfl rfl (gi_cons 83 rfl rfl (gi_cons 84 rfl rfl (gi_cons 57 rfl rfl (gi_cons 50 rfl rfl (gi_cons 51 rfl rfl (gi_cons 52 rfl rfl (gi_cons 62 rfl rfl (gi_cons 63 rfl rfl (gi_cons 64 rfl rfl (gi_cons 65 rfl rfl (gi_cons 27 rfl rfl (gi_cons 66 rfl rfl (gi_cons 67 rfl rfl (gi_cons 68 rfl rfl (gi_cons 69 rfl rfl (gi_cons 70 rfl rfl (gi_cons 97 rfl rfl (gi_cons 54 rfl rfl (gi_cons 55 rfl rfl (gi_cons 56 rfl rfl (gi_cons 58 rfl rfl (gi_cons 59 rfl rfl (gi_cons 60 rfl rfl (gi_cons 61 rfl rfl (gi_cons 102 rfl rfl (gi_cons 103 rfl rfl (gi_cons 104 rfl rfl (gi_cons 105 rfl rfl (gi_cons 106 rfl rfl gi_nil))))))))))))))))))))))))))))))))))))))))))))))))
set_option maxRecDepth 20000 in
theorem gX3_layRow_X9_replace : GoodIn wsX3_layRow (wsV RX3 121 RX9 yX9_replace wsX9_replace) := goodIn_app (goodIn_of _ (by decide +kernel)) ggX3_layRow_X9_replace
set_option maxRecDepth 100000 in
theorem ggX3_layRow_X3_layGoing : GoodIn wsX3_layRow wsX3_layGoing := (gi_cons 100 rfl rfl (gi_cons 19 rfl rfl (gi_cons 20 rfl rfl (gi_cons 21 rfl rfl (gi_cons 8 rfl rfl (gi_cons 22 rfl rfl (gi_cons 10 rfl rfl (gi_cons 11 rfl rfl (gi_cons 23 rfl rfl (gi_cons 24 rfl rfl (gi_cons 25 rfl rfl (gi_cons 26 rfl rfl (gi_cons 27 rfl rfl (gi_cons 49 rfl rfl (gi_cons 50 rfl rfl (gi_cons 51 rfl rfl (gi_cons 52 rfl rfl (gi_cons 101 rfl rfl (gi_cons 94 rfl rfl (gi_cons 95 rfl rfl (gi_cons 96 rfl rfl (gi_cons 81 rfl rfl (gi_cons 82 rfl rfl (gi_cons 83 rfl rfl (gi_cons 84 rfl rfl (gi_cons 57 rfl rfl (gi_cons 62 rfl rfl (gi_cons 63 rfl rfl (gi_cons 64 rfl rfl (gi_cons 65 rfl rfl (gi_cons 66 rfl rfl (gi_cons 67 rfl rfl (gi_cons 68 rfl rfl (gi_cons 69 rfl rfl (gi_cons 70 rfl rfl (gi_cons 32 rfl rfl (gi_cons 102 rfl rfl (gi_cons 103 rfl rfl (gi_cons 104 rfl rfl (gi_cons 105 rfl rfl (gi_cons 106 rfl rfl gi_nil)))))))))))))))))))))))))))))))))))))))))
set_option maxRecDepth 20000 in
theorem gX3_layRow_X3_layGoing : GoodIn wsX3_layRow (va_wsS RX3 125 yX3_layGoing wsX3_layGoing) := goodIn_app (goodIn_of _ (by decide +kernel)) ggX3_layRow_X3_layGoing
theorem dX3_layRow_0 : decode cX3_layRow 0 = .ok (.iload_n 2, 1) := by decide +kernel
theorem dX3_layRow_1 : decode cX3_layRow 1 = .ok (.iconst (-1), 1) := by decide +kernel
theorem dX3_layRow_2 : decode cX3_layRow 2 = .ok (.if_icmp .ne 11, 3) := by decide +kernel
theorem dX3_layRow_5 : decode cX3_layRow 5 = .ok (.aload_n 0, 1) := by decide +kernel
theorem dX3_layRow_6 : decode cX3_layRow 6 = .ok (.aload_n 3, 1) := by decide +kernel
theorem dX3_layRow_7 : decode cX3_layRow 7 = .ok (.iload 4, 2) := by decide +kernel
theorem dX3_layRow_9 : decode cX3_layRow 9 = .ok (.invokestatic 113, 3) := by decide +kernel
theorem dX3_layRow_12 : decode cX3_layRow 12 = .ok (.ireturn, 1) := by decide +kernel
theorem dX3_layRow_13 : decode cX3_layRow 13 = .ok (.aload_n 0, 1) := by decide +kernel
theorem dX3_layRow_14 : decode cX3_layRow 14 = .ok (.aload_n 1, 1) := by decide +kernel
theorem dX3_layRow_15 : decode cX3_layRow 15 = .ok (.iload_n 2, 1) := by decide +kernel
theorem dX3_layRow_16 : decode cX3_layRow 16 = .ok (.aload_n 1, 1) := by decide +kernel
theorem dX3_layRow_17 : decode cX3_layRow 17 = .ok (.iload_n 2, 1) := by decide +kernel
theorem dX3_layRow_18 : decode cX3_layRow 18 = .ok (.invokevirtual 84, 3) := by decide +kernel
theorem dX3_layRow_21 : decode cX3_layRow 21 = .ok (.invokestatic 117, 3) := by decide +kernel
theorem dX3_layRow_24 : decode cX3_layRow 24 = .ok (.istore 5, 2) := by decide +kernel
theorem dX3_layRow_26 : decode cX3_layRow 26 = .ok (.iload 5, 2) := by decide +kernel
theorem dX3_layRow_28 : decode cX3_layRow 28 = .ok (.iconst (-1), 1) := by decide +kernel
theorem dX3_layRow_29 : decode cX3_layRow 29 = .ok (.if_icmp .eq 15, 3) := by decide +kernel
theorem dX3_layRow_32 : decode cX3_layRow 32 = .ok (.aload_n 1, 1) := by decide +kernel
theorem dX3_layRow_33 : decode cX3_layRow 33 = .ok (.iload_n 2, 1) := by decide +kernel
theorem dX3_layRow_34 : decode cX3_layRow 34 = .ok (.aload_n 0, 1) := by decide +kernel
theorem dX3_layRow_35 : decode cX3_layRow 35 = .ok (.iload 5, 2) := by decide +kernel
theorem dX3_layRow_37 : decode cX3_layRow 37 = .ok (.iconst 0, 1) := by decide +kernel
theorem dX3_layRow_38 : decode cX3_layRow 38 = .ok (.invokevirtual 42, 3) := by decide +kernel
theorem dX3_layRow_41 : decode cX3_layRow 41 = .ok (.ifCond .ne 5, 3) := by decide +kernel
theorem dX3_layRow_44 : decode cX3_layRow 44 = .ok (.iconst 0, 1) := by decide +kernel
theorem dX3_layRow_45 : decode cX3_layRow 45 = .ok (.ireturn, 1) := by decide +kernel
theorem dX3_layRow_46 : decode cX3_layRow 46 = .ok (.iload 4, 2) := by decide +kernel
theorem dX3_layRow_48 : decode cX3_layRow 48 = .ok (.iconst (-1), 1) := by decide +kernel
theorem dX3_layRow_49 : decode cX3_layRow 49 = .ok (.if_icmp .eq 13, 3) := by decide +kernel
theorem dX3_layRow_52 : decode cX3_layRow 52 = .ok (.aload_n 0, 1) := by decide +kernel
theorem dX3_layRow_53 : decode cX3_layRow 53 = .ok (.iload 5, 2) := by decide +kernel
theorem dX3_layRow_55 : decode cX3_layRow 55 = .ok (.aload_n 3, 1) := by decide +kernel
theorem dX3_layRow_56 : decode cX3_layRow 56 = .ok (.iload 4, 2) := by decide +kernel
theorem dX3_layRow_58 : decode cX3_layRow 58 = .ok (.invokevirtual 121, 3) := by decide +kernel
theorem dX3_layRow_61 : decode cX3_layRow 61 = .ok (.ireturn, 1) := by decide +kernel
theorem dX3_layRow_62 : decode cX3_layRow 62 = .ok (.aload_n 0, 1) := by decide +kernel
theorem dX3_layRow_63 : decode cX3_layRow 63 = .ok (.iload 5, 2) := by decide +kernel
theorem dX3_layRow_65 : decode cX3_layRow 65 = .ok (.invokestatic 125, 3) := by decide +kernel
theorem dX3_layRow_68 : decode cX3_layRow 68 = .ok (.ireturn, 1) := by decide +kernel
set_option maxRecDepth 100000 in
theorem ggX3_layComing_X9_depthAt : GoodIn wsX3_layComing wsX9_depthAt := (gi_cons 5 rfl rfl (gi_cons 6 rfl rfl (gi_cons 7 rfl rfl (gi_cons 69 rfl rfl (gi_cons 70 rfl rfl (gi_cons 71 rfl rfl (gi_cons 72 rfl rfl (gi_cons 73 rfl rfl gi_nil))))))))
set_option maxRecDepth 20000 in
theorem gX3_layComing_X9_depthAt : GoodIn wsX3_layComing (wsV RX3 84 RX9 yX9_depthAt wsX9_depthAt) := goodIn_app (goodIn_of _ (by decide +kernel)) ggX3_layComing_X9_depthAt
set_option maxRecDepth 100000 in
theorem ggX3_layComing_X3_ledTo : GoodIn wsX3_layComing wsX3_ledTo := (gi_cons 11 rfl rfl (gi_cons 12 rfl rfl (gi_cons 13 rfl rfl (gi_cons 14 rfl rfl (gi_cons 4 rfl rfl (gi_cons 15 rfl rfl (gi_cons 6 rfl rfl (gi_cons 7 rfl rfl (gi_cons 16 rfl rfl (gi_cons 17 rfl rfl (gi_cons 18 rfl rfl (gi_cons 19 rfl rfl (gi_cons 20 rfl rfl (gi_cons 21 rfl rfl (gi_cons 22 rfl rfl (gi_cons 23 rfl rfl (gi_cons 24 rfl rfl (gi_cons 25 rfl rfl (gi_cons 26 rfl rfl (gi_cons 27 rfl rfl (gi_cons 28 rfl rfl (gi_cons 29 rfl rfl (gi_cons 30 rfl rfl (gi_cons 31 rfl rfl (gi_cons 32 rfl rfl (gi_cons 33 rfl rfl (gi_cons 34 rfl rfl (gi_cons 35 rfl rfl (gi_cons 36 rfl rfl (gi_cons 37 rfl rfl (gi_cons 38 rfl rfl (gi_cons 39 rfl rfl (gi_cons 40 rfl rfl (gi_cons 41 rfl rfl (gi_cons 69 rfl rfl (gi_cons 70 rfl rfl (gi_cons 71 rfl rfl (gi_cons 72 rfl rfl (gi_cons 73 rfl rfl gi_nil)))))))))))))))))))))))))))))))))))))))
set_option maxRecDepth 20000 in
theorem gX3_layComing_X3_ledTo : GoodIn wsX3_layComing (va_wsS RX3 117 yX3_ledTo wsX3_ledTo) := goodIn_app (goodIn_of _ (by decide +kernel)) ggX3_layComing_X3_ledTo
set_option maxRecDepth 100000 in
theorem ggX3_layComing_X9_parentOf : GoodIn wsX3_layComing wsX9_parentOf := (gi_cons 19 rfl rfl (gi_cons 6 rfl rfl (gi_cons 7 rfl rfl (gi_cons 69 rfl rfl (gi_cons 70 rfl rfl (gi_cons 71 rfl rfl (gi_cons 72 rfl rfl (gi_cons 73 rfl rfl gi_nil))))))))
set_option maxRecDepth 20000 in
theorem gX3_layComing_X9_parentOf : GoodIn wsX3_layComing (wsV RX3 129 RX9 yX9_parentOf wsX9_parentOf) := goodIn_app (goodIn_of _ (by decide +kernel)) ggX3_layComing_X9_parentOf
set_option maxRecDepth 100000 in
theorem ggX3_layComing_X9_kindAt : GoodIn wsX3_layComing wsX9_kindAt := (gi_cons 23 rfl rfl (gi_cons 6 rfl rfl (gi_cons 24 rfl rfl (gi_cons 69 rfl rfl (gi_cons 70 rfl rfl (gi_cons 71 rfl rfl (gi_cons 72 rfl rfl (gi_cons 73 rfl rfl gi_nil))))))))
set_option maxRecDepth 20000 in
theorem gX3_layComing_X9_kindAt : GoodIn wsX3_layComing (wsV RX3 46 RX9 yX9_kindAt wsX9_kindAt) := goodIn_app (goodIn_of _ (by decide +kernel)) ggX3_layComing_X9_kindAt
set_option maxRecDepth 100000 in
theorem ggX3_layComing_X9_keyAt : GoodIn wsX3_layComing wsX9_keyAt := (gi_cons 28 rfl rfl (gi_cons 6 rfl rfl (gi_cons 29 rfl rfl (gi_cons 69 rfl rfl (gi_cons 70 rfl rfl (gi_cons 71 rfl rfl (gi_cons 72 rfl rfl (gi_cons 73 rfl rfl gi_nil))))))))
set_option maxRecDepth 20000 in
theorem gX3_layComing_X9_keyAt : GoodIn wsX3_layComing (wsV RX3 67 RX9 yX9_keyAt wsX9_keyAt) := goodIn_app (goodIn_of _ (by decide +kernel)) ggX3_layComing_X9_keyAt
set_option maxRecDepth 100000 in
theorem ggX3_layComing_X9_childBy : GoodIn wsX3_layComing wsX9_childBy := (gi_cons 33 rfl rfl (gi_cons 6 rfl rfl (gi_cons 24 rfl rfl (gi_cons 7 rfl rfl (gi_cons 29 rfl rfl (gi_cons 69 rfl rfl (gi_cons 70 rfl rfl (gi_cons 71 rfl rfl (gi_cons 72 rfl rfl (gi_cons 73 rfl rfl gi_nil))))))))))
set_option maxRecDepth 20000 in
theorem gX3_layComing_X9_childBy : GoodIn wsX3_layComing (wsV RX3 70 RX9 yX9_childBy wsX9_childBy) := goodIn_app (goodIn_of _ (by decide +kernel)) ggX3_layComing_X9_childBy
set_option maxRecDepth 100000 in
theorem ggX3_layComing_X9_childCount : GoodIn wsX3_layComing wsX9_childCount := (gi_cons 45 rfl rfl (gi_cons 6 rfl rfl (gi_cons 7 rfl rfl (gi_cons 69 rfl rfl (gi_cons 70 rfl rfl (gi_cons 71 rfl rfl (gi_cons 72 rfl rfl (gi_cons 73 rfl rfl gi_nil))))))))
set_option maxRecDepth 20000 in
theorem gX3_layComing_X9_childCount : GoodIn wsX3_layComing (wsV RX3 60 RX9 yX9_childCount wsX9_childCount) := goodIn_app (goodIn_of _ (by decide +kernel)) ggX3_layComing_X9_childCount
set_option maxRecDepth 100000 in
theorem ggX3_layComing_X9_placeOf : GoodIn wsX3_layComing wsX9_placeOf := (gi_cons 37 rfl rfl (gi_cons 6 rfl rfl (gi_cons 7 rfl rfl (gi_cons 69 rfl rfl (gi_cons 70 rfl rfl (gi_cons 71 rfl rfl (gi_cons 72 rfl rfl (gi_cons 73 rfl rfl gi_nil))))))))
set_option maxRecDepth 20000 in
theorem gX3_layComing_X9_placeOf : GoodIn wsX3_layComing (wsV RX3 132 RX9 yX9_placeOf wsX9_placeOf) := goodIn_app (goodIn_of _ (by decide +kernel)) ggX3_layComing_X9_placeOf
set_option maxRecDepth 100000 in
theorem ggX3_layComing_X9_end : GoodIn wsX3_layComing wsX9_end := (gi_cons 49 rfl rfl (gi_cons 6 rfl rfl (gi_cons 7 rfl rfl (gi_cons 69 rfl rfl (gi_cons 70 rfl rfl (gi_cons 71 rfl rfl (gi_cons 72 rfl rfl (gi_cons 73 rfl rfl gi_nil))))))))
set_option maxRecDepth 20000 in
theorem gX3_layComing_X9_end : GoodIn wsX3_layComing (wsV RX3 135 RX9 yX9_end wsX9_end) := goodIn_app (goodIn_of _ (by decide +kernel)) ggX3_layComing_X9_end
set_option maxRecDepth 100000 in
theorem ggX3_layComing_X9_graft : GoodIn wsX3_layComing wsX9_graft := (gi_cons 53 rfl rfl (gi_cons 6 rfl rfl (gi_cons 24 rfl rfl (gi_cons 7 rfl rfl (gi_cons 29 rfl rfl (gi_cons 54 rfl rfl (gi_cons 47 rfl rfl (gi_cons 48 rfl rfl (gi_cons 4 rfl rfl (gi_cons 49 rfl rfl (gi_cons 55 rfl rfl (gi_cons 56 rfl rfl (gi_cons 57 rfl rfl (gi_cons 58 rfl rfl (gi_cons 59 rfl rfl (gi_cons 60 rfl rfl (gi_cons 61 rfl rfl (gi_cons 62 rfl rfl (gi_cons 63 rfl rfl (gi_cons 64 rfl rfl (gi_cons 65 rfl rfl (gi_cons 66 rfl rfl (gi_cons 67 rfl rfl (gi_cons 68 rfl rfl (gi_cons 2 rfl rfl (gi_cons 3 rfl rfl (gi_cons 5 rfl rfl (gi_cons 69 rfl rfl (gi_cons 70 rfl rfl (gi_cons 71 rfl rfl (gi_cons 72 rfl rfl (gi_cons 73 rfl rfl gi_nil))))))))))))))))))))))))))))))))
set_option maxRecDepth 20000 in
theorem gX3_layComing_X9_graft : GoodIn wsX3_layComing (wsV RX3 138 RX9 yX9_graft wsX9_graft) := goodIn_app (goodIn_of _ (by decide +kernel)) ggX3_layComing_X9_graft
theorem dX3_layComing_0 : decode cX3_layComing 0 = .ok (.aload_n 1, 1) := by decide +kernel
theorem dX3_layComing_1 : decode cX3_layComing 1 = .ok (.iload_n 2, 1) := by decide +kernel
theorem dX3_layComing_2 : decode cX3_layComing 2 = .ok (.invokevirtual 84, 3) := by decide +kernel
theorem dX3_layComing_5 : decode cX3_layComing 5 = .ok (.istore_n 3, 1) := by decide +kernel
theorem dX3_layComing_6 : decode cX3_layComing 6 = .ok (.iload_n 3, 1) := by decide +kernel
theorem dX3_layComing_7 : decode cX3_layComing 7 = .ok (.iconst 1, 1) := by decide +kernel
theorem dX3_layComing_8 : decode cX3_layComing 8 = .ok (.if_icmp .ge 5, 3) := by decide +kernel
theorem dX3_layComing_11 : decode cX3_layComing 11 = .ok (.iconst 0, 1) := by decide +kernel
theorem dX3_layComing_12 : decode cX3_layComing 12 = .ok (.ireturn, 1) := by decide +kernel
theorem dX3_layComing_13 : decode cX3_layComing 13 = .ok (.aload_n 0, 1) := by decide +kernel
theorem dX3_layComing_14 : decode cX3_layComing 14 = .ok (.aload_n 1, 1) := by decide +kernel
theorem dX3_layComing_15 : decode cX3_layComing 15 = .ok (.iload_n 2, 1) := by decide +kernel
theorem dX3_layComing_16 : decode cX3_layComing 16 = .ok (.iload_n 3, 1) := by decide +kernel
theorem dX3_layComing_17 : decode cX3_layComing 17 = .ok (.iconst 1, 1) := by decide +kernel
theorem dX3_layComing_18 : decode cX3_layComing 18 = .ok (.isub, 1) := by decide +kernel
theorem dX3_layComing_19 : decode cX3_layComing 19 = .ok (.invokestatic 117, 3) := by decide +kernel
theorem dX3_layComing_22 : decode cX3_layComing 22 = .ok (.istore 4, 2) := by decide +kernel
theorem dX3_layComing_24 : decode cX3_layComing 24 = .ok (.aload_n 1, 1) := by decide +kernel
theorem dX3_layComing_25 : decode cX3_layComing 25 = .ok (.aload_n 1, 1) := by decide +kernel
theorem dX3_layComing_26 : decode cX3_layComing 26 = .ok (.iload_n 2, 1) := by decide +kernel
theorem dX3_layComing_27 : decode cX3_layComing 27 = .ok (.invokevirtual 129, 3) := by decide +kernel
theorem dX3_layComing_30 : decode cX3_layComing 30 = .ok (.invokevirtual 46, 3) := by decide +kernel
theorem dX3_layComing_33 : decode cX3_layComing 33 = .ok (.istore 5, 2) := by decide +kernel
theorem dX3_layComing_35 : decode cX3_layComing 35 = .ok (.iload 4, 2) := by decide +kernel
theorem dX3_layComing_37 : decode cX3_layComing 37 = .ok (.iconst (-1), 1) := by decide +kernel
theorem dX3_layComing_38 : decode cX3_layComing 38 = .ok (.if_icmp .eq 14, 3) := by decide +kernel
theorem dX3_layComing_41 : decode cX3_layComing 41 = .ok (.aload_n 0, 1) := by decide +kernel
theorem dX3_layComing_42 : decode cX3_layComing 42 = .ok (.iload 4, 2) := by decide +kernel
theorem dX3_layComing_44 : decode cX3_layComing 44 = .ok (.invokevirtual 46, 3) := by decide +kernel
theorem dX3_layComing_47 : decode cX3_layComing 47 = .ok (.iload 5, 2) := by decide +kernel
theorem dX3_layComing_49 : decode cX3_layComing 49 = .ok (.if_icmp .eq 5, 3) := by decide +kernel
theorem dX3_layComing_52 : decode cX3_layComing 52 = .ok (.iconst 0, 1) := by decide +kernel
theorem dX3_layComing_53 : decode cX3_layComing 53 = .ok (.ireturn, 1) := by decide +kernel
theorem dX3_layComing_54 : decode cX3_layComing 54 = .ok (.iload 5, 2) := by decide +kernel
theorem dX3_layComing_56 : decode cX3_layComing 56 = .ok (.iconst 3, 1) := by decide +kernel
theorem dX3_layComing_57 : decode cX3_layComing 57 = .ok (.if_icmp .ne 26, 3) := by decide +kernel
theorem dX3_layComing_60 : decode cX3_layComing 60 = .ok (.aload_n 0, 1) := by decide +kernel
theorem dX3_layComing_61 : decode cX3_layComing 61 = .ok (.iload 4, 2) := by decide +kernel
theorem dX3_layComing_63 : decode cX3_layComing 63 = .ok (.aload_n 1, 1) := by decide +kernel
theorem dX3_layComing_64 : decode cX3_layComing 64 = .ok (.iload_n 2, 1) := by decide +kernel
theorem dX3_layComing_65 : decode cX3_layComing 65 = .ok (.invokevirtual 67, 3) := by decide +kernel
theorem dX3_layComing_68 : decode cX3_layComing 68 = .ok (.invokevirtual 70, 3) := by decide +kernel
theorem dX3_layComing_71 : decode cX3_layComing 71 = .ok (.iconst (-1), 1) := by decide +kernel
theorem dX3_layComing_72 : decode cX3_layComing 72 = .ok (.if_icmp .ne 7, 3) := by decide +kernel
theorem dX3_layComing_75 : decode cX3_layComing 75 = .ok (.iconst 1, 1) := by decide +kernel
theorem dX3_layComing_76 : decode cX3_layComing 76 = .ok (.goto 26, 3) := by decide +kernel
theorem dX3_layComing_79 : decode cX3_layComing 79 = .ok (.iconst 0, 1) := by decide +kernel
theorem dX3_layComing_80 : decode cX3_layComing 80 = .ok (.goto 22, 3) := by decide +kernel
theorem dX3_layComing_83 : decode cX3_layComing 83 = .ok (.aload_n 0, 1) := by decide +kernel
theorem dX3_layComing_84 : decode cX3_layComing 84 = .ok (.iload 4, 2) := by decide +kernel
theorem dX3_layComing_86 : decode cX3_layComing 86 = .ok (.invokevirtual 60, 3) := by decide +kernel
theorem dX3_layComing_89 : decode cX3_layComing 89 = .ok (.aload_n 1, 1) := by decide +kernel
theorem dX3_layComing_90 : decode cX3_layComing 90 = .ok (.iload_n 2, 1) := by decide +kernel
theorem dX3_layComing_91 : decode cX3_layComing 91 = .ok (.invokevirtual 132, 3) := by decide +kernel
theorem dX3_layComing_94 : decode cX3_layComing 94 = .ok (.if_icmp .ne 7, 3) := by decide +kernel
theorem dX3_layComing_97 : decode cX3_layComing 97 = .ok (.iconst 1, 1) := by decide +kernel
theorem dX3_layComing_98 : decode cX3_layComing 98 = .ok (.goto 4, 3) := by decide +kernel
theorem dX3_layComing_101 : decode cX3_layComing 101 = .ok (.iconst 0, 1) := by decide +kernel
theorem dX3_layComing_102 : decode cX3_layComing 102 = .ok (.istore 6, 2) := by decide +kernel
theorem dX3_layComing_104 : decode cX3_layComing 104 = .ok (.iload 6, 2) := by decide +kernel
theorem dX3_layComing_106 : decode cX3_layComing 106 = .ok (.ifCond .eq 30, 3) := by decide +kernel
theorem dX3_layComing_109 : decode cX3_layComing 109 = .ok (.aload_n 0, 1) := by decide +kernel
theorem dX3_layComing_110 : decode cX3_layComing 110 = .ok (.aload_n 0, 1) := by decide +kernel
theorem dX3_layComing_111 : decode cX3_layComing 111 = .ok (.iload 4, 2) := by decide +kernel
theorem dX3_layComing_113 : decode cX3_layComing 113 = .ok (.invokevirtual 135, 3) := by decide +kernel
theorem dX3_layComing_116 : decode cX3_layComing 116 = .ok (.iconst 1, 1) := by decide +kernel
theorem dX3_layComing_117 : decode cX3_layComing 117 = .ok (.iadd, 1) := by decide +kernel
theorem dX3_layComing_118 : decode cX3_layComing 118 = .ok (.iload_n 3, 1) := by decide +kernel
theorem dX3_layComing_119 : decode cX3_layComing 119 = .ok (.aload_n 1, 1) := by decide +kernel
theorem dX3_layComing_120 : decode cX3_layComing 120 = .ok (.iload_n 2, 1) := by decide +kernel
theorem dX3_layComing_121 : decode cX3_layComing 121 = .ok (.invokevirtual 67, 3) := by decide +kernel
theorem dX3_layComing_124 : decode cX3_layComing 124 = .ok (.aload_n 1, 1) := by decide +kernel
theorem dX3_layComing_125 : decode cX3_layComing 125 = .ok (.iload_n 2, 1) := by decide +kernel
theorem dX3_layComing_126 : decode cX3_layComing 126 = .ok (.invokevirtual 138, 3) := by decide +kernel
theorem dX3_layComing_129 : decode cX3_layComing 129 = .ok (.ifCond .eq 7, 3) := by decide +kernel
theorem dX3_layComing_132 : decode cX3_layComing 132 = .ok (.iconst 1, 1) := by decide +kernel
theorem dX3_layComing_133 : decode cX3_layComing 133 = .ok (.goto 4, 3) := by decide +kernel
theorem dX3_layComing_136 : decode cX3_layComing 136 = .ok (.iconst 0, 1) := by decide +kernel
theorem dX3_layComing_137 : decode cX3_layComing 137 = .ok (.ireturn, 1) := by decide +kernel
set_option maxRecDepth 100000 in
theorem ggX3_layGoing_X9_parentOf : GoodIn wsX3_layGoing wsX9_parentOf := (gi_cons 5 rfl rfl (gi_cons 6 rfl rfl (gi_cons 7 rfl rfl (gi_cons 36 rfl rfl (gi_cons 37 rfl rfl (gi_cons 38 rfl rfl (gi_cons 39 rfl rfl (gi_cons 40 rfl rfl gi_nil))))))))
set_option maxRecDepth 20000 in
theorem gX3_layGoing_X9_parentOf : GoodIn wsX3_layGoing (wsV RX3 129 RX9 yX9_parentOf wsX9_parentOf) := goodIn_app (goodIn_of _ (by decide +kernel)) ggX3_layGoing_X9_parentOf
set_option maxRecDepth 100000 in
theorem ggX3_layGoing_X9_kindAt : GoodIn wsX3_layGoing wsX9_kindAt := (gi_cons 11 rfl rfl (gi_cons 6 rfl rfl (gi_cons 12 rfl rfl (gi_cons 36 rfl rfl (gi_cons 37 rfl rfl (gi_cons 38 rfl rfl (gi_cons 39 rfl rfl (gi_cons 40 rfl rfl gi_nil))))))))
set_option maxRecDepth 20000 in
theorem gX3_layGoing_X9_kindAt : GoodIn wsX3_layGoing (wsV RX3 46 RX9 yX9_kindAt wsX9_kindAt) := goodIn_app (goodIn_of _ (by decide +kernel)) ggX3_layGoing_X9_kindAt
set_option maxRecDepth 100000 in
theorem ggX3_layGoing_X9_end : GoodIn wsX3_layGoing wsX9_end := (gi_cons 16 rfl rfl (gi_cons 6 rfl rfl (gi_cons 7 rfl rfl (gi_cons 36 rfl rfl (gi_cons 37 rfl rfl (gi_cons 38 rfl rfl (gi_cons 39 rfl rfl (gi_cons 40 rfl rfl gi_nil))))))))
set_option maxRecDepth 20000 in
theorem gX3_layGoing_X9_end : GoodIn wsX3_layGoing (wsV RX3 135 RX9 yX9_end wsX9_end) := goodIn_app (goodIn_of _ (by decide +kernel)) ggX3_layGoing_X9_end
set_option maxRecDepth 100000 in
theorem ggX3_layGoing_X9_cut : GoodIn wsX3_layGoing wsX9_cut := (gi_cons 20 rfl rfl (gi_cons 6 rfl rfl (gi_cons 21 rfl rfl (gi_cons 22 rfl rfl (gi_cons 23 rfl rfl (gi_cons 4 rfl rfl (gi_cons 24 rfl rfl (gi_cons 25 rfl rfl (gi_cons 14 rfl rfl (gi_cons 15 rfl rfl (gi_cons 16 rfl rfl (gi_cons 7 rfl rfl (gi_cons 26 rfl rfl (gi_cons 27 rfl rfl (gi_cons 28 rfl rfl (gi_cons 29 rfl rfl (gi_cons 12 rfl rfl (gi_cons 30 rfl rfl (gi_cons 31 rfl rfl (gi_cons 32 rfl rfl (gi_cons 33 rfl rfl (gi_cons 34 rfl rfl (gi_cons 35 rfl rfl (gi_cons 36 rfl rfl (gi_cons 37 rfl rfl (gi_cons 38 rfl rfl (gi_cons 39 rfl rfl (gi_cons 40 rfl rfl gi_nil))))))))))))))))))))))))))))
set_option maxRecDepth 20000 in
theorem gX3_layGoing_X9_cut : GoodIn wsX3_layGoing (wsV RX3 142 RX9 yX9_cut wsX9_cut) := goodIn_app (goodIn_of _ (by decide +kernel)) ggX3_layGoing_X9_cut
theorem dX3_layGoing_0 : decode cX3_layGoing 0 = .ok (.aload_n 0, 1) := by decide +kernel
theorem dX3_layGoing_1 : decode cX3_layGoing 1 = .ok (.iload_n 1, 1) := by decide +kernel
theorem dX3_layGoing_2 : decode cX3_layGoing 2 = .ok (.invokevirtual 129, 3) := by decide +kernel
theorem dX3_layGoing_5 : decode cX3_layGoing 5 = .ok (.istore_n 2, 1) := by decide +kernel
theorem dX3_layGoing_6 : decode cX3_layGoing 6 = .ok (.iload_n 2, 1) := by decide +kernel
theorem dX3_layGoing_7 : decode cX3_layGoing 7 = .ok (.iconst (-1), 1) := by decide +kernel
theorem dX3_layGoing_8 : decode cX3_layGoing 8 = .ok (.if_icmp .eq 25, 3) := by decide +kernel
theorem dX3_layGoing_11 : decode cX3_layGoing 11 = .ok (.aload_n 0, 1) := by decide +kernel
theorem dX3_layGoing_12 : decode cX3_layGoing 12 = .ok (.iload_n 2, 1) := by decide +kernel
theorem dX3_layGoing_13 : decode cX3_layGoing 13 = .ok (.invokevirtual 46, 3) := by decide +kernel
theorem dX3_layGoing_16 : decode cX3_layGoing 16 = .ok (.iconst 2, 1) := by decide +kernel
theorem dX3_layGoing_17 : decode cX3_layGoing 17 = .ok (.if_icmp .ne 18, 3) := by decide +kernel
theorem dX3_layGoing_20 : decode cX3_layGoing 20 = .ok (.aload_n 0, 1) := by decide +kernel
theorem dX3_layGoing_21 : decode cX3_layGoing 21 = .ok (.iload_n 2, 1) := by decide +kernel
theorem dX3_layGoing_22 : decode cX3_layGoing 22 = .ok (.invokevirtual 135, 3) := by decide +kernel
theorem dX3_layGoing_25 : decode cX3_layGoing 25 = .ok (.aload_n 0, 1) := by decide +kernel
theorem dX3_layGoing_26 : decode cX3_layGoing 26 = .ok (.iload_n 1, 1) := by decide +kernel
theorem dX3_layGoing_27 : decode cX3_layGoing 27 = .ok (.invokevirtual 135, 3) := by decide +kernel
theorem dX3_layGoing_30 : decode cX3_layGoing 30 = .ok (.if_icmp .eq 5, 3) := by decide +kernel
theorem dX3_layGoing_33 : decode cX3_layGoing 33 = .ok (.iconst 0, 1) := by decide +kernel
theorem dX3_layGoing_34 : decode cX3_layGoing 34 = .ok (.ireturn, 1) := by decide +kernel
theorem dX3_layGoing_35 : decode cX3_layGoing 35 = .ok (.aload_n 0, 1) := by decide +kernel
theorem dX3_layGoing_36 : decode cX3_layGoing 36 = .ok (.iload_n 1, 1) := by decide +kernel
theorem dX3_layGoing_37 : decode cX3_layGoing 37 = .ok (.invokevirtual 142, 3) := by decide +kernel
theorem dX3_layGoing_40 : decode cX3_layGoing 40 = .ok (.iconst 1, 1) := by decide +kernel
theorem dX3_layGoing_41 : decode cX3_layGoing 41 = .ok (.ireturn, 1) := by decide +kernel
set_option maxRecDepth 100000 in
theorem ggX3_ledTo_X9_ancestorAt : GoodIn wsX3_ledTo wsX9_ancestorAt := (gi_cons 5 rfl rfl (gi_cons 6 rfl rfl (gi_cons 7 rfl rfl (gi_cons 34 rfl rfl (gi_cons 35 rfl rfl (gi_cons 36 rfl rfl (gi_cons 37 rfl rfl (gi_cons 38 rfl rfl gi_nil))))))))
set_option maxRecDepth 20000 in
theorem gX3_ledTo_X9_ancestorAt : GoodIn wsX3_ledTo (wsV RX3 145 RX9 yX9_ancestorAt wsX9_ancestorAt) := goodIn_app (goodIn_of _ (by decide +kernel)) ggX3_ledTo_X9_ancestorAt
set_option maxRecDepth 100000 in
theorem ggX3_ledTo_X9_parentOf : GoodIn wsX3_ledTo wsX9_parentOf := (gi_cons 11 rfl rfl (gi_cons 6 rfl rfl (gi_cons 7 rfl rfl (gi_cons 34 rfl rfl (gi_cons 35 rfl rfl (gi_cons 36 rfl rfl (gi_cons 37 rfl rfl (gi_cons 38 rfl rfl gi_nil))))))))
set_option maxRecDepth 20000 in
theorem gX3_ledTo_X9_parentOf : GoodIn wsX3_ledTo (wsV RX3 129 RX9 yX9_parentOf wsX9_parentOf) := goodIn_app (goodIn_of _ (by decide +kernel)) ggX3_ledTo_X9_parentOf
set_option maxRecDepth 100000 in
theorem ggX3_ledTo_X9_kindAt : GoodIn wsX3_ledTo wsX9_kindAt := (gi_cons 15 rfl rfl (gi_cons 6 rfl rfl (gi_cons 16 rfl rfl (gi_cons 34 rfl rfl (gi_cons 35 rfl rfl (gi_cons 36 rfl rfl (gi_cons 37 rfl rfl (gi_cons 38 rfl rfl gi_nil))))))))
set_option maxRecDepth 20000 in
theorem gX3_ledTo_X9_kindAt : GoodIn wsX3_ledTo (wsV RX3 46 RX9 yX9_kindAt wsX9_kindAt) := goodIn_app (goodIn_of _ (by decide +kernel)) ggX3_ledTo_X9_kindAt
set_option maxRecDepth 100000 in
theorem ggX3_ledTo_X9_keyAt : GoodIn wsX3_ledTo wsX9_keyAt := (gi_cons 20 rfl rfl (gi_cons 6 rfl rfl (gi_cons 21 rfl rfl (gi_cons 34 rfl rfl (gi_cons 35 rfl rfl (gi_cons 36 rfl rfl (gi_cons 37 rfl rfl (gi_cons 38 rfl rfl gi_nil))))))))
set_option maxRecDepth 20000 in
theorem gX3_ledTo_X9_keyAt : GoodIn wsX3_ledTo (wsV RX3 67 RX9 yX9_keyAt wsX9_keyAt) := goodIn_app (goodIn_of _ (by decide +kernel)) ggX3_ledTo_X9_keyAt
set_option maxRecDepth 100000 in
theorem ggX3_ledTo_X9_childBy : GoodIn wsX3_ledTo wsX9_childBy := (gi_cons 25 rfl rfl (gi_cons 6 rfl rfl (gi_cons 16 rfl rfl (gi_cons 7 rfl rfl (gi_cons 21 rfl rfl (gi_cons 34 rfl rfl (gi_cons 35 rfl rfl (gi_cons 36 rfl rfl (gi_cons 37 rfl rfl (gi_cons 38 rfl rfl gi_nil))))))))))
set_option maxRecDepth 20000 in
theorem gX3_ledTo_X9_childBy : GoodIn wsX3_ledTo (wsV RX3 70 RX9 yX9_childBy wsX9_childBy) := goodIn_app (goodIn_of _ (by decide +kernel)) ggX3_ledTo_X9_childBy
set_option maxRecDepth 100000 in
theorem ggX3_ledTo_X9_placeOf : GoodIn wsX3_ledTo wsX9_placeOf := (gi_cons 29 rfl rfl (gi_cons 6 rfl rfl (gi_cons 7 rfl rfl (gi_cons 34 rfl rfl (gi_cons 35 rfl rfl (gi_cons 36 rfl rfl (gi_cons 37 rfl rfl (gi_cons 38 rfl rfl gi_nil))))))))
set_option maxRecDepth 20000 in
theorem gX3_ledTo_X9_placeOf : GoodIn wsX3_ledTo (wsV RX3 132 RX9 yX9_placeOf wsX9_placeOf) := goodIn_app (goodIn_of _ (by decide +kernel)) ggX3_ledTo_X9_placeOf
set_option maxRecDepth 100000 in
theorem ggX3_ledTo_X9_listed : GoodIn wsX3_ledTo wsX9_listed := (gi_cons 33 rfl rfl (gi_cons 6 rfl rfl (gi_cons 16 rfl rfl (gi_cons 7 rfl rfl (gi_cons 34 rfl rfl (gi_cons 35 rfl rfl (gi_cons 36 rfl rfl (gi_cons 37 rfl rfl (gi_cons 38 rfl rfl gi_nil)))))))))
set_option maxRecDepth 20000 in
theorem gX3_ledTo_X9_listed : GoodIn wsX3_ledTo (wsV RX3 148 RX9 yX9_listed wsX9_listed) := goodIn_app (goodIn_of _ (by decide +kernel)) ggX3_ledTo_X9_listed
theorem dX3_ledTo_0 : decode cX3_ledTo 0 = .ok (.iconst 0, 1) := by decide +kernel
theorem dX3_ledTo_1 : decode cX3_ledTo 1 = .ok (.istore 4, 2) := by decide +kernel
theorem dX3_ledTo_3 : decode cX3_ledTo 3 = .ok (.iconst 1, 1) := by decide +kernel
theorem dX3_ledTo_4 : decode cX3_ledTo 4 = .ok (.istore 5, 2) := by decide +kernel
theorem dX3_ledTo_6 : decode cX3_ledTo 6 = .ok (.iload 5, 2) := by decide +kernel
theorem dX3_ledTo_8 : decode cX3_ledTo 8 = .ok (.iload_n 3, 1) := by decide +kernel
theorem dX3_ledTo_9 : decode cX3_ledTo 9 = .ok (.if_icmp .gt 68, 3) := by decide +kernel
theorem dX3_ledTo_12 : decode cX3_ledTo 12 = .ok (.iload 5, 2) := by decide +kernel
theorem dX3_ledTo_14 : decode cX3_ledTo 14 = .ok (.bipush 16, 2) := by decide +kernel
theorem dX3_ledTo_16 : decode cX3_ledTo 16 = .ok (.if_icmp .gt 61, 3) := by decide +kernel
theorem dX3_ledTo_19 : decode cX3_ledTo 19 = .ok (.aload_n 1, 1) := by decide +kernel
theorem dX3_ledTo_20 : decode cX3_ledTo 20 = .ok (.iload_n 2, 1) := by decide +kernel
theorem dX3_ledTo_21 : decode cX3_ledTo 21 = .ok (.iload 5, 2) := by decide +kernel
theorem dX3_ledTo_23 : decode cX3_ledTo 23 = .ok (.invokevirtual 145, 3) := by decide +kernel
theorem dX3_ledTo_26 : decode cX3_ledTo 26 = .ok (.istore 6, 2) := by decide +kernel
theorem dX3_ledTo_28 : decode cX3_ledTo 28 = .ok (.aload_n 1, 1) := by decide +kernel
theorem dX3_ledTo_29 : decode cX3_ledTo 29 = .ok (.aload_n 1, 1) := by decide +kernel
theorem dX3_ledTo_30 : decode cX3_ledTo 30 = .ok (.iload 6, 2) := by decide +kernel
theorem dX3_ledTo_32 : decode cX3_ledTo 32 = .ok (.invokevirtual 129, 3) := by decide +kernel
theorem dX3_ledTo_35 : decode cX3_ledTo 35 = .ok (.invokevirtual 46, 3) := by decide +kernel
theorem dX3_ledTo_38 : decode cX3_ledTo 38 = .ok (.iconst 3, 1) := by decide +kernel
theorem dX3_ledTo_39 : decode cX3_ledTo 39 = .ok (.if_icmp .ne 18, 3) := by decide +kernel
theorem dX3_ledTo_42 : decode cX3_ledTo 42 = .ok (.aload_n 0, 1) := by decide +kernel
theorem dX3_ledTo_43 : decode cX3_ledTo 43 = .ok (.iload 4, 2) := by decide +kernel
theorem dX3_ledTo_45 : decode cX3_ledTo 45 = .ok (.aload_n 1, 1) := by decide +kernel
theorem dX3_ledTo_46 : decode cX3_ledTo 46 = .ok (.iload 6, 2) := by decide +kernel
theorem dX3_ledTo_48 : decode cX3_ledTo 48 = .ok (.invokevirtual 67, 3) := by decide +kernel
theorem dX3_ledTo_51 : decode cX3_ledTo 51 = .ok (.invokevirtual 70, 3) := by decide +kernel
theorem dX3_ledTo_54 : decode cX3_ledTo 54 = .ok (.goto 15, 3) := by decide +kernel
theorem dX3_ledTo_57 : decode cX3_ledTo 57 = .ok (.aload_n 0, 1) := by decide +kernel
theorem dX3_ledTo_58 : decode cX3_ledTo 58 = .ok (.iload 4, 2) := by decide +kernel
theorem dX3_ledTo_60 : decode cX3_ledTo 60 = .ok (.aload_n 1, 1) := by decide +kernel
theorem dX3_ledTo_61 : decode cX3_ledTo 61 = .ok (.iload 6, 2) := by decide +kernel
theorem dX3_ledTo_63 : decode cX3_ledTo 63 = .ok (.invokevirtual 132, 3) := by decide +kernel
theorem dX3_ledTo_66 : decode cX3_ledTo 66 = .ok (.invokevirtual 148, 3) := by decide +kernel
theorem dX3_ledTo_69 : decode cX3_ledTo 69 = .ok (.istore 4, 2) := by decide +kernel
theorem dX3_ledTo_71 : decode cX3_ledTo 71 = .ok (.iinc 5 1, 3) := by decide +kernel
theorem dX3_ledTo_74 : decode cX3_ledTo 74 = .ok (.goto (-68), 3) := by decide +kernel
theorem dX3_ledTo_77 : decode cX3_ledTo 77 = .ok (.iload 4, 2) := by decide +kernel
theorem dX3_ledTo_79 : decode cX3_ledTo 79 = .ok (.ireturn, 1) := by decide +kernel
theorem dX6_refuse_0 : decode cX6_refuse 0 = .ok (.iload_n 1, 1) := by decide +kernel
theorem dX6_refuse_1 : decode cX6_refuse 1 = .ok (.ifCond .lt 22, 3) := by decide +kernel
theorem dX6_refuse_4 : decode cX6_refuse 4 = .ok (.iload_n 1, 1) := by decide +kernel
theorem dX6_refuse_5 : decode cX6_refuse 5 = .ok (.aload_n 0, 1) := by decide +kernel
theorem dX6_refuse_6 : decode cX6_refuse 6 = .ok (.getfield 32, 3) := by decide +kernel
theorem dX6_refuse_9 : decode cX6_refuse 9 = .ok (.arraylength, 1) := by decide +kernel
theorem dX6_refuse_10 : decode cX6_refuse 10 = .ok (.if_icmp .ge 13, 3) := by decide +kernel
theorem dX6_refuse_13 : decode cX6_refuse 13 = .ok (.aload_n 0, 1) := by decide +kernel
theorem dX6_refuse_14 : decode cX6_refuse 14 = .ok (.getfield 32, 3) := by decide +kernel
theorem dX6_refuse_17 : decode cX6_refuse 17 = .ok (.iload_n 1, 1) := by decide +kernel
theorem dX6_refuse_18 : decode cX6_refuse 18 = .ok (.dup2, 1) := by decide +kernel
theorem dX6_refuse_19 : decode cX6_refuse 19 = .ok (.iaload, 1) := by decide +kernel
theorem dX6_refuse_20 : decode cX6_refuse 20 = .ok (.iconst 1, 1) := by decide +kernel
theorem dX6_refuse_21 : decode cX6_refuse 21 = .ok (.iadd, 1) := by decide +kernel
theorem dX6_refuse_22 : decode cX6_refuse 22 = .ok (.iastore, 1) := by decide +kernel
theorem dX6_refuse_23 : decode cX6_refuse 23 = .ok (.return_, 1) := by decide +kernel
theorem dX6_refusedOf_0 : decode cX6_refusedOf 0 = .ok (.iload_n 1, 1) := by decide +kernel
theorem dX6_refusedOf_1 : decode cX6_refusedOf 1 = .ok (.ifCond .lt 12, 3) := by decide +kernel
theorem dX6_refusedOf_4 : decode cX6_refusedOf 4 = .ok (.iload_n 1, 1) := by decide +kernel
theorem dX6_refusedOf_5 : decode cX6_refusedOf 5 = .ok (.aload_n 0, 1) := by decide +kernel
theorem dX6_refusedOf_6 : decode cX6_refusedOf 6 = .ok (.getfield 32, 3) := by decide +kernel
theorem dX6_refusedOf_9 : decode cX6_refusedOf 9 = .ok (.arraylength, 1) := by decide +kernel
theorem dX6_refusedOf_10 : decode cX6_refusedOf 10 = .ok (.if_icmp .lt 7, 3) := by decide +kernel
theorem dX6_refusedOf_13 : decode cX6_refusedOf 13 = .ok (.iconst 0, 1) := by decide +kernel
theorem dX6_refusedOf_14 : decode cX6_refusedOf 14 = .ok (.goto 9, 3) := by decide +kernel
theorem dX6_refusedOf_17 : decode cX6_refusedOf 17 = .ok (.aload_n 0, 1) := by decide +kernel
theorem dX6_refusedOf_18 : decode cX6_refusedOf 18 = .ok (.getfield 32, 3) := by decide +kernel
theorem dX6_refusedOf_21 : decode cX6_refusedOf 21 = .ok (.iload_n 1, 1) := by decide +kernel
theorem dX6_refusedOf_22 : decode cX6_refusedOf 22 = .ok (.iaload, 1) := by decide +kernel
theorem dX6_refusedOf_23 : decode cX6_refusedOf 23 = .ok (.ireturn, 1) := by decide +kernel
theorem dX6_loseOldest_0 : decode cX6_loseOldest 0 = .ok (.aload_n 0, 1) := by decide +kernel
theorem dX6_loseOldest_1 : decode cX6_loseOldest 1 = .ok (.getfield 20, 3) := by decide +kernel
theorem dX6_loseOldest_4 : decode cX6_loseOldest 4 = .ok (.iconst 0, 1) := by decide +kernel
theorem dX6_loseOldest_5 : decode cX6_loseOldest 5 = .ok (.aaload, 1) := by decide +kernel
theorem dX6_loseOldest_6 : decode cX6_loseOldest 6 = .ok (.astore_n 1, 1) := by decide +kernel
theorem dX6_loseOldest_7 : decode cX6_loseOldest 7 = .ok (.iconst 1, 1) := by decide +kernel
theorem dX6_loseOldest_8 : decode cX6_loseOldest 8 = .ok (.istore_n 2, 1) := by decide +kernel
theorem dX6_loseOldest_9 : decode cX6_loseOldest 9 = .ok (.iload_n 2, 1) := by decide +kernel
theorem dX6_loseOldest_10 : decode cX6_loseOldest 10 = .ok (.bipush 40, 2) := by decide +kernel
theorem dX6_loseOldest_12 : decode cX6_loseOldest 12 = .ok (.if_icmp .ge 23, 3) := by decide +kernel
theorem dX6_loseOldest_15 : decode cX6_loseOldest 15 = .ok (.aload_n 0, 1) := by decide +kernel
theorem dX6_loseOldest_16 : decode cX6_loseOldest 16 = .ok (.getfield 20, 3) := by decide +kernel
theorem dX6_loseOldest_19 : decode cX6_loseOldest 19 = .ok (.iload_n 2, 1) := by decide +kernel
theorem dX6_loseOldest_20 : decode cX6_loseOldest 20 = .ok (.iconst 1, 1) := by decide +kernel
theorem dX6_loseOldest_21 : decode cX6_loseOldest 21 = .ok (.isub, 1) := by decide +kernel
theorem dX6_loseOldest_22 : decode cX6_loseOldest 22 = .ok (.aload_n 0, 1) := by decide +kernel
theorem dX6_loseOldest_23 : decode cX6_loseOldest 23 = .ok (.getfield 20, 3) := by decide +kernel
theorem dX6_loseOldest_26 : decode cX6_loseOldest 26 = .ok (.iload_n 2, 1) := by decide +kernel
theorem dX6_loseOldest_27 : decode cX6_loseOldest 27 = .ok (.aaload, 1) := by decide +kernel
theorem dX6_loseOldest_28 : decode cX6_loseOldest 28 = .ok (.aastore, 1) := by decide +kernel
theorem dX6_loseOldest_29 : decode cX6_loseOldest 29 = .ok (.iinc 2 1, 3) := by decide +kernel
theorem dX6_loseOldest_32 : decode cX6_loseOldest 32 = .ok (.goto (-23), 3) := by decide +kernel
theorem dX6_loseOldest_35 : decode cX6_loseOldest 35 = .ok (.aload_n 0, 1) := by decide +kernel
theorem dX6_loseOldest_36 : decode cX6_loseOldest 36 = .ok (.getfield 20, 3) := by decide +kernel
theorem dX6_loseOldest_39 : decode cX6_loseOldest 39 = .ok (.bipush 39, 2) := by decide +kernel
theorem dX6_loseOldest_41 : decode cX6_loseOldest 41 = .ok (.aload_n 1, 1) := by decide +kernel
theorem dX6_loseOldest_42 : decode cX6_loseOldest 42 = .ok (.aastore, 1) := by decide +kernel
theorem dX6_loseOldest_43 : decode cX6_loseOldest 43 = .ok (.aload_n 0, 1) := by decide +kernel
theorem dX6_loseOldest_44 : decode cX6_loseOldest 44 = .ok (.bipush 39, 2) := by decide +kernel
theorem dX6_loseOldest_46 : decode cX6_loseOldest 46 = .ok (.putfield 35, 3) := by decide +kernel
theorem dX6_loseOldest_49 : decode cX6_loseOldest 49 = .ok (.return_, 1) := by decide +kernel
set_option maxRecDepth 100000 in
theorem ggX6_stepBack_X9_become : GoodIn wsX6_stepBack wsX9_become := (gi_cons 8 rfl rfl (gi_cons 9 rfl rfl (gi_cons 10 rfl rfl (gi_cons 11 rfl rfl (gi_cons 12 rfl rfl (gi_cons 13 rfl rfl (gi_cons 14 rfl rfl (gi_cons 15 rfl rfl (gi_cons 16 rfl rfl (gi_cons 17 rfl rfl (gi_cons 25 rfl rfl (gi_cons 26 rfl rfl (gi_cons 27 rfl rfl (gi_cons 28 rfl rfl (gi_cons 29 rfl rfl gi_nil)))))))))))))))
set_option maxRecDepth 20000 in
theorem gX6_stepBack_X9_become : GoodIn wsX6_stepBack (wsV RX6 42 RX9 yX9_become wsX9_become) := goodIn_app (goodIn_of _ (by decide +kernel)) ggX6_stepBack_X9_become
theorem dX6_stepBack_0 : decode cX6_stepBack 0 = .ok (.aload_n 0, 1) := by decide +kernel
theorem dX6_stepBack_1 : decode cX6_stepBack 1 = .ok (.getfield 35, 3) := by decide +kernel
theorem dX6_stepBack_4 : decode cX6_stepBack 4 = .ok (.iconst 1, 1) := by decide +kernel
theorem dX6_stepBack_5 : decode cX6_stepBack 5 = .ok (.if_icmp .lt 12, 3) := by decide +kernel
theorem dX6_stepBack_8 : decode cX6_stepBack 8 = .ok (.aload_n 0, 1) := by decide +kernel
theorem dX6_stepBack_9 : decode cX6_stepBack 9 = .ok (.getfield 35, 3) := by decide +kernel
theorem dX6_stepBack_12 : decode cX6_stepBack 12 = .ok (.bipush 40, 2) := by decide +kernel
theorem dX6_stepBack_14 : decode cX6_stepBack 14 = .ok (.if_icmp .le 5, 3) := by decide +kernel
theorem dX6_stepBack_17 : decode cX6_stepBack 17 = .ok (.iconst (-1), 1) := by decide +kernel
theorem dX6_stepBack_18 : decode cX6_stepBack 18 = .ok (.ireturn, 1) := by decide +kernel
theorem dX6_stepBack_19 : decode cX6_stepBack 19 = .ok (.aload_n 0, 1) := by decide +kernel
theorem dX6_stepBack_20 : decode cX6_stepBack 20 = .ok (.dup, 1) := by decide +kernel
theorem dX6_stepBack_21 : decode cX6_stepBack 21 = .ok (.getfield 35, 3) := by decide +kernel
theorem dX6_stepBack_24 : decode cX6_stepBack 24 = .ok (.iconst 1, 1) := by decide +kernel
theorem dX6_stepBack_25 : decode cX6_stepBack 25 = .ok (.isub, 1) := by decide +kernel
theorem dX6_stepBack_26 : decode cX6_stepBack 26 = .ok (.putfield 35, 3) := by decide +kernel
theorem dX6_stepBack_29 : decode cX6_stepBack 29 = .ok (.aload_n 0, 1) := by decide +kernel
theorem dX6_stepBack_30 : decode cX6_stepBack 30 = .ok (.getfield 20, 3) := by decide +kernel
theorem dX6_stepBack_33 : decode cX6_stepBack 33 = .ok (.aload_n 0, 1) := by decide +kernel
theorem dX6_stepBack_34 : decode cX6_stepBack 34 = .ok (.getfield 35, 3) := by decide +kernel
theorem dX6_stepBack_37 : decode cX6_stepBack 37 = .ok (.aaload, 1) := by decide +kernel
theorem dX6_stepBack_38 : decode cX6_stepBack 38 = .ok (.astore_n 1, 1) := by decide +kernel
theorem dX6_stepBack_39 : decode cX6_stepBack 39 = .ok (.aload_n 1, 1) := by decide +kernel
theorem dX6_stepBack_40 : decode cX6_stepBack 40 = .ok (.ifnull 11, 3) := by decide +kernel
theorem dX6_stepBack_43 : decode cX6_stepBack 43 = .ok (.aload_n 0, 1) := by decide +kernel
theorem dX6_stepBack_44 : decode cX6_stepBack 44 = .ok (.getfield 14, 3) := by decide +kernel
theorem dX6_stepBack_47 : decode cX6_stepBack 47 = .ok (.aload_n 1, 1) := by decide +kernel
theorem dX6_stepBack_48 : decode cX6_stepBack 48 = .ok (.invokevirtual 42, 3) := by decide +kernel
theorem dX6_stepBack_51 : decode cX6_stepBack 51 = .ok (.aload_n 0, 1) := by decide +kernel
theorem dX6_stepBack_52 : decode cX6_stepBack 52 = .ok (.getfield 35, 3) := by decide +kernel
theorem dX6_stepBack_55 : decode cX6_stepBack 55 = .ok (.ireturn, 1) := by decide +kernel
theorem dX6_notes_0 : decode cX6_notes 0 = .ok (.aload_n 0, 1) := by decide +kernel
theorem dX6_notes_1 : decode cX6_notes 1 = .ok (.getfield 46, 3) := by decide +kernel
theorem dX6_notes_4 : decode cX6_notes 4 = .ok (.ifCond .lt 12, 3) := by decide +kernel
theorem dX6_notes_7 : decode cX6_notes 7 = .ok (.aload_n 0, 1) := by decide +kernel
theorem dX6_notes_8 : decode cX6_notes 8 = .ok (.getfield 46, 3) := by decide +kernel
theorem dX6_notes_11 : decode cX6_notes 11 = .ok (.bipush 8, 2) := by decide +kernel
theorem dX6_notes_13 : decode cX6_notes 13 = .ok (.if_icmp .lt 5, 3) := by decide +kernel
theorem dX6_notes_16 : decode cX6_notes 16 = .ok (.iconst 0, 1) := by decide +kernel
theorem dX6_notes_17 : decode cX6_notes 17 = .ok (.ireturn, 1) := by decide +kernel
theorem dX6_notes_18 : decode cX6_notes 18 = .ok (.aload_n 0, 1) := by decide +kernel
theorem dX6_notes_19 : decode cX6_notes 19 = .ok (.getfield 24, 3) := by decide +kernel
theorem dX6_notes_22 : decode cX6_notes 22 = .ok (.aload_n 0, 1) := by decide +kernel
theorem dX6_notes_23 : decode cX6_notes 23 = .ok (.getfield 46, 3) := by decide +kernel
theorem dX6_notes_26 : decode cX6_notes 26 = .ok (.iload_n 1, 1) := by decide +kernel
theorem dX6_notes_27 : decode cX6_notes 27 = .ok (.iastore, 1) := by decide +kernel
theorem dX6_notes_28 : decode cX6_notes 28 = .ok (.aload_n 0, 1) := by decide +kernel
theorem dX6_notes_29 : decode cX6_notes 29 = .ok (.getfield 28, 3) := by decide +kernel
theorem dX6_notes_32 : decode cX6_notes 32 = .ok (.aload_n 0, 1) := by decide +kernel
theorem dX6_notes_33 : decode cX6_notes 33 = .ok (.getfield 46, 3) := by decide +kernel
theorem dX6_notes_36 : decode cX6_notes 36 = .ok (.iload_n 2, 1) := by decide +kernel
theorem dX6_notes_37 : decode cX6_notes 37 = .ok (.bastore, 1) := by decide +kernel
theorem dX6_notes_38 : decode cX6_notes 38 = .ok (.aload_n 0, 1) := by decide +kernel
theorem dX6_notes_39 : decode cX6_notes 39 = .ok (.dup, 1) := by decide +kernel
theorem dX6_notes_40 : decode cX6_notes 40 = .ok (.getfield 46, 3) := by decide +kernel
theorem dX6_notes_43 : decode cX6_notes 43 = .ok (.iconst 1, 1) := by decide +kernel
theorem dX6_notes_44 : decode cX6_notes 44 = .ok (.iadd, 1) := by decide +kernel
theorem dX6_notes_45 : decode cX6_notes 45 = .ok (.putfield 46, 3) := by decide +kernel
theorem dX6_notes_48 : decode cX6_notes 48 = .ok (.iconst 1, 1) := by decide +kernel
theorem dX6_notes_49 : decode cX6_notes 49 = .ok (.ireturn, 1) := by decide +kernel
set_option maxRecDepth 100000 in
theorem ggX6_notedFits_X10_isIn : GoodIn wsX6_notedFits wsX10_isIn := (gi_cons 6 rfl rfl (gi_cons 7 rfl rfl (gi_cons 8 rfl rfl (gi_cons 5 rfl rfl (gi_cons 9 rfl rfl gi_nil)))))
set_option maxRecDepth 20000 in
theorem gX6_notedFits_X10_isIn_n49 : GoodIn wsX6_notedFits (wsX10_isIn) := ggX6_notedFits_X10_isIn
theorem dX6_notedFits_0 : decode cX6_notedFits 0 = .ok (.iconst 0, 1) := by decide +kernel
theorem dX6_notedFits_1 : decode cX6_notedFits 1 = .ok (.istore_n 3, 1) := by decide +kernel
theorem dX6_notedFits_2 : decode cX6_notedFits 2 = .ok (.iload_n 3, 1) := by decide +kernel
theorem dX6_notedFits_3 : decode cX6_notedFits 3 = .ok (.aload_n 0, 1) := by decide +kernel
theorem dX6_notedFits_4 : decode cX6_notedFits 4 = .ok (.getfield 46, 3) := by decide +kernel
theorem dX6_notedFits_7 : decode cX6_notedFits 7 = .ok (.if_icmp .ge 36, 3) := by decide +kernel
theorem dX6_notedFits_10 : decode cX6_notedFits 10 = .ok (.iload_n 3, 1) := by decide +kernel
theorem dX6_notedFits_11 : decode cX6_notedFits 11 = .ok (.bipush 8, 2) := by decide +kernel
theorem dX6_notedFits_13 : decode cX6_notedFits 13 = .ok (.if_icmp .ge 30, 3) := by decide +kernel
theorem dX6_notedFits_16 : decode cX6_notedFits 16 = .ok (.lload_n 1, 1) := by decide +kernel
theorem dX6_notedFits_17 : decode cX6_notedFits 17 = .ok (.aload_n 0, 1) := by decide +kernel
theorem dX6_notedFits_18 : decode cX6_notedFits 18 = .ok (.getfield 24, 3) := by decide +kernel
theorem dX6_notedFits_21 : decode cX6_notedFits 21 = .ok (.iload_n 3, 1) := by decide +kernel
theorem dX6_notedFits_22 : decode cX6_notedFits 22 = .ok (.iaload, 1) := by decide +kernel
theorem dX6_notedFits_23 : decode cX6_notedFits 23 = .ok (.invokestatic 49, 3) := by decide +kernel
theorem dX6_notedFits_26 : decode cX6_notedFits 26 = .ok (.aload_n 0, 1) := by decide +kernel
theorem dX6_notedFits_27 : decode cX6_notedFits 27 = .ok (.getfield 28, 3) := by decide +kernel
theorem dX6_notedFits_30 : decode cX6_notedFits 30 = .ok (.iload_n 3, 1) := by decide +kernel
theorem dX6_notedFits_31 : decode cX6_notedFits 31 = .ok (.baload, 1) := by decide +kernel
theorem dX6_notedFits_32 : decode cX6_notedFits 32 = .ok (.if_icmp .eq 5, 3) := by decide +kernel
theorem dX6_notedFits_35 : decode cX6_notedFits 35 = .ok (.iconst 0, 1) := by decide +kernel
theorem dX6_notedFits_36 : decode cX6_notedFits 36 = .ok (.ireturn, 1) := by decide +kernel
theorem dX6_notedFits_37 : decode cX6_notedFits 37 = .ok (.iinc 3 1, 3) := by decide +kernel
theorem dX6_notedFits_40 : decode cX6_notedFits 40 = .ok (.goto (-38), 3) := by decide +kernel
theorem dX6_notedFits_43 : decode cX6_notedFits 43 = .ok (.iconst 1, 1) := by decide +kernel
theorem dX6_notedFits_44 : decode cX6_notedFits 44 = .ok (.ireturn, 1) := by decide +kernel
set_option maxRecDepth 100000 in
theorem ggX10_feed_X10_layBytes : GoodIn wsX10_feed wsX10_layBytes := (gi_cons 6 rfl rfl (gi_cons 1 rfl rfl (gi_cons 7 rfl rfl (gi_cons 8 rfl rfl (gi_cons 9 rfl rfl (gi_cons 10 rfl rfl (gi_cons 11 rfl rfl (gi_cons 12 rfl rfl (gi_cons 13 rfl rfl (gi_cons 14 rfl rfl (gi_cons 15 rfl rfl (gi_cons 16 rfl rfl (gi_cons 17 rfl rfl (gi_cons 18 rfl rfl (gi_cons 19 rfl rfl (gi_cons 20 rfl rfl (gi_cons 21 rfl rfl (gi_cons 22 rfl rfl (gi_cons 23 rfl rfl (gi_cons 24 rfl rfl (gi_cons 25 rfl rfl gi_nil)))))))))))))))))))))
set_option maxRecDepth 20000 in
theorem gX10_feed_X10_layBytes : GoodIn wsX10_feed (wsV RX10 117 RX10 yX10_layBytes wsX10_layBytes) := goodIn_app (goodIn_of _ (by decide +kernel)) ggX10_feed_X10_layBytes
theorem dX10_feed_0 : decode cX10_feed 0 = .ok (.aload_n 0, 1) := by decide +kernel
theorem dX10_feed_1 : decode cX10_feed 1 = .ok (.getfield 114, 3) := by decide +kernel
theorem dX10_feed_4 : decode cX10_feed 4 = .ok (.bipush 20, 2) := by decide +kernel
theorem dX10_feed_6 : decode cX10_feed 6 = .ok (.iadd, 1) := by decide +kernel
theorem dX10_feed_7 : decode cX10_feed 7 = .ok (.sipush 400, 3) := by decide +kernel
theorem dX10_feed_10 : decode cX10_feed 10 = .ok (.if_icmp .le 5, 3) := by decide +kernel
theorem dX10_feed_13 : decode cX10_feed 13 = .ok (.iconst (-1), 1) := by decide +kernel
theorem dX10_feed_14 : decode cX10_feed 14 = .ok (.ireturn, 1) := by decide +kernel
theorem dX10_feed_15 : decode cX10_feed 15 = .ok (.aload_n 0, 1) := by decide +kernel
theorem dX10_feed_16 : decode cX10_feed 16 = .ok (.iload_n 1, 1) := by decide +kernel
theorem dX10_feed_17 : decode cX10_feed 17 = .ok (.invokevirtual 117, 3) := by decide +kernel
theorem dX10_feed_20 : decode cX10_feed 20 = .ok (.aload_n 0, 1) := by decide +kernel
theorem dX10_feed_21 : decode cX10_feed 21 = .ok (.iload_n 2, 1) := by decide +kernel
theorem dX10_feed_22 : decode cX10_feed 22 = .ok (.invokevirtual 117, 3) := by decide +kernel
theorem dX10_feed_25 : decode cX10_feed 25 = .ok (.aload_n 0, 1) := by decide +kernel
theorem dX10_feed_26 : decode cX10_feed 26 = .ok (.iload_n 3, 1) := by decide +kernel
theorem dX10_feed_27 : decode cX10_feed 27 = .ok (.invokevirtual 117, 3) := by decide +kernel
theorem dX10_feed_30 : decode cX10_feed 30 = .ok (.aload_n 0, 1) := by decide +kernel
theorem dX10_feed_31 : decode cX10_feed 31 = .ok (.iload 4, 2) := by decide +kernel
theorem dX10_feed_33 : decode cX10_feed 33 = .ok (.invokevirtual 117, 3) := by decide +kernel
theorem dX10_feed_36 : decode cX10_feed 36 = .ok (.aload_n 0, 1) := by decide +kernel
theorem dX10_feed_37 : decode cX10_feed 37 = .ok (.iload 5, 2) := by decide +kernel
theorem dX10_feed_39 : decode cX10_feed 39 = .ok (.invokevirtual 117, 3) := by decide +kernel
theorem dX10_feed_42 : decode cX10_feed 42 = .ok (.aload_n 0, 1) := by decide +kernel
theorem dX10_feed_43 : decode cX10_feed 43 = .ok (.getfield 114, 3) := by decide +kernel
theorem dX10_feed_46 : decode cX10_feed 46 = .ok (.ireturn, 1) := by decide +kernel
theorem dX10_fault_0 : decode cX10_fault 0 = .ok (.aload_n 0, 1) := by decide +kernel
theorem dX10_fault_1 : decode cX10_fault 1 = .ok (.getfield 13, 3) := by decide +kernel
theorem dX10_fault_4 : decode cX10_fault 4 = .ok (.ireturn, 1) := by decide +kernel
set_option maxRecDepth 100000 in
theorem ggX10_keep_X3_compare : GoodIn wsX10_keep wsX3_compare := (gi_cons 9 rfl rfl (gi_cons 10 rfl rfl (gi_cons 11 rfl rfl (gi_cons 12 rfl rfl (gi_cons 13 rfl rfl (gi_cons 14 rfl rfl (gi_cons 15 rfl rfl (gi_cons 16 rfl rfl (gi_cons 17 rfl rfl (gi_cons 18 rfl rfl (gi_cons 19 rfl rfl (gi_cons 20 rfl rfl (gi_cons 21 rfl rfl (gi_cons 22 rfl rfl (gi_cons 23 rfl rfl (gi_cons 24 rfl rfl (gi_cons 25 rfl rfl (gi_cons 26 rfl rfl (gi_cons 27 rfl rfl (gi_cons 28 rfl rfl (gi_cons 29 rfl rfl (gi_cons 8 rfl rfl (gi_cons 30 rfl rfl (gi_cons 31 rfl rfl (gi_cons 32 rfl rfl (gi_cons 33 rfl rfl (gi_cons 34 rfl rfl (gi_cons 35 rfl rfl (gi_cons 36 rfl rfl (gi_cons 37 rfl rfl (gi_cons 38 rfl rfl (gi_cons 39 rfl rfl (gi_cons 40 rfl rfl (gi_cons 41 rfl rfl (gi_cons 42 rfl rfl (gi_cons 43 rfl rfl (gi_cons 44 rfl rfl (gi_cons 45 rfl rfl (gi_cons 46 rfl rfl (gi_cons 47 rfl rfl (gi_cons 48 rfl rfl (gi_cons 49 rfl rfl (gi_cons 50 rfl rfl (gi_cons 51 rfl rfl (gi_cons 52 rfl rfl (gi_cons 53 rfl rfl (gi_cons 54 rfl rfl (gi_cons 55 rfl rfl (gi_cons 56 rfl rfl (gi_cons 57 rfl rfl (gi_cons 58 rfl rfl (gi_cons 59 rfl rfl (gi_cons 60 rfl rfl (gi_cons 61 rfl rfl (gi_cons 62 rfl rfl (gi_cons 63 rfl rfl (gi_cons 64 rfl rfl (gi_cons 65 rfl rfl (gi_cons 66 rfl rfl (gi_cons 67 rfl rfl (gi_cons 68 rfl rfl (gi_cons 69 rfl rfl (gi_cons 70 rfl rfl (gi_cons 71 rfl rfl (gi_cons 72 rfl rfl (gi_cons 73 rfl rfl (gi_cons 74 rfl rfl (gi_cons 75 rfl rfl (gi_cons 76 rfl rfl (gi_cons 77 rfl rfl (gi_cons 78 rfl rfl (gi_cons 79 rfl rfl (gi_cons 80 rfl rfl (gi_cons 81 rfl rfl (gi_cons 82 rfl rfl (gi_cons 83 rfl rfl (gi_cons 84 rfl rfl (gi_cons 85 rfl rfl (gi_cons 86 rfl rfl (gi_cons 87 rfl rfl (gi_cons 88 rfl rfl (gi_cons 89 rfl rfl (gi_cons 115 rfl rfl (gi_cons 116 rfl rfl (gi_cons 117 rfl rfl (gi_cons 118 rfl rfl (gi_cons 119 rfl rfl (gi_cons 120 rfl rfl (gi_cons 121 rfl rfl (gi_cons 122 rfl rfl (gi_cons 123 rfl rfl (gi_cons 124 rfl rfl gi_nil))))))))))))))))))))))))))))))))))))))))))))))))))))))))))))))))))))))))))))))))))))))))))))
set_option maxRecDepth 20000 in
theorem gX10_keep_X3_compare : GoodIn wsX10_keep (wsV RX10 180 RX3 yX3_compare wsX3_compare) := goodIn_app (goodIn_of _ (by decide +kernel)) ggX10_keep_X3_compare
theorem dX10_keep_0 : decode cX10_keep 0 = .ok (.aload_n 0, 1) := by decide +kernel
theorem dX10_keep_1 : decode cX10_keep 1 = .ok (.getfield 145, 3) := by decide +kernel
theorem dX10_keep_4 : decode cX10_keep 4 = .ok (.ifCond .eq 27, 3) := by decide +kernel
theorem dX10_keep_7 : decode cX10_keep 7 = .ok (.aload_n 0, 1) := by decide +kernel
theorem dX10_keep_8 : decode cX10_keep 8 = .ok (.getfield 82, 3) := by decide +kernel
theorem dX10_keep_11 : decode cX10_keep 11 = .ok (.aload_n 0, 1) := by decide +kernel
theorem dX10_keep_12 : decode cX10_keep 12 = .ok (.getfield 67, 3) := by decide +kernel
theorem dX10_keep_15 : decode cX10_keep 15 = .ok (.getfield 107, 3) := by decide +kernel
theorem dX10_keep_18 : decode cX10_keep 18 = .ok (.aload_n 0, 1) := by decide +kernel
theorem dX10_keep_19 : decode cX10_keep 19 = .ok (.getfield 63, 3) := by decide +kernel
theorem dX10_keep_22 : decode cX10_keep 22 = .ok (.getfield 107, 3) := by decide +kernel
theorem dX10_keep_25 : decode cX10_keep 25 = .ok (.invokevirtual 180, 3) := by decide +kernel
theorem dX10_keep_28 : decode cX10_keep 28 = .ok (.goto 4, 3) := by decide +kernel
theorem dX10_keep_31 : decode cX10_keep 31 = .ok (.iconst (-1), 1) := by decide +kernel
theorem dX10_keep_32 : decode cX10_keep 32 = .ok (.ireturn, 1) := by decide +kernel
set_option maxRecDepth 100000 in
theorem ggX10_undo_X6_stepBack : GoodIn wsX10_undo wsX6_stepBack := (gi_cons 6 rfl rfl (gi_cons 7 rfl rfl (gi_cons 8 rfl rfl (gi_cons 9 rfl rfl (gi_cons 10 rfl rfl (gi_cons 11 rfl rfl (gi_cons 12 rfl rfl (gi_cons 13 rfl rfl (gi_cons 14 rfl rfl (gi_cons 15 rfl rfl (gi_cons 16 rfl rfl (gi_cons 17 rfl rfl (gi_cons 18 rfl rfl (gi_cons 19 rfl rfl (gi_cons 20 rfl rfl (gi_cons 21 rfl rfl (gi_cons 22 rfl rfl (gi_cons 23 rfl rfl (gi_cons 42 rfl rfl (gi_cons 43 rfl rfl (gi_cons 44 rfl rfl (gi_cons 45 rfl rfl (gi_cons 46 rfl rfl (gi_cons 47 rfl rfl (gi_cons 48 rfl rfl (gi_cons 49 rfl rfl (gi_cons 50 rfl rfl (gi_cons 51 rfl rfl (gi_cons 52 rfl rfl (gi_cons 53 rfl rfl gi_nil))))))))))))))))))))))))))))))
set_option maxRecDepth 20000 in
theorem gX10_undo_X6_stepBack : GoodIn wsX10_undo (wsV RX10 338 RX6 yX6_stepBack wsX6_stepBack) := goodIn_app (goodIn_of _ (by decide +kernel)) ggX10_undo_X6_stepBack
theorem dX10_undo_0 : decode cX10_undo 0 = .ok (.aload_n 0, 1) := by decide +kernel
theorem dX10_undo_1 : decode cX10_undo 1 = .ok (.getfield 63, 3) := by decide +kernel
theorem dX10_undo_4 : decode cX10_undo 4 = .ok (.invokevirtual 338, 3) := by decide +kernel
theorem dX10_undo_7 : decode cX10_undo 7 = .ok (.ireturn, 1) := by decide +kernel
set_option maxRecDepth 100000 in
theorem ggX10_note_X9_has : GoodIn wsX10_note wsX9_has := (gi_cons 6 rfl rfl (gi_cons 7 rfl rfl (gi_cons 8 rfl rfl (gi_cons 47 rfl rfl (gi_cons 48 rfl rfl (gi_cons 49 rfl rfl (gi_cons 50 rfl rfl (gi_cons 51 rfl rfl gi_nil))))))))
set_option maxRecDepth 20000 in
theorem gX10_note_X9_has : GoodIn wsX10_note (wsV RX10 341 RX9 yX9_has wsX9_has) := goodIn_app (goodIn_of _ (by decide +kernel)) ggX10_note_X9_has
set_option maxRecDepth 100000 in
theorem ggX10_note_X6_notes : GoodIn wsX10_note wsX6_notes := (gi_cons 13 rfl rfl (gi_cons 14 rfl rfl (gi_cons 15 rfl rfl (gi_cons 16 rfl rfl (gi_cons 40 rfl rfl (gi_cons 41 rfl rfl (gi_cons 42 rfl rfl (gi_cons 43 rfl rfl (gi_cons 44 rfl rfl (gi_cons 45 rfl rfl (gi_cons 46 rfl rfl gi_nil)))))))))))
set_option maxRecDepth 20000 in
theorem gX10_note_X6_notes : GoodIn wsX10_note (wsV RX10 344 RX6 yX6_notes wsX6_notes) := goodIn_app (goodIn_of _ (by decide +kernel)) ggX10_note_X6_notes
set_option maxRecDepth 100000 in
theorem ggX10_note_X6_refuse : GoodIn wsX10_note wsX6_refuse := (gi_cons 20 rfl rfl (gi_cons 21 rfl rfl (gi_cons 40 rfl rfl (gi_cons 41 rfl rfl (gi_cons 42 rfl rfl (gi_cons 43 rfl rfl (gi_cons 44 rfl rfl (gi_cons 45 rfl rfl (gi_cons 46 rfl rfl gi_nil)))))))))
set_option maxRecDepth 20000 in
theorem gX10_note_X6_refuse : GoodIn wsX10_note (wsV RX10 348 RX6 yX6_refuse wsX6_refuse) := goodIn_app (goodIn_of _ (by decide +kernel)) ggX10_note_X6_refuse
theorem dX10_note_0 : decode cX10_note 0 = .ok (.aload_n 0, 1) := by decide +kernel
theorem dX10_note_1 : decode cX10_note 1 = .ok (.getfield 63, 3) := by decide +kernel
theorem dX10_note_4 : decode cX10_note 4 = .ok (.getfield 107, 3) := by decide +kernel
theorem dX10_note_7 : decode cX10_note 7 = .ok (.iload_n 1, 1) := by decide +kernel
theorem dX10_note_8 : decode cX10_note 8 = .ok (.invokevirtual 341, 3) := by decide +kernel
theorem dX10_note_11 : decode cX10_note 11 = .ok (.ifCond .eq 15, 3) := by decide +kernel
theorem dX10_note_14 : decode cX10_note 14 = .ok (.aload_n 0, 1) := by decide +kernel
theorem dX10_note_15 : decode cX10_note 15 = .ok (.getfield 63, 3) := by decide +kernel
theorem dX10_note_18 : decode cX10_note 18 = .ok (.iload_n 1, 1) := by decide +kernel
theorem dX10_note_19 : decode cX10_note 19 = .ok (.iload_n 2, 1) := by decide +kernel
theorem dX10_note_20 : decode cX10_note 20 = .ok (.invokevirtual 344, 3) := by decide +kernel
theorem dX10_note_23 : decode cX10_note 23 = .ok (.ifCond .ne 13, 3) := by decide +kernel
theorem dX10_note_26 : decode cX10_note 26 = .ok (.aload_n 0, 1) := by decide +kernel
theorem dX10_note_27 : decode cX10_note 27 = .ok (.getfield 63, 3) := by decide +kernel
theorem dX10_note_30 : decode cX10_note 30 = .ok (.iconst 2, 1) := by decide +kernel
theorem dX10_note_31 : decode cX10_note 31 = .ok (.invokevirtual 348, 3) := by decide +kernel
theorem dX10_note_34 : decode cX10_note 34 = .ok (.iconst (-1), 1) := by decide +kernel
theorem dX10_note_35 : decode cX10_note 35 = .ok (.ireturn, 1) := by decide +kernel
theorem dX10_note_36 : decode cX10_note 36 = .ok (.aload_n 0, 1) := by decide +kernel
theorem dX10_note_37 : decode cX10_note 37 = .ok (.getfield 63, 3) := by decide +kernel
theorem dX10_note_40 : decode cX10_note 40 = .ok (.getfield 142, 3) := by decide +kernel
theorem dX10_note_43 : decode cX10_note 43 = .ok (.ireturn, 1) := by decide +kernel
set_option maxRecDepth 100000 in
theorem ggX10_look_X10_pathsThatFit : GoodIn wsX10_look wsX10_pathsThatFit := (gi_cons 10 rfl rfl (gi_cons 11 rfl rfl (gi_cons 1 rfl rfl (gi_cons 12 rfl rfl (gi_cons 13 rfl rfl (gi_cons 14 rfl rfl (gi_cons 15 rfl rfl (gi_cons 9 rfl rfl (gi_cons 16 rfl rfl (gi_cons 17 rfl rfl (gi_cons 18 rfl rfl (gi_cons 19 rfl rfl (gi_cons 20 rfl rfl (gi_cons 21 rfl rfl (gi_cons 22 rfl rfl (gi_cons 23 rfl rfl (gi_cons 24 rfl rfl (gi_cons 25 rfl rfl (gi_cons 26 rfl rfl (gi_cons 27 rfl rfl (gi_cons 28 rfl rfl (gi_cons 29 rfl rfl (gi_cons 30 rfl rfl (gi_cons 31 rfl rfl (gi_cons 32 rfl rfl (gi_cons 33 rfl rfl (gi_cons 34 rfl rfl (gi_cons 35 rfl rfl (gi_cons 36 rfl rfl (gi_cons 37 rfl rfl (gi_cons 38 rfl rfl (gi_cons 39 rfl rfl (gi_cons 40 rfl rfl (gi_cons 41 rfl rfl (gi_cons 42 rfl rfl (gi_cons 43 rfl rfl (gi_cons 44 rfl rfl (gi_cons 45 rfl rfl (gi_cons 46 rfl rfl (gi_cons 47 rfl rfl (gi_cons 48 rfl rfl (gi_cons 49 rfl rfl (gi_cons 50 rfl rfl (gi_cons 51 rfl rfl (gi_cons 52 rfl rfl (gi_cons 53 rfl rfl (gi_cons 54 rfl rfl (gi_cons 55 rfl rfl (gi_cons 56 rfl rfl (gi_cons 57 rfl rfl (gi_cons 58 rfl rfl (gi_cons 59 rfl rfl (gi_cons 60 rfl rfl (gi_cons 61 rfl rfl (gi_cons 62 rfl rfl (gi_cons 63 rfl rfl (gi_cons 64 rfl rfl (gi_cons 65 rfl rfl (gi_cons 66 rfl rfl (gi_cons 67 rfl rfl (gi_cons 68 rfl rfl (gi_cons 69 rfl rfl (gi_cons 70 rfl rfl (gi_cons 71 rfl rfl (gi_cons 72 rfl rfl (gi_cons 73 rfl rfl (gi_cons 74 rfl rfl (gi_cons 75 rfl rfl (gi_cons 76 rfl rfl (gi_cons 4 rfl rfl (gi_cons 77 rfl rfl (gi_cons 78 rfl rfl (gi_cons 79 rfl rfl (gi_cons 80 rfl rfl (gi_cons 81 rfl rfl (gi_cons 82 rfl rfl (gi_cons 83 rfl rfl (gi_cons 84 rfl rfl (gi_cons 85 rfl rfl (gi_cons 86 rfl rfl (gi_cons 87 rfl rfl (gi_cons 88 rfl rfl (gi_cons 89 rfl rfl (gi_cons 90 rfl rfl (gi_cons 91 rfl rfl (gi_cons 92 rfl rfl (gi_cons 93 rfl rfl (gi_cons 94 rfl rfl (gi_cons 95 rfl rfl (gi_cons 96 rfl rfl (gi_cons 97 rfl rfl (gi_cons 98 rfl rfl (gi_cons 99 rfl rfl (gi_cons 100 rfl rfl (gi_cons 101 rfl rfl (gi_cons 102 rfl rfl (gi_cons 103 rfl rfl (gi_cons 104 rfl rfl (gi_cons 105 rfl rfl (gi_cons 106 rfl rfl (gi_cons 119 rfl rfl (gi_cons 120 rfl rfl (gi_cons 121 rfl rfl (gi_cons 122 rfl rfl (gi_cons 123 rfl rfl (gi_cons 124 rfl rfl (gi_cons 125 rfl rfl (gi_cons 126 rfl rfl (gi_cons 127 rfl rfl (gi_cons 128 rfl rfl (gi_cons 129 rfl rfl (gi_cons 130 rfl rfl (gi_cons 131 rfl rfl (gi_cons 132 rfl rfl (gi_cons 133 rfl rfl (gi_cons 134 rfl rfl (gi_cons 135 rfl rfl (gi_cons 136 rfl rfl (gi_cons 137 rfl rfl (gi_cons 138 rfl rfl (gi_cons 139 rfl rfl (gi_cons 140 rfl rfl (gi_cons 141 rfl rfl (gi_cons 142 rfl rfl (gi_cons 143 rfl rfl (gi_cons 149 rfl rfl (gi_cons 150 rfl rfl (gi_cons 151 rfl rfl (gi_cons 152 rfl rfl (gi_cons 153 rfl rfl (gi_cons 154 rfl rfl (gi_cons 155 rfl rfl (gi_cons 156 rfl rfl (gi_cons 157 rfl rfl (gi_cons 158 rfl rfl (gi_cons 159 rfl rfl (gi_cons 160 rfl rfl (gi_cons 161 rfl rfl (gi_cons 162 rfl rfl (gi_cons 144 rfl rfl (gi_cons 145 rfl rfl (gi_cons 146 rfl rfl (gi_cons 147 rfl rfl (gi_cons 148 rfl rfl gi_nil))))))))))))))))))))))))))))))))))))))))))))))))))))))))))))))))))))))))))))))))))))))))))))))))))))))))))))))))))))))))))))))))))))))))))))))))
set_option maxRecDepth 20000 in
theorem gX10_look_X10_pathsThatFit : GoodIn wsX10_look (wsV RX10 190 RX10 yX10_pathsThatFit wsX10_pathsThatFit) := goodIn_app (goodIn_of _ (by decide +kernel)) ggX10_look_X10_pathsThatFit
set_option maxRecDepth 100000 in
theorem ggX10_look_J6_bitCount_0f7a4 : GoodIn wsX10_look wsJ6_bitCount_0f7a4 := (gi_cons 110 rfl rfl (gi_cons 111 rfl rfl (gi_cons 112 rfl rfl (gi_cons 113 rfl rfl gi_nil))))
set_option maxRecDepth 20000 in
theorem gX10_look_J6_bitCount_0f7a4 : GoodIn wsX10_look (va_wsS RX10 351 yJ6_bitCount_0f7a4 wsJ6_bitCount_0f7a4) := goodIn_app (goodIn_of _ (by decide +kernel)) ggX10_look_J6_bitCount_0f7a4
set_option maxRecDepth 100000 in
theorem ggX10_look_X10_foundAmong : GoodIn wsX10_look wsX10_foundAmong := (gi_cons 117 rfl rfl (gi_cons 12 rfl rfl (gi_cons 118 rfl rfl (gi_cons 104 rfl rfl (gi_cons 9 rfl rfl (gi_cons 105 rfl rfl (gi_cons 106 rfl rfl (gi_cons 38 rfl rfl (gi_cons 39 rfl rfl (gi_cons 119 rfl rfl (gi_cons 120 rfl rfl (gi_cons 121 rfl rfl (gi_cons 122 rfl rfl (gi_cons 123 rfl rfl (gi_cons 124 rfl rfl (gi_cons 125 rfl rfl (gi_cons 126 rfl rfl (gi_cons 127 rfl rfl (gi_cons 128 rfl rfl (gi_cons 129 rfl rfl (gi_cons 130 rfl rfl (gi_cons 131 rfl rfl (gi_cons 132 rfl rfl (gi_cons 133 rfl rfl (gi_cons 134 rfl rfl (gi_cons 135 rfl rfl (gi_cons 136 rfl rfl gi_nil)))))))))))))))))))))))))))
set_option maxRecDepth 20000 in
theorem gX10_look_X10_foundAmong : GoodIn wsX10_look (wsV RX10 355 RX10 yX10_foundAmong wsX10_foundAmong) := goodIn_app (goodIn_of _ (by decide +kernel)) ggX10_look_X10_foundAmong
theorem dX10_look_0 : decode cX10_look 0 = .ok (.aload_n 0, 1) := by decide +kernel
theorem dX10_look_1 : decode cX10_look 1 = .ok (.invokevirtual 190, 3) := by decide +kernel
theorem dX10_look_4 : decode cX10_look 4 = .ok (.istore_n 1, 1) := by decide +kernel
theorem dX10_look_5 : decode cX10_look 5 = .ok (.iload_n 1, 1) := by decide +kernel
theorem dX10_look_6 : decode cX10_look 6 = .ok (.invokestatic 351, 3) := by decide +kernel
theorem dX10_look_9 : decode cX10_look 9 = .ok (.istore_n 2, 1) := by decide +kernel
theorem dX10_look_10 : decode cX10_look 10 = .ok (.iconst (-1), 1) := by decide +kernel
theorem dX10_look_11 : decode cX10_look 11 = .ok (.istore_n 3, 1) := by decide +kernel
theorem dX10_look_12 : decode cX10_look 12 = .ok (.iconst 0, 1) := by decide +kernel
theorem dX10_look_13 : decode cX10_look 13 = .ok (.istore 4, 2) := by decide +kernel
theorem dX10_look_15 : decode cX10_look 15 = .ok (.iconst 0, 1) := by decide +kernel
theorem dX10_look_16 : decode cX10_look 16 = .ok (.istore 5, 2) := by decide +kernel
theorem dX10_look_18 : decode cX10_look 18 = .ok (.iload 5, 2) := by decide +kernel
theorem dX10_look_20 : decode cX10_look 20 = .ok (.aload_n 0, 1) := by decide +kernel
theorem dX10_look_21 : decode cX10_look 21 = .ok (.getfield 63, 3) := by decide +kernel
theorem dX10_look_24 : decode cX10_look 24 = .ok (.getfield 107, 3) := by decide +kernel
theorem dX10_look_27 : decode cX10_look 27 = .ok (.getfield 161, 3) := by decide +kernel
theorem dX10_look_30 : decode cX10_look 30 = .ok (.if_icmp .ge 43, 3) := by decide +kernel
theorem dX10_look_33 : decode cX10_look 33 = .ok (.aload_n 0, 1) := by decide +kernel
theorem dX10_look_34 : decode cX10_look 34 = .ok (.iload 5, 2) := by decide +kernel
theorem dX10_look_36 : decode cX10_look 36 = .ok (.iload_n 1, 1) := by decide +kernel
theorem dX10_look_37 : decode cX10_look 37 = .ok (.invokevirtual 355, 3) := by decide +kernel
theorem dX10_look_40 : decode cX10_look 40 = .ok (.istore 6, 2) := by decide +kernel
theorem dX10_look_42 : decode cX10_look 42 = .ok (.iload 6, 2) := by decide +kernel
theorem dX10_look_44 : decode cX10_look 44 = .ok (.iload_n 2, 1) := by decide +kernel
theorem dX10_look_45 : decode cX10_look 45 = .ok (.iload 6, 2) := by decide +kernel
theorem dX10_look_47 : decode cX10_look 47 = .ok (.isub, 1) := by decide +kernel
theorem dX10_look_48 : decode cX10_look 48 = .ok (.invokestatic 358, 3) := by decide +kernel
theorem dX10_look_51 : decode cX10_look 51 = .ok (.istore 7, 2) := by decide +kernel
theorem dX10_look_53 : decode cX10_look 53 = .ok (.iload 7, 2) := by decide +kernel
theorem dX10_look_55 : decode cX10_look 55 = .ok (.iload 4, 2) := by decide +kernel
theorem dX10_look_57 : decode cX10_look 57 = .ok (.if_icmp .le 10, 3) := by decide +kernel
theorem dX10_look_60 : decode cX10_look 60 = .ok (.iload 7, 2) := by decide +kernel
theorem dX10_look_62 : decode cX10_look 62 = .ok (.istore 4, 2) := by decide +kernel
theorem dX10_look_64 : decode cX10_look 64 = .ok (.iload 5, 2) := by decide +kernel
theorem dX10_look_66 : decode cX10_look 66 = .ok (.istore_n 3, 1) := by decide +kernel
theorem dX10_look_67 : decode cX10_look 67 = .ok (.iinc 5 1, 3) := by decide +kernel
theorem dX10_look_70 : decode cX10_look 70 = .ok (.goto (-52), 3) := by decide +kernel
theorem dX10_look_73 : decode cX10_look 73 = .ok (.iload_n 3, 1) := by decide +kernel
theorem dX10_look_74 : decode cX10_look 74 = .ok (.ireturn, 1) := by decide +kernel
theorem dX10_forget_0 : decode cX10_forget 0 = .ok (.aload_n 0, 1) := by decide +kernel
theorem dX10_forget_1 : decode cX10_forget 1 = .ok (.getfield 63, 3) := by decide +kernel
theorem dX10_forget_4 : decode cX10_forget 4 = .ok (.iconst 0, 1) := by decide +kernel
theorem dX10_forget_5 : decode cX10_forget 5 = .ok (.putfield 142, 3) := by decide +kernel
theorem dX10_forget_8 : decode cX10_forget 8 = .ok (.return_, 1) := by decide +kernel
theorem dX10_layBytes_0 : decode cX10_layBytes 0 = .ok (.bipush 24, 2) := by decide +kernel
theorem dX10_layBytes_2 : decode cX10_layBytes 2 = .ok (.istore_n 2, 1) := by decide +kernel
theorem dX10_layBytes_3 : decode cX10_layBytes 3 = .ok (.iload_n 2, 1) := by decide +kernel
theorem dX10_layBytes_4 : decode cX10_layBytes 4 = .ok (.ifCond .lt 52, 3) := by decide +kernel
theorem dX10_layBytes_7 : decode cX10_layBytes 7 = .ok (.aload_n 0, 1) := by decide +kernel
theorem dX10_layBytes_8 : decode cX10_layBytes 8 = .ok (.getfield 114, 3) := by decide +kernel
theorem dX10_layBytes_11 : decode cX10_layBytes 11 = .ok (.ifCond .lt 39, 3) := by decide +kernel
theorem dX10_layBytes_14 : decode cX10_layBytes 14 = .ok (.aload_n 0, 1) := by decide +kernel
theorem dX10_layBytes_15 : decode cX10_layBytes 15 = .ok (.getfield 114, 3) := by decide +kernel
theorem dX10_layBytes_18 : decode cX10_layBytes 18 = .ok (.sipush 400, 3) := by decide +kernel
theorem dX10_layBytes_21 : decode cX10_layBytes 21 = .ok (.if_icmp .ge 29, 3) := by decide +kernel
theorem dX10_layBytes_24 : decode cX10_layBytes 24 = .ok (.aload_n 0, 1) := by decide +kernel
theorem dX10_layBytes_25 : decode cX10_layBytes 25 = .ok (.getfield 9, 3) := by decide +kernel
theorem dX10_layBytes_28 : decode cX10_layBytes 28 = .ok (.aload_n 0, 1) := by decide +kernel
theorem dX10_layBytes_29 : decode cX10_layBytes 29 = .ok (.getfield 114, 3) := by decide +kernel
theorem dX10_layBytes_32 : decode cX10_layBytes 32 = .ok (.iload_n 1, 1) := by decide +kernel
theorem dX10_layBytes_33 : decode cX10_layBytes 33 = .ok (.iload_n 2, 1) := by decide +kernel
theorem dX10_layBytes_34 : decode cX10_layBytes 34 = .ok (.iushr, 1) := by decide +kernel
theorem dX10_layBytes_35 : decode cX10_layBytes 35 = .ok (.sipush 255, 3) := by decide +kernel
theorem dX10_layBytes_38 : decode cX10_layBytes 38 = .ok (.iand, 1) := by decide +kernel
theorem dX10_layBytes_39 : decode cX10_layBytes 39 = .ok (.iastore, 1) := by decide +kernel
theorem dX10_layBytes_40 : decode cX10_layBytes 40 = .ok (.aload_n 0, 1) := by decide +kernel
theorem dX10_layBytes_41 : decode cX10_layBytes 41 = .ok (.dup, 1) := by decide +kernel
theorem dX10_layBytes_42 : decode cX10_layBytes 42 = .ok (.getfield 114, 3) := by decide +kernel
theorem dX10_layBytes_45 : decode cX10_layBytes 45 = .ok (.iconst 1, 1) := by decide +kernel
theorem dX10_layBytes_46 : decode cX10_layBytes 46 = .ok (.iadd, 1) := by decide +kernel
theorem dX10_layBytes_47 : decode cX10_layBytes 47 = .ok (.putfield 114, 3) := by decide +kernel
theorem dX10_layBytes_50 : decode cX10_layBytes 50 = .ok (.iinc 2 (-8), 3) := by decide +kernel
theorem dX10_layBytes_53 : decode cX10_layBytes 53 = .ok (.goto (-50), 3) := by decide +kernel
theorem dX10_layBytes_56 : decode cX10_layBytes 56 = .ok (.return_, 1) := by decide +kernel
theorem dX10_tapeHas_0 : decode cX10_tapeHas 0 = .ok (.iload_n 1, 1) := by decide +kernel
theorem dX10_tapeHas_1 : decode cX10_tapeHas 1 = .ok (.ifCond .lt 15, 3) := by decide +kernel
theorem dX10_tapeHas_4 : decode cX10_tapeHas 4 = .ok (.iload_n 1, 1) := by decide +kernel
theorem dX10_tapeHas_5 : decode cX10_tapeHas 5 = .ok (.aload_n 0, 1) := by decide +kernel
theorem dX10_tapeHas_6 : decode cX10_tapeHas 6 = .ok (.getfield 114, 3) := by decide +kernel
theorem dX10_tapeHas_9 : decode cX10_tapeHas 9 = .ok (.if_icmp .gt 7, 3) := by decide +kernel
theorem dX10_tapeHas_12 : decode cX10_tapeHas 12 = .ok (.iconst 1, 1) := by decide +kernel
theorem dX10_tapeHas_13 : decode cX10_tapeHas 13 = .ok (.goto 4, 3) := by decide +kernel
theorem dX10_tapeHas_16 : decode cX10_tapeHas 16 = .ok (.iconst 0, 1) := by decide +kernel
theorem dX10_tapeHas_17 : decode cX10_tapeHas 17 = .ok (.ireturn, 1) := by decide +kernel
set_option maxRecDepth 100000 in
theorem ggX10_readData_X1_read : GoodIn wsX10_readData wsX1_read := (gi_cons 8 rfl rfl (gi_cons 9 rfl rfl (gi_cons 10 rfl rfl (gi_cons 11 rfl rfl (gi_cons 12 rfl rfl (gi_cons 13 rfl rfl (gi_cons 14 rfl rfl (gi_cons 15 rfl rfl (gi_cons 16 rfl rfl (gi_cons 17 rfl rfl (gi_cons 18 rfl rfl (gi_cons 19 rfl rfl (gi_cons 20 rfl rfl (gi_cons 21 rfl rfl (gi_cons 22 rfl rfl (gi_cons 23 rfl rfl (gi_cons 24 rfl rfl (gi_cons 25 rfl rfl (gi_cons 26 rfl rfl (gi_cons 27 rfl rfl (gi_cons 28 rfl rfl (gi_cons 29 rfl rfl (gi_cons 30 rfl rfl (gi_cons 31 rfl rfl (gi_cons 32 rfl rfl (gi_cons 33 rfl rfl (gi_cons 34 rfl rfl (gi_cons 35 rfl rfl (gi_cons 36 rfl rfl (gi_cons 37 rfl rfl (gi_cons 38 rfl rfl (gi_cons 39 rfl rfl (gi_cons 40 rfl rfl (gi_cons 41 rfl rfl (gi_cons 42 rfl rfl (gi_cons 43 rfl rfl (gi_cons 44 rfl rfl (gi_cons 45 rfl rfl (gi_cons 46 rfl rfl (gi_cons 47 rfl rfl (gi_cons 48 rfl rfl (gi_cons 49 rfl rfl (gi_cons 50 rfl rfl (gi_cons 51 rfl rfl (gi_cons 52 rfl rfl (gi_cons 53 rfl rfl (gi_cons 54 rfl rfl (gi_cons 55 rfl rfl (gi_cons 56 rfl rfl (gi_cons 57 rfl rfl (gi_cons 7 rfl rfl (gi_cons 58 rfl rfl (gi_cons 59 rfl rfl (gi_cons 60 rfl rfl (gi_cons 61 rfl rfl (gi_cons 62 rfl rfl (gi_cons 63 rfl rfl (gi_cons 64 rfl rfl (gi_cons 65 rfl rfl (gi_cons 66 rfl rfl (gi_cons 67 rfl rfl (gi_cons 68 rfl rfl (gi_cons 69 rfl rfl (gi_cons 70 rfl rfl (gi_cons 71 rfl rfl (gi_cons 72 rfl rfl (gi_cons 73 rfl rfl (gi_cons 74 rfl rfl (gi_cons 75 rfl rfl (gi_cons 76 rfl rfl (gi_cons 77 rfl rfl (gi_cons 78 rfl rfl (gi_cons 79 rfl rfl (gi_cons 80 rfl rfl (gi_cons 81 rfl rfl (gi_cons 82 rfl rfl (gi_cons 83 rfl rfl (gi_cons 84 rfl rfl (gi_cons 85 rfl rfl (gi_cons 86 rfl rfl (gi_cons 87 rfl rfl (gi_cons 88 rfl rfl (gi_cons 89 rfl rfl (gi_cons 90 rfl rfl (gi_cons 91 rfl rfl (gi_cons 92 rfl rfl (gi_cons 93 rfl rfl (gi_cons 94 rfl rfl (gi_cons 95 rfl rfl (gi_cons 96 rfl rfl (gi_cons 97 rfl rfl (gi_cons 98 rfl rfl (gi_cons 99 rfl rfl (gi_cons 100 rfl rfl (gi_cons 101 rfl rfl (gi_cons 102 rfl rfl (gi_cons 103 rfl rfl (gi_cons 104 rfl rfl (gi_cons 105 rfl rfl (gi_cons 106 rfl rfl (gi_cons 107 rfl rfl (gi_cons 108 rfl rfl (gi_cons 109 rfl rfl (gi_cons 110 rfl rfl (gi_cons 111 rfl rfl (gi_cons 112 rfl rfl (gi_cons 113 rfl rfl (gi_cons 114 rfl rfl (gi_cons 115 rfl rfl (gi_cons 116 rfl rfl (gi_cons 117 rfl rfl (gi_cons 118 rfl rfl (gi_cons 119 rfl rfl (gi_cons 120 rfl rfl (gi_cons 121 rfl rfl (gi_cons 154 rfl rfl (gi_cons 155 rfl rfl (gi_cons 156 rfl rfl (gi_cons 157 rfl rfl (gi_cons 158 rfl rfl (gi_cons 159 rfl rfl (gi_cons 160 rfl rfl (gi_cons 161 rfl rfl (gi_cons 162 rfl rfl (gi_cons 163 rfl rfl (gi_cons 164 rfl rfl (gi_cons 165 rfl rfl (gi_cons 166 rfl rfl (gi_cons 167 rfl rfl (gi_cons 168 rfl rfl gi_nil))))))))))))))))))))))))))))))))))))))))))))))))))))))))))))))))))))))))))))))))))))))))))))))))))))))))))))))))))))))))))))))))))
set_option maxRecDepth 20000 in
theorem gX10_readData_X1_read : GoodIn wsX10_readData (wsV RX10 376 RX1 yX1_read wsX1_read) := goodIn_app (goodIn_of _ (by decide +kernel)) ggX10_readData_X1_read
set_option maxRecDepth 100000 in
theorem ggX10_readData_X10_textWasRead : GoodIn wsX10_readData wsX10_textWasRead := (gi_cons 125 rfl rfl (gi_cons 126 rfl rfl (gi_cons 127 rfl rfl (gi_cons 128 rfl rfl (gi_cons 129 rfl rfl (gi_cons 130 rfl rfl (gi_cons 131 rfl rfl (gi_cons 132 rfl rfl (gi_cons 133 rfl rfl (gi_cons 134 rfl rfl (gi_cons 135 rfl rfl (gi_cons 136 rfl rfl (gi_cons 137 rfl rfl (gi_cons 138 rfl rfl (gi_cons 139 rfl rfl (gi_cons 140 rfl rfl (gi_cons 141 rfl rfl (gi_cons 142 rfl rfl (gi_cons 143 rfl rfl (gi_cons 144 rfl rfl (gi_cons 145 rfl rfl (gi_cons 146 rfl rfl (gi_cons 147 rfl rfl (gi_cons 148 rfl rfl (gi_cons 149 rfl rfl (gi_cons 150 rfl rfl (gi_cons 151 rfl rfl (gi_cons 152 rfl rfl (gi_cons 153 rfl rfl (gi_cons 155 rfl rfl (gi_cons 156 rfl rfl (gi_cons 157 rfl rfl (gi_cons 158 rfl rfl (gi_cons 159 rfl rfl (gi_cons 160 rfl rfl (gi_cons 161 rfl rfl (gi_cons 162 rfl rfl (gi_cons 163 rfl rfl (gi_cons 169 rfl rfl (gi_cons 170 rfl rfl (gi_cons 171 rfl rfl (gi_cons 172 rfl rfl (gi_cons 173 rfl rfl (gi_cons 174 rfl rfl (gi_cons 175 rfl rfl gi_nil)))))))))))))))))))))))))))))))))))))))))))))
set_option maxRecDepth 20000 in
theorem gX10_readData_X10_textWasRead : GoodIn wsX10_readData (wsV RX10 158 RX10 yX10_textWasRead wsX10_textWasRead) := goodIn_app (goodIn_of _ (by decide +kernel)) ggX10_readData_X10_textWasRead
theorem dX10_readData_0 : decode cX10_readData 0 = .ok (.aload_n 0, 1) := by decide +kernel
theorem dX10_readData_1 : decode cX10_readData 1 = .ok (.getfield 40, 3) := by decide +kernel
theorem dX10_readData_4 : decode cX10_readData 4 = .ok (.aload_n 0, 1) := by decide +kernel
theorem dX10_readData_5 : decode cX10_readData 5 = .ok (.getfield 9, 3) := by decide +kernel
theorem dX10_readData_8 : decode cX10_readData 8 = .ok (.iload_n 1, 1) := by decide +kernel
theorem dX10_readData_9 : decode cX10_readData 9 = .ok (.aload_n 0, 1) := by decide +kernel
theorem dX10_readData_10 : decode cX10_readData 10 = .ok (.getfield 56, 3) := by decide +kernel
theorem dX10_readData_13 : decode cX10_readData 13 = .ok (.invokevirtual 376, 3) := by decide +kernel
theorem dX10_readData_16 : decode cX10_readData 16 = .ok (.istore_n 2, 1) := by decide +kernel
theorem dX10_readData_17 : decode cX10_readData 17 = .ok (.aload_n 0, 1) := by decide +kernel
theorem dX10_readData_18 : decode cX10_readData 18 = .ok (.iload_n 2, 1) := by decide +kernel
theorem dX10_readData_19 : decode cX10_readData 19 = .ok (.invokevirtual 158, 3) := by decide +kernel
theorem dX10_readData_22 : decode cX10_readData 22 = .ok (.iload_n 2, 1) := by decide +kernel
theorem dX10_readData_23 : decode cX10_readData 23 = .ok (.ireturn, 1) := by decide +kernel
set_option maxRecDepth 100000 in
theorem ggX10_textWasRead_X6_refuse : GoodIn wsX10_textWasRead wsX6_refuse := (gi_cons 9 rfl rfl (gi_cons 10 rfl rfl (gi_cons 38 rfl rfl (gi_cons 39 rfl rfl (gi_cons 40 rfl rfl (gi_cons 41 rfl rfl (gi_cons 42 rfl rfl (gi_cons 43 rfl rfl (gi_cons 44 rfl rfl gi_nil)))))))))
set_option maxRecDepth 20000 in
theorem gX10_textWasRead_X6_refuse : GoodIn wsX10_textWasRead (wsV RX10 348 RX6 yX6_refuse wsX6_refuse) := goodIn_app (goodIn_of _ (by decide +kernel)) ggX10_textWasRead_X6_refuse
theorem dX10_textWasRead_0 : decode cX10_textWasRead 0 = .ok (.aload_n 0, 1) := by decide +kernel
theorem dX10_textWasRead_1 : decode cX10_textWasRead 1 = .ok (.iconst 0, 1) := by decide +kernel
theorem dX10_textWasRead_2 : decode cX10_textWasRead 2 = .ok (.putfield 114, 3) := by decide +kernel
theorem dX10_textWasRead_5 : decode cX10_textWasRead 5 = .ok (.aload_n 0, 1) := by decide +kernel
theorem dX10_textWasRead_6 : decode cX10_textWasRead 6 = .ok (.aload_n 0, 1) := by decide +kernel
theorem dX10_textWasRead_7 : decode cX10_textWasRead 7 = .ok (.getfield 31, 3) := by decide +kernel
theorem dX10_textWasRead_10 : decode cX10_textWasRead 10 = .ok (.getfield 379, 3) := by decide +kernel
theorem dX10_textWasRead_13 : decode cX10_textWasRead 13 = .ok (.putfield 13, 3) := by decide +kernel
theorem dX10_textWasRead_16 : decode cX10_textWasRead 16 = .ok (.iload_n 1, 1) := by decide +kernel
theorem dX10_textWasRead_17 : decode cX10_textWasRead 17 = .ok (.ifCond .eq 11, 3) := by decide +kernel
theorem dX10_textWasRead_20 : decode cX10_textWasRead 20 = .ok (.aload_n 0, 1) := by decide +kernel
theorem dX10_textWasRead_21 : decode cX10_textWasRead 21 = .ok (.getfield 63, 3) := by decide +kernel
theorem dX10_textWasRead_24 : decode cX10_textWasRead 24 = .ok (.iconst 0, 1) := by decide +kernel
theorem dX10_textWasRead_25 : decode cX10_textWasRead 25 = .ok (.invokevirtual 348, 3) := by decide +kernel
theorem dX10_textWasRead_28 : decode cX10_textWasRead 28 = .ok (.return_, 1) := by decide +kernel
set_option maxRecDepth 100000 in
theorem ggX10_refusedUnread_X6_refuse : GoodIn wsX10_refusedUnread wsX6_refuse := (gi_cons 7 rfl rfl (gi_cons 8 rfl rfl (gi_cons 27 rfl rfl (gi_cons 28 rfl rfl (gi_cons 29 rfl rfl (gi_cons 30 rfl rfl (gi_cons 31 rfl rfl (gi_cons 32 rfl rfl (gi_cons 33 rfl rfl gi_nil)))))))))
set_option maxRecDepth 20000 in
theorem gX10_refusedUnread_X6_refuse : GoodIn wsX10_refusedUnread (wsV RX10 348 RX6 yX6_refuse wsX6_refuse) := goodIn_app (goodIn_of _ (by decide +kernel)) ggX10_refusedUnread_X6_refuse
theorem dX10_refusedUnread_0 : decode cX10_refusedUnread 0 = .ok (.aload_n 0, 1) := by decide +kernel
theorem dX10_refusedUnread_1 : decode cX10_refusedUnread 1 = .ok (.iconst 0, 1) := by decide +kernel
theorem dX10_refusedUnread_2 : decode cX10_refusedUnread 2 = .ok (.putfield 114, 3) := by decide +kernel
theorem dX10_refusedUnread_5 : decode cX10_refusedUnread 5 = .ok (.aload_n 0, 1) := by decide +kernel
theorem dX10_refusedUnread_6 : decode cX10_refusedUnread 6 = .ok (.getfield 63, 3) := by decide +kernel
theorem dX10_refusedUnread_9 : decode cX10_refusedUnread 9 = .ok (.iconst 1, 1) := by decide +kernel
theorem dX10_refusedUnread_10 : decode cX10_refusedUnread 10 = .ok (.invokevirtual 348, 3) := by decide +kernel
theorem dX10_refusedUnread_13 : decode cX10_refusedUnread 13 = .ok (.iconst (-1), 1) := by decide +kernel
theorem dX10_refusedUnread_14 : decode cX10_refusedUnread 14 = .ok (.ireturn, 1) := by decide +kernel
set_option maxRecDepth 100000 in
theorem ggX10_actDone_X6_refuse : GoodIn wsX10_actDone wsX6_refuse := (gi_cons 6 rfl rfl (gi_cons 7 rfl rfl (gi_cons 26 rfl rfl (gi_cons 27 rfl rfl (gi_cons 28 rfl rfl (gi_cons 29 rfl rfl (gi_cons 30 rfl rfl (gi_cons 31 rfl rfl (gi_cons 32 rfl rfl gi_nil)))))))))
set_option maxRecDepth 20000 in
theorem gX10_actDone_X6_refuse : GoodIn wsX10_actDone (wsV RX10 348 RX6 yX6_refuse wsX6_refuse) := goodIn_app (goodIn_of _ (by decide +kernel)) ggX10_actDone_X6_refuse
theorem dX10_actDone_0 : decode cX10_actDone 0 = .ok (.iload_n 1, 1) := by decide +kernel
theorem dX10_actDone_1 : decode cX10_actDone 1 = .ok (.iconst (-1), 1) := by decide +kernel
theorem dX10_actDone_2 : decode cX10_actDone 2 = .ok (.if_icmp .ne 11, 3) := by decide +kernel
theorem dX10_actDone_5 : decode cX10_actDone 5 = .ok (.aload_n 0, 1) := by decide +kernel
theorem dX10_actDone_6 : decode cX10_actDone 6 = .ok (.getfield 63, 3) := by decide +kernel
theorem dX10_actDone_9 : decode cX10_actDone 9 = .ok (.iconst 1, 1) := by decide +kernel
theorem dX10_actDone_10 : decode cX10_actDone 10 = .ok (.invokevirtual 348, 3) := by decide +kernel
theorem dX10_actDone_13 : decode cX10_actDone 13 = .ok (.iload_n 1, 1) := by decide +kernel
theorem dX10_actDone_14 : decode cX10_actDone 14 = .ok (.ireturn, 1) := by decide +kernel
theorem dX10_pathAt_0 : decode cX10_pathAt 0 = .ok (.iload_n 1, 1) := by decide +kernel
theorem dX10_pathAt_1 : decode cX10_pathAt 1 = .ok (.ifCond .lt 8, 3) := by decide +kernel
theorem dX10_pathAt_4 : decode cX10_pathAt 4 = .ok (.iload_n 1, 1) := by decide +kernel
theorem dX10_pathAt_5 : decode cX10_pathAt 5 = .ok (.iconst 4, 1) := by decide +kernel
theorem dX10_pathAt_6 : decode cX10_pathAt 6 = .ok (.if_icmp .lt 7, 3) := by decide +kernel
theorem dX10_pathAt_9 : decode cX10_pathAt 9 = .ok (.aconst_null, 1) := by decide +kernel
theorem dX10_pathAt_10 : decode cX10_pathAt 10 = .ok (.goto 9, 3) := by decide +kernel
theorem dX10_pathAt_13 : decode cX10_pathAt 13 = .ok (.aload_n 0, 1) := by decide +kernel
theorem dX10_pathAt_14 : decode cX10_pathAt 14 = .ok (.getfield 19, 3) := by decide +kernel
theorem dX10_pathAt_17 : decode cX10_pathAt 17 = .ok (.iload_n 1, 1) := by decide +kernel
theorem dX10_pathAt_18 : decode cX10_pathAt 18 = .ok (.aaload, 1) := by decide +kernel
theorem dX10_pathAt_19 : decode cX10_pathAt 19 = .ok (.areturn, 1) := by decide +kernel
theorem dX10_pathsThere_0 : decode cX10_pathsThere 0 = .ok (.iconst 0, 1) := by decide +kernel
theorem dX10_pathsThere_1 : decode cX10_pathsThere 1 = .ok (.istore_n 1, 1) := by decide +kernel
theorem dX10_pathsThere_2 : decode cX10_pathsThere 2 = .ok (.iconst 0, 1) := by decide +kernel
theorem dX10_pathsThere_3 : decode cX10_pathsThere 3 = .ok (.istore_n 2, 1) := by decide +kernel
theorem dX10_pathsThere_4 : decode cX10_pathsThere 4 = .ok (.iload_n 2, 1) := by decide +kernel
theorem dX10_pathsThere_5 : decode cX10_pathsThere 5 = .ok (.iconst 4, 1) := by decide +kernel
theorem dX10_pathsThere_6 : decode cX10_pathsThere 6 = .ok (.if_icmp .ge 24, 3) := by decide +kernel
theorem dX10_pathsThere_9 : decode cX10_pathsThere 9 = .ok (.aload_n 0, 1) := by decide +kernel
theorem dX10_pathsThere_10 : decode cX10_pathsThere 10 = .ok (.getfield 19, 3) := by decide +kernel
theorem dX10_pathsThere_13 : decode cX10_pathsThere 13 = .ok (.iload_n 2, 1) := by decide +kernel
theorem dX10_pathsThere_14 : decode cX10_pathsThere 14 = .ok (.aaload, 1) := by decide +kernel
theorem dX10_pathsThere_15 : decode cX10_pathsThere 15 = .ok (.ifnull 9, 3) := by decide +kernel
theorem dX10_pathsThere_18 : decode cX10_pathsThere 18 = .ok (.iload_n 1, 1) := by decide +kernel
theorem dX10_pathsThere_19 : decode cX10_pathsThere 19 = .ok (.iconst 1, 1) := by decide +kernel
theorem dX10_pathsThere_20 : decode cX10_pathsThere 20 = .ok (.iload_n 2, 1) := by decide +kernel
theorem dX10_pathsThere_21 : decode cX10_pathsThere 21 = .ok (.ishl, 1) := by decide +kernel
theorem dX10_pathsThere_22 : decode cX10_pathsThere 22 = .ok (.ior, 1) := by decide +kernel
theorem dX10_pathsThere_23 : decode cX10_pathsThere 23 = .ok (.istore_n 1, 1) := by decide +kernel
theorem dX10_pathsThere_24 : decode cX10_pathsThere 24 = .ok (.iinc 2 1, 3) := by decide +kernel
theorem dX10_pathsThere_27 : decode cX10_pathsThere 27 = .ok (.goto (-23), 3) := by decide +kernel
theorem dX10_pathsThere_30 : decode cX10_pathsThere 30 = .ok (.iload_n 1, 1) := by decide +kernel
theorem dX10_pathsThere_31 : decode cX10_pathsThere 31 = .ok (.ireturn, 1) := by decide +kernel
set_option maxRecDepth 100000 in
theorem ggX10_findAnswers_X4_answersIn : GoodIn wsX10_findAnswers wsX4_answersIn := (gi_cons 8 rfl rfl (gi_cons 9 rfl rfl (gi_cons 10 rfl rfl (gi_cons 11 rfl rfl (gi_cons 12 rfl rfl (gi_cons 7 rfl rfl (gi_cons 13 rfl rfl (gi_cons 14 rfl rfl (gi_cons 15 rfl rfl (gi_cons 16 rfl rfl (gi_cons 17 rfl rfl (gi_cons 18 rfl rfl (gi_cons 19 rfl rfl (gi_cons 20 rfl rfl (gi_cons 21 rfl rfl (gi_cons 22 rfl rfl (gi_cons 23 rfl rfl (gi_cons 24 rfl rfl (gi_cons 25 rfl rfl (gi_cons 26 rfl rfl (gi_cons 27 rfl rfl (gi_cons 28 rfl rfl (gi_cons 29 rfl rfl (gi_cons 30 rfl rfl (gi_cons 31 rfl rfl (gi_cons 32 rfl rfl (gi_cons 33 rfl rfl (gi_cons 34 rfl rfl (gi_cons 35 rfl rfl (gi_cons 36 rfl rfl (gi_cons 37 rfl rfl (gi_cons 38 rfl rfl (gi_cons 39 rfl rfl (gi_cons 40 rfl rfl (gi_cons 41 rfl rfl (gi_cons 42 rfl rfl (gi_cons 43 rfl rfl (gi_cons 44 rfl rfl (gi_cons 45 rfl rfl (gi_cons 46 rfl rfl (gi_cons 47 rfl rfl (gi_cons 48 rfl rfl (gi_cons 49 rfl rfl (gi_cons 50 rfl rfl (gi_cons 51 rfl rfl (gi_cons 52 rfl rfl (gi_cons 53 rfl rfl (gi_cons 54 rfl rfl (gi_cons 55 rfl rfl (gi_cons 56 rfl rfl (gi_cons 57 rfl rfl (gi_cons 58 rfl rfl (gi_cons 59 rfl rfl (gi_cons 60 rfl rfl (gi_cons 61 rfl rfl (gi_cons 62 rfl rfl (gi_cons 63 rfl rfl (gi_cons 64 rfl rfl (gi_cons 65 rfl rfl (gi_cons 66 rfl rfl (gi_cons 67 rfl rfl (gi_cons 68 rfl rfl (gi_cons 69 rfl rfl (gi_cons 70 rfl rfl (gi_cons 71 rfl rfl (gi_cons 72 rfl rfl (gi_cons 73 rfl rfl (gi_cons 74 rfl rfl (gi_cons 75 rfl rfl (gi_cons 76 rfl rfl (gi_cons 77 rfl rfl (gi_cons 78 rfl rfl (gi_cons 79 rfl rfl (gi_cons 80 rfl rfl (gi_cons 81 rfl rfl (gi_cons 82 rfl rfl (gi_cons 83 rfl rfl (gi_cons 84 rfl rfl (gi_cons 110 rfl rfl (gi_cons 111 rfl rfl (gi_cons 112 rfl rfl (gi_cons 113 rfl rfl (gi_cons 114 rfl rfl (gi_cons 115 rfl rfl (gi_cons 116 rfl rfl (gi_cons 117 rfl rfl (gi_cons 118 rfl rfl (gi_cons 119 rfl rfl (gi_cons 120 rfl rfl (gi_cons 121 rfl rfl (gi_cons 122 rfl rfl (gi_cons 123 rfl rfl (gi_cons 124 rfl rfl (gi_cons 125 rfl rfl (gi_cons 126 rfl rfl (gi_cons 127 rfl rfl (gi_cons 128 rfl rfl gi_nil)))))))))))))))))))))))))))))))))))))))))))))))))))))))))))))))))))))))))))))))))))))))))))))))))
set_option maxRecDepth 20000 in
theorem gX10_findAnswers_X4_answersIn : GoodIn wsX10_findAnswers (wsV RX10 263 RX4 yX4_answersIn wsX4_answersIn) := goodIn_app (goodIn_of _ (by decide +kernel)) ggX10_findAnswers_X4_answersIn
theorem dX10_findAnswers_0 : decode cX10_findAnswers 0 = .ok (.iconst 0, 1) := by decide +kernel
theorem dX10_findAnswers_1 : decode cX10_findAnswers 1 = .ok (.istore_n 1, 1) := by decide +kernel
theorem dX10_findAnswers_2 : decode cX10_findAnswers 2 = .ok (.iload_n 1, 1) := by decide +kernel
theorem dX10_findAnswers_3 : decode cX10_findAnswers 3 = .ok (.iconst 4, 1) := by decide +kernel
theorem dX10_findAnswers_4 : decode cX10_findAnswers 4 = .ok (.if_icmp .ge 43, 3) := by decide +kernel
theorem dX10_findAnswers_7 : decode cX10_findAnswers 7 = .ok (.aload_n 0, 1) := by decide +kernel
theorem dX10_findAnswers_8 : decode cX10_findAnswers 8 = .ok (.getfield 19, 3) := by decide +kernel
theorem dX10_findAnswers_11 : decode cX10_findAnswers 11 = .ok (.iload_n 1, 1) := by decide +kernel
theorem dX10_findAnswers_12 : decode cX10_findAnswers 12 = .ok (.aaload, 1) := by decide +kernel
theorem dX10_findAnswers_13 : decode cX10_findAnswers 13 = .ok (.astore_n 2, 1) := by decide +kernel
theorem dX10_findAnswers_14 : decode cX10_findAnswers 14 = .ok (.aload_n 0, 1) := by decide +kernel
theorem dX10_findAnswers_15 : decode cX10_findAnswers 15 = .ok (.getfield 96, 3) := by decide +kernel
theorem dX10_findAnswers_18 : decode cX10_findAnswers 18 = .ok (.iload_n 1, 1) := by decide +kernel
theorem dX10_findAnswers_19 : decode cX10_findAnswers 19 = .ok (.aload_n 2, 1) := by decide +kernel
theorem dX10_findAnswers_20 : decode cX10_findAnswers 20 = .ok (.ifnonnull 7, 3) := by decide +kernel
theorem dX10_findAnswers_23 : decode cX10_findAnswers 23 = .ok (.lconst 0, 1) := by decide +kernel
theorem dX10_findAnswers_24 : decode cX10_findAnswers 24 = .ok (.goto 16, 3) := by decide +kernel
theorem dX10_findAnswers_27 : decode cX10_findAnswers 27 = .ok (.aload_n 2, 1) := by decide +kernel
theorem dX10_findAnswers_28 : decode cX10_findAnswers 28 = .ok (.aload_n 0, 1) := by decide +kernel
theorem dX10_findAnswers_29 : decode cX10_findAnswers 29 = .ok (.getfield 63, 3) := by decide +kernel
theorem dX10_findAnswers_32 : decode cX10_findAnswers 32 = .ok (.getfield 107, 3) := by decide +kernel
theorem dX10_findAnswers_35 : decode cX10_findAnswers 35 = .ok (.bipush 8, 2) := by decide +kernel
theorem dX10_findAnswers_37 : decode cX10_findAnswers 37 = .ok (.invokevirtual 263, 3) := by decide +kernel
theorem dX10_findAnswers_40 : decode cX10_findAnswers 40 = .ok (.lastore, 1) := by decide +kernel
theorem dX10_findAnswers_41 : decode cX10_findAnswers 41 = .ok (.iinc 1 1, 3) := by decide +kernel
theorem dX10_findAnswers_44 : decode cX10_findAnswers 44 = .ok (.goto (-42), 3) := by decide +kernel
theorem dX10_findAnswers_47 : decode cX10_findAnswers 47 = .ok (.return_, 1) := by decide +kernel
set_option maxRecDepth 100000 in
theorem ggX10_foundAmong_X10_isIn : GoodIn wsX10_foundAmong wsX10_isIn := (gi_cons 5 rfl rfl (gi_cons 6 rfl rfl (gi_cons 7 rfl rfl (gi_cons 4 rfl rfl (gi_cons 8 rfl rfl gi_nil)))))
set_option maxRecDepth 20000 in
theorem gX10_foundAmong_X10_isIn : GoodIn wsX10_foundAmong (va_wsS RX10 393 yX10_isIn wsX10_isIn) := goodIn_app (goodIn_of _ (by decide +kernel)) ggX10_foundAmong_X10_isIn
theorem dX10_foundAmong_0 : decode cX10_foundAmong 0 = .ok (.iconst 0, 1) := by decide +kernel
theorem dX10_foundAmong_1 : decode cX10_foundAmong 1 = .ok (.istore_n 3, 1) := by decide +kernel
theorem dX10_foundAmong_2 : decode cX10_foundAmong 2 = .ok (.iconst 0, 1) := by decide +kernel
theorem dX10_foundAmong_3 : decode cX10_foundAmong 3 = .ok (.istore 4, 2) := by decide +kernel
theorem dX10_foundAmong_5 : decode cX10_foundAmong 5 = .ok (.iload 4, 2) := by decide +kernel
theorem dX10_foundAmong_7 : decode cX10_foundAmong 7 = .ok (.iconst 4, 1) := by decide +kernel
theorem dX10_foundAmong_8 : decode cX10_foundAmong 8 = .ok (.if_icmp .ge 35, 3) := by decide +kernel
theorem dX10_foundAmong_11 : decode cX10_foundAmong 11 = .ok (.iload_n 2, 1) := by decide +kernel
theorem dX10_foundAmong_12 : decode cX10_foundAmong 12 = .ok (.iload 4, 2) := by decide +kernel
theorem dX10_foundAmong_14 : decode cX10_foundAmong 14 = .ok (.iushr, 1) := by decide +kernel
theorem dX10_foundAmong_15 : decode cX10_foundAmong 15 = .ok (.iconst 1, 1) := by decide +kernel
theorem dX10_foundAmong_16 : decode cX10_foundAmong 16 = .ok (.iand, 1) := by decide +kernel
theorem dX10_foundAmong_17 : decode cX10_foundAmong 17 = .ok (.ifCond .eq 20, 3) := by decide +kernel
theorem dX10_foundAmong_20 : decode cX10_foundAmong 20 = .ok (.aload_n 0, 1) := by decide +kernel
theorem dX10_foundAmong_21 : decode cX10_foundAmong 21 = .ok (.getfield 96, 3) := by decide +kernel
theorem dX10_foundAmong_24 : decode cX10_foundAmong 24 = .ok (.iload 4, 2) := by decide +kernel
theorem dX10_foundAmong_26 : decode cX10_foundAmong 26 = .ok (.laload, 1) := by decide +kernel
theorem dX10_foundAmong_27 : decode cX10_foundAmong 27 = .ok (.iload_n 1, 1) := by decide +kernel
theorem dX10_foundAmong_28 : decode cX10_foundAmong 28 = .ok (.invokestatic 393, 3) := by decide +kernel
theorem dX10_foundAmong_31 : decode cX10_foundAmong 31 = .ok (.ifCond .eq 6, 3) := by decide +kernel
theorem dX10_foundAmong_34 : decode cX10_foundAmong 34 = .ok (.iinc 3 1, 3) := by decide +kernel
theorem dX10_foundAmong_37 : decode cX10_foundAmong 37 = .ok (.iinc 4 1, 3) := by decide +kernel
theorem dX10_foundAmong_40 : decode cX10_foundAmong 40 = .ok (.goto (-35), 3) := by decide +kernel
theorem dX10_foundAmong_43 : decode cX10_foundAmong 43 = .ok (.iload_n 3, 1) := by decide +kernel
theorem dX10_foundAmong_44 : decode cX10_foundAmong 44 = .ok (.ireturn, 1) := by decide +kernel
set_option maxRecDepth 100000 in
theorem ggX10_pathsAnswering_X10_findAnswers : GoodIn wsX10_pathsAnswering wsX10_findAnswers := (gi_cons 5 rfl rfl (gi_cons 6 rfl rfl (gi_cons 7 rfl rfl (gi_cons 8 rfl rfl (gi_cons 9 rfl rfl (gi_cons 10 rfl rfl (gi_cons 11 rfl rfl (gi_cons 12 rfl rfl (gi_cons 13 rfl rfl (gi_cons 14 rfl rfl (gi_cons 15 rfl rfl (gi_cons 16 rfl rfl (gi_cons 17 rfl rfl (gi_cons 18 rfl rfl (gi_cons 19 rfl rfl (gi_cons 20 rfl rfl (gi_cons 21 rfl rfl (gi_cons 22 rfl rfl (gi_cons 23 rfl rfl (gi_cons 24 rfl rfl (gi_cons 25 rfl rfl (gi_cons 26 rfl rfl (gi_cons 27 rfl rfl (gi_cons 28 rfl rfl (gi_cons 29 rfl rfl (gi_cons 30 rfl rfl (gi_cons 4 rfl rfl (gi_cons 31 rfl rfl (gi_cons 32 rfl rfl (gi_cons 33 rfl rfl (gi_cons 34 rfl rfl (gi_cons 35 rfl rfl (gi_cons 36 rfl rfl (gi_cons 37 rfl rfl (gi_cons 38 rfl rfl (gi_cons 39 rfl rfl (gi_cons 40 rfl rfl (gi_cons 41 rfl rfl (gi_cons 42 rfl rfl (gi_cons 43 rfl rfl (gi_cons 44 rfl rfl (gi_cons 45 rfl rfl (gi_cons 46 rfl rfl (gi_cons 47 rfl rfl (gi_cons 48 rfl rfl (gi_cons 49 rfl rfl (gi_cons 50 rfl rfl (gi_cons 51 rfl rfl (gi_cons 52 rfl rfl (gi_cons 53 rfl rfl (gi_cons 54 rfl rfl (gi_cons 55 rfl rfl (gi_cons 56 rfl rfl (gi_cons 57 rfl rfl (gi_cons 58 rfl rfl (gi_cons 59 rfl rfl (gi_cons 60 rfl rfl (gi_cons 61 rfl rfl (gi_cons 62 rfl rfl (gi_cons 63 rfl rfl (gi_cons 64 rfl rfl (gi_cons 65 rfl rfl (gi_cons 66 rfl rfl (gi_cons 67 rfl rfl (gi_cons 68 rfl rfl (gi_cons 69 rfl rfl (gi_cons 70 rfl rfl (gi_cons 71 rfl rfl (gi_cons 72 rfl rfl (gi_cons 73 rfl rfl (gi_cons 74 rfl rfl (gi_cons 75 rfl rfl (gi_cons 76 rfl rfl (gi_cons 77 rfl rfl (gi_cons 78 rfl rfl (gi_cons 79 rfl rfl (gi_cons 80 rfl rfl (gi_cons 81 rfl rfl (gi_cons 82 rfl rfl (gi_cons 83 rfl rfl (gi_cons 84 rfl rfl (gi_cons 85 rfl rfl (gi_cons 86 rfl rfl (gi_cons 87 rfl rfl (gi_cons 88 rfl rfl (gi_cons 101 rfl rfl (gi_cons 102 rfl rfl (gi_cons 103 rfl rfl (gi_cons 104 rfl rfl (gi_cons 105 rfl rfl (gi_cons 106 rfl rfl (gi_cons 107 rfl rfl (gi_cons 108 rfl rfl (gi_cons 109 rfl rfl (gi_cons 110 rfl rfl (gi_cons 111 rfl rfl (gi_cons 112 rfl rfl (gi_cons 113 rfl rfl (gi_cons 114 rfl rfl (gi_cons 115 rfl rfl (gi_cons 116 rfl rfl (gi_cons 117 rfl rfl (gi_cons 118 rfl rfl (gi_cons 119 rfl rfl (gi_cons 120 rfl rfl (gi_cons 121 rfl rfl (gi_cons 122 rfl rfl (gi_cons 123 rfl rfl (gi_cons 124 rfl rfl (gi_cons 125 rfl rfl (gi_cons 126 rfl rfl (gi_cons 127 rfl rfl (gi_cons 128 rfl rfl (gi_cons 129 rfl rfl (gi_cons 130 rfl rfl (gi_cons 131 rfl rfl (gi_cons 132 rfl rfl (gi_cons 133 rfl rfl (gi_cons 134 rfl rfl (gi_cons 135 rfl rfl (gi_cons 136 rfl rfl (gi_cons 137 rfl rfl (gi_cons 138 rfl rfl (gi_cons 139 rfl rfl (gi_cons 140 rfl rfl (gi_cons 141 rfl rfl (gi_cons 142 rfl rfl (gi_cons 143 rfl rfl (gi_cons 144 rfl rfl gi_nil)))))))))))))))))))))))))))))))))))))))))))))))))))))))))))))))))))))))))))))))))))))))))))))))))))))))))))))))))))))))))))))))))
set_option maxRecDepth 20000 in
theorem gX10_pathsAnswering_X10_findAnswers : GoodIn wsX10_pathsAnswering (wsV RX10 397 RX10 yX10_findAnswers wsX10_findAnswers) := goodIn_app (goodIn_of _ (by decide +kernel)) ggX10_pathsAnswering_X10_findAnswers
set_option maxRecDepth 100000 in
theorem ggX10_pathsAnswering_X10_pathsThere : GoodIn wsX10_pathsAnswering wsX10_pathsThere := (gi_cons 92 rfl rfl (gi_cons 6 rfl rfl (gi_cons 101 rfl rfl (gi_cons 102 rfl rfl (gi_cons 103 rfl rfl (gi_cons 104 rfl rfl (gi_cons 105 rfl rfl (gi_cons 106 rfl rfl (gi_cons 107 rfl rfl (gi_cons 108 rfl rfl (gi_cons 109 rfl rfl (gi_cons 110 rfl rfl (gi_cons 111 rfl rfl (gi_cons 112 rfl rfl (gi_cons 113 rfl rfl (gi_cons 114 rfl rfl (gi_cons 115 rfl rfl (gi_cons 116 rfl rfl (gi_cons 117 rfl rfl (gi_cons 118 rfl rfl gi_nil))))))))))))))))))))
set_option maxRecDepth 20000 in
theorem gX10_pathsAnswering_X10_pathsThere : GoodIn wsX10_pathsAnswering (wsV RX10 171 RX10 yX10_pathsThere wsX10_pathsThere) := goodIn_app (goodIn_of _ (by decide +kernel)) ggX10_pathsAnswering_X10_pathsThere
set_option maxRecDepth 100000 in
theorem ggX10_pathsAnswering_X10_foundAmong : GoodIn wsX10_pathsAnswering wsX10_foundAmong := (gi_cons 96 rfl rfl (gi_cons 7 rfl rfl (gi_cons 97 rfl rfl (gi_cons 98 rfl rfl (gi_cons 4 rfl rfl (gi_cons 99 rfl rfl (gi_cons 100 rfl rfl (gi_cons 30 rfl rfl (gi_cons 31 rfl rfl (gi_cons 101 rfl rfl (gi_cons 102 rfl rfl (gi_cons 103 rfl rfl (gi_cons 104 rfl rfl (gi_cons 105 rfl rfl (gi_cons 106 rfl rfl (gi_cons 107 rfl rfl (gi_cons 108 rfl rfl (gi_cons 109 rfl rfl (gi_cons 110 rfl rfl (gi_cons 111 rfl rfl (gi_cons 112 rfl rfl (gi_cons 113 rfl rfl (gi_cons 114 rfl rfl (gi_cons 115 rfl rfl (gi_cons 116 rfl rfl (gi_cons 117 rfl rfl (gi_cons 118 rfl rfl gi_nil)))))))))))))))))))))))))))
set_option maxRecDepth 20000 in
theorem gX10_pathsAnswering_X10_foundAmong : GoodIn wsX10_pathsAnswering (wsV RX10 355 RX10 yX10_foundAmong wsX10_foundAmong) := goodIn_app (goodIn_of _ (by decide +kernel)) ggX10_pathsAnswering_X10_foundAmong
theorem dX10_pathsAnswering_0 : decode cX10_pathsAnswering 0 = .ok (.aload_n 0, 1) := by decide +kernel
theorem dX10_pathsAnswering_1 : decode cX10_pathsAnswering 1 = .ok (.invokevirtual 397, 3) := by decide +kernel
theorem dX10_pathsAnswering_4 : decode cX10_pathsAnswering 4 = .ok (.aload_n 0, 1) := by decide +kernel
theorem dX10_pathsAnswering_5 : decode cX10_pathsAnswering 5 = .ok (.iload_n 1, 1) := by decide +kernel
theorem dX10_pathsAnswering_6 : decode cX10_pathsAnswering 6 = .ok (.aload_n 0, 1) := by decide +kernel
theorem dX10_pathsAnswering_7 : decode cX10_pathsAnswering 7 = .ok (.invokevirtual 171, 3) := by decide +kernel
theorem dX10_pathsAnswering_10 : decode cX10_pathsAnswering 10 = .ok (.invokevirtual 355, 3) := by decide +kernel
theorem dX10_pathsAnswering_13 : decode cX10_pathsAnswering 13 = .ok (.ireturn, 1) := by decide +kernel
set_option maxRecDepth 100000 in
theorem ggX10_pathsThatFit_X10_findAnswers : GoodIn wsX10_pathsThatFit wsX10_findAnswers := (gi_cons 8 rfl rfl (gi_cons 1 rfl rfl (gi_cons 3 rfl rfl (gi_cons 2 rfl rfl (gi_cons 9 rfl rfl (gi_cons 10 rfl rfl (gi_cons 11 rfl rfl (gi_cons 12 rfl rfl (gi_cons 13 rfl rfl (gi_cons 14 rfl rfl (gi_cons 15 rfl rfl (gi_cons 16 rfl rfl (gi_cons 17 rfl rfl (gi_cons 18 rfl rfl (gi_cons 19 rfl rfl (gi_cons 20 rfl rfl (gi_cons 21 rfl rfl (gi_cons 22 rfl rfl (gi_cons 23 rfl rfl (gi_cons 24 rfl rfl (gi_cons 25 rfl rfl (gi_cons 26 rfl rfl (gi_cons 27 rfl rfl (gi_cons 28 rfl rfl (gi_cons 29 rfl rfl (gi_cons 30 rfl rfl (gi_cons 7 rfl rfl (gi_cons 31 rfl rfl (gi_cons 32 rfl rfl (gi_cons 33 rfl rfl (gi_cons 34 rfl rfl (gi_cons 35 rfl rfl (gi_cons 36 rfl rfl (gi_cons 37 rfl rfl (gi_cons 38 rfl rfl (gi_cons 39 rfl rfl (gi_cons 40 rfl rfl (gi_cons 41 rfl rfl (gi_cons 42 rfl rfl (gi_cons 43 rfl rfl (gi_cons 44 rfl rfl (gi_cons 45 rfl rfl (gi_cons 46 rfl rfl (gi_cons 47 rfl rfl (gi_cons 48 rfl rfl (gi_cons 49 rfl rfl (gi_cons 50 rfl rfl (gi_cons 51 rfl rfl (gi_cons 52 rfl rfl (gi_cons 53 rfl rfl (gi_cons 54 rfl rfl (gi_cons 55 rfl rfl (gi_cons 56 rfl rfl (gi_cons 57 rfl rfl (gi_cons 58 rfl rfl (gi_cons 59 rfl rfl (gi_cons 60 rfl rfl (gi_cons 61 rfl rfl (gi_cons 62 rfl rfl (gi_cons 63 rfl rfl (gi_cons 64 rfl rfl (gi_cons 65 rfl rfl (gi_cons 66 rfl rfl (gi_cons 67 rfl rfl (gi_cons 68 rfl rfl (gi_cons 69 rfl rfl (gi_cons 70 rfl rfl (gi_cons 71 rfl rfl (gi_cons 72 rfl rfl (gi_cons 73 rfl rfl (gi_cons 74 rfl rfl (gi_cons 75 rfl rfl (gi_cons 76 rfl rfl (gi_cons 77 rfl rfl (gi_cons 78 rfl rfl (gi_cons 79 rfl rfl (gi_cons 80 rfl rfl (gi_cons 81 rfl rfl (gi_cons 82 rfl rfl (gi_cons 83 rfl rfl (gi_cons 84 rfl rfl (gi_cons 85 rfl rfl (gi_cons 86 rfl rfl (gi_cons 87 rfl rfl (gi_cons 88 rfl rfl (gi_cons 100 rfl rfl (gi_cons 101 rfl rfl (gi_cons 102 rfl rfl (gi_cons 103 rfl rfl (gi_cons 104 rfl rfl (gi_cons 105 rfl rfl (gi_cons 106 rfl rfl (gi_cons 107 rfl rfl (gi_cons 108 rfl rfl (gi_cons 109 rfl rfl (gi_cons 110 rfl rfl (gi_cons 111 rfl rfl (gi_cons 112 rfl rfl (gi_cons 113 rfl rfl (gi_cons 114 rfl rfl (gi_cons 115 rfl rfl (gi_cons 116 rfl rfl (gi_cons 117 rfl rfl (gi_cons 118 rfl rfl (gi_cons 119 rfl rfl (gi_cons 120 rfl rfl (gi_cons 121 rfl rfl (gi_cons 122 rfl rfl (gi_cons 123 rfl rfl (gi_cons 124 rfl rfl (gi_cons 125 rfl rfl (gi_cons 126 rfl rfl (gi_cons 127 rfl rfl (gi_cons 128 rfl rfl (gi_cons 129 rfl rfl (gi_cons 130 rfl rfl (gi_cons 131 rfl rfl (gi_cons 132 rfl rfl (gi_cons 133 rfl rfl (gi_cons 134 rfl rfl (gi_cons 135 rfl rfl (gi_cons 136 rfl rfl (gi_cons 137 rfl rfl (gi_cons 138 rfl rfl (gi_cons 139 rfl rfl (gi_cons 140 rfl rfl (gi_cons 141 rfl rfl (gi_cons 142 rfl rfl (gi_cons 143 rfl rfl gi_nil)))))))))))))))))))))))))))))))))))))))))))))))))))))))))))))))))))))))))))))))))))))))))))))))))))))))))))))))))))))))))))))))))
set_option maxRecDepth 20000 in
theorem gX10_pathsThatFit_X10_findAnswers : GoodIn wsX10_pathsThatFit (wsV RX10 397 RX10 yX10_findAnswers wsX10_findAnswers) := goodIn_app (goodIn_of _ (by decide +kernel)) ggX10_pathsThatFit_X10_findAnswers
set_option maxRecDepth 100000 in
theorem ggX10_pathsThatFit_X6_notedFits : GoodIn wsX10_pathsThatFit wsX6_notedFits := (gi_cons 93 rfl rfl (gi_cons 94 rfl rfl (gi_cons 95 rfl rfl (gi_cons 96 rfl rfl (gi_cons 97 rfl rfl (gi_cons 7 rfl rfl (gi_cons 98 rfl rfl (gi_cons 99 rfl rfl (gi_cons 30 rfl rfl (gi_cons 31 rfl rfl (gi_cons 118 rfl rfl (gi_cons 119 rfl rfl (gi_cons 120 rfl rfl (gi_cons 121 rfl rfl (gi_cons 122 rfl rfl (gi_cons 123 rfl rfl (gi_cons 124 rfl rfl gi_nil)))))))))))))))))
set_option maxRecDepth 20000 in
theorem gX10_pathsThatFit_X6_notedFits : GoodIn wsX10_pathsThatFit (wsV RX10 400 RX6 yX6_notedFits wsX6_notedFits) := goodIn_app (goodIn_of _ (by decide +kernel)) ggX10_pathsThatFit_X6_notedFits
theorem dX10_pathsThatFit_0 : decode cX10_pathsThatFit 0 = .ok (.aload_n 0, 1) := by decide +kernel
theorem dX10_pathsThatFit_1 : decode cX10_pathsThatFit 1 = .ok (.invokevirtual 397, 3) := by decide +kernel
theorem dX10_pathsThatFit_4 : decode cX10_pathsThatFit 4 = .ok (.iconst 0, 1) := by decide +kernel
theorem dX10_pathsThatFit_5 : decode cX10_pathsThatFit 5 = .ok (.istore_n 1, 1) := by decide +kernel
theorem dX10_pathsThatFit_6 : decode cX10_pathsThatFit 6 = .ok (.iconst 0, 1) := by decide +kernel
theorem dX10_pathsThatFit_7 : decode cX10_pathsThatFit 7 = .ok (.istore_n 2, 1) := by decide +kernel
theorem dX10_pathsThatFit_8 : decode cX10_pathsThatFit 8 = .ok (.iload_n 2, 1) := by decide +kernel
theorem dX10_pathsThatFit_9 : decode cX10_pathsThatFit 9 = .ok (.iconst 4, 1) := by decide +kernel
theorem dX10_pathsThatFit_10 : decode cX10_pathsThatFit 10 = .ok (.if_icmp .ge 40, 3) := by decide +kernel
theorem dX10_pathsThatFit_13 : decode cX10_pathsThatFit 13 = .ok (.aload_n 0, 1) := by decide +kernel
theorem dX10_pathsThatFit_14 : decode cX10_pathsThatFit 14 = .ok (.getfield 19, 3) := by decide +kernel
theorem dX10_pathsThatFit_17 : decode cX10_pathsThatFit 17 = .ok (.iload_n 2, 1) := by decide +kernel
theorem dX10_pathsThatFit_18 : decode cX10_pathsThatFit 18 = .ok (.aaload, 1) := by decide +kernel
theorem dX10_pathsThatFit_19 : decode cX10_pathsThatFit 19 = .ok (.ifnull 25, 3) := by decide +kernel
theorem dX10_pathsThatFit_22 : decode cX10_pathsThatFit 22 = .ok (.aload_n 0, 1) := by decide +kernel
theorem dX10_pathsThatFit_23 : decode cX10_pathsThatFit 23 = .ok (.getfield 63, 3) := by decide +kernel
theorem dX10_pathsThatFit_26 : decode cX10_pathsThatFit 26 = .ok (.aload_n 0, 1) := by decide +kernel
theorem dX10_pathsThatFit_27 : decode cX10_pathsThatFit 27 = .ok (.getfield 96, 3) := by decide +kernel
theorem dX10_pathsThatFit_30 : decode cX10_pathsThatFit 30 = .ok (.iload_n 2, 1) := by decide +kernel
theorem dX10_pathsThatFit_31 : decode cX10_pathsThatFit 31 = .ok (.laload, 1) := by decide +kernel
theorem dX10_pathsThatFit_32 : decode cX10_pathsThatFit 32 = .ok (.invokevirtual 400, 3) := by decide +kernel
theorem dX10_pathsThatFit_35 : decode cX10_pathsThatFit 35 = .ok (.ifCond .eq 9, 3) := by decide +kernel
theorem dX10_pathsThatFit_38 : decode cX10_pathsThatFit 38 = .ok (.iload_n 1, 1) := by decide +kernel
theorem dX10_pathsThatFit_39 : decode cX10_pathsThatFit 39 = .ok (.iconst 1, 1) := by decide +kernel
theorem dX10_pathsThatFit_40 : decode cX10_pathsThatFit 40 = .ok (.iload_n 2, 1) := by decide +kernel
theorem dX10_pathsThatFit_41 : decode cX10_pathsThatFit 41 = .ok (.ishl, 1) := by decide +kernel
theorem dX10_pathsThatFit_42 : decode cX10_pathsThatFit 42 = .ok (.ior, 1) := by decide +kernel
theorem dX10_pathsThatFit_43 : decode cX10_pathsThatFit 43 = .ok (.istore_n 1, 1) := by decide +kernel
theorem dX10_pathsThatFit_44 : decode cX10_pathsThatFit 44 = .ok (.iinc 2 1, 3) := by decide +kernel
theorem dX10_pathsThatFit_47 : decode cX10_pathsThatFit 47 = .ok (.goto (-39), 3) := by decide +kernel
theorem dX10_pathsThatFit_50 : decode cX10_pathsThatFit 50 = .ok (.iload_n 1, 1) := by decide +kernel
theorem dX10_pathsThatFit_51 : decode cX10_pathsThatFit 51 = .ok (.ireturn, 1) := by decide +kernel
