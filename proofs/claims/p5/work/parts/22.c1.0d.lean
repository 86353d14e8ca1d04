theorem dX11_isIn_0 : decode cX11_isIn 0 = .ok (.iload_n 0, 1) := by decide +kernel
theorem dX11_isIn_1 : decode cX11_isIn 1 = .ok (.iload_n 1, 1) := by decide +kernel
theorem dX11_isIn_2 : decode cX11_isIn 2 = .ok (.if_icmp .lt 12, 3) := by decide +kernel
theorem dX11_isIn_5 : decode cX11_isIn 5 = .ok (.iload_n 0, 1) := by decide +kernel
theorem dX11_isIn_6 : decode cX11_isIn 6 = .ok (.iload_n 2, 1) := by decide +kernel
theorem dX11_isIn_7 : decode cX11_isIn 7 = .ok (.if_icmp .gt 7, 3) := by decide +kernel
theorem dX11_isIn_10 : decode cX11_isIn 10 = .ok (.iconst 1, 1) := by decide +kernel
theorem dX11_isIn_11 : decode cX11_isIn 11 = .ok (.goto 4, 3) := by decide +kernel
theorem dX11_isIn_14 : decode cX11_isIn 14 = .ok (.iconst 0, 1) := by decide +kernel
theorem dX11_isIn_15 : decode cX11_isIn 15 = .ok (.ireturn, 1) := by decide +kernel
theorem dX11_kind_0 : decode cX11_kind 0 = .ok (.aload_n 0, 1) := by decide +kernel
theorem dX11_kind_1 : decode cX11_kind 1 = .ok (.iconst 4, 1) := by decide +kernel
theorem dX11_kind_2 : decode cX11_kind 2 = .ok (.iload_n 1, 1) := by decide +kernel
theorem dX11_kind_3 : decode cX11_kind 3 = .ok (.imul, 1) := by decide +kernel
theorem dX11_kind_4 : decode cX11_kind 4 = .ok (.iaload, 1) := by decide +kernel
theorem dX11_kind_5 : decode cX11_kind 5 = .ok (.ireturn, 1) := by decide +kernel
theorem dX11_size_0 : decode cX11_size 0 = .ok (.aload_n 0, 1) := by decide +kernel
theorem dX11_size_1 : decode cX11_size 1 = .ok (.iconst 4, 1) := by decide +kernel
theorem dX11_size_2 : decode cX11_size 2 = .ok (.iload_n 1, 1) := by decide +kernel
theorem dX11_size_3 : decode cX11_size 3 = .ok (.imul, 1) := by decide +kernel
theorem dX11_size_4 : decode cX11_size 4 = .ok (.iconst 3, 1) := by decide +kernel
theorem dX11_size_5 : decode cX11_size 5 = .ok (.iadd, 1) := by decide +kernel
theorem dX11_size_6 : decode cX11_size 6 = .ok (.iaload, 1) := by decide +kernel
theorem dX11_size_7 : decode cX11_size 7 = .ok (.ireturn, 1) := by decide +kernel
theorem dX11_holds_0 : decode cX11_holds 0 = .ok (.aload_n 0, 1) := by decide +kernel
theorem dX11_holds_1 : decode cX11_holds 1 = .ok (.iconst 4, 1) := by decide +kernel
theorem dX11_holds_2 : decode cX11_holds 2 = .ok (.iload_n 1, 1) := by decide +kernel
theorem dX11_holds_3 : decode cX11_holds 3 = .ok (.imul, 1) := by decide +kernel
theorem dX11_holds_4 : decode cX11_holds 4 = .ok (.iaload, 1) := by decide +kernel
theorem dX11_holds_5 : decode cX11_holds 5 = .ok (.iconst 2, 1) := by decide +kernel
theorem dX11_holds_6 : decode cX11_holds 6 = .ok (.if_icmp .lt 7, 3) := by decide +kernel
theorem dX11_holds_9 : decode cX11_holds 9 = .ok (.iconst 1, 1) := by decide +kernel
theorem dX11_holds_10 : decode cX11_holds 10 = .ok (.goto 4, 3) := by decide +kernel
theorem dX11_holds_13 : decode cX11_holds 13 = .ok (.iconst 0, 1) := by decide +kernel
theorem dX11_holds_14 : decode cX11_holds 14 = .ok (.ireturn, 1) := by decide +kernel
set_option maxRecDepth 100000 in
theorem ggX11_many_X11_size : GoodIn wsX11_many wsX11_size := (gi_cons 4 rfl rfl gi_nil)
set_option maxRecDepth 20000 in
theorem gX11_many_X11_size : GoodIn wsX11_many (va_wsS RX11 242 yX11_size wsX11_size) := goodIn_app (goodIn_of _ (by decide +kernel)) ggX11_many_X11_size
theorem dX11_many_0 : decode cX11_many 0 = .ok (.iconst 0, 1) := by decide +kernel
theorem dX11_many_1 : decode cX11_many 1 = .ok (.istore_n 2, 1) := by decide +kernel
theorem dX11_many_2 : decode cX11_many 2 = .ok (.iload_n 1, 1) := by decide +kernel
theorem dX11_many_3 : decode cX11_many 3 = .ok (.iconst 1, 1) := by decide +kernel
theorem dX11_many_4 : decode cX11_many 4 = .ok (.iadd, 1) := by decide +kernel
theorem dX11_many_5 : decode cX11_many 5 = .ok (.istore_n 3, 1) := by decide +kernel
theorem dX11_many_6 : decode cX11_many 6 = .ok (.iload_n 3, 1) := by decide +kernel
theorem dX11_many_7 : decode cX11_many 7 = .ok (.iload_n 1, 1) := by decide +kernel
theorem dX11_many_8 : decode cX11_many 8 = .ok (.aload_n 0, 1) := by decide +kernel
theorem dX11_many_9 : decode cX11_many 9 = .ok (.iload_n 1, 1) := by decide +kernel
theorem dX11_many_10 : decode cX11_many 10 = .ok (.invokestatic 242, 3) := by decide +kernel
theorem dX11_many_13 : decode cX11_many 13 = .ok (.iadd, 1) := by decide +kernel
theorem dX11_many_14 : decode cX11_many 14 = .ok (.if_icmp .ge 17, 3) := by decide +kernel
theorem dX11_many_17 : decode cX11_many 17 = .ok (.iinc 2 1, 3) := by decide +kernel
theorem dX11_many_20 : decode cX11_many 20 = .ok (.iload_n 3, 1) := by decide +kernel
theorem dX11_many_21 : decode cX11_many 21 = .ok (.aload_n 0, 1) := by decide +kernel
theorem dX11_many_22 : decode cX11_many 22 = .ok (.iload_n 3, 1) := by decide +kernel
theorem dX11_many_23 : decode cX11_many 23 = .ok (.invokestatic 242, 3) := by decide +kernel
theorem dX11_many_26 : decode cX11_many 26 = .ok (.iadd, 1) := by decide +kernel
theorem dX11_many_27 : decode cX11_many 27 = .ok (.istore_n 3, 1) := by decide +kernel
theorem dX11_many_28 : decode cX11_many 28 = .ok (.goto (-22), 3) := by decide +kernel
theorem dX11_many_31 : decode cX11_many 31 = .ok (.iload_n 2, 1) := by decide +kernel
theorem dX11_many_32 : decode cX11_many 32 = .ok (.ireturn, 1) := by decide +kernel
set_option maxRecDepth 100000 in
theorem ggX11_nth_X11_size : GoodIn wsX11_nth wsX11_size := (gi_cons 4 rfl rfl gi_nil)
set_option maxRecDepth 20000 in
theorem gX11_nth_X11_size : GoodIn wsX11_nth (va_wsS RX11 242 yX11_size wsX11_size) := goodIn_app (goodIn_of _ (by decide +kernel)) ggX11_nth_X11_size
theorem dX11_nth_0 : decode cX11_nth 0 = .ok (.iload_n 1, 1) := by decide +kernel
theorem dX11_nth_1 : decode cX11_nth 1 = .ok (.iconst 1, 1) := by decide +kernel
theorem dX11_nth_2 : decode cX11_nth 2 = .ok (.iadd, 1) := by decide +kernel
theorem dX11_nth_3 : decode cX11_nth 3 = .ok (.istore_n 3, 1) := by decide +kernel
theorem dX11_nth_4 : decode cX11_nth 4 = .ok (.iconst 0, 1) := by decide +kernel
theorem dX11_nth_5 : decode cX11_nth 5 = .ok (.istore 4, 2) := by decide +kernel
theorem dX11_nth_7 : decode cX11_nth 7 = .ok (.iload 4, 2) := by decide +kernel
theorem dX11_nth_9 : decode cX11_nth 9 = .ok (.iload_n 2, 1) := by decide +kernel
theorem dX11_nth_10 : decode cX11_nth 10 = .ok (.if_icmp .ge 17, 3) := by decide +kernel
theorem dX11_nth_13 : decode cX11_nth 13 = .ok (.iload_n 3, 1) := by decide +kernel
theorem dX11_nth_14 : decode cX11_nth 14 = .ok (.aload_n 0, 1) := by decide +kernel
theorem dX11_nth_15 : decode cX11_nth 15 = .ok (.iload_n 3, 1) := by decide +kernel
theorem dX11_nth_16 : decode cX11_nth 16 = .ok (.invokestatic 242, 3) := by decide +kernel
theorem dX11_nth_19 : decode cX11_nth 19 = .ok (.iadd, 1) := by decide +kernel
theorem dX11_nth_20 : decode cX11_nth 20 = .ok (.istore_n 3, 1) := by decide +kernel
theorem dX11_nth_21 : decode cX11_nth 21 = .ok (.iinc 4 1, 3) := by decide +kernel
theorem dX11_nth_24 : decode cX11_nth 24 = .ok (.goto (-17), 3) := by decide +kernel
theorem dX11_nth_27 : decode cX11_nth 27 = .ok (.iload_n 3, 1) := by decide +kernel
theorem dX11_nth_28 : decode cX11_nth 28 = .ok (.ireturn, 1) := by decide +kernel
set_option maxRecDepth 100000 in
theorem ggX11_byKey_X11_size : GoodIn wsX11_byKey wsX11_size := (gi_cons 4 rfl rfl gi_nil)
set_option maxRecDepth 20000 in
theorem gX11_byKey_X11_size : GoodIn wsX11_byKey (va_wsS RX11 242 yX11_size wsX11_size) := goodIn_app (goodIn_of _ (by decide +kernel)) ggX11_byKey_X11_size
theorem dX11_byKey_0 : decode cX11_byKey 0 = .ok (.iload_n 1, 1) := by decide +kernel
theorem dX11_byKey_1 : decode cX11_byKey 1 = .ok (.iconst 1, 1) := by decide +kernel
theorem dX11_byKey_2 : decode cX11_byKey 2 = .ok (.iadd, 1) := by decide +kernel
theorem dX11_byKey_3 : decode cX11_byKey 3 = .ok (.istore_n 3, 1) := by decide +kernel
theorem dX11_byKey_4 : decode cX11_byKey 4 = .ok (.iload_n 3, 1) := by decide +kernel
theorem dX11_byKey_5 : decode cX11_byKey 5 = .ok (.iload_n 1, 1) := by decide +kernel
theorem dX11_byKey_6 : decode cX11_byKey 6 = .ok (.aload_n 0, 1) := by decide +kernel
theorem dX11_byKey_7 : decode cX11_byKey 7 = .ok (.iload_n 1, 1) := by decide +kernel
theorem dX11_byKey_8 : decode cX11_byKey 8 = .ok (.invokestatic 242, 3) := by decide +kernel
theorem dX11_byKey_11 : decode cX11_byKey 11 = .ok (.iadd, 1) := by decide +kernel
theorem dX11_byKey_12 : decode cX11_byKey 12 = .ok (.if_icmp .ge 27, 3) := by decide +kernel
theorem dX11_byKey_15 : decode cX11_byKey 15 = .ok (.aload_n 0, 1) := by decide +kernel
theorem dX11_byKey_16 : decode cX11_byKey 16 = .ok (.iconst 4, 1) := by decide +kernel
theorem dX11_byKey_17 : decode cX11_byKey 17 = .ok (.iload_n 3, 1) := by decide +kernel
theorem dX11_byKey_18 : decode cX11_byKey 18 = .ok (.imul, 1) := by decide +kernel
theorem dX11_byKey_19 : decode cX11_byKey 19 = .ok (.iconst 2, 1) := by decide +kernel
theorem dX11_byKey_20 : decode cX11_byKey 20 = .ok (.iadd, 1) := by decide +kernel
theorem dX11_byKey_21 : decode cX11_byKey 21 = .ok (.iaload, 1) := by decide +kernel
theorem dX11_byKey_22 : decode cX11_byKey 22 = .ok (.iload_n 2, 1) := by decide +kernel
theorem dX11_byKey_23 : decode cX11_byKey 23 = .ok (.if_icmp .ne 5, 3) := by decide +kernel
theorem dX11_byKey_26 : decode cX11_byKey 26 = .ok (.iload_n 3, 1) := by decide +kernel
theorem dX11_byKey_27 : decode cX11_byKey 27 = .ok (.ireturn, 1) := by decide +kernel
theorem dX11_byKey_28 : decode cX11_byKey 28 = .ok (.iload_n 3, 1) := by decide +kernel
theorem dX11_byKey_29 : decode cX11_byKey 29 = .ok (.aload_n 0, 1) := by decide +kernel
theorem dX11_byKey_30 : decode cX11_byKey 30 = .ok (.iload_n 3, 1) := by decide +kernel
theorem dX11_byKey_31 : decode cX11_byKey 31 = .ok (.invokestatic 242, 3) := by decide +kernel
theorem dX11_byKey_34 : decode cX11_byKey 34 = .ok (.iadd, 1) := by decide +kernel
theorem dX11_byKey_35 : decode cX11_byKey 35 = .ok (.istore_n 3, 1) := by decide +kernel
theorem dX11_byKey_36 : decode cX11_byKey 36 = .ok (.goto (-32), 3) := by decide +kernel
theorem dX11_byKey_39 : decode cX11_byKey 39 = .ok (.iconst (-1), 1) := by decide +kernel
theorem dX11_byKey_40 : decode cX11_byKey 40 = .ok (.ireturn, 1) := by decide +kernel
set_option maxRecDepth 100000 in
theorem ggX11_byPlace_X11_many : GoodIn wsX11_byPlace wsX11_many := (gi_cons 4 rfl rfl (gi_cons 5 rfl rfl (gi_cons 6 rfl rfl (gi_cons 3 rfl rfl (gi_cons 7 rfl rfl gi_nil)))))
set_option maxRecDepth 20000 in
theorem gX11_byPlace_X11_many : GoodIn wsX11_byPlace (va_wsS RX11 246 yX11_many wsX11_many) := goodIn_app (goodIn_of _ (by decide +kernel)) ggX11_byPlace_X11_many
set_option maxRecDepth 100000 in
theorem ggX11_byPlace_X11_nth : GoodIn wsX11_byPlace wsX11_nth := (gi_cons 10 rfl rfl (gi_cons 5 rfl rfl (gi_cons 6 rfl rfl (gi_cons 3 rfl rfl (gi_cons 7 rfl rfl gi_nil)))))
set_option maxRecDepth 20000 in
theorem gX11_byPlace_X11_nth : GoodIn wsX11_byPlace (va_wsS RX11 249 yX11_nth wsX11_nth) := goodIn_app (goodIn_of _ (by decide +kernel)) ggX11_byPlace_X11_nth
theorem dX11_byPlace_0 : decode cX11_byPlace 0 = .ok (.aload_n 0, 1) := by decide +kernel
theorem dX11_byPlace_1 : decode cX11_byPlace 1 = .ok (.iload_n 1, 1) := by decide +kernel
theorem dX11_byPlace_2 : decode cX11_byPlace 2 = .ok (.invokestatic 246, 3) := by decide +kernel
theorem dX11_byPlace_5 : decode cX11_byPlace 5 = .ok (.istore_n 3, 1) := by decide +kernel
theorem dX11_byPlace_6 : decode cX11_byPlace 6 = .ok (.iload_n 2, 1) := by decide +kernel
theorem dX11_byPlace_7 : decode cX11_byPlace 7 = .ok (.ifCond .ge 9, 3) := by decide +kernel
theorem dX11_byPlace_10 : decode cX11_byPlace 10 = .ok (.iload_n 2, 1) := by decide +kernel
theorem dX11_byPlace_11 : decode cX11_byPlace 11 = .ok (.iload_n 3, 1) := by decide +kernel
theorem dX11_byPlace_12 : decode cX11_byPlace 12 = .ok (.iadd, 1) := by decide +kernel
theorem dX11_byPlace_13 : decode cX11_byPlace 13 = .ok (.goto 4, 3) := by decide +kernel
theorem dX11_byPlace_16 : decode cX11_byPlace 16 = .ok (.iload_n 2, 1) := by decide +kernel
theorem dX11_byPlace_17 : decode cX11_byPlace 17 = .ok (.istore 4, 2) := by decide +kernel
theorem dX11_byPlace_19 : decode cX11_byPlace 19 = .ok (.iload 4, 2) := by decide +kernel
theorem dX11_byPlace_21 : decode cX11_byPlace 21 = .ok (.ifCond .lt 19, 3) := by decide +kernel
theorem dX11_byPlace_24 : decode cX11_byPlace 24 = .ok (.iload 4, 2) := by decide +kernel
theorem dX11_byPlace_26 : decode cX11_byPlace 26 = .ok (.iload_n 3, 1) := by decide +kernel
theorem dX11_byPlace_27 : decode cX11_byPlace 27 = .ok (.if_icmp .ge 13, 3) := by decide +kernel
theorem dX11_byPlace_30 : decode cX11_byPlace 30 = .ok (.aload_n 0, 1) := by decide +kernel
theorem dX11_byPlace_31 : decode cX11_byPlace 31 = .ok (.iload_n 1, 1) := by decide +kernel
theorem dX11_byPlace_32 : decode cX11_byPlace 32 = .ok (.iload 4, 2) := by decide +kernel
theorem dX11_byPlace_34 : decode cX11_byPlace 34 = .ok (.invokestatic 249, 3) := by decide +kernel
theorem dX11_byPlace_37 : decode cX11_byPlace 37 = .ok (.goto 4, 3) := by decide +kernel
theorem dX11_byPlace_40 : decode cX11_byPlace 40 = .ok (.iconst (-1), 1) := by decide +kernel
theorem dX11_byPlace_41 : decode cX11_byPlace 41 = .ok (.ireturn, 1) := by decide +kernel
