set_option maxRecDepth 100000 in
theorem ggX11_copyThings_X11_size : GoodIn wsX11_copyThings wsX11_size := (gi_cons 6 rfl rfl gi_nil)
set_option maxRecDepth 20000 in
theorem gX11_copyThings_X11_size : GoodIn wsX11_copyThings (va_wsS RX11 242 yX11_size wsX11_size) := goodIn_app (goodIn_of _ (by decide +kernel)) ggX11_copyThings_X11_size
theorem dX11_copyThings_0 : decode cX11_copyThings 0 = .ok (.iconst 0, 1) := by decide +kernel
theorem dX11_copyThings_1 : decode cX11_copyThings 1 = .ok (.istore_n 3, 1) := by decide +kernel
theorem dX11_copyThings_2 : decode cX11_copyThings 2 = .ok (.iload_n 3, 1) := by decide +kernel
theorem dX11_copyThings_3 : decode cX11_copyThings 3 = .ok (.iconst 4, 1) := by decide +kernel
theorem dX11_copyThings_4 : decode cX11_copyThings 4 = .ok (.aload_n 1, 1) := by decide +kernel
theorem dX11_copyThings_5 : decode cX11_copyThings 5 = .ok (.iload_n 2, 1) := by decide +kernel
theorem dX11_copyThings_6 : decode cX11_copyThings 6 = .ok (.invokestatic 242, 3) := by decide +kernel
theorem dX11_copyThings_9 : decode cX11_copyThings 9 = .ok (.imul, 1) := by decide +kernel
theorem dX11_copyThings_10 : decode cX11_copyThings 10 = .ok (.if_icmp .ge 29, 3) := by decide +kernel
theorem dX11_copyThings_13 : decode cX11_copyThings 13 = .ok (.aload_n 0, 1) := by decide +kernel
theorem dX11_copyThings_14 : decode cX11_copyThings 14 = .ok (.getfield 16, 3) := by decide +kernel
theorem dX11_copyThings_17 : decode cX11_copyThings 17 = .ok (.iconst 4, 1) := by decide +kernel
theorem dX11_copyThings_18 : decode cX11_copyThings 18 = .ok (.aload_n 0, 1) := by decide +kernel
theorem dX11_copyThings_19 : decode cX11_copyThings 19 = .ok (.getfield 353, 3) := by decide +kernel
theorem dX11_copyThings_22 : decode cX11_copyThings 22 = .ok (.imul, 1) := by decide +kernel
theorem dX11_copyThings_23 : decode cX11_copyThings 23 = .ok (.iload_n 3, 1) := by decide +kernel
theorem dX11_copyThings_24 : decode cX11_copyThings 24 = .ok (.iadd, 1) := by decide +kernel
theorem dX11_copyThings_25 : decode cX11_copyThings 25 = .ok (.aload_n 1, 1) := by decide +kernel
theorem dX11_copyThings_26 : decode cX11_copyThings 26 = .ok (.iconst 4, 1) := by decide +kernel
theorem dX11_copyThings_27 : decode cX11_copyThings 27 = .ok (.iload_n 2, 1) := by decide +kernel
theorem dX11_copyThings_28 : decode cX11_copyThings 28 = .ok (.imul, 1) := by decide +kernel
theorem dX11_copyThings_29 : decode cX11_copyThings 29 = .ok (.iload_n 3, 1) := by decide +kernel
theorem dX11_copyThings_30 : decode cX11_copyThings 30 = .ok (.iadd, 1) := by decide +kernel
theorem dX11_copyThings_31 : decode cX11_copyThings 31 = .ok (.iaload, 1) := by decide +kernel
theorem dX11_copyThings_32 : decode cX11_copyThings 32 = .ok (.iastore, 1) := by decide +kernel
theorem dX11_copyThings_33 : decode cX11_copyThings 33 = .ok (.iinc 3 1, 3) := by decide +kernel
theorem dX11_copyThings_36 : decode cX11_copyThings 36 = .ok (.goto (-34), 3) := by decide +kernel
theorem dX11_copyThings_39 : decode cX11_copyThings 39 = .ok (.aload_n 0, 1) := by decide +kernel
theorem dX11_copyThings_40 : decode cX11_copyThings 40 = .ok (.dup, 1) := by decide +kernel
theorem dX11_copyThings_41 : decode cX11_copyThings 41 = .ok (.getfield 353, 3) := by decide +kernel
theorem dX11_copyThings_44 : decode cX11_copyThings 44 = .ok (.aload_n 1, 1) := by decide +kernel
theorem dX11_copyThings_45 : decode cX11_copyThings 45 = .ok (.iload_n 2, 1) := by decide +kernel
theorem dX11_copyThings_46 : decode cX11_copyThings 46 = .ok (.invokestatic 242, 3) := by decide +kernel
theorem dX11_copyThings_49 : decode cX11_copyThings 49 = .ok (.iadd, 1) := by decide +kernel
theorem dX11_copyThings_50 : decode cX11_copyThings 50 = .ok (.putfield 353, 3) := by decide +kernel
theorem dX11_copyThings_53 : decode cX11_copyThings 53 = .ok (.return_, 1) := by decide +kernel
set_option maxRecDepth 100000 in
theorem ggX11_copyWith_X11_copyThings : GoodIn wsX11_copyWith wsX11_copyThings := (gi_cons 7 rfl rfl (gi_cons 2 rfl rfl (gi_cons 1 rfl rfl (gi_cons 8 rfl rfl (gi_cons 9 rfl rfl (gi_cons 6 rfl rfl (gi_cons 10 rfl rfl (gi_cons 11 rfl rfl (gi_cons 12 rfl rfl (gi_cons 13 rfl rfl (gi_cons 14 rfl rfl (gi_cons 15 rfl rfl (gi_cons 16 rfl rfl (gi_cons 17 rfl rfl (gi_cons 18 rfl rfl (gi_cons 19 rfl rfl (gi_cons 20 rfl rfl (gi_cons 21 rfl rfl (gi_cons 22 rfl rfl (gi_cons 23 rfl rfl (gi_cons 24 rfl rfl (gi_cons 25 rfl rfl (gi_cons 26 rfl rfl (gi_cons 27 rfl rfl (gi_cons 28 rfl rfl (gi_cons 29 rfl rfl (gi_cons 30 rfl rfl (gi_cons 31 rfl rfl (gi_cons 32 rfl rfl (gi_cons 33 rfl rfl (gi_cons 34 rfl rfl (gi_cons 35 rfl rfl (gi_cons 36 rfl rfl (gi_cons 37 rfl rfl (gi_cons 38 rfl rfl (gi_cons 39 rfl rfl (gi_cons 40 rfl rfl (gi_cons 41 rfl rfl (gi_cons 42 rfl rfl (gi_cons 43 rfl rfl (gi_cons 44 rfl rfl (gi_cons 45 rfl rfl (gi_cons 46 rfl rfl (gi_cons 47 rfl rfl (gi_cons 48 rfl rfl (gi_cons 49 rfl rfl (gi_cons 50 rfl rfl (gi_cons 51 rfl rfl (gi_cons 52 rfl rfl (gi_cons 53 rfl rfl (gi_cons 54 rfl rfl (gi_cons 55 rfl rfl (gi_cons 56 rfl rfl (gi_cons 57 rfl rfl (gi_cons 58 rfl rfl (gi_cons 59 rfl rfl (gi_cons 60 rfl rfl (gi_cons 61 rfl rfl (gi_cons 62 rfl rfl (gi_cons 63 rfl rfl (gi_cons 64 rfl rfl (gi_cons 65 rfl rfl (gi_cons 66 rfl rfl (gi_cons 67 rfl rfl (gi_cons 68 rfl rfl (gi_cons 69 rfl rfl (gi_cons 70 rfl rfl (gi_cons 71 rfl rfl (gi_cons 72 rfl rfl (gi_cons 73 rfl rfl (gi_cons 74 rfl rfl (gi_cons 75 rfl rfl (gi_cons 76 rfl rfl gi_nil)))))))))))))))))))))))))))))))))))))))))))))))))))))))))))))))))))))))))
set_option maxRecDepth 20000 in
theorem gX11_copyWith_X11_copyThings : GoodIn wsX11_copyWith (wsV RX11 356 RX11 yX11_copyThings wsX11_copyThings) := goodIn_app (goodIn_of _ (by decide +kernel)) ggX11_copyWith_X11_copyThings
theorem dX11_copyWith_0 : decode cX11_copyWith 0 = .ok (.iconst 4, 1) := by decide +kernel
theorem dX11_copyWith_1 : decode cX11_copyWith 1 = .ok (.aload_n 0, 1) := by decide +kernel
theorem dX11_copyWith_2 : decode cX11_copyWith 2 = .ok (.getfield 353, 3) := by decide +kernel
theorem dX11_copyWith_5 : decode cX11_copyWith 5 = .ok (.imul, 1) := by decide +kernel
theorem dX11_copyWith_6 : decode cX11_copyWith 6 = .ok (.istore 4, 2) := by decide +kernel
theorem dX11_copyWith_8 : decode cX11_copyWith 8 = .ok (.aload_n 0, 1) := by decide +kernel
theorem dX11_copyWith_9 : decode cX11_copyWith 9 = .ok (.aload_n 1, 1) := by decide +kernel
theorem dX11_copyWith_10 : decode cX11_copyWith 10 = .ok (.iload_n 2, 1) := by decide +kernel
theorem dX11_copyWith_11 : decode cX11_copyWith 11 = .ok (.invokevirtual 356, 3) := by decide +kernel
theorem dX11_copyWith_14 : decode cX11_copyWith 14 = .ok (.aload_n 0, 1) := by decide +kernel
theorem dX11_copyWith_15 : decode cX11_copyWith 15 = .ok (.getfield 16, 3) := by decide +kernel
theorem dX11_copyWith_18 : decode cX11_copyWith 18 = .ok (.iload 4, 2) := by decide +kernel
theorem dX11_copyWith_20 : decode cX11_copyWith 20 = .ok (.iconst 2, 1) := by decide +kernel
theorem dX11_copyWith_21 : decode cX11_copyWith 21 = .ok (.iadd, 1) := by decide +kernel
theorem dX11_copyWith_22 : decode cX11_copyWith 22 = .ok (.iload_n 3, 1) := by decide +kernel
theorem dX11_copyWith_23 : decode cX11_copyWith 23 = .ok (.iastore, 1) := by decide +kernel
theorem dX11_copyWith_24 : decode cX11_copyWith 24 = .ok (.return_, 1) := by decide +kernel
set_option maxRecDepth 100000 in
theorem ggX11_takeTree_X11_copyThings : GoodIn wsX11_takeTree wsX11_copyThings := (gi_cons 7 rfl rfl (gi_cons 8 rfl rfl (gi_cons 1 rfl rfl (gi_cons 9 rfl rfl (gi_cons 10 rfl rfl (gi_cons 6 rfl rfl (gi_cons 11 rfl rfl (gi_cons 12 rfl rfl (gi_cons 13 rfl rfl (gi_cons 14 rfl rfl (gi_cons 15 rfl rfl (gi_cons 16 rfl rfl (gi_cons 17 rfl rfl (gi_cons 18 rfl rfl (gi_cons 19 rfl rfl (gi_cons 20 rfl rfl (gi_cons 21 rfl rfl (gi_cons 22 rfl rfl (gi_cons 23 rfl rfl (gi_cons 24 rfl rfl (gi_cons 25 rfl rfl (gi_cons 26 rfl rfl (gi_cons 27 rfl rfl (gi_cons 28 rfl rfl (gi_cons 29 rfl rfl (gi_cons 30 rfl rfl (gi_cons 31 rfl rfl (gi_cons 32 rfl rfl (gi_cons 33 rfl rfl (gi_cons 34 rfl rfl (gi_cons 35 rfl rfl (gi_cons 36 rfl rfl (gi_cons 37 rfl rfl (gi_cons 38 rfl rfl (gi_cons 39 rfl rfl (gi_cons 40 rfl rfl (gi_cons 41 rfl rfl (gi_cons 42 rfl rfl (gi_cons 43 rfl rfl (gi_cons 44 rfl rfl (gi_cons 45 rfl rfl (gi_cons 46 rfl rfl (gi_cons 47 rfl rfl (gi_cons 48 rfl rfl (gi_cons 49 rfl rfl (gi_cons 50 rfl rfl (gi_cons 51 rfl rfl (gi_cons 52 rfl rfl (gi_cons 53 rfl rfl (gi_cons 54 rfl rfl (gi_cons 55 rfl rfl (gi_cons 56 rfl rfl (gi_cons 57 rfl rfl (gi_cons 58 rfl rfl (gi_cons 59 rfl rfl (gi_cons 60 rfl rfl (gi_cons 61 rfl rfl (gi_cons 62 rfl rfl (gi_cons 63 rfl rfl (gi_cons 64 rfl rfl (gi_cons 65 rfl rfl (gi_cons 66 rfl rfl (gi_cons 67 rfl rfl (gi_cons 68 rfl rfl (gi_cons 69 rfl rfl (gi_cons 70 rfl rfl (gi_cons 71 rfl rfl (gi_cons 72 rfl rfl (gi_cons 73 rfl rfl (gi_cons 74 rfl rfl (gi_cons 75 rfl rfl (gi_cons 76 rfl rfl (gi_cons 77 rfl rfl gi_nil)))))))))))))))))))))))))))))))))))))))))))))))))))))))))))))))))))))))))
set_option maxRecDepth 20000 in
theorem gX11_takeTree_X11_copyThings : GoodIn wsX11_takeTree (wsV RX11 356 RX11 yX11_copyThings wsX11_copyThings) := goodIn_app (goodIn_of _ (by decide +kernel)) ggX11_takeTree_X11_copyThings
theorem dX11_takeTree_0 : decode cX11_takeTree 0 = .ok (.aload_n 0, 1) := by decide +kernel
theorem dX11_takeTree_1 : decode cX11_takeTree 1 = .ok (.iconst 0, 1) := by decide +kernel
theorem dX11_takeTree_2 : decode cX11_takeTree 2 = .ok (.putfield 353, 3) := by decide +kernel
theorem dX11_takeTree_5 : decode cX11_takeTree 5 = .ok (.aload_n 0, 1) := by decide +kernel
theorem dX11_takeTree_6 : decode cX11_takeTree 6 = .ok (.aload_n 0, 1) := by decide +kernel
theorem dX11_takeTree_7 : decode cX11_takeTree 7 = .ok (.getfield 9, 3) := by decide +kernel
theorem dX11_takeTree_10 : decode cX11_takeTree 10 = .ok (.iconst 0, 1) := by decide +kernel
theorem dX11_takeTree_11 : decode cX11_takeTree 11 = .ok (.invokevirtual 356, 3) := by decide +kernel
theorem dX11_takeTree_14 : decode cX11_takeTree 14 = .ok (.return_, 1) := by decide +kernel
set_option maxRecDepth 100000 in
theorem ggX11_lift_X11_size : GoodIn wsX11_lift wsX11_size := (gi_cons 5 rfl rfl gi_nil)
set_option maxRecDepth 20000 in
theorem gX11_lift_X11_size : GoodIn wsX11_lift (va_wsS RX11 242 yX11_size wsX11_size) := goodIn_app (goodIn_of _ (by decide +kernel)) ggX11_lift_X11_size
theorem dX11_lift_0 : decode cX11_lift 0 = .ok (.iconst 0, 1) := by decide +kernel
theorem dX11_lift_1 : decode cX11_lift 1 = .ok (.istore_n 3, 1) := by decide +kernel
theorem dX11_lift_2 : decode cX11_lift 2 = .ok (.iload_n 3, 1) := by decide +kernel
theorem dX11_lift_3 : decode cX11_lift 3 = .ok (.iconst 4, 1) := by decide +kernel
theorem dX11_lift_4 : decode cX11_lift 4 = .ok (.aload_n 1, 1) := by decide +kernel
theorem dX11_lift_5 : decode cX11_lift 5 = .ok (.iload_n 2, 1) := by decide +kernel
theorem dX11_lift_6 : decode cX11_lift 6 = .ok (.invokestatic 242, 3) := by decide +kernel
theorem dX11_lift_9 : decode cX11_lift 9 = .ok (.imul, 1) := by decide +kernel
theorem dX11_lift_10 : decode cX11_lift 10 = .ok (.if_icmp .ge 22, 3) := by decide +kernel
theorem dX11_lift_13 : decode cX11_lift 13 = .ok (.aload_n 0, 1) := by decide +kernel
theorem dX11_lift_14 : decode cX11_lift 14 = .ok (.getfield 42, 3) := by decide +kernel
theorem dX11_lift_17 : decode cX11_lift 17 = .ok (.iload_n 3, 1) := by decide +kernel
theorem dX11_lift_18 : decode cX11_lift 18 = .ok (.aload_n 1, 1) := by decide +kernel
theorem dX11_lift_19 : decode cX11_lift 19 = .ok (.iconst 4, 1) := by decide +kernel
theorem dX11_lift_20 : decode cX11_lift 20 = .ok (.iload_n 2, 1) := by decide +kernel
theorem dX11_lift_21 : decode cX11_lift 21 = .ok (.imul, 1) := by decide +kernel
theorem dX11_lift_22 : decode cX11_lift 22 = .ok (.iload_n 3, 1) := by decide +kernel
theorem dX11_lift_23 : decode cX11_lift 23 = .ok (.iadd, 1) := by decide +kernel
theorem dX11_lift_24 : decode cX11_lift 24 = .ok (.iaload, 1) := by decide +kernel
theorem dX11_lift_25 : decode cX11_lift 25 = .ok (.iastore, 1) := by decide +kernel
theorem dX11_lift_26 : decode cX11_lift 26 = .ok (.iinc 3 1, 3) := by decide +kernel
theorem dX11_lift_29 : decode cX11_lift 29 = .ok (.goto (-27), 3) := by decide +kernel
theorem dX11_lift_32 : decode cX11_lift 32 = .ok (.return_, 1) := by decide +kernel
