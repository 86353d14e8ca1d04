set_option maxRecDepth 100000 in
theorem ggX11_addThings_X11_size : GoodIn wsX11_addThings wsX11_size := (gi_cons 7 rfl rfl gi_nil)
set_option maxRecDepth 20000 in
theorem gX11_addThings_X11_size : GoodIn wsX11_addThings (va_wsS RX11 242 yX11_size wsX11_size) := goodIn_app (goodIn_of _ (by decide +kernel)) ggX11_addThings_X11_size
theorem dX11_addThings_0 : decode cX11_addThings 0 = .ok (.iload_n 2, 1) := by decide +kernel
theorem dX11_addThings_1 : decode cX11_addThings 1 = .ok (.iconst (-1), 1) := by decide +kernel
theorem dX11_addThings_2 : decode cX11_addThings 2 = .ok (.if_icmp .ne 5, 3) := by decide +kernel
theorem dX11_addThings_5 : decode cX11_addThings 5 = .ok (.iconst (-1), 1) := by decide +kernel
theorem dX11_addThings_6 : decode cX11_addThings 6 = .ok (.ireturn, 1) := by decide +kernel
theorem dX11_addThings_7 : decode cX11_addThings 7 = .ok (.sipush 150, 3) := by decide +kernel
theorem dX11_addThings_10 : decode cX11_addThings 10 = .ok (.aload_n 0, 1) := by decide +kernel
theorem dX11_addThings_11 : decode cX11_addThings 11 = .ok (.getfield 438, 3) := by decide +kernel
theorem dX11_addThings_14 : decode cX11_addThings 14 = .ok (.imul, 1) := by decide +kernel
theorem dX11_addThings_15 : decode cX11_addThings 15 = .ok (.aload_n 0, 1) := by decide +kernel
theorem dX11_addThings_16 : decode cX11_addThings 16 = .ok (.getfield 72, 3) := by decide +kernel
theorem dX11_addThings_19 : decode cX11_addThings 19 = .ok (.aload_n 0, 1) := by decide +kernel
theorem dX11_addThings_20 : decode cX11_addThings 20 = .ok (.getfield 438, 3) := by decide +kernel
theorem dX11_addThings_23 : decode cX11_addThings 23 = .ok (.iaload, 1) := by decide +kernel
theorem dX11_addThings_24 : decode cX11_addThings 24 = .ok (.iadd, 1) := by decide +kernel
theorem dX11_addThings_25 : decode cX11_addThings 25 = .ok (.istore_n 3, 1) := by decide +kernel
theorem dX11_addThings_26 : decode cX11_addThings 26 = .ok (.iconst 0, 1) := by decide +kernel
theorem dX11_addThings_27 : decode cX11_addThings 27 = .ok (.istore 4, 2) := by decide +kernel
theorem dX11_addThings_29 : decode cX11_addThings 29 = .ok (.iload 4, 2) := by decide +kernel
theorem dX11_addThings_31 : decode cX11_addThings 31 = .ok (.iconst 4, 1) := by decide +kernel
theorem dX11_addThings_32 : decode cX11_addThings 32 = .ok (.aload_n 1, 1) := by decide +kernel
theorem dX11_addThings_33 : decode cX11_addThings 33 = .ok (.iload_n 2, 1) := by decide +kernel
theorem dX11_addThings_34 : decode cX11_addThings 34 = .ok (.invokestatic 242, 3) := by decide +kernel
theorem dX11_addThings_37 : decode cX11_addThings 37 = .ok (.imul, 1) := by decide +kernel
theorem dX11_addThings_38 : decode cX11_addThings 38 = .ok (.if_icmp .ge 28, 3) := by decide +kernel
theorem dX11_addThings_41 : decode cX11_addThings 41 = .ok (.aload_n 0, 1) := by decide +kernel
theorem dX11_addThings_42 : decode cX11_addThings 42 = .ok (.getfield 66, 3) := by decide +kernel
theorem dX11_addThings_45 : decode cX11_addThings 45 = .ok (.iconst 4, 1) := by decide +kernel
theorem dX11_addThings_46 : decode cX11_addThings 46 = .ok (.iload_n 3, 1) := by decide +kernel
theorem dX11_addThings_47 : decode cX11_addThings 47 = .ok (.imul, 1) := by decide +kernel
theorem dX11_addThings_48 : decode cX11_addThings 48 = .ok (.iload 4, 2) := by decide +kernel
theorem dX11_addThings_50 : decode cX11_addThings 50 = .ok (.iadd, 1) := by decide +kernel
theorem dX11_addThings_51 : decode cX11_addThings 51 = .ok (.aload_n 1, 1) := by decide +kernel
theorem dX11_addThings_52 : decode cX11_addThings 52 = .ok (.iconst 4, 1) := by decide +kernel
theorem dX11_addThings_53 : decode cX11_addThings 53 = .ok (.iload_n 2, 1) := by decide +kernel
theorem dX11_addThings_54 : decode cX11_addThings 54 = .ok (.imul, 1) := by decide +kernel
theorem dX11_addThings_55 : decode cX11_addThings 55 = .ok (.iload 4, 2) := by decide +kernel
theorem dX11_addThings_57 : decode cX11_addThings 57 = .ok (.iadd, 1) := by decide +kernel
theorem dX11_addThings_58 : decode cX11_addThings 58 = .ok (.iaload, 1) := by decide +kernel
theorem dX11_addThings_59 : decode cX11_addThings 59 = .ok (.iastore, 1) := by decide +kernel
theorem dX11_addThings_60 : decode cX11_addThings 60 = .ok (.iinc 4 1, 3) := by decide +kernel
theorem dX11_addThings_63 : decode cX11_addThings 63 = .ok (.goto (-34), 3) := by decide +kernel
theorem dX11_addThings_66 : decode cX11_addThings 66 = .ok (.aload_n 0, 1) := by decide +kernel
theorem dX11_addThings_67 : decode cX11_addThings 67 = .ok (.getfield 72, 3) := by decide +kernel
theorem dX11_addThings_70 : decode cX11_addThings 70 = .ok (.aload_n 0, 1) := by decide +kernel
theorem dX11_addThings_71 : decode cX11_addThings 71 = .ok (.getfield 438, 3) := by decide +kernel
theorem dX11_addThings_74 : decode cX11_addThings 74 = .ok (.dup2, 1) := by decide +kernel
theorem dX11_addThings_75 : decode cX11_addThings 75 = .ok (.iaload, 1) := by decide +kernel
theorem dX11_addThings_76 : decode cX11_addThings 76 = .ok (.aload_n 1, 1) := by decide +kernel
theorem dX11_addThings_77 : decode cX11_addThings 77 = .ok (.iload_n 2, 1) := by decide +kernel
theorem dX11_addThings_78 : decode cX11_addThings 78 = .ok (.invokestatic 242, 3) := by decide +kernel
theorem dX11_addThings_81 : decode cX11_addThings 81 = .ok (.iadd, 1) := by decide +kernel
theorem dX11_addThings_82 : decode cX11_addThings 82 = .ok (.iastore, 1) := by decide +kernel
theorem dX11_addThings_83 : decode cX11_addThings 83 = .ok (.iload_n 3, 1) := by decide +kernel
theorem dX11_addThings_84 : decode cX11_addThings 84 = .ok (.ireturn, 1) := by decide +kernel
theorem dX11_stepOf_0 : decode cX11_stepOf 0 = .ok (.iconst (-1), 1) := by decide +kernel
theorem dX11_stepOf_1 : decode cX11_stepOf 1 = .ok (.iload_n 0, 1) := by decide +kernel
theorem dX11_stepOf_2 : decode cX11_stepOf 2 = .ok (.isub, 1) := by decide +kernel
theorem dX11_stepOf_3 : decode cX11_stepOf 3 = .ok (.ireturn, 1) := by decide +kernel
