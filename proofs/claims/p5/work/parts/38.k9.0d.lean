set_option maxRecDepth 100000 in
theorem ggX11_image_X11_copyTo : GoodIn wsX11_image wsX11_copyTo := (gi_cons 20 rfl rfl gi_nil)
set_option maxRecDepth 20000 in
theorem gX11_image_X11_copyTo : GoodIn wsX11_image (va_wsS RX11 532 yX11_copyTo wsX11_copyTo) := goodIn_app (goodIn_of _ (by decide +kernel)) ggX11_image_X11_copyTo
theorem dX11_image_0 : decode cX11_image 0 = .ok (.aload_n 0, 1) := by decide +kernel
theorem dX11_image_1 : decode cX11_image 1 = .ok (.iconst 0, 1) := by decide +kernel
theorem dX11_image_2 : decode cX11_image 2 = .ok (.putfield 111, 3) := by decide +kernel
theorem dX11_image_5 : decode cX11_image 5 = .ok (.aload_n 0, 1) := by decide +kernel
theorem dX11_image_6 : decode cX11_image 6 = .ok (.iconst 1, 1) := by decide +kernel
theorem dX11_image_7 : decode cX11_image 7 = .ok (.putfield 238, 3) := by decide +kernel
theorem dX11_image_10 : decode cX11_image 10 = .ok (.aload_n 0, 1) := by decide +kernel
theorem dX11_image_11 : decode cX11_image 11 = .ok (.aload_n 0, 1) := by decide +kernel
theorem dX11_image_12 : decode cX11_image 12 = .ok (.getfield 232, 3) := by decide +kernel
theorem dX11_image_15 : decode cX11_image 15 = .ok (.putfield 539, 3) := by decide +kernel
theorem dX11_image_18 : decode cX11_image 18 = .ok (.aload_n 0, 1) := by decide +kernel
theorem dX11_image_19 : decode cX11_image 19 = .ok (.aload_n 0, 1) := by decide +kernel
theorem dX11_image_20 : decode cX11_image 20 = .ok (.getfield 235, 3) := by decide +kernel
theorem dX11_image_23 : decode cX11_image 23 = .ok (.putfield 542, 3) := by decide +kernel
theorem dX11_image_26 : decode cX11_image 26 = .ok (.aload_n 0, 1) := by decide +kernel
theorem dX11_image_27 : decode cX11_image 27 = .ok (.getfield 93, 3) := by decide +kernel
theorem dX11_image_30 : decode cX11_image 30 = .ok (.aload_n 0, 1) := by decide +kernel
theorem dX11_image_31 : decode cX11_image 31 = .ok (.getfield 9, 3) := by decide +kernel
theorem dX11_image_34 : decode cX11_image 34 = .ok (.invokestatic 532, 3) := by decide +kernel
theorem dX11_image_37 : decode cX11_image 37 = .ok (.aload_n 0, 1) := by decide +kernel
theorem dX11_image_38 : decode cX11_image 38 = .ok (.getfield 96, 3) := by decide +kernel
theorem dX11_image_41 : decode cX11_image 41 = .ok (.aload_n 0, 1) := by decide +kernel
theorem dX11_image_42 : decode cX11_image 42 = .ok (.getfield 48, 3) := by decide +kernel
theorem dX11_image_45 : decode cX11_image 45 = .ok (.invokestatic 532, 3) := by decide +kernel
theorem dX11_image_48 : decode cX11_image 48 = .ok (.aload_n 0, 1) := by decide +kernel
theorem dX11_image_49 : decode cX11_image 49 = .ok (.getfield 99, 3) := by decide +kernel
theorem dX11_image_52 : decode cX11_image 52 = .ok (.aload_n 0, 1) := by decide +kernel
theorem dX11_image_53 : decode cX11_image 53 = .ok (.getfield 81, 3) := by decide +kernel
theorem dX11_image_56 : decode cX11_image 56 = .ok (.invokestatic 532, 3) := by decide +kernel
theorem dX11_image_59 : decode cX11_image 59 = .ok (.aload_n 0, 1) := by decide +kernel
theorem dX11_image_60 : decode cX11_image 60 = .ok (.getfield 102, 3) := by decide +kernel
theorem dX11_image_63 : decode cX11_image 63 = .ok (.aload_n 0, 1) := by decide +kernel
theorem dX11_image_64 : decode cX11_image 64 = .ok (.getfield 84, 3) := by decide +kernel
theorem dX11_image_67 : decode cX11_image 67 = .ok (.invokestatic 532, 3) := by decide +kernel
theorem dX11_image_70 : decode cX11_image 70 = .ok (.aload_n 0, 1) := by decide +kernel
theorem dX11_image_71 : decode cX11_image 71 = .ok (.getfield 105, 3) := by decide +kernel
theorem dX11_image_74 : decode cX11_image 74 = .ok (.aload_n 0, 1) := by decide +kernel
theorem dX11_image_75 : decode cX11_image 75 = .ok (.getfield 19, 3) := by decide +kernel
theorem dX11_image_78 : decode cX11_image 78 = .ok (.invokestatic 532, 3) := by decide +kernel
theorem dX11_image_81 : decode cX11_image 81 = .ok (.return_, 1) := by decide +kernel
set_option maxRecDepth 100000 in
theorem ggX11_restore_X11_copyTo : GoodIn wsX11_restore wsX11_copyTo := (gi_cons 20 rfl rfl gi_nil)
set_option maxRecDepth 20000 in
theorem gX11_restore_X11_copyTo : GoodIn wsX11_restore (va_wsS RX11 532 yX11_copyTo wsX11_copyTo) := goodIn_app (goodIn_of _ (by decide +kernel)) ggX11_restore_X11_copyTo
theorem dX11_restore_0 : decode cX11_restore 0 = .ok (.aload_n 0, 1) := by decide +kernel
theorem dX11_restore_1 : decode cX11_restore 1 = .ok (.iconst 0, 1) := by decide +kernel
theorem dX11_restore_2 : decode cX11_restore 2 = .ok (.putfield 111, 3) := by decide +kernel
theorem dX11_restore_5 : decode cX11_restore 5 = .ok (.aload_n 0, 1) := by decide +kernel
theorem dX11_restore_6 : decode cX11_restore 6 = .ok (.getfield 238, 3) := by decide +kernel
theorem dX11_restore_9 : decode cX11_restore 9 = .ok (.ifCond .ne 5, 3) := by decide +kernel
theorem dX11_restore_12 : decode cX11_restore 12 = .ok (.iconst 0, 1) := by decide +kernel
theorem dX11_restore_13 : decode cX11_restore 13 = .ok (.ireturn, 1) := by decide +kernel
theorem dX11_restore_14 : decode cX11_restore 14 = .ok (.aload_n 0, 1) := by decide +kernel
theorem dX11_restore_15 : decode cX11_restore 15 = .ok (.aload_n 0, 1) := by decide +kernel
theorem dX11_restore_16 : decode cX11_restore 16 = .ok (.getfield 539, 3) := by decide +kernel
theorem dX11_restore_19 : decode cX11_restore 19 = .ok (.putfield 232, 3) := by decide +kernel
theorem dX11_restore_22 : decode cX11_restore 22 = .ok (.aload_n 0, 1) := by decide +kernel
theorem dX11_restore_23 : decode cX11_restore 23 = .ok (.aload_n 0, 1) := by decide +kernel
theorem dX11_restore_24 : decode cX11_restore 24 = .ok (.getfield 542, 3) := by decide +kernel
theorem dX11_restore_27 : decode cX11_restore 27 = .ok (.putfield 235, 3) := by decide +kernel
theorem dX11_restore_30 : decode cX11_restore 30 = .ok (.aload_n 0, 1) := by decide +kernel
theorem dX11_restore_31 : decode cX11_restore 31 = .ok (.getfield 9, 3) := by decide +kernel
theorem dX11_restore_34 : decode cX11_restore 34 = .ok (.aload_n 0, 1) := by decide +kernel
theorem dX11_restore_35 : decode cX11_restore 35 = .ok (.getfield 93, 3) := by decide +kernel
theorem dX11_restore_38 : decode cX11_restore 38 = .ok (.invokestatic 532, 3) := by decide +kernel
theorem dX11_restore_41 : decode cX11_restore 41 = .ok (.aload_n 0, 1) := by decide +kernel
theorem dX11_restore_42 : decode cX11_restore 42 = .ok (.getfield 48, 3) := by decide +kernel
theorem dX11_restore_45 : decode cX11_restore 45 = .ok (.aload_n 0, 1) := by decide +kernel
theorem dX11_restore_46 : decode cX11_restore 46 = .ok (.getfield 96, 3) := by decide +kernel
theorem dX11_restore_49 : decode cX11_restore 49 = .ok (.invokestatic 532, 3) := by decide +kernel
theorem dX11_restore_52 : decode cX11_restore 52 = .ok (.aload_n 0, 1) := by decide +kernel
theorem dX11_restore_53 : decode cX11_restore 53 = .ok (.getfield 81, 3) := by decide +kernel
theorem dX11_restore_56 : decode cX11_restore 56 = .ok (.aload_n 0, 1) := by decide +kernel
theorem dX11_restore_57 : decode cX11_restore 57 = .ok (.getfield 99, 3) := by decide +kernel
theorem dX11_restore_60 : decode cX11_restore 60 = .ok (.invokestatic 532, 3) := by decide +kernel
theorem dX11_restore_63 : decode cX11_restore 63 = .ok (.aload_n 0, 1) := by decide +kernel
theorem dX11_restore_64 : decode cX11_restore 64 = .ok (.getfield 84, 3) := by decide +kernel
theorem dX11_restore_67 : decode cX11_restore 67 = .ok (.aload_n 0, 1) := by decide +kernel
theorem dX11_restore_68 : decode cX11_restore 68 = .ok (.getfield 102, 3) := by decide +kernel
theorem dX11_restore_71 : decode cX11_restore 71 = .ok (.invokestatic 532, 3) := by decide +kernel
theorem dX11_restore_74 : decode cX11_restore 74 = .ok (.aload_n 0, 1) := by decide +kernel
theorem dX11_restore_75 : decode cX11_restore 75 = .ok (.getfield 19, 3) := by decide +kernel
theorem dX11_restore_78 : decode cX11_restore 78 = .ok (.aload_n 0, 1) := by decide +kernel
theorem dX11_restore_79 : decode cX11_restore 79 = .ok (.getfield 105, 3) := by decide +kernel
theorem dX11_restore_82 : decode cX11_restore 82 = .ok (.invokestatic 532, 3) := by decide +kernel
theorem dX11_restore_85 : decode cX11_restore 85 = .ok (.iconst 1, 1) := by decide +kernel
theorem dX11_restore_86 : decode cX11_restore 86 = .ok (.ireturn, 1) := by decide +kernel
