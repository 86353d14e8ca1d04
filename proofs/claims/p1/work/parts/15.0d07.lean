set_option maxRecDepth 20000 in
theorem ggX11_years_X11_sum : GoodIn wsX11_years wsX11_sum := goodIn_r _ [284, 3, 26, 27, 28, 8, 29, 45, 46, 47, 285, 286, 287, 288, 289, 290, 291, 292, 293, 294, 295, 296, 297, 298, 299, 300, 301, 302, 303, 304, 305, 306, 307, 308, 309, 310, 311, 312, 313, 314, 315, 316, 317, 318, 319, 320, 321, 322, 323, 324, 325, 326, 327, 328, 329, 330, 331, 332, 333, 334, 335, 336, 337, 338, 339, 340, 341, 342, 343, 344, 345, 346, 347, 348, 349, 350] (by decide +kernel) (by decide +kernel)
set_option maxRecDepth 20000 in
theorem gX11_years_X11_sum : GoodIn wsX11_years (wsV RX11 510 RX11 yX11_sum wsX11_sum) := goodIn_app (goodIn_of _ (by decide +kernel)) ggX11_years_X11_sum
theorem dX11_years_0 : decode cX11_years 0 = .ok (.aload_n 0, 1) := by decide +kernel
theorem dX11_years_1 : decode cX11_years 1 = .ok (.iconst 0, 1) := by decide +kernel
theorem dX11_years_2 : decode cX11_years 2 = .ok (.putfield 111, 3) := by decide +kernel
theorem dX11_years_5 : decode cX11_years 5 = .ok (.iload_n 3, 1) := by decide +kernel
theorem dX11_years_6 : decode cX11_years 6 = .ok (.iconst 0, 1) := by decide +kernel
theorem dX11_years_7 : decode cX11_years 7 = .ok (.iconst 2, 1) := by decide +kernel
theorem dX11_years_8 : decode cX11_years 8 = .ok (.invokestatic 219, 3) := by decide +kernel
theorem dX11_years_11 : decode cX11_years 11 = .ok (.ifCond .ne 9, 3) := by decide +kernel
theorem dX11_years_14 : decode cX11_years 14 = .ok (.aload_n 0, 1) := by decide +kernel
theorem dX11_years_15 : decode cX11_years 15 = .ok (.iconst 1, 1) := by decide +kernel
theorem dX11_years_16 : decode cX11_years 16 = .ok (.invokevirtual 226, 3) := by decide +kernel
theorem dX11_years_19 : decode cX11_years 19 = .ok (.ireturn, 1) := by decide +kernel
theorem dX11_years_20 : decode cX11_years 20 = .ok (.iload_n 2, 1) := by decide +kernel
theorem dX11_years_21 : decode cX11_years 21 = .ok (.iconst 0, 1) := by decide +kernel
theorem dX11_years_22 : decode cX11_years 22 = .ok (.bipush 20, 2) := by decide +kernel
theorem dX11_years_24 : decode cX11_years 24 = .ok (.invokestatic 219, 3) := by decide +kernel
theorem dX11_years_27 : decode cX11_years 27 = .ok (.ifCond .ne 9, 3) := by decide +kernel
theorem dX11_years_30 : decode cX11_years 30 = .ok (.aload_n 0, 1) := by decide +kernel
theorem dX11_years_31 : decode cX11_years 31 = .ok (.iconst 2, 1) := by decide +kernel
theorem dX11_years_32 : decode cX11_years 32 = .ok (.invokevirtual 226, 3) := by decide +kernel
theorem dX11_years_35 : decode cX11_years 35 = .ok (.ireturn, 1) := by decide +kernel
theorem dX11_years_36 : decode cX11_years 36 = .ok (.aload_n 0, 1) := by decide +kernel
theorem dX11_years_37 : decode cX11_years 37 = .ok (.getfield 90, 3) := by decide +kernel
theorem dX11_years_40 : decode cX11_years 40 = .ok (.aload_n 0, 1) := by decide +kernel
theorem dX11_years_41 : decode cX11_years 41 = .ok (.getfield 9, 3) := by decide +kernel
theorem dX11_years_44 : decode cX11_years 44 = .ok (.invokestatic 532, 3) := by decide +kernel
theorem dX11_years_47 : decode cX11_years 47 = .ok (.aload_n 0, 1) := by decide +kernel
theorem dX11_years_48 : decode cX11_years 48 = .ok (.iconst 1, 1) := by decide +kernel
theorem dX11_years_49 : decode cX11_years 49 = .ok (.putfield 403, 3) := by decide +kernel
theorem dX11_years_52 : decode cX11_years 52 = .ok (.aload_n 0, 1) := by decide +kernel
theorem dX11_years_53 : decode cX11_years 53 = .ok (.iload_n 1, 1) := by decide +kernel
theorem dX11_years_54 : decode cX11_years 54 = .ok (.putfield 525, 3) := by decide +kernel
theorem dX11_years_57 : decode cX11_years 57 = .ok (.iconst 0, 1) := by decide +kernel
theorem dX11_years_58 : decode cX11_years 58 = .ok (.istore 4, 2) := by decide +kernel
theorem dX11_years_60 : decode cX11_years 60 = .ok (.iconst 0, 1) := by decide +kernel
theorem dX11_years_61 : decode cX11_years 61 = .ok (.istore 5, 2) := by decide +kernel
theorem dX11_years_63 : decode cX11_years 63 = .ok (.iload 5, 2) := by decide +kernel
theorem dX11_years_65 : decode cX11_years 65 = .ok (.iload_n 2, 1) := by decide +kernel
theorem dX11_years_66 : decode cX11_years 66 = .ok (.if_icmp .ge 26, 3) := by decide +kernel
theorem dX11_years_69 : decode cX11_years 69 = .ok (.iload 4, 2) := by decide +kernel
theorem dX11_years_71 : decode cX11_years 71 = .ok (.aload_n 0, 1) := by decide +kernel
theorem dX11_years_72 : decode cX11_years 72 = .ok (.invokevirtual 536, 3) := by decide +kernel
theorem dX11_years_75 : decode cX11_years 75 = .ok (.ifCond .eq 7, 3) := by decide +kernel
theorem dX11_years_82 : decode cX11_years 82 = .ok (.iconst 0, 1) := by decide +kernel
theorem dX11_years_83 : decode cX11_years 83 = .ok (.iadd, 1) := by decide +kernel
theorem dX11_years_84 : decode cX11_years 84 = .ok (.istore 4, 2) := by decide +kernel
theorem dX11_years_86 : decode cX11_years 86 = .ok (.iinc 5 1, 3) := by decide +kernel
theorem dX11_years_89 : decode cX11_years 89 = .ok (.goto (-26), 3) := by decide +kernel
theorem dX11_years_92 : decode cX11_years 92 = .ok (.aload_n 0, 1) := by decide +kernel
theorem dX11_years_93 : decode cX11_years 93 = .ok (.iconst 0, 1) := by decide +kernel
theorem dX11_years_94 : decode cX11_years 94 = .ok (.putfield 403, 3) := by decide +kernel
theorem dX11_years_97 : decode cX11_years 97 = .ok (.iload_n 3, 1) := by decide +kernel
theorem dX11_years_98 : decode cX11_years 98 = .ok (.ifCond .ne 10, 3) := by decide +kernel
theorem dX11_years_101 : decode cX11_years 101 = .ok (.aload_n 0, 1) := by decide +kernel
theorem dX11_years_102 : decode cX11_years 102 = .ok (.invokevirtual 267, 3) := by decide +kernel
theorem dX11_years_105 : decode cX11_years 105 = .ok (.goto 17, 3) := by decide +kernel
theorem dX11_years_108 : decode cX11_years 108 = .ok (.iload_n 3, 1) := by decide +kernel
theorem dX11_years_109 : decode cX11_years 109 = .ok (.iconst 1, 1) := by decide +kernel
theorem dX11_years_110 : decode cX11_years 110 = .ok (.if_icmp .ne 10, 3) := by decide +kernel
theorem dX11_years_113 : decode cX11_years 113 = .ok (.aload_n 0, 1) := by decide +kernel
theorem dX11_years_114 : decode cX11_years 114 = .ok (.invokevirtual 510, 3) := by decide +kernel
theorem dX11_years_117 : decode cX11_years 117 = .ok (.goto 5, 3) := by decide +kernel
theorem dX11_years_120 : decode cX11_years 120 = .ok (.iload 4, 2) := by decide +kernel
theorem dX11_years_122 : decode cX11_years 122 = .ok (.istore 5, 2) := by decide +kernel
theorem dX11_years_124 : decode cX11_years 124 = .ok (.aload_n 0, 1) := by decide +kernel
theorem dX11_years_125 : decode cX11_years 125 = .ok (.getfield 9, 3) := by decide +kernel
theorem dX11_years_128 : decode cX11_years 128 = .ok (.aload_n 0, 1) := by decide +kernel
theorem dX11_years_129 : decode cX11_years 129 = .ok (.getfield 90, 3) := by decide +kernel
theorem dX11_years_132 : decode cX11_years 132 = .ok (.invokestatic 532, 3) := by decide +kernel
theorem dX11_years_135 : decode cX11_years 135 = .ok (.iload 5, 2) := by decide +kernel
theorem dX11_years_137 : decode cX11_years 137 = .ok (.ireturn, 1) := by decide +kernel
set_option maxRecDepth 20000 in
theorem ggX11_image_X11_copyTo : GoodIn wsX11_image wsX11_copyTo := goodIn_r _ [20] (by decide +kernel) (by decide +kernel)
set_option maxRecDepth 20000 in
theorem gX11_image_X11_copyTo : GoodIn wsX11_image (va_wsS RX11 532 yX11_copyTo wsX11_copyTo) := goodIn_app (goodIn_of _ (by decide +kernel)) ggX11_image_X11_copyTo
theorem dX11_image_0 : decode cX11_image 0 = .ok (.aload_n 0, 1) := by decide +kernel
theorem dX11_image_1 : decode cX11_image 1 = .ok (.iconst 0, 1) := by decide +kernel
theorem dX11_image_2 : decode cX11_image 2 = .ok (.putfield 111, 3) := by decide +kernel
theorem dX11_image_5 : decode cX11_image 5 = .ok (.aload_n 0, 1) := by decide +kernel
theorem dX11_image_6 : decode cX11_image 6 = .ok (.iconst 1, 1) := by decide +kernel
theorem dX11_image_7 : decode cX11_image 7 = .ok (.putfield 238, 3) := by decide +kernel
theorem dX11_image_10 : decode cX11_image 10 = .ok (.aload_n 0, 1) := by decide +kernel
theorem dX11_image_11 : decode cX11_image 11 = .ok (.aload_n 0, 1) := by decide +kernel
theorem dX11_image_12 : decode cX11_image 12 = .ok (.getfield 232, 3) := by decide +kernel
theorem dX11_image_15 : decode cX11_image 15 = .ok (.putfield 539, 3) := by decide +kernel
theorem dX11_image_18 : decode cX11_image 18 = .ok (.aload_n 0, 1) := by decide +kernel
theorem dX11_image_19 : decode cX11_image 19 = .ok (.aload_n 0, 1) := by decide +kernel
theorem dX11_image_20 : decode cX11_image 20 = .ok (.getfield 235, 3) := by decide +kernel
theorem dX11_image_23 : decode cX11_image 23 = .ok (.putfield 542, 3) := by decide +kernel
theorem dX11_image_26 : decode cX11_image 26 = .ok (.aload_n 0, 1) := by decide +kernel
theorem dX11_image_27 : decode cX11_image 27 = .ok (.getfield 93, 3) := by decide +kernel
theorem dX11_image_30 : decode cX11_image 30 = .ok (.aload_n 0, 1) := by decide +kernel
theorem dX11_image_31 : decode cX11_image 31 = .ok (.getfield 9, 3) := by decide +kernel
theorem dX11_image_34 : decode cX11_image 34 = .ok (.invokestatic 532, 3) := by decide +kernel
theorem dX11_image_37 : decode cX11_image 37 = .ok (.aload_n 0, 1) := by decide +kernel
theorem dX11_image_38 : decode cX11_image 38 = .ok (.getfield 96, 3) := by decide +kernel
theorem dX11_image_41 : decode cX11_image 41 = .ok (.aload_n 0, 1) := by decide +kernel
theorem dX11_image_42 : decode cX11_image 42 = .ok (.getfield 48, 3) := by decide +kernel
theorem dX11_image_45 : decode cX11_image 45 = .ok (.invokestatic 532, 3) := by decide +kernel
theorem dX11_image_48 : decode cX11_image 48 = .ok (.aload_n 0, 1) := by decide +kernel
theorem dX11_image_49 : decode cX11_image 49 = .ok (.getfield 99, 3) := by decide +kernel
theorem dX11_image_52 : decode cX11_image 52 = .ok (.aload_n 0, 1) := by decide +kernel
theorem dX11_image_53 : decode cX11_image 53 = .ok (.getfield 81, 3) := by decide +kernel
theorem dX11_image_56 : decode cX11_image 56 = .ok (.invokestatic 532, 3) := by decide +kernel
theorem dX11_image_59 : decode cX11_image 59 = .ok (.aload_n 0, 1) := by decide +kernel
theorem dX11_image_60 : decode cX11_image 60 = .ok (.getfield 102, 3) := by decide +kernel
theorem dX11_image_63 : decode cX11_image 63 = .ok (.aload_n 0, 1) := by decide +kernel
theorem dX11_image_64 : decode cX11_image 64 = .ok (.getfield 84, 3) := by decide +kernel
theorem dX11_image_67 : decode cX11_image 67 = .ok (.invokestatic 532, 3) := by decide +kernel
theorem dX11_image_70 : decode cX11_image 70 = .ok (.aload_n 0, 1) := by decide +kernel
theorem dX11_image_71 : decode cX11_image 71 = .ok (.getfield 105, 3) := by decide +kernel
theorem dX11_image_74 : decode cX11_image 74 = .ok (.aload_n 0, 1) := by decide +kernel
theorem dX11_image_75 : decode cX11_image 75 = .ok (.getfield 19, 3) := by decide +kernel
theorem dX11_image_78 : decode cX11_image 78 = .ok (.invokestatic 532, 3) := by decide +kernel
theorem dX11_image_81 : decode cX11_image 81 = .ok (.return_, 1) := by decide +kernel
