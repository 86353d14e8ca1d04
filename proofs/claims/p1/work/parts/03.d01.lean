set_option maxRecDepth 20000 in
theorem ggX9_unlike_X9_like : GoodIn wsX9_unlike wsX9_like := goodIn_r _ [6, 7, 8, 9, 5, 10, 1, 11, 12, 13, 14, 15, 16, 17, 18, 19, 20, 21, 22, 23, 24, 25, 26, 27, 28, 29, 30, 31, 32, 33, 34, 35, 36, 37, 38, 2, 3, 4, 39, 40, 41, 42, 43] (by decide +kernel) (by decide +kernel)
set_option maxRecDepth 20000 in
theorem gX9_unlike_X9_like : GoodIn wsX9_unlike (wsV RX9 56 RX9 yX9_like wsX9_like) := goodIn_app (goodIn_of _ (by decide +kernel)) ggX9_unlike_X9_like
theorem dX9_unlike_0 : decode cX9_unlike 0 = .ok (.iconst 0, 1) := by decide +kernel
theorem dX9_unlike_1 : decode cX9_unlike 1 = .ok (.istore_n 1, 1) := by decide +kernel
theorem dX9_unlike_2 : decode cX9_unlike 2 = .ok (.iconst 0, 1) := by decide +kernel
theorem dX9_unlike_3 : decode cX9_unlike 3 = .ok (.istore_n 2, 1) := by decide +kernel
theorem dX9_unlike_4 : decode cX9_unlike 4 = .ok (.iload_n 2, 1) := by decide +kernel
theorem dX9_unlike_5 : decode cX9_unlike 5 = .ok (.aload_n 0, 1) := by decide +kernel
theorem dX9_unlike_6 : decode cX9_unlike 6 = .ok (.getfield 24, 3) := by decide +kernel
theorem dX9_unlike_9 : decode cX9_unlike 9 = .ok (.if_icmp .ge 55, 3) := by decide +kernel
theorem dX9_unlike_12 : decode cX9_unlike 12 = .ok (.iconst 1, 1) := by decide +kernel
theorem dX9_unlike_13 : decode cX9_unlike 13 = .ok (.istore_n 3, 1) := by decide +kernel
theorem dX9_unlike_14 : decode cX9_unlike 14 = .ok (.iconst 0, 1) := by decide +kernel
theorem dX9_unlike_15 : decode cX9_unlike 15 = .ok (.istore 4, 2) := by decide +kernel
theorem dX9_unlike_17 : decode cX9_unlike 17 = .ok (.iload 4, 2) := by decide +kernel
theorem dX9_unlike_19 : decode cX9_unlike 19 = .ok (.iload_n 2, 1) := by decide +kernel
theorem dX9_unlike_20 : decode cX9_unlike 20 = .ok (.if_icmp .ge 31, 3) := by decide +kernel
theorem dX9_unlike_23 : decode cX9_unlike 23 = .ok (.iload_n 3, 1) := by decide +kernel
theorem dX9_unlike_24 : decode cX9_unlike 24 = .ok (.ifCond .eq 27, 3) := by decide +kernel
theorem dX9_unlike_27 : decode cX9_unlike 27 = .ok (.aload_n 0, 1) := by decide +kernel
theorem dX9_unlike_28 : decode cX9_unlike 28 = .ok (.iload 4, 2) := by decide +kernel
theorem dX9_unlike_30 : decode cX9_unlike 30 = .ok (.aload_n 0, 1) := by decide +kernel
theorem dX9_unlike_31 : decode cX9_unlike 31 = .ok (.iload_n 2, 1) := by decide +kernel
theorem dX9_unlike_32 : decode cX9_unlike 32 = .ok (.iconst 0, 1) := by decide +kernel
theorem dX9_unlike_33 : decode cX9_unlike 33 = .ok (.invokevirtual 56, 3) := by decide +kernel
theorem dX9_unlike_36 : decode cX9_unlike 36 = .ok (.ifCond .ne 7, 3) := by decide +kernel
theorem dX9_unlike_39 : decode cX9_unlike 39 = .ok (.iconst 1, 1) := by decide +kernel
theorem dX9_unlike_40 : decode cX9_unlike 40 = .ok (.goto 4, 3) := by decide +kernel
theorem dX9_unlike_43 : decode cX9_unlike 43 = .ok (.iconst 0, 1) := by decide +kernel
theorem dX9_unlike_44 : decode cX9_unlike 44 = .ok (.istore_n 3, 1) := by decide +kernel
theorem dX9_unlike_45 : decode cX9_unlike 45 = .ok (.iinc 4 1, 3) := by decide +kernel
theorem dX9_unlike_48 : decode cX9_unlike 48 = .ok (.goto (-31), 3) := by decide +kernel
theorem dX9_unlike_51 : decode cX9_unlike 51 = .ok (.iload_n 3, 1) := by decide +kernel
theorem dX9_unlike_52 : decode cX9_unlike 52 = .ok (.ifCond .eq 6, 3) := by decide +kernel
theorem dX9_unlike_55 : decode cX9_unlike 55 = .ok (.iinc 1 1, 3) := by decide +kernel
theorem dX9_unlike_58 : decode cX9_unlike 58 = .ok (.iinc 2 1, 3) := by decide +kernel
theorem dX9_unlike_61 : decode cX9_unlike 61 = .ok (.goto (-57), 3) := by decide +kernel
theorem dX9_unlike_64 : decode cX9_unlike 64 = .ok (.iload_n 1, 1) := by decide +kernel
theorem dX9_unlike_65 : decode cX9_unlike 65 = .ok (.ireturn, 1) := by decide +kernel
theorem dX9_clear_0 : decode cX9_clear 0 = .ok (.aload_n 0, 1) := by decide +kernel
theorem dX9_clear_1 : decode cX9_clear 1 = .ok (.iconst 0, 1) := by decide +kernel
theorem dX9_clear_2 : decode cX9_clear 2 = .ok (.putfield 24, 3) := by decide +kernel
theorem dX9_clear_5 : decode cX9_clear 5 = .ok (.return_, 1) := by decide +kernel
theorem dX9_addThing_0 : decode cX9_addThing 0 = .ok (.aload_n 0, 1) := by decide +kernel
theorem dX9_addThing_1 : decode cX9_addThing 1 = .ok (.getfield 24, 3) := by decide +kernel
theorem dX9_addThing_4 : decode cX9_addThing 4 = .ok (.ifCond .lt 15, 3) := by decide +kernel
theorem dX9_addThing_7 : decode cX9_addThing 7 = .ok (.aload_n 0, 1) := by decide +kernel
theorem dX9_addThing_8 : decode cX9_addThing 8 = .ok (.getfield 24, 3) := by decide +kernel
theorem dX9_addThing_11 : decode cX9_addThing 11 = .ok (.aload_n 0, 1) := by decide +kernel
theorem dX9_addThing_12 : decode cX9_addThing 12 = .ok (.getfield 9, 3) := by decide +kernel
theorem dX9_addThing_15 : decode cX9_addThing 15 = .ok (.arraylength, 1) := by decide +kernel
theorem dX9_addThing_16 : decode cX9_addThing 16 = .ok (.if_icmp .lt 5, 3) := by decide +kernel
theorem dX9_addThing_19 : decode cX9_addThing 19 = .ok (.iconst (-1), 1) := by decide +kernel
theorem dX9_addThing_20 : decode cX9_addThing 20 = .ok (.ireturn, 1) := by decide +kernel
theorem dX9_addThing_21 : decode cX9_addThing 21 = .ok (.aload_n 0, 1) := by decide +kernel
theorem dX9_addThing_22 : decode cX9_addThing 22 = .ok (.getfield 9, 3) := by decide +kernel
theorem dX9_addThing_25 : decode cX9_addThing 25 = .ok (.aload_n 0, 1) := by decide +kernel
theorem dX9_addThing_26 : decode cX9_addThing 26 = .ok (.getfield 24, 3) := by decide +kernel
theorem dX9_addThing_29 : decode cX9_addThing 29 = .ok (.iload_n 1, 1) := by decide +kernel
theorem dX9_addThing_30 : decode cX9_addThing 30 = .ok (.iastore, 1) := by decide +kernel
theorem dX9_addThing_31 : decode cX9_addThing 31 = .ok (.aload_n 0, 1) := by decide +kernel
theorem dX9_addThing_32 : decode cX9_addThing 32 = .ok (.getfield 15, 3) := by decide +kernel
theorem dX9_addThing_35 : decode cX9_addThing 35 = .ok (.aload_n 0, 1) := by decide +kernel
theorem dX9_addThing_36 : decode cX9_addThing 36 = .ok (.getfield 24, 3) := by decide +kernel
theorem dX9_addThing_39 : decode cX9_addThing 39 = .ok (.iload_n 2, 1) := by decide +kernel
theorem dX9_addThing_40 : decode cX9_addThing 40 = .ok (.iastore, 1) := by decide +kernel
theorem dX9_addThing_41 : decode cX9_addThing 41 = .ok (.aload_n 0, 1) := by decide +kernel
theorem dX9_addThing_42 : decode cX9_addThing 42 = .ok (.getfield 18, 3) := by decide +kernel
theorem dX9_addThing_45 : decode cX9_addThing 45 = .ok (.aload_n 0, 1) := by decide +kernel
theorem dX9_addThing_46 : decode cX9_addThing 46 = .ok (.getfield 24, 3) := by decide +kernel
theorem dX9_addThing_49 : decode cX9_addThing 49 = .ok (.iload_n 3, 1) := by decide +kernel
theorem dX9_addThing_50 : decode cX9_addThing 50 = .ok (.iastore, 1) := by decide +kernel
theorem dX9_addThing_51 : decode cX9_addThing 51 = .ok (.aload_n 0, 1) := by decide +kernel
theorem dX9_addThing_52 : decode cX9_addThing 52 = .ok (.getfield 21, 3) := by decide +kernel
theorem dX9_addThing_55 : decode cX9_addThing 55 = .ok (.aload_n 0, 1) := by decide +kernel
theorem dX9_addThing_56 : decode cX9_addThing 56 = .ok (.getfield 24, 3) := by decide +kernel
theorem dX9_addThing_59 : decode cX9_addThing 59 = .ok (.iload 4, 2) := by decide +kernel
theorem dX9_addThing_61 : decode cX9_addThing 61 = .ok (.iastore, 1) := by decide +kernel
theorem dX9_addThing_62 : decode cX9_addThing 62 = .ok (.aload_n 0, 1) := by decide +kernel
theorem dX9_addThing_63 : decode cX9_addThing 63 = .ok (.dup, 1) := by decide +kernel
theorem dX9_addThing_64 : decode cX9_addThing 64 = .ok (.getfield 24, 3) := by decide +kernel
theorem dX9_addThing_67 : decode cX9_addThing 67 = .ok (.iconst 1, 1) := by decide +kernel
theorem dX9_addThing_68 : decode cX9_addThing 68 = .ok (.iadd, 1) := by decide +kernel
theorem dX9_addThing_69 : decode cX9_addThing 69 = .ok (.putfield 24, 3) := by decide +kernel
theorem dX9_addThing_72 : decode cX9_addThing 72 = .ok (.aload_n 0, 1) := by decide +kernel
theorem dX9_addThing_73 : decode cX9_addThing 73 = .ok (.getfield 24, 3) := by decide +kernel
theorem dX9_addThing_76 : decode cX9_addThing 76 = .ok (.iconst 1, 1) := by decide +kernel
theorem dX9_addThing_77 : decode cX9_addThing 77 = .ok (.isub, 1) := by decide +kernel
theorem dX9_addThing_78 : decode cX9_addThing 78 = .ok (.ireturn, 1) := by decide +kernel
theorem dX9_become_0 : decode cX9_become 0 = .ok (.aload_n 1, 1) := by decide +kernel
theorem dX9_become_1 : decode cX9_become 1 = .ok (.getfield 24, 3) := by decide +kernel
theorem dX9_become_4 : decode cX9_become 4 = .ok (.istore_n 2, 1) := by decide +kernel
theorem dX9_become_5 : decode cX9_become 5 = .ok (.iload_n 2, 1) := by decide +kernel
theorem dX9_become_6 : decode cX9_become 6 = .ok (.ifCond .lt 82, 3) := by decide +kernel
theorem dX9_become_9 : decode cX9_become 9 = .ok (.iload_n 2, 1) := by decide +kernel
theorem dX9_become_10 : decode cX9_become 10 = .ok (.aload_n 0, 1) := by decide +kernel
theorem dX9_become_11 : decode cX9_become 11 = .ok (.getfield 9, 3) := by decide +kernel
theorem dX9_become_14 : decode cX9_become 14 = .ok (.arraylength, 1) := by decide +kernel
theorem dX9_become_15 : decode cX9_become 15 = .ok (.if_icmp .gt 73, 3) := by decide +kernel
theorem dX9_become_18 : decode cX9_become 18 = .ok (.iload_n 2, 1) := by decide +kernel
theorem dX9_become_19 : decode cX9_become 19 = .ok (.aload_n 1, 1) := by decide +kernel
theorem dX9_become_20 : decode cX9_become 20 = .ok (.getfield 9, 3) := by decide +kernel
theorem dX9_become_23 : decode cX9_become 23 = .ok (.arraylength, 1) := by decide +kernel
theorem dX9_become_24 : decode cX9_become 24 = .ok (.if_icmp .gt 64, 3) := by decide +kernel
theorem dX9_become_27 : decode cX9_become 27 = .ok (.aload_n 1, 1) := by decide +kernel
theorem dX9_become_28 : decode cX9_become 28 = .ok (.getfield 9, 3) := by decide +kernel
theorem dX9_become_31 : decode cX9_become 31 = .ok (.iconst 0, 1) := by decide +kernel
theorem dX9_become_32 : decode cX9_become 32 = .ok (.aload_n 0, 1) := by decide +kernel
theorem dX9_become_33 : decode cX9_become 33 = .ok (.getfield 9, 3) := by decide +kernel
theorem dX9_become_36 : decode cX9_become 36 = .ok (.iconst 0, 1) := by decide +kernel
theorem dX9_become_37 : decode cX9_become 37 = .ok (.iload_n 2, 1) := by decide +kernel
theorem dX9_become_38 : decode cX9_become 38 = .ok (.invokestatic 60, 3) := by decide +kernel
theorem dX9_become_41 : decode cX9_become 41 = .ok (.aload_n 1, 1) := by decide +kernel
theorem dX9_become_42 : decode cX9_become 42 = .ok (.getfield 15, 3) := by decide +kernel
theorem dX9_become_45 : decode cX9_become 45 = .ok (.iconst 0, 1) := by decide +kernel
theorem dX9_become_46 : decode cX9_become 46 = .ok (.aload_n 0, 1) := by decide +kernel
theorem dX9_become_47 : decode cX9_become 47 = .ok (.getfield 15, 3) := by decide +kernel
theorem dX9_become_50 : decode cX9_become 50 = .ok (.iconst 0, 1) := by decide +kernel
theorem dX9_become_51 : decode cX9_become 51 = .ok (.iload_n 2, 1) := by decide +kernel
theorem dX9_become_52 : decode cX9_become 52 = .ok (.invokestatic 60, 3) := by decide +kernel
theorem dX9_become_55 : decode cX9_become 55 = .ok (.aload_n 1, 1) := by decide +kernel
theorem dX9_become_56 : decode cX9_become 56 = .ok (.getfield 18, 3) := by decide +kernel
theorem dX9_become_59 : decode cX9_become 59 = .ok (.iconst 0, 1) := by decide +kernel
theorem dX9_become_60 : decode cX9_become 60 = .ok (.aload_n 0, 1) := by decide +kernel
theorem dX9_become_61 : decode cX9_become 61 = .ok (.getfield 18, 3) := by decide +kernel
theorem dX9_become_64 : decode cX9_become 64 = .ok (.iconst 0, 1) := by decide +kernel
theorem dX9_become_65 : decode cX9_become 65 = .ok (.iload_n 2, 1) := by decide +kernel
theorem dX9_become_66 : decode cX9_become 66 = .ok (.invokestatic 60, 3) := by decide +kernel
theorem dX9_become_69 : decode cX9_become 69 = .ok (.aload_n 1, 1) := by decide +kernel
theorem dX9_become_70 : decode cX9_become 70 = .ok (.getfield 21, 3) := by decide +kernel
theorem dX9_become_73 : decode cX9_become 73 = .ok (.iconst 0, 1) := by decide +kernel
theorem dX9_become_74 : decode cX9_become 74 = .ok (.aload_n 0, 1) := by decide +kernel
theorem dX9_become_75 : decode cX9_become 75 = .ok (.getfield 21, 3) := by decide +kernel
theorem dX9_become_78 : decode cX9_become 78 = .ok (.iconst 0, 1) := by decide +kernel
theorem dX9_become_79 : decode cX9_become 79 = .ok (.iload_n 2, 1) := by decide +kernel
theorem dX9_become_80 : decode cX9_become 80 = .ok (.invokestatic 60, 3) := by decide +kernel
theorem dX9_become_83 : decode cX9_become 83 = .ok (.aload_n 0, 1) := by decide +kernel
theorem dX9_become_84 : decode cX9_become 84 = .ok (.iload_n 2, 1) := by decide +kernel
theorem dX9_become_85 : decode cX9_become 85 = .ok (.putfield 24, 3) := by decide +kernel
theorem dX9_become_88 : decode cX9_become 88 = .ok (.return_, 1) := by decide +kernel
