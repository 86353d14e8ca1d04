theorem dX11_tell_0 : decode cX11_tell 0 = .ok (.aload_n 0, 1) := by decide +kernel
theorem dX11_tell_1 : decode cX11_tell 1 = .ok (.getfield 78, 3) := by decide +kernel
theorem dX11_tell_4 : decode cX11_tell 4 = .ok (.aload_n 0, 1) := by decide +kernel
theorem dX11_tell_5 : decode cX11_tell 5 = .ok (.getfield 471, 3) := by decide +kernel
theorem dX11_tell_8 : decode cX11_tell 8 = .ok (.iload_n 1, 1) := by decide +kernel
theorem dX11_tell_9 : decode cX11_tell 9 = .ok (.iastore, 1) := by decide +kernel
theorem dX11_tell_10 : decode cX11_tell 10 = .ok (.aload_n 0, 1) := by decide +kernel
theorem dX11_tell_11 : decode cX11_tell 11 = .ok (.dup, 1) := by decide +kernel
theorem dX11_tell_12 : decode cX11_tell 12 = .ok (.getfield 471, 3) := by decide +kernel
theorem dX11_tell_15 : decode cX11_tell 15 = .ok (.iconst 1, 1) := by decide +kernel
theorem dX11_tell_16 : decode cX11_tell 16 = .ok (.iadd, 1) := by decide +kernel
theorem dX11_tell_17 : decode cX11_tell 17 = .ok (.putfield 471, 3) := by decide +kernel
theorem dX11_tell_20 : decode cX11_tell 20 = .ok (.return_, 1) := by decide +kernel
set_option maxRecDepth 100000 in
theorem ggX11_tellNumber_X11_tell : GoodIn wsX11_tellNumber wsX11_tell := (gi_cons 5 rfl rfl (gi_cons 6 rfl rfl (gi_cons 7 rfl rfl (gi_cons 8 rfl rfl (gi_cons 9 rfl rfl (gi_cons 10 rfl rfl (gi_cons 11 rfl rfl (gi_cons 12 rfl rfl (gi_cons 13 rfl rfl (gi_cons 14 rfl rfl (gi_cons 15 rfl rfl (gi_cons 16 rfl rfl (gi_cons 17 rfl rfl (gi_cons 18 rfl rfl (gi_cons 19 rfl rfl (gi_cons 20 rfl rfl (gi_cons 21 rfl rfl (gi_cons 22 rfl rfl (gi_cons 23 rfl rfl (gi_cons 24 rfl rfl (gi_cons 25 rfl rfl (gi_cons 26 rfl rfl (gi_cons 27 rfl rfl (gi_cons 28 rfl rfl (gi_cons 29 rfl rfl (gi_cons 30 rfl rfl (gi_cons 31 rfl rfl (gi_cons 32 rfl rfl (gi_cons 33 rfl rfl (gi_cons 34 rfl rfl (gi_cons 35 rfl rfl (gi_cons 36 rfl rfl (gi_cons 37 rfl rfl (gi_cons 38 rfl rfl (gi_cons 39 rfl rfl (gi_cons 40 rfl rfl (gi_cons 41 rfl rfl (gi_cons 42 rfl rfl (gi_cons 43 rfl rfl (gi_cons 44 rfl rfl (gi_cons 45 rfl rfl (gi_cons 46 rfl rfl (gi_cons 47 rfl rfl (gi_cons 48 rfl rfl (gi_cons 49 rfl rfl (gi_cons 50 rfl rfl (gi_cons 51 rfl rfl (gi_cons 52 rfl rfl (gi_cons 53 rfl rfl (gi_cons 54 rfl rfl (gi_cons 55 rfl rfl (gi_cons 56 rfl rfl (gi_cons 57 rfl rfl (gi_cons 58 rfl rfl (gi_cons 59 rfl rfl (gi_cons 60 rfl rfl (gi_cons 61 rfl rfl (gi_cons 62 rfl rfl (gi_cons 63 rfl rfl (gi_cons 64 rfl rfl (gi_cons 65 rfl rfl (gi_cons 66 rfl rfl (gi_cons 67 rfl rfl (gi_cons 68 rfl rfl (gi_cons 69 rfl rfl (gi_cons 70 rfl rfl (gi_cons 71 rfl rfl (gi_cons 72 rfl rfl (gi_cons 73 rfl rfl gi_nil)))))))))))))))))))))))))))))))))))))))))))))))))))))))))))))))))))))
set_option maxRecDepth 20000 in
theorem gX11_tellNumber_X11_tell : GoodIn wsX11_tellNumber (wsV RX11 474 RX11 yX11_tell wsX11_tell) := goodIn_app (goodIn_of _ (by decide +kernel)) ggX11_tellNumber_X11_tell
theorem dX11_tellNumber_0 : decode cX11_tellNumber 0 = .ok (.iload_n 1, 1) := by decide +kernel
theorem dX11_tellNumber_1 : decode cX11_tellNumber 1 = .ok (.ifCond .ge 9, 3) := by decide +kernel
theorem dX11_tellNumber_4 : decode cX11_tellNumber 4 = .ok (.aload_n 0, 1) := by decide +kernel
theorem dX11_tellNumber_5 : decode cX11_tellNumber 5 = .ok (.bipush 45, 2) := by decide +kernel
theorem dX11_tellNumber_7 : decode cX11_tellNumber 7 = .ok (.invokevirtual 474, 3) := by decide +kernel
theorem dX11_tellNumber_10 : decode cX11_tellNumber 10 = .ok (.iload_n 1, 1) := by decide +kernel
theorem dX11_tellNumber_11 : decode cX11_tellNumber 11 = .ok (.ifCond .ge 8, 3) := by decide +kernel
theorem dX11_tellNumber_14 : decode cX11_tellNumber 14 = .ok (.iload_n 1, 1) := by decide +kernel
theorem dX11_tellNumber_15 : decode cX11_tellNumber 15 = .ok (.ineg, 1) := by decide +kernel
theorem dX11_tellNumber_16 : decode cX11_tellNumber 16 = .ok (.goto 4, 3) := by decide +kernel
theorem dX11_tellNumber_19 : decode cX11_tellNumber 19 = .ok (.iload_n 1, 1) := by decide +kernel
theorem dX11_tellNumber_20 : decode cX11_tellNumber 20 = .ok (.istore_n 2, 1) := by decide +kernel
theorem dX11_tellNumber_21 : decode cX11_tellNumber 21 = .ok (.iload_n 2, 1) := by decide +kernel
theorem dX11_tellNumber_22 : decode cX11_tellNumber 22 = .ok (.bipush 99, 2) := by decide +kernel
theorem dX11_tellNumber_24 : decode cX11_tellNumber 24 = .ok (.if_icmp .le 8, 3) := by decide +kernel
theorem dX11_tellNumber_27 : decode cX11_tellNumber 27 = .ok (.bipush 100, 2) := by decide +kernel
theorem dX11_tellNumber_29 : decode cX11_tellNumber 29 = .ok (.goto 15, 3) := by decide +kernel
theorem dX11_tellNumber_32 : decode cX11_tellNumber 32 = .ok (.iload_n 2, 1) := by decide +kernel
theorem dX11_tellNumber_33 : decode cX11_tellNumber 33 = .ok (.bipush 9, 2) := by decide +kernel
theorem dX11_tellNumber_35 : decode cX11_tellNumber 35 = .ok (.if_icmp .le 8, 3) := by decide +kernel
theorem dX11_tellNumber_38 : decode cX11_tellNumber 38 = .ok (.bipush 10, 2) := by decide +kernel
theorem dX11_tellNumber_40 : decode cX11_tellNumber 40 = .ok (.goto 4, 3) := by decide +kernel
theorem dX11_tellNumber_43 : decode cX11_tellNumber 43 = .ok (.iconst 1, 1) := by decide +kernel
theorem dX11_tellNumber_44 : decode cX11_tellNumber 44 = .ok (.istore_n 3, 1) := by decide +kernel
theorem dX11_tellNumber_45 : decode cX11_tellNumber 45 = .ok (.iload_n 3, 1) := by decide +kernel
theorem dX11_tellNumber_46 : decode cX11_tellNumber 46 = .ok (.ifCond .le 24, 3) := by decide +kernel
theorem dX11_tellNumber_49 : decode cX11_tellNumber 49 = .ok (.aload_n 0, 1) := by decide +kernel
theorem dX11_tellNumber_50 : decode cX11_tellNumber 50 = .ok (.bipush 48, 2) := by decide +kernel
theorem dX11_tellNumber_52 : decode cX11_tellNumber 52 = .ok (.iload_n 2, 1) := by decide +kernel
theorem dX11_tellNumber_53 : decode cX11_tellNumber 53 = .ok (.iload_n 3, 1) := by decide +kernel
theorem dX11_tellNumber_54 : decode cX11_tellNumber 54 = .ok (.idiv, 1) := by decide +kernel
theorem dX11_tellNumber_55 : decode cX11_tellNumber 55 = .ok (.bipush 10, 2) := by decide +kernel
theorem dX11_tellNumber_57 : decode cX11_tellNumber 57 = .ok (.irem, 1) := by decide +kernel
theorem dX11_tellNumber_58 : decode cX11_tellNumber 58 = .ok (.iadd, 1) := by decide +kernel
theorem dX11_tellNumber_59 : decode cX11_tellNumber 59 = .ok (.invokevirtual 474, 3) := by decide +kernel
theorem dX11_tellNumber_62 : decode cX11_tellNumber 62 = .ok (.iload_n 3, 1) := by decide +kernel
theorem dX11_tellNumber_63 : decode cX11_tellNumber 63 = .ok (.bipush 10, 2) := by decide +kernel
theorem dX11_tellNumber_65 : decode cX11_tellNumber 65 = .ok (.idiv, 1) := by decide +kernel
theorem dX11_tellNumber_66 : decode cX11_tellNumber 66 = .ok (.istore_n 3, 1) := by decide +kernel
theorem dX11_tellNumber_67 : decode cX11_tellNumber 67 = .ok (.goto (-22), 3) := by decide +kernel
theorem dX11_tellNumber_70 : decode cX11_tellNumber 70 = .ok (.return_, 1) := by decide +kernel
set_option maxRecDepth 100000 in
theorem ggX11_tellWord_X11_lettersOf : GoodIn wsX11_tellWord wsX11_lettersOf := (gi_cons 4 rfl rfl gi_nil)
set_option maxRecDepth 20000 in
theorem gX11_tellWord_X11_lettersOf : GoodIn wsX11_tellWord (va_wsS RX11 338 yX11_lettersOf wsX11_lettersOf) := goodIn_app (goodIn_of _ (by decide +kernel)) ggX11_tellWord_X11_lettersOf
set_option maxRecDepth 100000 in
theorem ggX11_tellWord_X11_tell : GoodIn wsX11_tellWord wsX11_tell := (gi_cons 8 rfl rfl (gi_cons 9 rfl rfl (gi_cons 10 rfl rfl (gi_cons 11 rfl rfl (gi_cons 12 rfl rfl (gi_cons 13 rfl rfl (gi_cons 14 rfl rfl (gi_cons 15 rfl rfl (gi_cons 16 rfl rfl (gi_cons 17 rfl rfl (gi_cons 18 rfl rfl (gi_cons 19 rfl rfl (gi_cons 20 rfl rfl (gi_cons 21 rfl rfl (gi_cons 22 rfl rfl (gi_cons 23 rfl rfl (gi_cons 24 rfl rfl (gi_cons 25 rfl rfl (gi_cons 26 rfl rfl (gi_cons 27 rfl rfl (gi_cons 28 rfl rfl (gi_cons 29 rfl rfl (gi_cons 30 rfl rfl (gi_cons 31 rfl rfl (gi_cons 32 rfl rfl (gi_cons 33 rfl rfl (gi_cons 34 rfl rfl (gi_cons 35 rfl rfl (gi_cons 36 rfl rfl (gi_cons 37 rfl rfl (gi_cons 38 rfl rfl (gi_cons 39 rfl rfl (gi_cons 40 rfl rfl (gi_cons 41 rfl rfl (gi_cons 42 rfl rfl (gi_cons 43 rfl rfl (gi_cons 44 rfl rfl (gi_cons 45 rfl rfl (gi_cons 46 rfl rfl (gi_cons 47 rfl rfl (gi_cons 48 rfl rfl (gi_cons 49 rfl rfl (gi_cons 50 rfl rfl (gi_cons 51 rfl rfl (gi_cons 52 rfl rfl (gi_cons 53 rfl rfl (gi_cons 54 rfl rfl (gi_cons 55 rfl rfl (gi_cons 56 rfl rfl (gi_cons 57 rfl rfl (gi_cons 58 rfl rfl (gi_cons 59 rfl rfl (gi_cons 60 rfl rfl (gi_cons 61 rfl rfl (gi_cons 62 rfl rfl (gi_cons 63 rfl rfl (gi_cons 64 rfl rfl (gi_cons 65 rfl rfl (gi_cons 66 rfl rfl (gi_cons 67 rfl rfl (gi_cons 68 rfl rfl (gi_cons 69 rfl rfl (gi_cons 70 rfl rfl (gi_cons 71 rfl rfl (gi_cons 72 rfl rfl (gi_cons 73 rfl rfl (gi_cons 74 rfl rfl (gi_cons 75 rfl rfl (gi_cons 76 rfl rfl gi_nil)))))))))))))))))))))))))))))))))))))))))))))))))))))))))))))))))))))
set_option maxRecDepth 20000 in
theorem gX11_tellWord_X11_tell : GoodIn wsX11_tellWord (wsV RX11 474 RX11 yX11_tell wsX11_tell) := goodIn_app (goodIn_of _ (by decide +kernel)) ggX11_tellWord_X11_tell
theorem dX11_tellWord_0 : decode cX11_tellWord 0 = .ok (.iload_n 1, 1) := by decide +kernel
theorem dX11_tellWord_1 : decode cX11_tellWord 1 = .ok (.invokestatic 338, 3) := by decide +kernel
theorem dX11_tellWord_4 : decode cX11_tellWord 4 = .ok (.iconst 1, 1) := by decide +kernel
theorem dX11_tellWord_5 : decode cX11_tellWord 5 = .ok (.isub, 1) := by decide +kernel
theorem dX11_tellWord_6 : decode cX11_tellWord 6 = .ok (.istore_n 2, 1) := by decide +kernel
theorem dX11_tellWord_7 : decode cX11_tellWord 7 = .ok (.iload_n 2, 1) := by decide +kernel
theorem dX11_tellWord_8 : decode cX11_tellWord 8 = .ok (.ifCond .lt 24, 3) := by decide +kernel
theorem dX11_tellWord_11 : decode cX11_tellWord 11 = .ok (.aload_n 0, 1) := by decide +kernel
theorem dX11_tellWord_12 : decode cX11_tellWord 12 = .ok (.bipush 96, 2) := by decide +kernel
theorem dX11_tellWord_14 : decode cX11_tellWord 14 = .ok (.iload_n 1, 1) := by decide +kernel
theorem dX11_tellWord_15 : decode cX11_tellWord 15 = .ok (.iconst 5, 1) := by decide +kernel
theorem dX11_tellWord_16 : decode cX11_tellWord 16 = .ok (.iload_n 2, 1) := by decide +kernel
theorem dX11_tellWord_17 : decode cX11_tellWord 17 = .ok (.imul, 1) := by decide +kernel
theorem dX11_tellWord_18 : decode cX11_tellWord 18 = .ok (.ishr, 1) := by decide +kernel
theorem dX11_tellWord_19 : decode cX11_tellWord 19 = .ok (.bipush 31, 2) := by decide +kernel
theorem dX11_tellWord_21 : decode cX11_tellWord 21 = .ok (.iand, 1) := by decide +kernel
theorem dX11_tellWord_22 : decode cX11_tellWord 22 = .ok (.iadd, 1) := by decide +kernel
theorem dX11_tellWord_23 : decode cX11_tellWord 23 = .ok (.invokevirtual 474, 3) := by decide +kernel
theorem dX11_tellWord_26 : decode cX11_tellWord 26 = .ok (.iinc 2 (-1), 3) := by decide +kernel
theorem dX11_tellWord_29 : decode cX11_tellWord 29 = .ok (.goto (-22), 3) := by decide +kernel
theorem dX11_tellWord_32 : decode cX11_tellWord 32 = .ok (.return_, 1) := by decide +kernel
set_option maxRecDepth 100000 in
theorem ggX11_tellThing_X11_holds : GoodIn wsX11_tellThing wsX11_holds := (gi_cons 4 rfl rfl gi_nil)
set_option maxRecDepth 20000 in
theorem gX11_tellThing_X11_holds : GoodIn wsX11_tellThing (va_wsS RX11 256 yX11_holds wsX11_holds) := goodIn_app (goodIn_of _ (by decide +kernel)) ggX11_tellThing_X11_holds
set_option maxRecDepth 100000 in
theorem ggX11_tellThing_X11_kind : GoodIn wsX11_tellThing wsX11_kind := (gi_cons 7 rfl rfl gi_nil)
set_option maxRecDepth 20000 in
theorem gX11_tellThing_X11_kind : GoodIn wsX11_tellThing (va_wsS RX11 253 yX11_kind wsX11_kind) := goodIn_app (goodIn_of _ (by decide +kernel)) ggX11_tellThing_X11_kind
set_option maxRecDepth 100000 in
theorem ggX11_tellThing_X11_tellNumber : GoodIn wsX11_tellThing wsX11_tellNumber := (gi_cons 11 rfl rfl (gi_cons 12 rfl rfl (gi_cons 13 rfl rfl (gi_cons 14 rfl rfl (gi_cons 3 rfl rfl (gi_cons 15 rfl rfl (gi_cons 16 rfl rfl (gi_cons 17 rfl rfl (gi_cons 31 rfl rfl (gi_cons 32 rfl rfl (gi_cons 33 rfl rfl (gi_cons 34 rfl rfl (gi_cons 35 rfl rfl (gi_cons 36 rfl rfl (gi_cons 37 rfl rfl (gi_cons 38 rfl rfl (gi_cons 39 rfl rfl (gi_cons 40 rfl rfl (gi_cons 41 rfl rfl (gi_cons 42 rfl rfl (gi_cons 43 rfl rfl (gi_cons 44 rfl rfl (gi_cons 45 rfl rfl (gi_cons 46 rfl rfl (gi_cons 47 rfl rfl (gi_cons 48 rfl rfl (gi_cons 49 rfl rfl (gi_cons 50 rfl rfl (gi_cons 51 rfl rfl (gi_cons 52 rfl rfl (gi_cons 53 rfl rfl (gi_cons 54 rfl rfl (gi_cons 55 rfl rfl (gi_cons 56 rfl rfl (gi_cons 57 rfl rfl (gi_cons 58 rfl rfl (gi_cons 59 rfl rfl (gi_cons 60 rfl rfl (gi_cons 61 rfl rfl (gi_cons 62 rfl rfl (gi_cons 63 rfl rfl (gi_cons 64 rfl rfl (gi_cons 65 rfl rfl (gi_cons 66 rfl rfl (gi_cons 67 rfl rfl (gi_cons 68 rfl rfl (gi_cons 69 rfl rfl (gi_cons 70 rfl rfl (gi_cons 71 rfl rfl (gi_cons 72 rfl rfl (gi_cons 73 rfl rfl (gi_cons 74 rfl rfl (gi_cons 75 rfl rfl (gi_cons 76 rfl rfl (gi_cons 77 rfl rfl (gi_cons 78 rfl rfl (gi_cons 79 rfl rfl (gi_cons 80 rfl rfl (gi_cons 81 rfl rfl (gi_cons 82 rfl rfl (gi_cons 83 rfl rfl (gi_cons 84 rfl rfl (gi_cons 85 rfl rfl (gi_cons 86 rfl rfl (gi_cons 87 rfl rfl (gi_cons 88 rfl rfl (gi_cons 89 rfl rfl (gi_cons 90 rfl rfl (gi_cons 91 rfl rfl (gi_cons 92 rfl rfl (gi_cons 93 rfl rfl (gi_cons 94 rfl rfl (gi_cons 95 rfl rfl (gi_cons 96 rfl rfl gi_nil))))))))))))))))))))))))))))))))))))))))))))))))))))))))))))))))))))))))))
set_option maxRecDepth 20000 in
theorem gX11_tellThing_X11_tellNumber : GoodIn wsX11_tellThing (wsV RX11 477 RX11 yX11_tellNumber wsX11_tellNumber) := goodIn_app (goodIn_of _ (by decide +kernel)) ggX11_tellThing_X11_tellNumber
set_option maxRecDepth 100000 in
theorem ggX11_tellThing_X11_tellWord : GoodIn wsX11_tellThing wsX11_tellWord := (gi_cons 21 rfl rfl (gi_cons 22 rfl rfl (gi_cons 23 rfl rfl (gi_cons 3 rfl rfl (gi_cons 24 rfl rfl (gi_cons 12 rfl rfl (gi_cons 13 rfl rfl (gi_cons 14 rfl rfl (gi_cons 15 rfl rfl (gi_cons 16 rfl rfl (gi_cons 17 rfl rfl (gi_cons 31 rfl rfl (gi_cons 32 rfl rfl (gi_cons 33 rfl rfl (gi_cons 34 rfl rfl (gi_cons 35 rfl rfl (gi_cons 36 rfl rfl (gi_cons 37 rfl rfl (gi_cons 38 rfl rfl (gi_cons 39 rfl rfl (gi_cons 40 rfl rfl (gi_cons 41 rfl rfl (gi_cons 42 rfl rfl (gi_cons 43 rfl rfl (gi_cons 44 rfl rfl (gi_cons 45 rfl rfl (gi_cons 46 rfl rfl (gi_cons 47 rfl rfl (gi_cons 48 rfl rfl (gi_cons 49 rfl rfl (gi_cons 50 rfl rfl (gi_cons 51 rfl rfl (gi_cons 52 rfl rfl (gi_cons 53 rfl rfl (gi_cons 54 rfl rfl (gi_cons 55 rfl rfl (gi_cons 56 rfl rfl (gi_cons 57 rfl rfl (gi_cons 58 rfl rfl (gi_cons 59 rfl rfl (gi_cons 60 rfl rfl (gi_cons 61 rfl rfl (gi_cons 62 rfl rfl (gi_cons 63 rfl rfl (gi_cons 64 rfl rfl (gi_cons 65 rfl rfl (gi_cons 66 rfl rfl (gi_cons 67 rfl rfl (gi_cons 68 rfl rfl (gi_cons 69 rfl rfl (gi_cons 70 rfl rfl (gi_cons 71 rfl rfl (gi_cons 72 rfl rfl (gi_cons 73 rfl rfl (gi_cons 74 rfl rfl (gi_cons 75 rfl rfl (gi_cons 76 rfl rfl (gi_cons 77 rfl rfl (gi_cons 78 rfl rfl (gi_cons 79 rfl rfl (gi_cons 80 rfl rfl (gi_cons 81 rfl rfl (gi_cons 82 rfl rfl (gi_cons 83 rfl rfl (gi_cons 84 rfl rfl (gi_cons 85 rfl rfl (gi_cons 86 rfl rfl (gi_cons 87 rfl rfl (gi_cons 88 rfl rfl (gi_cons 89 rfl rfl (gi_cons 90 rfl rfl (gi_cons 91 rfl rfl (gi_cons 92 rfl rfl (gi_cons 93 rfl rfl (gi_cons 94 rfl rfl (gi_cons 95 rfl rfl (gi_cons 96 rfl rfl gi_nil)))))))))))))))))))))))))))))))))))))))))))))))))))))))))))))))))))))))))))))
set_option maxRecDepth 20000 in
theorem gX11_tellThing_X11_tellWord : GoodIn wsX11_tellThing (wsV RX11 480 RX11 yX11_tellWord wsX11_tellWord) := goodIn_app (goodIn_of _ (by decide +kernel)) ggX11_tellThing_X11_tellWord
set_option maxRecDepth 100000 in
theorem ggX11_tellThing_X11_tell : GoodIn wsX11_tellThing wsX11_tell := (gi_cons 15 rfl rfl (gi_cons 16 rfl rfl (gi_cons 17 rfl rfl (gi_cons 31 rfl rfl (gi_cons 32 rfl rfl (gi_cons 33 rfl rfl (gi_cons 34 rfl rfl (gi_cons 35 rfl rfl (gi_cons 36 rfl rfl (gi_cons 37 rfl rfl (gi_cons 38 rfl rfl (gi_cons 39 rfl rfl (gi_cons 40 rfl rfl (gi_cons 41 rfl rfl (gi_cons 42 rfl rfl (gi_cons 43 rfl rfl (gi_cons 44 rfl rfl (gi_cons 45 rfl rfl (gi_cons 46 rfl rfl (gi_cons 47 rfl rfl (gi_cons 48 rfl rfl (gi_cons 49 rfl rfl (gi_cons 50 rfl rfl (gi_cons 51 rfl rfl (gi_cons 52 rfl rfl (gi_cons 53 rfl rfl (gi_cons 54 rfl rfl (gi_cons 55 rfl rfl (gi_cons 56 rfl rfl (gi_cons 57 rfl rfl (gi_cons 58 rfl rfl (gi_cons 59 rfl rfl (gi_cons 60 rfl rfl (gi_cons 61 rfl rfl (gi_cons 62 rfl rfl (gi_cons 63 rfl rfl (gi_cons 64 rfl rfl (gi_cons 65 rfl rfl (gi_cons 66 rfl rfl (gi_cons 67 rfl rfl (gi_cons 68 rfl rfl (gi_cons 69 rfl rfl (gi_cons 70 rfl rfl (gi_cons 71 rfl rfl (gi_cons 72 rfl rfl (gi_cons 73 rfl rfl (gi_cons 74 rfl rfl (gi_cons 75 rfl rfl (gi_cons 76 rfl rfl (gi_cons 77 rfl rfl (gi_cons 78 rfl rfl (gi_cons 79 rfl rfl (gi_cons 80 rfl rfl (gi_cons 81 rfl rfl (gi_cons 82 rfl rfl (gi_cons 83 rfl rfl (gi_cons 84 rfl rfl (gi_cons 85 rfl rfl (gi_cons 86 rfl rfl (gi_cons 87 rfl rfl (gi_cons 88 rfl rfl (gi_cons 89 rfl rfl (gi_cons 90 rfl rfl (gi_cons 91 rfl rfl (gi_cons 92 rfl rfl (gi_cons 93 rfl rfl (gi_cons 94 rfl rfl (gi_cons 95 rfl rfl (gi_cons 96 rfl rfl gi_nil)))))))))))))))))))))))))))))))))))))))))))))))))))))))))))))))))))))
set_option maxRecDepth 20000 in
theorem gX11_tellThing_X11_tell : GoodIn wsX11_tellThing (wsV RX11 474 RX11 yX11_tell wsX11_tell) := goodIn_app (goodIn_of _ (by decide +kernel)) ggX11_tellThing_X11_tell
set_option maxRecDepth 100000 in
theorem ggX11_tellThing_X11_size : GoodIn wsX11_tellThing wsX11_size := (gi_cons 27 rfl rfl gi_nil)
set_option maxRecDepth 20000 in
theorem gX11_tellThing_X11_size : GoodIn wsX11_tellThing (va_wsS RX11 242 yX11_size wsX11_size) := goodIn_app (goodIn_of _ (by decide +kernel)) ggX11_tellThing_X11_size
set_option maxRecDepth 100000 in
theorem ggX11_tellThing_X11_tellThing : GoodIn wsX11_tellThing wsX11_tellThing := (gi_cons 0 rfl rfl (gi_cons 1 rfl rfl (gi_cons 2 rfl rfl (gi_cons 3 rfl rfl (gi_cons 4 rfl rfl (gi_cons 5 rfl rfl (gi_cons 6 rfl rfl (gi_cons 7 rfl rfl (gi_cons 8 rfl rfl (gi_cons 9 rfl rfl (gi_cons 10 rfl rfl (gi_cons 11 rfl rfl (gi_cons 12 rfl rfl (gi_cons 13 rfl rfl (gi_cons 14 rfl rfl (gi_cons 15 rfl rfl (gi_cons 16 rfl rfl (gi_cons 17 rfl rfl (gi_cons 18 rfl rfl (gi_cons 19 rfl rfl (gi_cons 20 rfl rfl (gi_cons 21 rfl rfl (gi_cons 22 rfl rfl (gi_cons 23 rfl rfl (gi_cons 24 rfl rfl (gi_cons 25 rfl rfl (gi_cons 26 rfl rfl (gi_cons 27 rfl rfl (gi_cons 28 rfl rfl (gi_cons 29 rfl rfl (gi_cons 30 rfl rfl (gi_cons 31 rfl rfl (gi_cons 32 rfl rfl (gi_cons 33 rfl rfl (gi_cons 34 rfl rfl (gi_cons 35 rfl rfl (gi_cons 36 rfl rfl (gi_cons 37 rfl rfl (gi_cons 38 rfl rfl (gi_cons 39 rfl rfl (gi_cons 40 rfl rfl (gi_cons 41 rfl rfl (gi_cons 42 rfl rfl (gi_cons 43 rfl rfl (gi_cons 44 rfl rfl (gi_cons 45 rfl rfl (gi_cons 46 rfl rfl (gi_cons 47 rfl rfl (gi_cons 48 rfl rfl (gi_cons 49 rfl rfl (gi_cons 50 rfl rfl (gi_cons 51 rfl rfl (gi_cons 52 rfl rfl (gi_cons 53 rfl rfl (gi_cons 54 rfl rfl (gi_cons 55 rfl rfl (gi_cons 56 rfl rfl (gi_cons 57 rfl rfl (gi_cons 58 rfl rfl (gi_cons 59 rfl rfl (gi_cons 60 rfl rfl (gi_cons 61 rfl rfl (gi_cons 62 rfl rfl (gi_cons 63 rfl rfl (gi_cons 64 rfl rfl (gi_cons 65 rfl rfl (gi_cons 66 rfl rfl (gi_cons 67 rfl rfl (gi_cons 68 rfl rfl (gi_cons 69 rfl rfl (gi_cons 70 rfl rfl (gi_cons 71 rfl rfl (gi_cons 72 rfl rfl (gi_cons 73 rfl rfl (gi_cons 74 rfl rfl (gi_cons 75 rfl rfl (gi_cons 76 rfl rfl (gi_cons 77 rfl rfl (gi_cons 78 rfl rfl (gi_cons 79 rfl rfl (gi_cons 80 rfl rfl (gi_cons 81 rfl rfl (gi_cons 82 rfl rfl (gi_cons 83 rfl rfl (gi_cons 84 rfl rfl (gi_cons 85 rfl rfl (gi_cons 86 rfl rfl (gi_cons 87 rfl rfl (gi_cons 88 rfl rfl (gi_cons 89 rfl rfl (gi_cons 90 rfl rfl (gi_cons 91 rfl rfl (gi_cons 92 rfl rfl (gi_cons 93 rfl rfl (gi_cons 94 rfl rfl (gi_cons 95 rfl rfl (gi_cons 96 rfl rfl gi_nil)))))))))))))))))))))))))))))))))))))))))))))))))))))))))))))))))))))))))))))))))))))))))))))))))
set_option maxRecDepth 20000 in
theorem gX11_tellThing_X11_tellThing : GoodIn wsX11_tellThing (wsV RX11 483 RX11 yX11_tellThing wsX11_tellThing) := goodIn_app (goodIn_of _ (by decide +kernel)) ggX11_tellThing_X11_tellThing
theorem dX11_tellThing_0 : decode cX11_tellThing 0 = .ok (.aload_n 1, 1) := by decide +kernel
theorem dX11_tellThing_1 : decode cX11_tellThing 1 = .ok (.iload_n 2, 1) := by decide +kernel
theorem dX11_tellThing_2 : decode cX11_tellThing 2 = .ok (.invokestatic 256, 3) := by decide +kernel
theorem dX11_tellThing_5 : decode cX11_tellThing 5 = .ok (.ifCond .ne 37, 3) := by decide +kernel
theorem dX11_tellThing_8 : decode cX11_tellThing 8 = .ok (.aload_n 1, 1) := by decide +kernel
theorem dX11_tellThing_9 : decode cX11_tellThing 9 = .ok (.iload_n 2, 1) := by decide +kernel
theorem dX11_tellThing_10 : decode cX11_tellThing 10 = .ok (.invokestatic 253, 3) := by decide +kernel
theorem dX11_tellThing_13 : decode cX11_tellThing 13 = .ok (.ifCond .ne 17, 3) := by decide +kernel
theorem dX11_tellThing_16 : decode cX11_tellThing 16 = .ok (.aload_n 0, 1) := by decide +kernel
theorem dX11_tellThing_17 : decode cX11_tellThing 17 = .ok (.aload_n 1, 1) := by decide +kernel
theorem dX11_tellThing_18 : decode cX11_tellThing 18 = .ok (.iconst 4, 1) := by decide +kernel
theorem dX11_tellThing_19 : decode cX11_tellThing 19 = .ok (.iload_n 2, 1) := by decide +kernel
theorem dX11_tellThing_20 : decode cX11_tellThing 20 = .ok (.imul, 1) := by decide +kernel
theorem dX11_tellThing_21 : decode cX11_tellThing 21 = .ok (.iconst 1, 1) := by decide +kernel
theorem dX11_tellThing_22 : decode cX11_tellThing 22 = .ok (.iadd, 1) := by decide +kernel
theorem dX11_tellThing_23 : decode cX11_tellThing 23 = .ok (.iaload, 1) := by decide +kernel
theorem dX11_tellThing_24 : decode cX11_tellThing 24 = .ok (.invokevirtual 477, 3) := by decide +kernel
theorem dX11_tellThing_27 : decode cX11_tellThing 27 = .ok (.goto 14, 3) := by decide +kernel
theorem dX11_tellThing_30 : decode cX11_tellThing 30 = .ok (.aload_n 0, 1) := by decide +kernel
theorem dX11_tellThing_31 : decode cX11_tellThing 31 = .ok (.aload_n 1, 1) := by decide +kernel
theorem dX11_tellThing_32 : decode cX11_tellThing 32 = .ok (.iconst 4, 1) := by decide +kernel
theorem dX11_tellThing_33 : decode cX11_tellThing 33 = .ok (.iload_n 2, 1) := by decide +kernel
theorem dX11_tellThing_34 : decode cX11_tellThing 34 = .ok (.imul, 1) := by decide +kernel
theorem dX11_tellThing_35 : decode cX11_tellThing 35 = .ok (.iconst 1, 1) := by decide +kernel
theorem dX11_tellThing_36 : decode cX11_tellThing 36 = .ok (.iadd, 1) := by decide +kernel
theorem dX11_tellThing_37 : decode cX11_tellThing 37 = .ok (.iaload, 1) := by decide +kernel
theorem dX11_tellThing_38 : decode cX11_tellThing 38 = .ok (.invokevirtual 480, 3) := by decide +kernel
theorem dX11_tellThing_41 : decode cX11_tellThing 41 = .ok (.return_, 1) := by decide +kernel
theorem dX11_tellThing_42 : decode cX11_tellThing 42 = .ok (.aload_n 1, 1) := by decide +kernel
theorem dX11_tellThing_43 : decode cX11_tellThing 43 = .ok (.iload_n 2, 1) := by decide +kernel
theorem dX11_tellThing_44 : decode cX11_tellThing 44 = .ok (.invokestatic 253, 3) := by decide +kernel
theorem dX11_tellThing_47 : decode cX11_tellThing 47 = .ok (.iconst 3, 1) := by decide +kernel
theorem dX11_tellThing_48 : decode cX11_tellThing 48 = .ok (.if_icmp .ne 7, 3) := by decide +kernel
theorem dX11_tellThing_51 : decode cX11_tellThing 51 = .ok (.iconst 1, 1) := by decide +kernel
theorem dX11_tellThing_52 : decode cX11_tellThing 52 = .ok (.goto 4, 3) := by decide +kernel
theorem dX11_tellThing_55 : decode cX11_tellThing 55 = .ok (.iconst 0, 1) := by decide +kernel
theorem dX11_tellThing_56 : decode cX11_tellThing 56 = .ok (.istore_n 3, 1) := by decide +kernel
theorem dX11_tellThing_57 : decode cX11_tellThing 57 = .ok (.aload_n 0, 1) := by decide +kernel
theorem dX11_tellThing_58 : decode cX11_tellThing 58 = .ok (.iload_n 3, 1) := by decide +kernel
theorem dX11_tellThing_59 : decode cX11_tellThing 59 = .ok (.ifCond .eq 8, 3) := by decide +kernel
theorem dX11_tellThing_62 : decode cX11_tellThing 62 = .ok (.bipush 123, 2) := by decide +kernel
theorem dX11_tellThing_64 : decode cX11_tellThing 64 = .ok (.goto 5, 3) := by decide +kernel
theorem dX11_tellThing_67 : decode cX11_tellThing 67 = .ok (.bipush 91, 2) := by decide +kernel
theorem dX11_tellThing_69 : decode cX11_tellThing 69 = .ok (.invokevirtual 474, 3) := by decide +kernel
theorem dX11_tellThing_72 : decode cX11_tellThing 72 = .ok (.iload_n 2, 1) := by decide +kernel
theorem dX11_tellThing_73 : decode cX11_tellThing 73 = .ok (.iconst 1, 1) := by decide +kernel
theorem dX11_tellThing_74 : decode cX11_tellThing 74 = .ok (.iadd, 1) := by decide +kernel
theorem dX11_tellThing_75 : decode cX11_tellThing 75 = .ok (.istore 4, 2) := by decide +kernel
theorem dX11_tellThing_77 : decode cX11_tellThing 77 = .ok (.iload 4, 2) := by decide +kernel
theorem dX11_tellThing_79 : decode cX11_tellThing 79 = .ok (.iload_n 2, 1) := by decide +kernel
theorem dX11_tellThing_80 : decode cX11_tellThing 80 = .ok (.aload_n 1, 1) := by decide +kernel
theorem dX11_tellThing_81 : decode cX11_tellThing 81 = .ok (.iload_n 2, 1) := by decide +kernel
theorem dX11_tellThing_82 : decode cX11_tellThing 82 = .ok (.invokestatic 242, 3) := by decide +kernel
theorem dX11_tellThing_85 : decode cX11_tellThing 85 = .ok (.iadd, 1) := by decide +kernel
theorem dX11_tellThing_86 : decode cX11_tellThing 86 = .ok (.if_icmp .ge 60, 3) := by decide +kernel
theorem dX11_tellThing_89 : decode cX11_tellThing 89 = .ok (.iload 4, 2) := by decide +kernel
theorem dX11_tellThing_91 : decode cX11_tellThing 91 = .ok (.iload_n 2, 1) := by decide +kernel
theorem dX11_tellThing_92 : decode cX11_tellThing 92 = .ok (.iconst 1, 1) := by decide +kernel
theorem dX11_tellThing_93 : decode cX11_tellThing 93 = .ok (.iadd, 1) := by decide +kernel
theorem dX11_tellThing_94 : decode cX11_tellThing 94 = .ok (.if_icmp .le 9, 3) := by decide +kernel
theorem dX11_tellThing_97 : decode cX11_tellThing 97 = .ok (.aload_n 0, 1) := by decide +kernel
theorem dX11_tellThing_98 : decode cX11_tellThing 98 = .ok (.bipush 44, 2) := by decide +kernel
theorem dX11_tellThing_100 : decode cX11_tellThing 100 = .ok (.invokevirtual 474, 3) := by decide +kernel
theorem dX11_tellThing_103 : decode cX11_tellThing 103 = .ok (.iload_n 3, 1) := by decide +kernel
theorem dX11_tellThing_104 : decode cX11_tellThing 104 = .ok (.ifCond .eq 21, 3) := by decide +kernel
theorem dX11_tellThing_107 : decode cX11_tellThing 107 = .ok (.aload_n 0, 1) := by decide +kernel
theorem dX11_tellThing_108 : decode cX11_tellThing 108 = .ok (.aload_n 1, 1) := by decide +kernel
theorem dX11_tellThing_109 : decode cX11_tellThing 109 = .ok (.iconst 4, 1) := by decide +kernel
theorem dX11_tellThing_110 : decode cX11_tellThing 110 = .ok (.iload 4, 2) := by decide +kernel
theorem dX11_tellThing_112 : decode cX11_tellThing 112 = .ok (.imul, 1) := by decide +kernel
theorem dX11_tellThing_113 : decode cX11_tellThing 113 = .ok (.iconst 2, 1) := by decide +kernel
theorem dX11_tellThing_114 : decode cX11_tellThing 114 = .ok (.iadd, 1) := by decide +kernel
theorem dX11_tellThing_115 : decode cX11_tellThing 115 = .ok (.iaload, 1) := by decide +kernel
theorem dX11_tellThing_116 : decode cX11_tellThing 116 = .ok (.invokevirtual 480, 3) := by decide +kernel
theorem dX11_tellThing_119 : decode cX11_tellThing 119 = .ok (.aload_n 0, 1) := by decide +kernel
theorem dX11_tellThing_120 : decode cX11_tellThing 120 = .ok (.bipush 58, 2) := by decide +kernel
theorem dX11_tellThing_122 : decode cX11_tellThing 122 = .ok (.invokevirtual 474, 3) := by decide +kernel
theorem dX11_tellThing_125 : decode cX11_tellThing 125 = .ok (.aload_n 0, 1) := by decide +kernel
theorem dX11_tellThing_126 : decode cX11_tellThing 126 = .ok (.aload_n 1, 1) := by decide +kernel
theorem dX11_tellThing_127 : decode cX11_tellThing 127 = .ok (.iload 4, 2) := by decide +kernel
theorem dX11_tellThing_129 : decode cX11_tellThing 129 = .ok (.invokevirtual 483, 3) := by decide +kernel
theorem dX11_tellThing_132 : decode cX11_tellThing 132 = .ok (.iload 4, 2) := by decide +kernel
theorem dX11_tellThing_134 : decode cX11_tellThing 134 = .ok (.aload_n 1, 1) := by decide +kernel
theorem dX11_tellThing_135 : decode cX11_tellThing 135 = .ok (.iload 4, 2) := by decide +kernel
theorem dX11_tellThing_137 : decode cX11_tellThing 137 = .ok (.invokestatic 242, 3) := by decide +kernel
theorem dX11_tellThing_140 : decode cX11_tellThing 140 = .ok (.iadd, 1) := by decide +kernel
theorem dX11_tellThing_141 : decode cX11_tellThing 141 = .ok (.istore 4, 2) := by decide +kernel
theorem dX11_tellThing_143 : decode cX11_tellThing 143 = .ok (.goto (-66), 3) := by decide +kernel
theorem dX11_tellThing_146 : decode cX11_tellThing 146 = .ok (.aload_n 0, 1) := by decide +kernel
theorem dX11_tellThing_147 : decode cX11_tellThing 147 = .ok (.iload_n 3, 1) := by decide +kernel
theorem dX11_tellThing_148 : decode cX11_tellThing 148 = .ok (.ifCond .eq 8, 3) := by decide +kernel
theorem dX11_tellThing_151 : decode cX11_tellThing 151 = .ok (.bipush 125, 2) := by decide +kernel
theorem dX11_tellThing_153 : decode cX11_tellThing 153 = .ok (.goto 5, 3) := by decide +kernel
theorem dX11_tellThing_156 : decode cX11_tellThing 156 = .ok (.bipush 93, 2) := by decide +kernel
theorem dX11_tellThing_158 : decode cX11_tellThing 158 = .ok (.invokevirtual 474, 3) := by decide +kernel
theorem dX11_tellThing_161 : decode cX11_tellThing 161 = .ok (.return_, 1) := by decide +kernel
set_option maxRecDepth 100000 in
theorem ggX11_tellStep_X11_tell : GoodIn wsX11_tellStep wsX11_tell := (gi_cons 5 rfl rfl (gi_cons 6 rfl rfl (gi_cons 7 rfl rfl (gi_cons 19 rfl rfl (gi_cons 20 rfl rfl (gi_cons 21 rfl rfl (gi_cons 22 rfl rfl (gi_cons 23 rfl rfl (gi_cons 24 rfl rfl (gi_cons 25 rfl rfl (gi_cons 26 rfl rfl (gi_cons 27 rfl rfl (gi_cons 28 rfl rfl (gi_cons 29 rfl rfl (gi_cons 30 rfl rfl (gi_cons 31 rfl rfl (gi_cons 32 rfl rfl (gi_cons 33 rfl rfl (gi_cons 34 rfl rfl (gi_cons 35 rfl rfl (gi_cons 36 rfl rfl (gi_cons 37 rfl rfl (gi_cons 38 rfl rfl (gi_cons 39 rfl rfl (gi_cons 40 rfl rfl (gi_cons 41 rfl rfl (gi_cons 42 rfl rfl (gi_cons 43 rfl rfl (gi_cons 44 rfl rfl (gi_cons 45 rfl rfl (gi_cons 46 rfl rfl (gi_cons 47 rfl rfl (gi_cons 48 rfl rfl (gi_cons 49 rfl rfl (gi_cons 50 rfl rfl (gi_cons 51 rfl rfl (gi_cons 52 rfl rfl (gi_cons 53 rfl rfl (gi_cons 54 rfl rfl (gi_cons 55 rfl rfl (gi_cons 56 rfl rfl (gi_cons 57 rfl rfl (gi_cons 58 rfl rfl (gi_cons 59 rfl rfl (gi_cons 60 rfl rfl (gi_cons 61 rfl rfl (gi_cons 62 rfl rfl (gi_cons 63 rfl rfl (gi_cons 64 rfl rfl (gi_cons 65 rfl rfl (gi_cons 66 rfl rfl (gi_cons 67 rfl rfl (gi_cons 68 rfl rfl (gi_cons 69 rfl rfl (gi_cons 70 rfl rfl (gi_cons 71 rfl rfl (gi_cons 72 rfl rfl (gi_cons 73 rfl rfl (gi_cons 74 rfl rfl (gi_cons 75 rfl rfl (gi_cons 76 rfl rfl (gi_cons 77 rfl rfl (gi_cons 78 rfl rfl (gi_cons 79 rfl rfl (gi_cons 80 rfl rfl (gi_cons 81 rfl rfl (gi_cons 82 rfl rfl (gi_cons 83 rfl rfl (gi_cons 84 rfl rfl gi_nil)))))))))))))))))))))))))))))))))))))))))))))))))))))))))))))))))))))
set_option maxRecDepth 20000 in
theorem gX11_tellStep_X11_tell : GoodIn wsX11_tellStep (wsV RX11 474 RX11 yX11_tell wsX11_tell) := goodIn_app (goodIn_of _ (by decide +kernel)) ggX11_tellStep_X11_tell
set_option maxRecDepth 100000 in
theorem ggX11_tellStep_X11_tellWord : GoodIn wsX11_tellStep wsX11_tellWord := (gi_cons 11 rfl rfl (gi_cons 12 rfl rfl (gi_cons 13 rfl rfl (gi_cons 4 rfl rfl (gi_cons 14 rfl rfl (gi_cons 1 rfl rfl (gi_cons 2 rfl rfl (gi_cons 3 rfl rfl (gi_cons 5 rfl rfl (gi_cons 6 rfl rfl (gi_cons 7 rfl rfl (gi_cons 19 rfl rfl (gi_cons 20 rfl rfl (gi_cons 21 rfl rfl (gi_cons 22 rfl rfl (gi_cons 23 rfl rfl (gi_cons 24 rfl rfl (gi_cons 25 rfl rfl (gi_cons 26 rfl rfl (gi_cons 27 rfl rfl (gi_cons 28 rfl rfl (gi_cons 29 rfl rfl (gi_cons 30 rfl rfl (gi_cons 31 rfl rfl (gi_cons 32 rfl rfl (gi_cons 33 rfl rfl (gi_cons 34 rfl rfl (gi_cons 35 rfl rfl (gi_cons 36 rfl rfl (gi_cons 37 rfl rfl (gi_cons 38 rfl rfl (gi_cons 39 rfl rfl (gi_cons 40 rfl rfl (gi_cons 41 rfl rfl (gi_cons 42 rfl rfl (gi_cons 43 rfl rfl (gi_cons 44 rfl rfl (gi_cons 45 rfl rfl (gi_cons 46 rfl rfl (gi_cons 47 rfl rfl (gi_cons 48 rfl rfl (gi_cons 49 rfl rfl (gi_cons 50 rfl rfl (gi_cons 51 rfl rfl (gi_cons 52 rfl rfl (gi_cons 53 rfl rfl (gi_cons 54 rfl rfl (gi_cons 55 rfl rfl (gi_cons 56 rfl rfl (gi_cons 57 rfl rfl (gi_cons 58 rfl rfl (gi_cons 59 rfl rfl (gi_cons 60 rfl rfl (gi_cons 61 rfl rfl (gi_cons 62 rfl rfl (gi_cons 63 rfl rfl (gi_cons 64 rfl rfl (gi_cons 65 rfl rfl (gi_cons 66 rfl rfl (gi_cons 67 rfl rfl (gi_cons 68 rfl rfl (gi_cons 69 rfl rfl (gi_cons 70 rfl rfl (gi_cons 71 rfl rfl (gi_cons 72 rfl rfl (gi_cons 73 rfl rfl (gi_cons 74 rfl rfl (gi_cons 75 rfl rfl (gi_cons 76 rfl rfl (gi_cons 77 rfl rfl (gi_cons 78 rfl rfl (gi_cons 79 rfl rfl (gi_cons 80 rfl rfl (gi_cons 81 rfl rfl (gi_cons 82 rfl rfl (gi_cons 83 rfl rfl (gi_cons 84 rfl rfl gi_nil)))))))))))))))))))))))))))))))))))))))))))))))))))))))))))))))))))))))))))))
set_option maxRecDepth 20000 in
theorem gX11_tellStep_X11_tellWord : GoodIn wsX11_tellStep (wsV RX11 480 RX11 yX11_tellWord wsX11_tellWord) := goodIn_app (goodIn_of _ (by decide +kernel)) ggX11_tellStep_X11_tellWord
set_option maxRecDepth 100000 in
theorem ggX11_tellStep_X11_tellNumber : GoodIn wsX11_tellStep wsX11_tellNumber := (gi_cons 18 rfl rfl (gi_cons 1 rfl rfl (gi_cons 2 rfl rfl (gi_cons 3 rfl rfl (gi_cons 4 rfl rfl (gi_cons 5 rfl rfl (gi_cons 6 rfl rfl (gi_cons 7 rfl rfl (gi_cons 19 rfl rfl (gi_cons 20 rfl rfl (gi_cons 21 rfl rfl (gi_cons 22 rfl rfl (gi_cons 23 rfl rfl (gi_cons 24 rfl rfl (gi_cons 25 rfl rfl (gi_cons 26 rfl rfl (gi_cons 27 rfl rfl (gi_cons 28 rfl rfl (gi_cons 29 rfl rfl (gi_cons 30 rfl rfl (gi_cons 31 rfl rfl (gi_cons 32 rfl rfl (gi_cons 33 rfl rfl (gi_cons 34 rfl rfl (gi_cons 35 rfl rfl (gi_cons 36 rfl rfl (gi_cons 37 rfl rfl (gi_cons 38 rfl rfl (gi_cons 39 rfl rfl (gi_cons 40 rfl rfl (gi_cons 41 rfl rfl (gi_cons 42 rfl rfl (gi_cons 43 rfl rfl (gi_cons 44 rfl rfl (gi_cons 45 rfl rfl (gi_cons 46 rfl rfl (gi_cons 47 rfl rfl (gi_cons 48 rfl rfl (gi_cons 49 rfl rfl (gi_cons 50 rfl rfl (gi_cons 51 rfl rfl (gi_cons 52 rfl rfl (gi_cons 53 rfl rfl (gi_cons 54 rfl rfl (gi_cons 55 rfl rfl (gi_cons 56 rfl rfl (gi_cons 57 rfl rfl (gi_cons 58 rfl rfl (gi_cons 59 rfl rfl (gi_cons 60 rfl rfl (gi_cons 61 rfl rfl (gi_cons 62 rfl rfl (gi_cons 63 rfl rfl (gi_cons 64 rfl rfl (gi_cons 65 rfl rfl (gi_cons 66 rfl rfl (gi_cons 67 rfl rfl (gi_cons 68 rfl rfl (gi_cons 69 rfl rfl (gi_cons 70 rfl rfl (gi_cons 71 rfl rfl (gi_cons 72 rfl rfl (gi_cons 73 rfl rfl (gi_cons 74 rfl rfl (gi_cons 75 rfl rfl (gi_cons 76 rfl rfl (gi_cons 77 rfl rfl (gi_cons 78 rfl rfl (gi_cons 79 rfl rfl (gi_cons 80 rfl rfl (gi_cons 81 rfl rfl (gi_cons 82 rfl rfl (gi_cons 83 rfl rfl (gi_cons 84 rfl rfl gi_nil))))))))))))))))))))))))))))))))))))))))))))))))))))))))))))))))))))))))))
set_option maxRecDepth 20000 in
theorem gX11_tellStep_X11_tellNumber : GoodIn wsX11_tellStep (wsV RX11 477 RX11 yX11_tellNumber wsX11_tellNumber) := goodIn_app (goodIn_of _ (by decide +kernel)) ggX11_tellStep_X11_tellNumber
theorem dX11_tellStep_0 : decode cX11_tellStep 0 = .ok (.iload_n 1, 1) := by decide +kernel
theorem dX11_tellStep_1 : decode cX11_tellStep 1 = .ok (.ifCond .le 15, 3) := by decide +kernel
theorem dX11_tellStep_4 : decode cX11_tellStep 4 = .ok (.aload_n 0, 1) := by decide +kernel
theorem dX11_tellStep_5 : decode cX11_tellStep 5 = .ok (.bipush 46, 2) := by decide +kernel
theorem dX11_tellStep_7 : decode cX11_tellStep 7 = .ok (.invokevirtual 474, 3) := by decide +kernel
theorem dX11_tellStep_10 : decode cX11_tellStep 10 = .ok (.aload_n 0, 1) := by decide +kernel
theorem dX11_tellStep_11 : decode cX11_tellStep 11 = .ok (.iload_n 1, 1) := by decide +kernel
theorem dX11_tellStep_12 : decode cX11_tellStep 12 = .ok (.invokevirtual 480, 3) := by decide +kernel
theorem dX11_tellStep_15 : decode cX11_tellStep 15 = .ok (.return_, 1) := by decide +kernel
theorem dX11_tellStep_16 : decode cX11_tellStep 16 = .ok (.aload_n 0, 1) := by decide +kernel
theorem dX11_tellStep_17 : decode cX11_tellStep 17 = .ok (.bipush 91, 2) := by decide +kernel
theorem dX11_tellStep_19 : decode cX11_tellStep 19 = .ok (.invokevirtual 474, 3) := by decide +kernel
theorem dX11_tellStep_22 : decode cX11_tellStep 22 = .ok (.aload_n 0, 1) := by decide +kernel
theorem dX11_tellStep_23 : decode cX11_tellStep 23 = .ok (.iconst (-1), 1) := by decide +kernel
theorem dX11_tellStep_24 : decode cX11_tellStep 24 = .ok (.iload_n 1, 1) := by decide +kernel
theorem dX11_tellStep_25 : decode cX11_tellStep 25 = .ok (.isub, 1) := by decide +kernel
theorem dX11_tellStep_26 : decode cX11_tellStep 26 = .ok (.invokevirtual 477, 3) := by decide +kernel
theorem dX11_tellStep_29 : decode cX11_tellStep 29 = .ok (.aload_n 0, 1) := by decide +kernel
theorem dX11_tellStep_30 : decode cX11_tellStep 30 = .ok (.bipush 93, 2) := by decide +kernel
theorem dX11_tellStep_32 : decode cX11_tellStep 32 = .ok (.invokevirtual 474, 3) := by decide +kernel
theorem dX11_tellStep_35 : decode cX11_tellStep 35 = .ok (.return_, 1) := by decide +kernel
set_option maxRecDepth 100000 in
theorem ggX11_tellWay_X11_parentOf : GoodIn wsX11_tellWay wsX11_parentOf := (gi_cons 5 rfl rfl (gi_cons 6 rfl rfl (gi_cons 7 rfl rfl (gi_cons 4 rfl rfl (gi_cons 8 rfl rfl gi_nil)))))
set_option maxRecDepth 20000 in
theorem gX11_tellWay_X11_parentOf : GoodIn wsX11_tellWay (va_wsS RX11 270 yX11_parentOf wsX11_parentOf) := goodIn_app (goodIn_of _ (by decide +kernel)) ggX11_tellWay_X11_parentOf
set_option maxRecDepth 100000 in
theorem ggX11_tellWay_X11_tellWay : GoodIn wsX11_tellWay wsX11_tellWay := (gi_cons 0 rfl rfl (gi_cons 1 rfl rfl (gi_cons 2 rfl rfl (gi_cons 3 rfl rfl (gi_cons 4 rfl rfl (gi_cons 5 rfl rfl (gi_cons 6 rfl rfl (gi_cons 7 rfl rfl (gi_cons 8 rfl rfl (gi_cons 9 rfl rfl (gi_cons 10 rfl rfl (gi_cons 11 rfl rfl (gi_cons 12 rfl rfl (gi_cons 13 rfl rfl (gi_cons 14 rfl rfl (gi_cons 15 rfl rfl (gi_cons 16 rfl rfl (gi_cons 17 rfl rfl (gi_cons 18 rfl rfl (gi_cons 19 rfl rfl (gi_cons 20 rfl rfl (gi_cons 21 rfl rfl (gi_cons 22 rfl rfl (gi_cons 23 rfl rfl (gi_cons 24 rfl rfl (gi_cons 25 rfl rfl (gi_cons 26 rfl rfl (gi_cons 27 rfl rfl (gi_cons 28 rfl rfl (gi_cons 29 rfl rfl (gi_cons 30 rfl rfl (gi_cons 31 rfl rfl (gi_cons 32 rfl rfl (gi_cons 33 rfl rfl (gi_cons 34 rfl rfl (gi_cons 35 rfl rfl (gi_cons 36 rfl rfl (gi_cons 37 rfl rfl (gi_cons 38 rfl rfl (gi_cons 39 rfl rfl (gi_cons 40 rfl rfl (gi_cons 41 rfl rfl (gi_cons 42 rfl rfl (gi_cons 43 rfl rfl (gi_cons 44 rfl rfl (gi_cons 45 rfl rfl (gi_cons 46 rfl rfl (gi_cons 47 rfl rfl (gi_cons 48 rfl rfl (gi_cons 49 rfl rfl (gi_cons 50 rfl rfl (gi_cons 51 rfl rfl (gi_cons 52 rfl rfl (gi_cons 53 rfl rfl (gi_cons 54 rfl rfl (gi_cons 55 rfl rfl (gi_cons 56 rfl rfl (gi_cons 57 rfl rfl (gi_cons 58 rfl rfl (gi_cons 59 rfl rfl (gi_cons 60 rfl rfl (gi_cons 61 rfl rfl (gi_cons 62 rfl rfl (gi_cons 63 rfl rfl (gi_cons 64 rfl rfl (gi_cons 65 rfl rfl (gi_cons 66 rfl rfl (gi_cons 67 rfl rfl (gi_cons 68 rfl rfl (gi_cons 69 rfl rfl (gi_cons 70 rfl rfl (gi_cons 71 rfl rfl (gi_cons 72 rfl rfl (gi_cons 73 rfl rfl (gi_cons 74 rfl rfl (gi_cons 75 rfl rfl (gi_cons 76 rfl rfl (gi_cons 77 rfl rfl (gi_cons 78 rfl rfl (gi_cons 79 rfl rfl (gi_cons 80 rfl rfl (gi_cons 81 rfl rfl (gi_cons 82 rfl rfl (gi_cons 83 rfl rfl (gi_cons 84 rfl rfl (gi_cons 85 rfl rfl (gi_cons 86 rfl rfl (gi_cons 87 rfl rfl (gi_cons 88 rfl rfl (gi_cons 89 rfl rfl (gi_cons 90 rfl rfl (gi_cons 91 rfl rfl (gi_cons 92 rfl rfl (gi_cons 93 rfl rfl (gi_cons 94 rfl rfl (gi_cons 95 rfl rfl (gi_cons 96 rfl rfl (gi_cons 97 rfl rfl (gi_cons 98 rfl rfl (gi_cons 99 rfl rfl (gi_cons 100 rfl rfl (gi_cons 101 rfl rfl (gi_cons 102 rfl rfl (gi_cons 103 rfl rfl (gi_cons 104 rfl rfl (gi_cons 105 rfl rfl (gi_cons 106 rfl rfl (gi_cons 107 rfl rfl gi_nil))))))))))))))))))))))))))))))))))))))))))))))))))))))))))))))))))))))))))))))))))))))))))))))))))))))))))))
set_option maxRecDepth 20000 in
theorem gX11_tellWay_X11_tellWay : GoodIn wsX11_tellWay (wsV RX11 486 RX11 yX11_tellWay wsX11_tellWay) := goodIn_app (goodIn_of _ (by decide +kernel)) ggX11_tellWay_X11_tellWay
set_option maxRecDepth 100000 in
theorem ggX11_tellWay_X11_kind : GoodIn wsX11_tellWay wsX11_kind := (gi_cons 14 rfl rfl gi_nil)
set_option maxRecDepth 20000 in
theorem gX11_tellWay_X11_kind : GoodIn wsX11_tellWay (va_wsS RX11 253 yX11_kind wsX11_kind) := goodIn_app (goodIn_of _ (by decide +kernel)) ggX11_tellWay_X11_kind
set_option maxRecDepth 100000 in
theorem ggX11_tellWay_X11_placeOf : GoodIn wsX11_tellWay wsX11_placeOf := (gi_cons 17 rfl rfl (gi_cons 2 rfl rfl (gi_cons 3 rfl rfl (gi_cons 4 rfl rfl (gi_cons 5 rfl rfl (gi_cons 6 rfl rfl (gi_cons 7 rfl rfl (gi_cons 8 rfl rfl gi_nil))))))))
set_option maxRecDepth 20000 in
theorem gX11_tellWay_X11_placeOf : GoodIn wsX11_tellWay (va_wsS RX11 489 yX11_placeOf wsX11_placeOf) := goodIn_app (goodIn_of _ (by decide +kernel)) ggX11_tellWay_X11_placeOf
set_option maxRecDepth 100000 in
theorem ggX11_tellWay_X11_stepOf : GoodIn wsX11_tellWay wsX11_stepOf := (gi_cons 20 rfl rfl gi_nil)
set_option maxRecDepth 20000 in
theorem gX11_tellWay_X11_stepOf : GoodIn wsX11_tellWay (va_wsS RX11 455 yX11_stepOf wsX11_stepOf) := goodIn_app (goodIn_of _ (by decide +kernel)) ggX11_tellWay_X11_stepOf
set_option maxRecDepth 100000 in
theorem ggX11_tellWay_X11_tellStep : GoodIn wsX11_tellWay wsX11_tellStep := (gi_cons 24 rfl rfl (gi_cons 25 rfl rfl (gi_cons 26 rfl rfl (gi_cons 27 rfl rfl (gi_cons 4 rfl rfl (gi_cons 28 rfl rfl (gi_cons 29 rfl rfl (gi_cons 30 rfl rfl (gi_cons 31 rfl rfl (gi_cons 32 rfl rfl (gi_cons 33 rfl rfl (gi_cons 34 rfl rfl (gi_cons 35 rfl rfl (gi_cons 36 rfl rfl (gi_cons 37 rfl rfl (gi_cons 38 rfl rfl (gi_cons 39 rfl rfl (gi_cons 40 rfl rfl (gi_cons 41 rfl rfl (gi_cons 42 rfl rfl (gi_cons 43 rfl rfl (gi_cons 44 rfl rfl (gi_cons 45 rfl rfl (gi_cons 46 rfl rfl (gi_cons 47 rfl rfl (gi_cons 48 rfl rfl (gi_cons 49 rfl rfl (gi_cons 50 rfl rfl (gi_cons 51 rfl rfl (gi_cons 52 rfl rfl (gi_cons 53 rfl rfl (gi_cons 54 rfl rfl (gi_cons 55 rfl rfl (gi_cons 56 rfl rfl (gi_cons 57 rfl rfl (gi_cons 58 rfl rfl (gi_cons 59 rfl rfl (gi_cons 60 rfl rfl (gi_cons 61 rfl rfl (gi_cons 62 rfl rfl (gi_cons 63 rfl rfl (gi_cons 64 rfl rfl (gi_cons 65 rfl rfl (gi_cons 66 rfl rfl (gi_cons 67 rfl rfl (gi_cons 68 rfl rfl (gi_cons 69 rfl rfl (gi_cons 70 rfl rfl (gi_cons 71 rfl rfl (gi_cons 72 rfl rfl (gi_cons 73 rfl rfl (gi_cons 74 rfl rfl (gi_cons 75 rfl rfl (gi_cons 76 rfl rfl (gi_cons 77 rfl rfl (gi_cons 78 rfl rfl (gi_cons 79 rfl rfl (gi_cons 80 rfl rfl (gi_cons 81 rfl rfl (gi_cons 82 rfl rfl (gi_cons 83 rfl rfl (gi_cons 84 rfl rfl (gi_cons 85 rfl rfl (gi_cons 86 rfl rfl (gi_cons 87 rfl rfl (gi_cons 88 rfl rfl (gi_cons 89 rfl rfl (gi_cons 90 rfl rfl (gi_cons 91 rfl rfl (gi_cons 92 rfl rfl (gi_cons 93 rfl rfl (gi_cons 94 rfl rfl (gi_cons 95 rfl rfl (gi_cons 96 rfl rfl (gi_cons 97 rfl rfl (gi_cons 98 rfl rfl (gi_cons 99 rfl rfl (gi_cons 100 rfl rfl (gi_cons 101 rfl rfl (gi_cons 102 rfl rfl (gi_cons 103 rfl rfl (gi_cons 104 rfl rfl (gi_cons 105 rfl rfl (gi_cons 106 rfl rfl (gi_cons 107 rfl rfl gi_nil)))))))))))))))))))))))))))))))))))))))))))))))))))))))))))))))))))))))))))))))))))))
set_option maxRecDepth 20000 in
theorem gX11_tellWay_X11_tellStep : GoodIn wsX11_tellWay (wsV RX11 492 RX11 yX11_tellStep wsX11_tellStep) := goodIn_app (goodIn_of _ (by decide +kernel)) ggX11_tellWay_X11_tellStep
theorem dX11_tellWay_0 : decode cX11_tellWay 0 = .ok (.aload_n 0, 1) := by decide +kernel
theorem dX11_tellWay_1 : decode cX11_tellWay 1 = .ok (.getfield 9, 3) := by decide +kernel
theorem dX11_tellWay_4 : decode cX11_tellWay 4 = .ok (.iload_n 1, 1) := by decide +kernel
theorem dX11_tellWay_5 : decode cX11_tellWay 5 = .ok (.invokestatic 270, 3) := by decide +kernel
theorem dX11_tellWay_8 : decode cX11_tellWay 8 = .ok (.istore_n 2, 1) := by decide +kernel
theorem dX11_tellWay_9 : decode cX11_tellWay 9 = .ok (.iload_n 2, 1) := by decide +kernel
theorem dX11_tellWay_10 : decode cX11_tellWay 10 = .ok (.iconst (-1), 1) := by decide +kernel
theorem dX11_tellWay_11 : decode cX11_tellWay 11 = .ok (.if_icmp .ne 4, 3) := by decide +kernel
theorem dX11_tellWay_14 : decode cX11_tellWay 14 = .ok (.return_, 1) := by decide +kernel
theorem dX11_tellWay_15 : decode cX11_tellWay 15 = .ok (.aload_n 0, 1) := by decide +kernel
theorem dX11_tellWay_16 : decode cX11_tellWay 16 = .ok (.iload_n 2, 1) := by decide +kernel
theorem dX11_tellWay_17 : decode cX11_tellWay 17 = .ok (.invokevirtual 486, 3) := by decide +kernel
theorem dX11_tellWay_20 : decode cX11_tellWay 20 = .ok (.aload_n 0, 1) := by decide +kernel
theorem dX11_tellWay_21 : decode cX11_tellWay 21 = .ok (.aload_n 0, 1) := by decide +kernel
theorem dX11_tellWay_22 : decode cX11_tellWay 22 = .ok (.getfield 9, 3) := by decide +kernel
theorem dX11_tellWay_25 : decode cX11_tellWay 25 = .ok (.iload_n 2, 1) := by decide +kernel
theorem dX11_tellWay_26 : decode cX11_tellWay 26 = .ok (.invokestatic 253, 3) := by decide +kernel
theorem dX11_tellWay_29 : decode cX11_tellWay 29 = .ok (.iconst 3, 1) := by decide +kernel
theorem dX11_tellWay_30 : decode cX11_tellWay 30 = .ok (.if_icmp .ne 16, 3) := by decide +kernel
theorem dX11_tellWay_33 : decode cX11_tellWay 33 = .ok (.aload_n 0, 1) := by decide +kernel
theorem dX11_tellWay_34 : decode cX11_tellWay 34 = .ok (.getfield 9, 3) := by decide +kernel
theorem dX11_tellWay_37 : decode cX11_tellWay 37 = .ok (.iconst 4, 1) := by decide +kernel
theorem dX11_tellWay_38 : decode cX11_tellWay 38 = .ok (.iload_n 1, 1) := by decide +kernel
theorem dX11_tellWay_39 : decode cX11_tellWay 39 = .ok (.imul, 1) := by decide +kernel
theorem dX11_tellWay_40 : decode cX11_tellWay 40 = .ok (.iconst 2, 1) := by decide +kernel
theorem dX11_tellWay_41 : decode cX11_tellWay 41 = .ok (.iadd, 1) := by decide +kernel
theorem dX11_tellWay_42 : decode cX11_tellWay 42 = .ok (.iaload, 1) := by decide +kernel
theorem dX11_tellWay_43 : decode cX11_tellWay 43 = .ok (.goto 14, 3) := by decide +kernel
theorem dX11_tellWay_46 : decode cX11_tellWay 46 = .ok (.aload_n 0, 1) := by decide +kernel
theorem dX11_tellWay_47 : decode cX11_tellWay 47 = .ok (.getfield 9, 3) := by decide +kernel
theorem dX11_tellWay_50 : decode cX11_tellWay 50 = .ok (.iload_n 1, 1) := by decide +kernel
theorem dX11_tellWay_51 : decode cX11_tellWay 51 = .ok (.invokestatic 489, 3) := by decide +kernel
theorem dX11_tellWay_54 : decode cX11_tellWay 54 = .ok (.invokestatic 455, 3) := by decide +kernel
theorem dX11_tellWay_57 : decode cX11_tellWay 57 = .ok (.invokevirtual 492, 3) := by decide +kernel
theorem dX11_tellWay_60 : decode cX11_tellWay 60 = .ok (.return_, 1) := by decide +kernel
set_option maxRecDepth 100000 in
theorem ggX11_outAt_X11_isIn : GoodIn wsX11_outAt wsX11_isIn := (gi_cons 6 rfl rfl gi_nil)
set_option maxRecDepth 20000 in
theorem gX11_outAt_X11_isIn : GoodIn wsX11_outAt (va_wsS RX11 219 yX11_isIn wsX11_isIn) := goodIn_app (goodIn_of _ (by decide +kernel)) ggX11_outAt_X11_isIn
set_option maxRecDepth 100000 in
theorem ggX11_outAt_X11_fail : GoodIn wsX11_outAt wsX11_fail := (gi_cons 10 rfl rfl (gi_cons 11 rfl rfl (gi_cons 12 rfl rfl (gi_cons 13 rfl rfl (gi_cons 14 rfl rfl (gi_cons 15 rfl rfl (gi_cons 16 rfl rfl (gi_cons 17 rfl rfl (gi_cons 18 rfl rfl (gi_cons 19 rfl rfl (gi_cons 20 rfl rfl (gi_cons 21 rfl rfl (gi_cons 22 rfl rfl (gi_cons 23 rfl rfl (gi_cons 24 rfl rfl (gi_cons 25 rfl rfl (gi_cons 26 rfl rfl (gi_cons 27 rfl rfl (gi_cons 28 rfl rfl (gi_cons 29 rfl rfl (gi_cons 30 rfl rfl (gi_cons 31 rfl rfl (gi_cons 32 rfl rfl (gi_cons 33 rfl rfl (gi_cons 34 rfl rfl (gi_cons 35 rfl rfl (gi_cons 36 rfl rfl (gi_cons 37 rfl rfl (gi_cons 38 rfl rfl (gi_cons 39 rfl rfl (gi_cons 40 rfl rfl (gi_cons 41 rfl rfl (gi_cons 42 rfl rfl (gi_cons 43 rfl rfl (gi_cons 44 rfl rfl (gi_cons 45 rfl rfl (gi_cons 46 rfl rfl (gi_cons 47 rfl rfl (gi_cons 48 rfl rfl (gi_cons 49 rfl rfl (gi_cons 50 rfl rfl (gi_cons 51 rfl rfl (gi_cons 52 rfl rfl (gi_cons 53 rfl rfl (gi_cons 54 rfl rfl (gi_cons 55 rfl rfl (gi_cons 56 rfl rfl (gi_cons 57 rfl rfl (gi_cons 58 rfl rfl (gi_cons 59 rfl rfl (gi_cons 60 rfl rfl (gi_cons 61 rfl rfl (gi_cons 62 rfl rfl (gi_cons 63 rfl rfl (gi_cons 64 rfl rfl (gi_cons 65 rfl rfl (gi_cons 66 rfl rfl (gi_cons 67 rfl rfl (gi_cons 68 rfl rfl (gi_cons 69 rfl rfl (gi_cons 70 rfl rfl (gi_cons 71 rfl rfl (gi_cons 72 rfl rfl (gi_cons 73 rfl rfl (gi_cons 74 rfl rfl (gi_cons 75 rfl rfl (gi_cons 76 rfl rfl (gi_cons 77 rfl rfl gi_nil))))))))))))))))))))))))))))))))))))))))))))))))))))))))))))))))))))
set_option maxRecDepth 20000 in
theorem gX11_outAt_X11_fail : GoodIn wsX11_outAt (wsV RX11 226 RX11 yX11_fail wsX11_fail) := goodIn_app (goodIn_of _ (by decide +kernel)) ggX11_outAt_X11_fail
theorem dX11_outAt_0 : decode cX11_outAt 0 = .ok (.iload_n 1, 1) := by decide +kernel
theorem dX11_outAt_1 : decode cX11_outAt 1 = .ok (.iconst (-1), 1) := by decide +kernel
theorem dX11_outAt_2 : decode cX11_outAt 2 = .ok (.if_icmp .ne 10, 3) := by decide +kernel
theorem dX11_outAt_5 : decode cX11_outAt 5 = .ok (.aload_n 0, 1) := by decide +kernel
theorem dX11_outAt_6 : decode cX11_outAt 6 = .ok (.getfield 471, 3) := by decide +kernel
theorem dX11_outAt_9 : decode cX11_outAt 9 = .ok (.goto 31, 3) := by decide +kernel
theorem dX11_outAt_12 : decode cX11_outAt 12 = .ok (.iload_n 1, 1) := by decide +kernel
theorem dX11_outAt_13 : decode cX11_outAt 13 = .ok (.iconst 0, 1) := by decide +kernel
theorem dX11_outAt_14 : decode cX11_outAt 14 = .ok (.aload_n 0, 1) := by decide +kernel
theorem dX11_outAt_15 : decode cX11_outAt 15 = .ok (.getfield 471, 3) := by decide +kernel
theorem dX11_outAt_18 : decode cX11_outAt 18 = .ok (.iconst 1, 1) := by decide +kernel
theorem dX11_outAt_19 : decode cX11_outAt 19 = .ok (.isub, 1) := by decide +kernel
theorem dX11_outAt_20 : decode cX11_outAt 20 = .ok (.invokestatic 219, 3) := by decide +kernel
theorem dX11_outAt_23 : decode cX11_outAt 23 = .ok (.ifCond .eq 12, 3) := by decide +kernel
theorem dX11_outAt_26 : decode cX11_outAt 26 = .ok (.aload_n 0, 1) := by decide +kernel
theorem dX11_outAt_27 : decode cX11_outAt 27 = .ok (.getfield 78, 3) := by decide +kernel
theorem dX11_outAt_30 : decode cX11_outAt 30 = .ok (.iload_n 1, 1) := by decide +kernel
theorem dX11_outAt_31 : decode cX11_outAt 31 = .ok (.iaload, 1) := by decide +kernel
theorem dX11_outAt_32 : decode cX11_outAt 32 = .ok (.goto 8, 3) := by decide +kernel
theorem dX11_outAt_35 : decode cX11_outAt 35 = .ok (.aload_n 0, 1) := by decide +kernel
theorem dX11_outAt_36 : decode cX11_outAt 36 = .ok (.iconst 1, 1) := by decide +kernel
theorem dX11_outAt_37 : decode cX11_outAt 37 = .ok (.invokevirtual 226, 3) := by decide +kernel
theorem dX11_outAt_40 : decode cX11_outAt 40 = .ok (.ireturn, 1) := by decide +kernel
