theorem dX2_begin_0 : decode cX2_begin 0 = .ok (.aload_n 0, 1) := by decide +kernel
theorem dX2_begin_1 : decode cX2_begin 1 = .ok (.iload_n 1, 1) := by decide +kernel
theorem dX2_begin_2 : decode cX2_begin 2 = .ok (.putfield 7, 3) := by decide +kernel
theorem dX2_begin_5 : decode cX2_begin 5 = .ok (.return_, 1) := by decide +kernel
theorem dX2_next_0 : decode cX2_next 0 = .ok (.aload_n 0, 1) := by decide +kernel
theorem dX2_next_1 : decode cX2_next 1 = .ok (.aload_n 0, 1) := by decide +kernel
theorem dX2_next_2 : decode cX2_next 2 = .ok (.getfield 7, 3) := by decide +kernel
theorem dX2_next_5 : decode cX2_next 5 = .ok (.ldc 13, 2) := by decide +kernel
theorem dX2_next_7 : decode cX2_next 7 = .ok (.imul, 1) := by decide +kernel
theorem dX2_next_8 : decode cX2_next 8 = .ok (.sipush 12345, 3) := by decide +kernel
theorem dX2_next_11 : decode cX2_next 11 = .ok (.iadd, 1) := by decide +kernel
theorem dX2_next_12 : decode cX2_next 12 = .ok (.putfield 7, 3) := by decide +kernel
theorem dX2_next_15 : decode cX2_next 15 = .ok (.iload_n 1, 1) := by decide +kernel
theorem dX2_next_16 : decode cX2_next 16 = .ok (.iconst 1, 1) := by decide +kernel
theorem dX2_next_17 : decode cX2_next 17 = .ok (.if_icmp .ge 7, 3) := by decide +kernel
theorem dX2_next_20 : decode cX2_next 20 = .ok (.iconst 0, 1) := by decide +kernel
theorem dX2_next_21 : decode cX2_next 21 = .ok (.goto 16, 3) := by decide +kernel
theorem dX2_next_24 : decode cX2_next 24 = .ok (.aload_n 0, 1) := by decide +kernel
theorem dX2_next_25 : decode cX2_next 25 = .ok (.getfield 7, 3) := by decide +kernel
theorem dX2_next_28 : decode cX2_next 28 = .ok (.bipush 16, 2) := by decide +kernel
theorem dX2_next_30 : decode cX2_next 30 = .ok (.iushr, 1) := by decide +kernel
theorem dX2_next_31 : decode cX2_next 31 = .ok (.sipush 32767, 3) := by decide +kernel
theorem dX2_next_34 : decode cX2_next 34 = .ok (.iand, 1) := by decide +kernel
theorem dX2_next_35 : decode cX2_next 35 = .ok (.iload_n 1, 1) := by decide +kernel
theorem dX2_next_36 : decode cX2_next 36 = .ok (.irem, 1) := by decide +kernel
theorem dX2_next_37 : decode cX2_next 37 = .ok (.ireturn, 1) := by decide +kernel
theorem dX7_clear_0 : decode cX7_clear 0 = .ok (.aload_n 0, 1) := by decide +kernel
theorem dX7_clear_1 : decode cX7_clear 1 = .ok (.iconst 0, 1) := by decide +kernel
theorem dX7_clear_2 : decode cX7_clear 2 = .ok (.putfield 15, 3) := by decide +kernel
theorem dX7_clear_5 : decode cX7_clear 5 = .ok (.return_, 1) := by decide +kernel
theorem dX7_write_0 : decode cX7_write 0 = .ok (.aload_n 0, 1) := by decide +kernel
theorem dX7_write_1 : decode cX7_write 1 = .ok (.getfield 15, 3) := by decide +kernel
theorem dX7_write_4 : decode cX7_write 4 = .ok (.ifCond .lt 33, 3) := by decide +kernel
theorem dX7_write_7 : decode cX7_write 7 = .ok (.aload_n 0, 1) := by decide +kernel
theorem dX7_write_8 : decode cX7_write 8 = .ok (.getfield 15, 3) := by decide +kernel
theorem dX7_write_11 : decode cX7_write 11 = .ok (.sipush 1024, 3) := by decide +kernel
theorem dX7_write_14 : decode cX7_write 14 = .ok (.if_icmp .ge 23, 3) := by decide +kernel
theorem dX7_write_17 : decode cX7_write 17 = .ok (.aload_n 0, 1) := by decide +kernel
theorem dX7_write_18 : decode cX7_write 18 = .ok (.getfield 11, 3) := by decide +kernel
theorem dX7_write_21 : decode cX7_write 21 = .ok (.aload_n 0, 1) := by decide +kernel
theorem dX7_write_22 : decode cX7_write 22 = .ok (.getfield 15, 3) := by decide +kernel
theorem dX7_write_25 : decode cX7_write 25 = .ok (.iload_n 1, 1) := by decide +kernel
theorem dX7_write_26 : decode cX7_write 26 = .ok (.iastore, 1) := by decide +kernel
theorem dX7_write_27 : decode cX7_write 27 = .ok (.aload_n 0, 1) := by decide +kernel
theorem dX7_write_28 : decode cX7_write 28 = .ok (.dup, 1) := by decide +kernel
theorem dX7_write_29 : decode cX7_write 29 = .ok (.getfield 15, 3) := by decide +kernel
theorem dX7_write_32 : decode cX7_write 32 = .ok (.iconst 1, 1) := by decide +kernel
theorem dX7_write_33 : decode cX7_write 33 = .ok (.iadd, 1) := by decide +kernel
theorem dX7_write_34 : decode cX7_write 34 = .ok (.putfield 15, 3) := by decide +kernel
theorem dX7_write_37 : decode cX7_write 37 = .ok (.return_, 1) := by decide +kernel
theorem dX7_byteAt_0 : decode cX7_byteAt 0 = .ok (.iload_n 1, 1) := by decide +kernel
theorem dX7_byteAt_1 : decode cX7_byteAt 1 = .ok (.ifCond .lt 11, 3) := by decide +kernel
theorem dX7_byteAt_4 : decode cX7_byteAt 4 = .ok (.iload_n 1, 1) := by decide +kernel
theorem dX7_byteAt_5 : decode cX7_byteAt 5 = .ok (.aload_n 0, 1) := by decide +kernel
theorem dX7_byteAt_6 : decode cX7_byteAt 6 = .ok (.getfield 15, 3) := by decide +kernel
theorem dX7_byteAt_9 : decode cX7_byteAt 9 = .ok (.if_icmp .lt 7, 3) := by decide +kernel
theorem dX7_byteAt_12 : decode cX7_byteAt 12 = .ok (.iconst (-1), 1) := by decide +kernel
theorem dX7_byteAt_13 : decode cX7_byteAt 13 = .ok (.goto 9, 3) := by decide +kernel
theorem dX7_byteAt_16 : decode cX7_byteAt 16 = .ok (.aload_n 0, 1) := by decide +kernel
theorem dX7_byteAt_17 : decode cX7_byteAt 17 = .ok (.getfield 11, 3) := by decide +kernel
theorem dX7_byteAt_20 : decode cX7_byteAt 20 = .ok (.iload_n 1, 1) := by decide +kernel
theorem dX7_byteAt_21 : decode cX7_byteAt 21 = .ok (.iaload, 1) := by decide +kernel
theorem dX7_byteAt_22 : decode cX7_byteAt 22 = .ok (.ireturn, 1) := by decide +kernel
set_option maxRecDepth 100000 in
theorem ggX7_writeNumber_X7_write : GoodIn wsX7_writeNumber wsX7_write := (gi_cons 9 rfl rfl (gi_cons 10 rfl rfl (gi_cons 11 rfl rfl (gi_cons 12 rfl rfl (gi_cons 13 rfl rfl gi_nil)))))
set_option maxRecDepth 20000 in
theorem gX7_writeNumber_X7_write : GoodIn wsX7_writeNumber (wsV RX7 25 RX7 yX7_write wsX7_write) := goodIn_app (goodIn_of _ (by decide +kernel)) ggX7_writeNumber_X7_write
theorem dX7_writeNumber_0 : decode cX7_writeNumber 0 = .ok (.iload_n 1, 1) := by decide +kernel
theorem dX7_writeNumber_1 : decode cX7_writeNumber 1 = .ok (.invokestatic 19, 3) := by decide +kernel
theorem dX7_writeNumber_4 : decode cX7_writeNumber 4 = .ok (.istore_n 2, 1) := by decide +kernel
theorem dX7_writeNumber_5 : decode cX7_writeNumber 5 = .ok (.iload_n 1, 1) := by decide +kernel
theorem dX7_writeNumber_6 : decode cX7_writeNumber 6 = .ok (.ifCond .ge 9, 3) := by decide +kernel
theorem dX7_writeNumber_9 : decode cX7_writeNumber 9 = .ok (.aload_n 0, 1) := by decide +kernel
theorem dX7_writeNumber_10 : decode cX7_writeNumber 10 = .ok (.bipush 45, 2) := by decide +kernel
theorem dX7_writeNumber_12 : decode cX7_writeNumber 12 = .ok (.invokevirtual 25, 3) := by decide +kernel
theorem dX7_writeNumber_15 : decode cX7_writeNumber 15 = .ok (.iload_n 2, 1) := by decide +kernel
theorem dX7_writeNumber_16 : decode cX7_writeNumber 16 = .ok (.bipush 100, 2) := by decide +kernel
theorem dX7_writeNumber_18 : decode cX7_writeNumber 18 = .ok (.if_icmp .lt 17, 3) := by decide +kernel
theorem dX7_writeNumber_21 : decode cX7_writeNumber 21 = .ok (.aload_n 0, 1) := by decide +kernel
theorem dX7_writeNumber_22 : decode cX7_writeNumber 22 = .ok (.bipush 48, 2) := by decide +kernel
theorem dX7_writeNumber_24 : decode cX7_writeNumber 24 = .ok (.iload_n 2, 1) := by decide +kernel
theorem dX7_writeNumber_25 : decode cX7_writeNumber 25 = .ok (.bipush 100, 2) := by decide +kernel
theorem dX7_writeNumber_27 : decode cX7_writeNumber 27 = .ok (.idiv, 1) := by decide +kernel
theorem dX7_writeNumber_28 : decode cX7_writeNumber 28 = .ok (.bipush 10, 2) := by decide +kernel
theorem dX7_writeNumber_30 : decode cX7_writeNumber 30 = .ok (.irem, 1) := by decide +kernel
theorem dX7_writeNumber_31 : decode cX7_writeNumber 31 = .ok (.iadd, 1) := by decide +kernel
theorem dX7_writeNumber_32 : decode cX7_writeNumber 32 = .ok (.invokevirtual 25, 3) := by decide +kernel
theorem dX7_writeNumber_35 : decode cX7_writeNumber 35 = .ok (.iload_n 2, 1) := by decide +kernel
theorem dX7_writeNumber_36 : decode cX7_writeNumber 36 = .ok (.bipush 10, 2) := by decide +kernel
theorem dX7_writeNumber_38 : decode cX7_writeNumber 38 = .ok (.if_icmp .lt 17, 3) := by decide +kernel
theorem dX7_writeNumber_41 : decode cX7_writeNumber 41 = .ok (.aload_n 0, 1) := by decide +kernel
theorem dX7_writeNumber_42 : decode cX7_writeNumber 42 = .ok (.bipush 48, 2) := by decide +kernel
theorem dX7_writeNumber_44 : decode cX7_writeNumber 44 = .ok (.iload_n 2, 1) := by decide +kernel
theorem dX7_writeNumber_45 : decode cX7_writeNumber 45 = .ok (.bipush 10, 2) := by decide +kernel
theorem dX7_writeNumber_47 : decode cX7_writeNumber 47 = .ok (.idiv, 1) := by decide +kernel
theorem dX7_writeNumber_48 : decode cX7_writeNumber 48 = .ok (.bipush 10, 2) := by decide +kernel
theorem dX7_writeNumber_50 : decode cX7_writeNumber 50 = .ok (.irem, 1) := by decide +kernel
theorem dX7_writeNumber_51 : decode cX7_writeNumber 51 = .ok (.iadd, 1) := by decide +kernel
theorem dX7_writeNumber_52 : decode cX7_writeNumber 52 = .ok (.invokevirtual 25, 3) := by decide +kernel
theorem dX7_writeNumber_55 : decode cX7_writeNumber 55 = .ok (.aload_n 0, 1) := by decide +kernel
theorem dX7_writeNumber_56 : decode cX7_writeNumber 56 = .ok (.bipush 48, 2) := by decide +kernel
theorem dX7_writeNumber_58 : decode cX7_writeNumber 58 = .ok (.iload_n 2, 1) := by decide +kernel
theorem dX7_writeNumber_59 : decode cX7_writeNumber 59 = .ok (.bipush 10, 2) := by decide +kernel
theorem dX7_writeNumber_61 : decode cX7_writeNumber 61 = .ok (.irem, 1) := by decide +kernel
theorem dX7_writeNumber_62 : decode cX7_writeNumber 62 = .ok (.iadd, 1) := by decide +kernel
theorem dX7_writeNumber_63 : decode cX7_writeNumber 63 = .ok (.invokevirtual 25, 3) := by decide +kernel
theorem dX7_writeNumber_66 : decode cX7_writeNumber 66 = .ok (.return_, 1) := by decide +kernel
set_option maxRecDepth 100000 in
theorem ggX7_writeWord_X7_write : GoodIn wsX7_writeWord wsX7_write := (gi_cons 5 rfl rfl (gi_cons 6 rfl rfl (gi_cons 7 rfl rfl (gi_cons 8 rfl rfl (gi_cons 9 rfl rfl gi_nil)))))
set_option maxRecDepth 20000 in
theorem gX7_writeWord_X7_write : GoodIn wsX7_writeWord (wsV RX7 25 RX7 yX7_write wsX7_write) := goodIn_app (goodIn_of _ (by decide +kernel)) ggX7_writeWord_X7_write
theorem dX7_writeWord_0 : decode cX7_writeWord 0 = .ok (.bipush 25, 2) := by decide +kernel
theorem dX7_writeWord_2 : decode cX7_writeWord 2 = .ok (.istore_n 2, 1) := by decide +kernel
theorem dX7_writeWord_3 : decode cX7_writeWord 3 = .ok (.iload_n 2, 1) := by decide +kernel
theorem dX7_writeWord_4 : decode cX7_writeWord 4 = .ok (.ifCond .lt 30, 3) := by decide +kernel
theorem dX7_writeWord_7 : decode cX7_writeWord 7 = .ok (.iload_n 1, 1) := by decide +kernel
theorem dX7_writeWord_8 : decode cX7_writeWord 8 = .ok (.iload_n 2, 1) := by decide +kernel
theorem dX7_writeWord_9 : decode cX7_writeWord 9 = .ok (.iushr, 1) := by decide +kernel
theorem dX7_writeWord_10 : decode cX7_writeWord 10 = .ok (.bipush 31, 2) := by decide +kernel
theorem dX7_writeWord_12 : decode cX7_writeWord 12 = .ok (.iand, 1) := by decide +kernel
theorem dX7_writeWord_13 : decode cX7_writeWord 13 = .ok (.istore_n 3, 1) := by decide +kernel
theorem dX7_writeWord_14 : decode cX7_writeWord 14 = .ok (.iload_n 3, 1) := by decide +kernel
theorem dX7_writeWord_15 : decode cX7_writeWord 15 = .ok (.ifCond .le 13, 3) := by decide +kernel
theorem dX7_writeWord_18 : decode cX7_writeWord 18 = .ok (.aload_n 0, 1) := by decide +kernel
theorem dX7_writeWord_19 : decode cX7_writeWord 19 = .ok (.bipush 97, 2) := by decide +kernel
theorem dX7_writeWord_21 : decode cX7_writeWord 21 = .ok (.iload_n 3, 1) := by decide +kernel
theorem dX7_writeWord_22 : decode cX7_writeWord 22 = .ok (.iadd, 1) := by decide +kernel
theorem dX7_writeWord_23 : decode cX7_writeWord 23 = .ok (.iconst 1, 1) := by decide +kernel
theorem dX7_writeWord_24 : decode cX7_writeWord 24 = .ok (.isub, 1) := by decide +kernel
theorem dX7_writeWord_25 : decode cX7_writeWord 25 = .ok (.invokevirtual 25, 3) := by decide +kernel
theorem dX7_writeWord_28 : decode cX7_writeWord 28 = .ok (.iinc 2 (-5), 3) := by decide +kernel
theorem dX7_writeWord_31 : decode cX7_writeWord 31 = .ok (.goto (-28), 3) := by decide +kernel
theorem dX7_writeWord_34 : decode cX7_writeWord 34 = .ok (.return_, 1) := by decide +kernel
set_option maxRecDepth 100000 in
theorem ggX7_writePath_X9_depthAt : GoodIn wsX7_writePath wsX9_depthAt := (gi_cons 5 rfl rfl (gi_cons 6 rfl rfl (gi_cons 7 rfl rfl (gi_cons 49 rfl rfl (gi_cons 50 rfl rfl (gi_cons 51 rfl rfl (gi_cons 52 rfl rfl (gi_cons 53 rfl rfl gi_nil))))))))
set_option maxRecDepth 20000 in
theorem gX7_writePath_X9_depthAt : GoodIn wsX7_writePath (wsV RX7 29 RX9 yX9_depthAt wsX9_depthAt) := goodIn_app (goodIn_of _ (by decide +kernel)) ggX7_writePath_X9_depthAt
set_option maxRecDepth 100000 in
theorem ggX7_writePath_X9_ancestorAt : GoodIn wsX7_writePath wsX9_ancestorAt := (gi_cons 11 rfl rfl (gi_cons 6 rfl rfl (gi_cons 7 rfl rfl (gi_cons 49 rfl rfl (gi_cons 50 rfl rfl (gi_cons 51 rfl rfl (gi_cons 52 rfl rfl (gi_cons 53 rfl rfl gi_nil))))))))
set_option maxRecDepth 20000 in
theorem gX7_writePath_X9_ancestorAt : GoodIn wsX7_writePath (wsV RX7 34 RX9 yX9_ancestorAt wsX9_ancestorAt) := goodIn_app (goodIn_of _ (by decide +kernel)) ggX7_writePath_X9_ancestorAt
set_option maxRecDepth 100000 in
theorem ggX7_writePath_X9_parentOf : GoodIn wsX7_writePath wsX9_parentOf := (gi_cons 15 rfl rfl (gi_cons 6 rfl rfl (gi_cons 7 rfl rfl (gi_cons 49 rfl rfl (gi_cons 50 rfl rfl (gi_cons 51 rfl rfl (gi_cons 52 rfl rfl (gi_cons 53 rfl rfl gi_nil))))))))
set_option maxRecDepth 20000 in
theorem gX7_writePath_X9_parentOf : GoodIn wsX7_writePath (wsV RX7 38 RX9 yX9_parentOf wsX9_parentOf) := goodIn_app (goodIn_of _ (by decide +kernel)) ggX7_writePath_X9_parentOf
set_option maxRecDepth 100000 in
theorem ggX7_writePath_X9_kindAt : GoodIn wsX7_writePath wsX9_kindAt := (gi_cons 19 rfl rfl (gi_cons 6 rfl rfl (gi_cons 20 rfl rfl (gi_cons 49 rfl rfl (gi_cons 50 rfl rfl (gi_cons 51 rfl rfl (gi_cons 52 rfl rfl (gi_cons 53 rfl rfl gi_nil))))))))
set_option maxRecDepth 20000 in
theorem gX7_writePath_X9_kindAt : GoodIn wsX7_writePath (wsV RX7 41 RX9 yX9_kindAt wsX9_kindAt) := goodIn_app (goodIn_of _ (by decide +kernel)) ggX7_writePath_X9_kindAt
set_option maxRecDepth 100000 in
theorem ggX7_writePath_X7_write : GoodIn wsX7_writePath wsX7_write := (gi_cons 25 rfl rfl (gi_cons 26 rfl rfl (gi_cons 27 rfl rfl (gi_cons 54 rfl rfl (gi_cons 55 rfl rfl gi_nil)))))
set_option maxRecDepth 20000 in
theorem gX7_writePath_X7_write : GoodIn wsX7_writePath (wsV RX7 25 RX7 yX7_write wsX7_write) := goodIn_app (goodIn_of _ (by decide +kernel)) ggX7_writePath_X7_write
set_option maxRecDepth 100000 in
theorem ggX7_writePath_X9_keyAt : GoodIn wsX7_writePath wsX9_keyAt := (gi_cons 31 rfl rfl (gi_cons 6 rfl rfl (gi_cons 32 rfl rfl (gi_cons 49 rfl rfl (gi_cons 50 rfl rfl (gi_cons 51 rfl rfl (gi_cons 52 rfl rfl (gi_cons 53 rfl rfl gi_nil))))))))
set_option maxRecDepth 20000 in
theorem gX7_writePath_X9_keyAt : GoodIn wsX7_writePath (wsV RX7 44 RX9 yX9_keyAt wsX9_keyAt) := goodIn_app (goodIn_of _ (by decide +kernel)) ggX7_writePath_X9_keyAt
set_option maxRecDepth 100000 in
theorem ggX7_writePath_X7_writeWord : GoodIn wsX7_writePath wsX7_writeWord := (gi_cons 36 rfl rfl (gi_cons 21 rfl rfl (gi_cons 22 rfl rfl (gi_cons 23 rfl rfl (gi_cons 24 rfl rfl (gi_cons 25 rfl rfl (gi_cons 26 rfl rfl (gi_cons 27 rfl rfl (gi_cons 54 rfl rfl (gi_cons 55 rfl rfl gi_nil))))))))))
set_option maxRecDepth 20000 in
theorem gX7_writePath_X7_writeWord : GoodIn wsX7_writePath (wsV RX7 47 RX7 yX7_writeWord wsX7_writeWord) := goodIn_app (goodIn_of _ (by decide +kernel)) ggX7_writePath_X7_writeWord
set_option maxRecDepth 100000 in
theorem ggX7_writePath_X9_placeOf : GoodIn wsX7_writePath wsX9_placeOf := (gi_cons 40 rfl rfl (gi_cons 6 rfl rfl (gi_cons 7 rfl rfl (gi_cons 49 rfl rfl (gi_cons 50 rfl rfl (gi_cons 51 rfl rfl (gi_cons 52 rfl rfl (gi_cons 53 rfl rfl gi_nil))))))))
set_option maxRecDepth 20000 in
theorem gX7_writePath_X9_placeOf : GoodIn wsX7_writePath (wsV RX7 50 RX9 yX9_placeOf wsX9_placeOf) := goodIn_app (goodIn_of _ (by decide +kernel)) ggX7_writePath_X9_placeOf
set_option maxRecDepth 100000 in
theorem ggX7_writePath_X7_writeNumber : GoodIn wsX7_writePath wsX7_writeNumber := (gi_cons 44 rfl rfl (gi_cons 45 rfl rfl (gi_cons 46 rfl rfl (gi_cons 47 rfl rfl (gi_cons 48 rfl rfl (gi_cons 21 rfl rfl (gi_cons 22 rfl rfl (gi_cons 23 rfl rfl (gi_cons 24 rfl rfl (gi_cons 25 rfl rfl (gi_cons 26 rfl rfl (gi_cons 27 rfl rfl (gi_cons 54 rfl rfl (gi_cons 55 rfl rfl gi_nil))))))))))))))
set_option maxRecDepth 20000 in
theorem gX7_writePath_X7_writeNumber : GoodIn wsX7_writePath (wsV RX7 53 RX7 yX7_writeNumber wsX7_writeNumber) := goodIn_app (goodIn_of _ (by decide +kernel)) ggX7_writePath_X7_writeNumber
theorem dX7_writePath_0 : decode cX7_writePath 0 = .ok (.aload_n 1, 1) := by decide +kernel
theorem dX7_writePath_1 : decode cX7_writePath 1 = .ok (.iload_n 2, 1) := by decide +kernel
theorem dX7_writePath_2 : decode cX7_writePath 2 = .ok (.invokevirtual 29, 3) := by decide +kernel
theorem dX7_writePath_5 : decode cX7_writePath 5 = .ok (.istore_n 3, 1) := by decide +kernel
theorem dX7_writePath_6 : decode cX7_writePath 6 = .ok (.iconst 1, 1) := by decide +kernel
theorem dX7_writePath_7 : decode cX7_writePath 7 = .ok (.istore 4, 2) := by decide +kernel
theorem dX7_writePath_9 : decode cX7_writePath 9 = .ok (.iload 4, 2) := by decide +kernel
theorem dX7_writePath_11 : decode cX7_writePath 11 = .ok (.iload_n 3, 1) := by decide +kernel
theorem dX7_writePath_12 : decode cX7_writePath 12 = .ok (.if_icmp .gt 73, 3) := by decide +kernel
theorem dX7_writePath_15 : decode cX7_writePath 15 = .ok (.aload_n 1, 1) := by decide +kernel
theorem dX7_writePath_16 : decode cX7_writePath 16 = .ok (.iload_n 2, 1) := by decide +kernel
theorem dX7_writePath_17 : decode cX7_writePath 17 = .ok (.iload 4, 2) := by decide +kernel
theorem dX7_writePath_19 : decode cX7_writePath 19 = .ok (.invokevirtual 34, 3) := by decide +kernel
theorem dX7_writePath_22 : decode cX7_writePath 22 = .ok (.istore 5, 2) := by decide +kernel
theorem dX7_writePath_24 : decode cX7_writePath 24 = .ok (.aload_n 1, 1) := by decide +kernel
theorem dX7_writePath_25 : decode cX7_writePath 25 = .ok (.aload_n 1, 1) := by decide +kernel
theorem dX7_writePath_26 : decode cX7_writePath 26 = .ok (.iload 5, 2) := by decide +kernel
theorem dX7_writePath_28 : decode cX7_writePath 28 = .ok (.invokevirtual 38, 3) := by decide +kernel
theorem dX7_writePath_31 : decode cX7_writePath 31 = .ok (.invokevirtual 41, 3) := by decide +kernel
theorem dX7_writePath_34 : decode cX7_writePath 34 = .ok (.iconst 3, 1) := by decide +kernel
theorem dX7_writePath_35 : decode cX7_writePath 35 = .ok (.if_icmp .ne 22, 3) := by decide +kernel
theorem dX7_writePath_38 : decode cX7_writePath 38 = .ok (.aload_n 0, 1) := by decide +kernel
theorem dX7_writePath_39 : decode cX7_writePath 39 = .ok (.bipush 46, 2) := by decide +kernel
theorem dX7_writePath_41 : decode cX7_writePath 41 = .ok (.invokevirtual 25, 3) := by decide +kernel
theorem dX7_writePath_44 : decode cX7_writePath 44 = .ok (.aload_n 0, 1) := by decide +kernel
theorem dX7_writePath_45 : decode cX7_writePath 45 = .ok (.aload_n 1, 1) := by decide +kernel
theorem dX7_writePath_46 : decode cX7_writePath 46 = .ok (.iload 5, 2) := by decide +kernel
theorem dX7_writePath_48 : decode cX7_writePath 48 = .ok (.invokevirtual 44, 3) := by decide +kernel
theorem dX7_writePath_51 : decode cX7_writePath 51 = .ok (.invokevirtual 47, 3) := by decide +kernel
theorem dX7_writePath_54 : decode cX7_writePath 54 = .ok (.goto 25, 3) := by decide +kernel
theorem dX7_writePath_57 : decode cX7_writePath 57 = .ok (.aload_n 0, 1) := by decide +kernel
theorem dX7_writePath_58 : decode cX7_writePath 58 = .ok (.bipush 91, 2) := by decide +kernel
theorem dX7_writePath_60 : decode cX7_writePath 60 = .ok (.invokevirtual 25, 3) := by decide +kernel
theorem dX7_writePath_63 : decode cX7_writePath 63 = .ok (.aload_n 0, 1) := by decide +kernel
theorem dX7_writePath_64 : decode cX7_writePath 64 = .ok (.aload_n 1, 1) := by decide +kernel
theorem dX7_writePath_65 : decode cX7_writePath 65 = .ok (.iload 5, 2) := by decide +kernel
theorem dX7_writePath_67 : decode cX7_writePath 67 = .ok (.invokevirtual 50, 3) := by decide +kernel
theorem dX7_writePath_70 : decode cX7_writePath 70 = .ok (.invokevirtual 53, 3) := by decide +kernel
theorem dX7_writePath_73 : decode cX7_writePath 73 = .ok (.aload_n 0, 1) := by decide +kernel
theorem dX7_writePath_74 : decode cX7_writePath 74 = .ok (.bipush 93, 2) := by decide +kernel
theorem dX7_writePath_76 : decode cX7_writePath 76 = .ok (.invokevirtual 25, 3) := by decide +kernel
theorem dX7_writePath_79 : decode cX7_writePath 79 = .ok (.iinc 4 1, 3) := by decide +kernel
theorem dX7_writePath_82 : decode cX7_writePath 82 = .ok (.goto (-73), 3) := by decide +kernel
theorem dX7_writePath_85 : decode cX7_writePath 85 = .ok (.return_, 1) := by decide +kernel
set_option maxRecDepth 100000 in
theorem ggX7_writeThing_X9_kindAt : GoodIn wsX7_writeThing wsX9_kindAt := (gi_cons 5 rfl rfl (gi_cons 6 rfl rfl (gi_cons 7 rfl rfl (gi_cons 53 rfl rfl (gi_cons 54 rfl rfl (gi_cons 55 rfl rfl (gi_cons 56 rfl rfl (gi_cons 57 rfl rfl gi_nil))))))))
set_option maxRecDepth 20000 in
theorem gX7_writeThing_X9_kindAt : GoodIn wsX7_writeThing (wsV RX7 41 RX9 yX9_kindAt wsX9_kindAt) := goodIn_app (goodIn_of _ (by decide +kernel)) ggX7_writeThing_X9_kindAt
set_option maxRecDepth 100000 in
theorem ggX7_writeThing_X9_valueAt : GoodIn wsX7_writeThing wsX9_valueAt := (gi_cons 11 rfl rfl (gi_cons 6 rfl rfl (gi_cons 12 rfl rfl (gi_cons 53 rfl rfl (gi_cons 54 rfl rfl (gi_cons 55 rfl rfl (gi_cons 56 rfl rfl (gi_cons 57 rfl rfl gi_nil))))))))
set_option maxRecDepth 20000 in
theorem gX7_writeThing_X9_valueAt : GoodIn wsX7_writeThing (wsV RX7 56 RX9 yX9_valueAt wsX9_valueAt) := goodIn_app (goodIn_of _ (by decide +kernel)) ggX7_writeThing_X9_valueAt
set_option maxRecDepth 100000 in
theorem ggX7_writeThing_X7_writeNumber : GoodIn wsX7_writeThing wsX7_writeNumber := (gi_cons 17 rfl rfl (gi_cons 18 rfl rfl (gi_cons 19 rfl rfl (gi_cons 20 rfl rfl (gi_cons 21 rfl rfl (gi_cons 22 rfl rfl (gi_cons 23 rfl rfl (gi_cons 24 rfl rfl (gi_cons 16 rfl rfl (gi_cons 25 rfl rfl (gi_cons 26 rfl rfl (gi_cons 27 rfl rfl (gi_cons 58 rfl rfl (gi_cons 59 rfl rfl gi_nil))))))))))))))
set_option maxRecDepth 20000 in
theorem gX7_writeThing_X7_writeNumber : GoodIn wsX7_writeThing (wsV RX7 53 RX7 yX7_writeNumber wsX7_writeNumber) := goodIn_app (goodIn_of _ (by decide +kernel)) ggX7_writeThing_X7_writeNumber
set_option maxRecDepth 100000 in
theorem ggX7_writeThing_X7_writeWord : GoodIn wsX7_writeThing wsX7_writeWord := (gi_cons 31 rfl rfl (gi_cons 22 rfl rfl (gi_cons 23 rfl rfl (gi_cons 24 rfl rfl (gi_cons 16 rfl rfl (gi_cons 25 rfl rfl (gi_cons 26 rfl rfl (gi_cons 27 rfl rfl (gi_cons 58 rfl rfl (gi_cons 59 rfl rfl gi_nil))))))))))
set_option maxRecDepth 20000 in
theorem gX7_writeThing_X7_writeWord : GoodIn wsX7_writeThing (wsV RX7 47 RX7 yX7_writeWord wsX7_writeWord) := goodIn_app (goodIn_of _ (by decide +kernel)) ggX7_writeThing_X7_writeWord
set_option maxRecDepth 100000 in
theorem ggX7_writeThing_X7_writeHolder : GoodIn wsX7_writeThing wsX7_writeHolder := (gi_cons 35 rfl rfl (gi_cons 1 rfl rfl (gi_cons 2 rfl rfl (gi_cons 3 rfl rfl (gi_cons 4 rfl rfl (gi_cons 5 rfl rfl (gi_cons 6 rfl rfl (gi_cons 7 rfl rfl (gi_cons 36 rfl rfl (gi_cons 37 rfl rfl (gi_cons 38 rfl rfl (gi_cons 39 rfl rfl (gi_cons 40 rfl rfl (gi_cons 22 rfl rfl (gi_cons 23 rfl rfl (gi_cons 24 rfl rfl (gi_cons 16 rfl rfl (gi_cons 25 rfl rfl (gi_cons 26 rfl rfl (gi_cons 27 rfl rfl (gi_cons 41 rfl rfl (gi_cons 42 rfl rfl (gi_cons 43 rfl rfl (gi_cons 44 rfl rfl (gi_cons 45 rfl rfl (gi_cons 28 rfl rfl (gi_cons 29 rfl rfl (gi_cons 30 rfl rfl (gi_cons 31 rfl rfl (gi_cons 46 rfl rfl (gi_cons 47 rfl rfl (gi_cons 48 rfl rfl (gi_cons 49 rfl rfl (gi_cons 50 rfl rfl (gi_cons 51 rfl rfl (gi_cons 52 rfl rfl (gi_cons 0 rfl rfl (gi_cons 8 rfl rfl (gi_cons 9 rfl rfl (gi_cons 10 rfl rfl (gi_cons 11 rfl rfl (gi_cons 12 rfl rfl (gi_cons 13 rfl rfl (gi_cons 14 rfl rfl (gi_cons 15 rfl rfl (gi_cons 17 rfl rfl (gi_cons 18 rfl rfl (gi_cons 19 rfl rfl (gi_cons 20 rfl rfl (gi_cons 21 rfl rfl (gi_cons 32 rfl rfl (gi_cons 33 rfl rfl (gi_cons 34 rfl rfl (gi_cons 53 rfl rfl (gi_cons 54 rfl rfl (gi_cons 55 rfl rfl (gi_cons 56 rfl rfl (gi_cons 57 rfl rfl (gi_cons 58 rfl rfl (gi_cons 59 rfl rfl gi_nil))))))))))))))))))))))))))))))))))))))))))))))))))))))))))))
set_option maxRecDepth 20000 in
theorem gX7_writeThing_X7_writeHolder : GoodIn wsX7_writeThing (wsV RX7 59 RX7 yX7_writeHolder wsX7_writeHolder) := goodIn_app (goodIn_of _ (by decide +kernel)) ggX7_writeThing_X7_writeHolder
theorem dX7_writeThing_0 : decode cX7_writeThing 0 = .ok (.aload_n 1, 1) := by decide +kernel
theorem dX7_writeThing_1 : decode cX7_writeThing 1 = .ok (.iload_n 2, 1) := by decide +kernel
theorem dX7_writeThing_2 : decode cX7_writeThing 2 = .ok (.invokevirtual 41, 3) := by decide +kernel
theorem dX7_writeThing_5 : decode cX7_writeThing 5 = .ok (.istore 4, 2) := by decide +kernel
theorem dX7_writeThing_7 : decode cX7_writeThing 7 = .ok (.iload 4, 2) := by decide +kernel
theorem dX7_writeThing_9 : decode cX7_writeThing 9 = .ok (.ifCond .ne 15, 3) := by decide +kernel
theorem dX7_writeThing_12 : decode cX7_writeThing 12 = .ok (.aload_n 0, 1) := by decide +kernel
theorem dX7_writeThing_13 : decode cX7_writeThing 13 = .ok (.aload_n 1, 1) := by decide +kernel
theorem dX7_writeThing_14 : decode cX7_writeThing 14 = .ok (.iload_n 2, 1) := by decide +kernel
theorem dX7_writeThing_15 : decode cX7_writeThing 15 = .ok (.invokevirtual 56, 3) := by decide +kernel
theorem dX7_writeThing_18 : decode cX7_writeThing 18 = .ok (.invokevirtual 53, 3) := by decide +kernel
theorem dX7_writeThing_21 : decode cX7_writeThing 21 = .ok (.goto 34, 3) := by decide +kernel
theorem dX7_writeThing_24 : decode cX7_writeThing 24 = .ok (.iload 4, 2) := by decide +kernel
theorem dX7_writeThing_26 : decode cX7_writeThing 26 = .ok (.iconst 1, 1) := by decide +kernel
theorem dX7_writeThing_27 : decode cX7_writeThing 27 = .ok (.if_icmp .ne 15, 3) := by decide +kernel
theorem dX7_writeThing_30 : decode cX7_writeThing 30 = .ok (.aload_n 0, 1) := by decide +kernel
theorem dX7_writeThing_31 : decode cX7_writeThing 31 = .ok (.aload_n 1, 1) := by decide +kernel
theorem dX7_writeThing_32 : decode cX7_writeThing 32 = .ok (.iload_n 2, 1) := by decide +kernel
theorem dX7_writeThing_33 : decode cX7_writeThing 33 = .ok (.invokevirtual 56, 3) := by decide +kernel
theorem dX7_writeThing_36 : decode cX7_writeThing 36 = .ok (.invokevirtual 47, 3) := by decide +kernel
theorem dX7_writeThing_39 : decode cX7_writeThing 39 = .ok (.goto 16, 3) := by decide +kernel
theorem dX7_writeThing_42 : decode cX7_writeThing 42 = .ok (.iload_n 3, 1) := by decide +kernel
theorem dX7_writeThing_43 : decode cX7_writeThing 43 = .ok (.bipush 16, 2) := by decide +kernel
theorem dX7_writeThing_45 : decode cX7_writeThing 45 = .ok (.if_icmp .gt 10, 3) := by decide +kernel
theorem dX7_writeThing_48 : decode cX7_writeThing 48 = .ok (.aload_n 0, 1) := by decide +kernel
theorem dX7_writeThing_49 : decode cX7_writeThing 49 = .ok (.aload_n 1, 1) := by decide +kernel
theorem dX7_writeThing_50 : decode cX7_writeThing 50 = .ok (.iload_n 2, 1) := by decide +kernel
theorem dX7_writeThing_51 : decode cX7_writeThing 51 = .ok (.iload_n 3, 1) := by decide +kernel
theorem dX7_writeThing_52 : decode cX7_writeThing 52 = .ok (.invokevirtual 59, 3) := by decide +kernel
theorem dX7_writeThing_55 : decode cX7_writeThing 55 = .ok (.return_, 1) := by decide +kernel
set_option maxRecDepth 100000 in
theorem ggX7_writeHolder_X9_kindAt : GoodIn wsX7_writeHolder wsX9_kindAt := (gi_cons 5 rfl rfl (gi_cons 6 rfl rfl (gi_cons 7 rfl rfl (gi_cons 53 rfl rfl (gi_cons 54 rfl rfl (gi_cons 55 rfl rfl (gi_cons 56 rfl rfl (gi_cons 57 rfl rfl gi_nil))))))))
set_option maxRecDepth 20000 in
theorem gX7_writeHolder_X9_kindAt : GoodIn wsX7_writeHolder (wsV RX7 41 RX9 yX9_kindAt wsX9_kindAt) := goodIn_app (goodIn_of _ (by decide +kernel)) ggX7_writeHolder_X9_kindAt
set_option maxRecDepth 100000 in
theorem ggX7_writeHolder_X9_childCount : GoodIn wsX7_writeHolder wsX9_childCount := (gi_cons 11 rfl rfl (gi_cons 6 rfl rfl (gi_cons 12 rfl rfl (gi_cons 53 rfl rfl (gi_cons 54 rfl rfl (gi_cons 55 rfl rfl (gi_cons 56 rfl rfl (gi_cons 57 rfl rfl gi_nil))))))))
set_option maxRecDepth 20000 in
theorem gX7_writeHolder_X9_childCount : GoodIn wsX7_writeHolder (wsV RX7 63 RX9 yX9_childCount wsX9_childCount) := goodIn_app (goodIn_of _ (by decide +kernel)) ggX7_writeHolder_X9_childCount
set_option maxRecDepth 100000 in
theorem ggX7_writeHolder_X7_write : GoodIn wsX7_writeHolder wsX7_write := (gi_cons 17 rfl rfl (gi_cons 18 rfl rfl (gi_cons 19 rfl rfl (gi_cons 58 rfl rfl (gi_cons 59 rfl rfl gi_nil)))))
set_option maxRecDepth 20000 in
theorem gX7_writeHolder_X7_write : GoodIn wsX7_writeHolder (wsV RX7 25 RX7 yX7_write wsX7_write) := goodIn_app (goodIn_of _ (by decide +kernel)) ggX7_writeHolder_X7_write
set_option maxRecDepth 100000 in
theorem ggX7_writeHolder_X9_keyAt : GoodIn wsX7_writeHolder wsX9_keyAt := (gi_cons 23 rfl rfl (gi_cons 6 rfl rfl (gi_cons 24 rfl rfl (gi_cons 53 rfl rfl (gi_cons 54 rfl rfl (gi_cons 55 rfl rfl (gi_cons 56 rfl rfl (gi_cons 57 rfl rfl gi_nil))))))))
set_option maxRecDepth 20000 in
theorem gX7_writeHolder_X9_keyAt : GoodIn wsX7_writeHolder (wsV RX7 44 RX9 yX9_keyAt wsX9_keyAt) := goodIn_app (goodIn_of _ (by decide +kernel)) ggX7_writeHolder_X9_keyAt
set_option maxRecDepth 100000 in
theorem ggX7_writeHolder_X7_writeWord : GoodIn wsX7_writeHolder wsX7_writeWord := (gi_cons 28 rfl rfl (gi_cons 13 rfl rfl (gi_cons 14 rfl rfl (gi_cons 15 rfl rfl (gi_cons 16 rfl rfl (gi_cons 17 rfl rfl (gi_cons 18 rfl rfl (gi_cons 19 rfl rfl (gi_cons 58 rfl rfl (gi_cons 59 rfl rfl gi_nil))))))))))
set_option maxRecDepth 20000 in
theorem gX7_writeHolder_X7_writeWord : GoodIn wsX7_writeHolder (wsV RX7 47 RX7 yX7_writeWord wsX7_writeWord) := goodIn_app (goodIn_of _ (by decide +kernel)) ggX7_writeHolder_X7_writeWord
set_option maxRecDepth 100000 in
theorem ggX7_writeHolder_X7_writeThing : GoodIn wsX7_writeHolder wsX7_writeThing := (gi_cons 36 rfl rfl (gi_cons 1 rfl rfl (gi_cons 2 rfl rfl (gi_cons 3 rfl rfl (gi_cons 4 rfl rfl (gi_cons 5 rfl rfl (gi_cons 6 rfl rfl (gi_cons 7 rfl rfl (gi_cons 37 rfl rfl (gi_cons 38 rfl rfl (gi_cons 39 rfl rfl (gi_cons 40 rfl rfl (gi_cons 41 rfl rfl (gi_cons 42 rfl rfl (gi_cons 43 rfl rfl (gi_cons 44 rfl rfl (gi_cons 16 rfl rfl (gi_cons 45 rfl rfl (gi_cons 46 rfl rfl (gi_cons 47 rfl rfl (gi_cons 48 rfl rfl (gi_cons 49 rfl rfl (gi_cons 13 rfl rfl (gi_cons 14 rfl rfl (gi_cons 15 rfl rfl (gi_cons 17 rfl rfl (gi_cons 18 rfl rfl (gi_cons 19 rfl rfl (gi_cons 25 rfl rfl (gi_cons 26 rfl rfl (gi_cons 27 rfl rfl (gi_cons 28 rfl rfl (gi_cons 50 rfl rfl (gi_cons 51 rfl rfl (gi_cons 52 rfl rfl (gi_cons 0 rfl rfl (gi_cons 8 rfl rfl (gi_cons 9 rfl rfl (gi_cons 10 rfl rfl (gi_cons 11 rfl rfl (gi_cons 12 rfl rfl (gi_cons 20 rfl rfl (gi_cons 21 rfl rfl (gi_cons 22 rfl rfl (gi_cons 23 rfl rfl (gi_cons 24 rfl rfl (gi_cons 29 rfl rfl (gi_cons 30 rfl rfl (gi_cons 31 rfl rfl (gi_cons 32 rfl rfl (gi_cons 33 rfl rfl (gi_cons 34 rfl rfl (gi_cons 35 rfl rfl (gi_cons 53 rfl rfl (gi_cons 54 rfl rfl (gi_cons 55 rfl rfl (gi_cons 56 rfl rfl (gi_cons 57 rfl rfl (gi_cons 58 rfl rfl (gi_cons 59 rfl rfl gi_nil))))))))))))))))))))))))))))))))))))))))))))))))))))))))))))
set_option maxRecDepth 20000 in
theorem gX7_writeHolder_X7_writeThing : GoodIn wsX7_writeHolder (wsV RX7 66 RX7 yX7_writeThing wsX7_writeThing) := goodIn_app (goodIn_of _ (by decide +kernel)) ggX7_writeHolder_X7_writeThing
set_option maxRecDepth 100000 in
theorem ggX7_writeHolder_X9_end : GoodIn wsX7_writeHolder wsX9_end := (gi_cons 35 rfl rfl (gi_cons 6 rfl rfl (gi_cons 12 rfl rfl (gi_cons 53 rfl rfl (gi_cons 54 rfl rfl (gi_cons 55 rfl rfl (gi_cons 56 rfl rfl (gi_cons 57 rfl rfl gi_nil))))))))
set_option maxRecDepth 20000 in
theorem gX7_writeHolder_X9_end : GoodIn wsX7_writeHolder (wsV RX7 69 RX9 yX9_end wsX9_end) := goodIn_app (goodIn_of _ (by decide +kernel)) ggX7_writeHolder_X9_end
theorem dX7_writeHolder_0 : decode cX7_writeHolder 0 = .ok (.aload_n 1, 1) := by decide +kernel
theorem dX7_writeHolder_1 : decode cX7_writeHolder 1 = .ok (.iload_n 2, 1) := by decide +kernel
theorem dX7_writeHolder_2 : decode cX7_writeHolder 2 = .ok (.invokevirtual 41, 3) := by decide +kernel
theorem dX7_writeHolder_5 : decode cX7_writeHolder 5 = .ok (.iconst 3, 1) := by decide +kernel
theorem dX7_writeHolder_6 : decode cX7_writeHolder 6 = .ok (.if_icmp .ne 7, 3) := by decide +kernel
theorem dX7_writeHolder_9 : decode cX7_writeHolder 9 = .ok (.iconst 1, 1) := by decide +kernel
theorem dX7_writeHolder_10 : decode cX7_writeHolder 10 = .ok (.goto 4, 3) := by decide +kernel
theorem dX7_writeHolder_13 : decode cX7_writeHolder 13 = .ok (.iconst 0, 1) := by decide +kernel
theorem dX7_writeHolder_14 : decode cX7_writeHolder 14 = .ok (.istore 4, 2) := by decide +kernel
theorem dX7_writeHolder_16 : decode cX7_writeHolder 16 = .ok (.aload_n 1, 1) := by decide +kernel
theorem dX7_writeHolder_17 : decode cX7_writeHolder 17 = .ok (.iload_n 2, 1) := by decide +kernel
theorem dX7_writeHolder_18 : decode cX7_writeHolder 18 = .ok (.invokevirtual 63, 3) := by decide +kernel
theorem dX7_writeHolder_21 : decode cX7_writeHolder 21 = .ok (.istore 5, 2) := by decide +kernel
theorem dX7_writeHolder_23 : decode cX7_writeHolder 23 = .ok (.iload_n 2, 1) := by decide +kernel
theorem dX7_writeHolder_24 : decode cX7_writeHolder 24 = .ok (.iconst 1, 1) := by decide +kernel
theorem dX7_writeHolder_25 : decode cX7_writeHolder 25 = .ok (.iadd, 1) := by decide +kernel
theorem dX7_writeHolder_26 : decode cX7_writeHolder 26 = .ok (.istore 6, 2) := by decide +kernel
theorem dX7_writeHolder_28 : decode cX7_writeHolder 28 = .ok (.aload_n 0, 1) := by decide +kernel
theorem dX7_writeHolder_29 : decode cX7_writeHolder 29 = .ok (.iload 4, 2) := by decide +kernel
theorem dX7_writeHolder_31 : decode cX7_writeHolder 31 = .ok (.ifCond .eq 8, 3) := by decide +kernel
theorem dX7_writeHolder_34 : decode cX7_writeHolder 34 = .ok (.bipush 123, 2) := by decide +kernel
theorem dX7_writeHolder_36 : decode cX7_writeHolder 36 = .ok (.goto 5, 3) := by decide +kernel
theorem dX7_writeHolder_39 : decode cX7_writeHolder 39 = .ok (.bipush 91, 2) := by decide +kernel
theorem dX7_writeHolder_41 : decode cX7_writeHolder 41 = .ok (.invokevirtual 25, 3) := by decide +kernel
theorem dX7_writeHolder_44 : decode cX7_writeHolder 44 = .ok (.iconst 0, 1) := by decide +kernel
theorem dX7_writeHolder_45 : decode cX7_writeHolder 45 = .ok (.istore 7, 2) := by decide +kernel
theorem dX7_writeHolder_47 : decode cX7_writeHolder 47 = .ok (.iload 7, 2) := by decide +kernel
theorem dX7_writeHolder_49 : decode cX7_writeHolder 49 = .ok (.iload 5, 2) := by decide +kernel
theorem dX7_writeHolder_51 : decode cX7_writeHolder 51 = .ok (.if_icmp .ge 61, 3) := by decide +kernel
theorem dX7_writeHolder_54 : decode cX7_writeHolder 54 = .ok (.iload 7, 2) := by decide +kernel
theorem dX7_writeHolder_56 : decode cX7_writeHolder 56 = .ok (.ifCond .le 9, 3) := by decide +kernel
theorem dX7_writeHolder_59 : decode cX7_writeHolder 59 = .ok (.aload_n 0, 1) := by decide +kernel
theorem dX7_writeHolder_60 : decode cX7_writeHolder 60 = .ok (.bipush 44, 2) := by decide +kernel
theorem dX7_writeHolder_62 : decode cX7_writeHolder 62 = .ok (.invokevirtual 25, 3) := by decide +kernel
theorem dX7_writeHolder_65 : decode cX7_writeHolder 65 = .ok (.iload 4, 2) := by decide +kernel
theorem dX7_writeHolder_67 : decode cX7_writeHolder 67 = .ok (.ifCond .eq 19, 3) := by decide +kernel
theorem dX7_writeHolder_70 : decode cX7_writeHolder 70 = .ok (.aload_n 0, 1) := by decide +kernel
theorem dX7_writeHolder_71 : decode cX7_writeHolder 71 = .ok (.aload_n 1, 1) := by decide +kernel
theorem dX7_writeHolder_72 : decode cX7_writeHolder 72 = .ok (.iload 6, 2) := by decide +kernel
theorem dX7_writeHolder_74 : decode cX7_writeHolder 74 = .ok (.invokevirtual 44, 3) := by decide +kernel
theorem dX7_writeHolder_77 : decode cX7_writeHolder 77 = .ok (.invokevirtual 47, 3) := by decide +kernel
theorem dX7_writeHolder_80 : decode cX7_writeHolder 80 = .ok (.aload_n 0, 1) := by decide +kernel
theorem dX7_writeHolder_81 : decode cX7_writeHolder 81 = .ok (.bipush 58, 2) := by decide +kernel
theorem dX7_writeHolder_83 : decode cX7_writeHolder 83 = .ok (.invokevirtual 25, 3) := by decide +kernel
theorem dX7_writeHolder_86 : decode cX7_writeHolder 86 = .ok (.aload_n 0, 1) := by decide +kernel
theorem dX7_writeHolder_87 : decode cX7_writeHolder 87 = .ok (.aload_n 1, 1) := by decide +kernel
theorem dX7_writeHolder_88 : decode cX7_writeHolder 88 = .ok (.iload 6, 2) := by decide +kernel
theorem dX7_writeHolder_90 : decode cX7_writeHolder 90 = .ok (.iload_n 3, 1) := by decide +kernel
theorem dX7_writeHolder_91 : decode cX7_writeHolder 91 = .ok (.iconst 1, 1) := by decide +kernel
theorem dX7_writeHolder_92 : decode cX7_writeHolder 92 = .ok (.iadd, 1) := by decide +kernel
theorem dX7_writeHolder_93 : decode cX7_writeHolder 93 = .ok (.invokevirtual 66, 3) := by decide +kernel
theorem dX7_writeHolder_96 : decode cX7_writeHolder 96 = .ok (.aload_n 1, 1) := by decide +kernel
theorem dX7_writeHolder_97 : decode cX7_writeHolder 97 = .ok (.iload 6, 2) := by decide +kernel
theorem dX7_writeHolder_99 : decode cX7_writeHolder 99 = .ok (.invokevirtual 69, 3) := by decide +kernel
theorem dX7_writeHolder_102 : decode cX7_writeHolder 102 = .ok (.iconst 1, 1) := by decide +kernel
theorem dX7_writeHolder_103 : decode cX7_writeHolder 103 = .ok (.iadd, 1) := by decide +kernel
theorem dX7_writeHolder_104 : decode cX7_writeHolder 104 = .ok (.istore 6, 2) := by decide +kernel
theorem dX7_writeHolder_106 : decode cX7_writeHolder 106 = .ok (.iinc 7 1, 3) := by decide +kernel
theorem dX7_writeHolder_109 : decode cX7_writeHolder 109 = .ok (.goto (-62), 3) := by decide +kernel
theorem dX7_writeHolder_112 : decode cX7_writeHolder 112 = .ok (.aload_n 0, 1) := by decide +kernel
theorem dX7_writeHolder_113 : decode cX7_writeHolder 113 = .ok (.iload 4, 2) := by decide +kernel
theorem dX7_writeHolder_115 : decode cX7_writeHolder 115 = .ok (.ifCond .eq 8, 3) := by decide +kernel
theorem dX7_writeHolder_118 : decode cX7_writeHolder 118 = .ok (.bipush 125, 2) := by decide +kernel
theorem dX7_writeHolder_120 : decode cX7_writeHolder 120 = .ok (.goto 5, 3) := by decide +kernel
theorem dX7_writeHolder_123 : decode cX7_writeHolder 123 = .ok (.bipush 93, 2) := by decide +kernel
theorem dX7_writeHolder_125 : decode cX7_writeHolder 125 = .ok (.invokevirtual 25, 3) := by decide +kernel
theorem dX7_writeHolder_128 : decode cX7_writeHolder 128 = .ok (.return_, 1) := by decide +kernel
set_option maxRecDepth 100000 in
theorem ggX8_begin_X8_isLetter : GoodIn wsX8_begin wsX8_isLetter := (gi_cons 17 rfl rfl gi_nil)
set_option maxRecDepth 20000 in
theorem gX8_begin_X8_isLetter : GoodIn wsX8_begin (va_wsS RX8 40 yX8_isLetter wsX8_isLetter) := goodIn_app (goodIn_of _ (by decide +kernel)) ggX8_begin_X8_isLetter
set_option maxRecDepth 100000 in
theorem ggX8_begin_X8_findWord : GoodIn wsX8_begin wsX8_findWord := (gi_cons 21 rfl rfl (gi_cons 5 rfl rfl (gi_cons 6 rfl rfl (gi_cons 3 rfl rfl (gi_cons 7 rfl rfl (gi_cons 14 rfl rfl (gi_cons 15 rfl rfl (gi_cons 16 rfl rfl (gi_cons 17 rfl rfl (gi_cons 22 rfl rfl (gi_cons 23 rfl rfl (gi_cons 24 rfl rfl (gi_cons 25 rfl rfl (gi_cons 8 rfl rfl (gi_cons 12 rfl rfl (gi_cons 26 rfl rfl (gi_cons 27 rfl rfl (gi_cons 28 rfl rfl (gi_cons 36 rfl rfl (gi_cons 37 rfl rfl (gi_cons 38 rfl rfl (gi_cons 39 rfl rfl (gi_cons 40 rfl rfl (gi_cons 41 rfl rfl (gi_cons 42 rfl rfl (gi_cons 43 rfl rfl (gi_cons 44 rfl rfl gi_nil)))))))))))))))))))))))))))
set_option maxRecDepth 20000 in
theorem gX8_begin_X8_findWord : GoodIn wsX8_begin (wsV RX8 44 RX8 yX8_findWord wsX8_findWord) := goodIn_app (goodIn_of _ (by decide +kernel)) ggX8_begin_X8_findWord
set_option maxRecDepth 100000 in
theorem ggX8_begin_X8_isDigit : GoodIn wsX8_begin wsX8_isDigit := (gi_cons 31 rfl rfl gi_nil)
set_option maxRecDepth 20000 in
theorem gX8_begin_X8_isDigit : GoodIn wsX8_begin (va_wsS RX8 48 yX8_isDigit wsX8_isDigit) := goodIn_app (goodIn_of _ (by decide +kernel)) ggX8_begin_X8_isDigit
set_option maxRecDepth 100000 in
theorem ggX8_begin_X8_findDigits : GoodIn wsX8_begin wsX8_findDigits := (gi_cons 35 rfl rfl (gi_cons 5 rfl rfl (gi_cons 6 rfl rfl (gi_cons 3 rfl rfl (gi_cons 7 rfl rfl (gi_cons 29 rfl rfl (gi_cons 30 rfl rfl (gi_cons 16 rfl rfl (gi_cons 31 rfl rfl (gi_cons 22 rfl rfl (gi_cons 23 rfl rfl (gi_cons 24 rfl rfl (gi_cons 25 rfl rfl (gi_cons 8 rfl rfl (gi_cons 12 rfl rfl (gi_cons 26 rfl rfl (gi_cons 27 rfl rfl (gi_cons 28 rfl rfl (gi_cons 36 rfl rfl (gi_cons 37 rfl rfl (gi_cons 38 rfl rfl (gi_cons 39 rfl rfl (gi_cons 40 rfl rfl (gi_cons 41 rfl rfl (gi_cons 42 rfl rfl (gi_cons 43 rfl rfl (gi_cons 44 rfl rfl gi_nil)))))))))))))))))))))))))))
set_option maxRecDepth 20000 in
theorem gX8_begin_X8_findDigits : GoodIn wsX8_begin (wsV RX8 51 RX8 yX8_findDigits wsX8_findDigits) := goodIn_app (goodIn_of _ (by decide +kernel)) ggX8_begin_X8_findDigits
set_option maxRecDepth 100000 in
theorem ggX8_begin_X8_addToken : GoodIn wsX8_begin wsX8_addToken := (gi_cons 25 rfl rfl (gi_cons 8 rfl rfl (gi_cons 12 rfl rfl (gi_cons 26 rfl rfl (gi_cons 27 rfl rfl (gi_cons 28 rfl rfl (gi_cons 36 rfl rfl (gi_cons 37 rfl rfl (gi_cons 38 rfl rfl (gi_cons 39 rfl rfl (gi_cons 40 rfl rfl (gi_cons 41 rfl rfl (gi_cons 42 rfl rfl (gi_cons 43 rfl rfl (gi_cons 44 rfl rfl gi_nil)))))))))))))))
set_option maxRecDepth 20000 in
theorem gX8_begin_X8_addToken : GoodIn wsX8_begin (wsV RX8 54 RX8 yX8_addToken wsX8_addToken) := goodIn_app (goodIn_of _ (by decide +kernel)) ggX8_begin_X8_addToken
theorem dX8_begin_0 : decode cX8_begin 0 = .ok (.iconst 0, 1) := by decide +kernel
theorem dX8_begin_1 : decode cX8_begin 1 = .ok (.iload_n 2, 1) := by decide +kernel
theorem dX8_begin_2 : decode cX8_begin 2 = .ok (.aload_n 1, 1) := by decide +kernel
theorem dX8_begin_3 : decode cX8_begin 3 = .ok (.arraylength, 1) := by decide +kernel
theorem dX8_begin_4 : decode cX8_begin 4 = .ok (.invokestatic 28, 3) := by decide +kernel
theorem dX8_begin_7 : decode cX8_begin 7 = .ok (.invokestatic 34, 3) := by decide +kernel
theorem dX8_begin_10 : decode cX8_begin 10 = .ok (.istore_n 3, 1) := by decide +kernel
theorem dX8_begin_11 : decode cX8_begin 11 = .ok (.aload_n 0, 1) := by decide +kernel
theorem dX8_begin_12 : decode cX8_begin 12 = .ok (.iconst 0, 1) := by decide +kernel
theorem dX8_begin_13 : decode cX8_begin 13 = .ok (.putfield 37, 3) := by decide +kernel
theorem dX8_begin_16 : decode cX8_begin 16 = .ok (.iconst 0, 1) := by decide +kernel
theorem dX8_begin_17 : decode cX8_begin 17 = .ok (.istore 4, 2) := by decide +kernel
theorem dX8_begin_19 : decode cX8_begin 19 = .ok (.iconst 0, 1) := by decide +kernel
theorem dX8_begin_20 : decode cX8_begin 20 = .ok (.istore 5, 2) := by decide +kernel
theorem dX8_begin_22 : decode cX8_begin 22 = .ok (.iload 5, 2) := by decide +kernel
theorem dX8_begin_24 : decode cX8_begin 24 = .ok (.iload_n 3, 1) := by decide +kernel
theorem dX8_begin_25 : decode cX8_begin 25 = .ok (.if_icmp .gt 161, 3) := by decide +kernel
theorem dX8_begin_28 : decode cX8_begin 28 = .ok (.iload 4, 2) := by decide +kernel
theorem dX8_begin_30 : decode cX8_begin 30 = .ok (.iload_n 3, 1) := by decide +kernel
theorem dX8_begin_31 : decode cX8_begin 31 = .ok (.if_icmp .ge 155, 3) := by decide +kernel
theorem dX8_begin_34 : decode cX8_begin 34 = .ok (.aload_n 1, 1) := by decide +kernel
theorem dX8_begin_35 : decode cX8_begin 35 = .ok (.iload 4, 2) := by decide +kernel
theorem dX8_begin_37 : decode cX8_begin 37 = .ok (.iaload, 1) := by decide +kernel
theorem dX8_begin_38 : decode cX8_begin 38 = .ok (.istore 6, 2) := by decide +kernel
theorem dX8_begin_40 : decode cX8_begin 40 = .ok (.iload 6, 2) := by decide +kernel
theorem dX8_begin_42 : decode cX8_begin 42 = .ok (.bipush 32, 2) := by decide +kernel
theorem dX8_begin_44 : decode cX8_begin 44 = .ok (.if_icmp .eq 10, 3) := by decide +kernel
theorem dX8_begin_47 : decode cX8_begin 47 = .ok (.iload 6, 2) := by decide +kernel
theorem dX8_begin_49 : decode cX8_begin 49 = .ok (.bipush 10, 2) := by decide +kernel
theorem dX8_begin_51 : decode cX8_begin 51 = .ok (.if_icmp .ne 9, 3) := by decide +kernel
theorem dX8_begin_54 : decode cX8_begin 54 = .ok (.iinc 4 1, 3) := by decide +kernel
theorem dX8_begin_57 : decode cX8_begin 57 = .ok (.goto 123, 3) := by decide +kernel
theorem dX8_begin_60 : decode cX8_begin 60 = .ok (.iload 6, 2) := by decide +kernel
theorem dX8_begin_62 : decode cX8_begin 62 = .ok (.invokestatic 40, 3) := by decide +kernel
theorem dX8_begin_65 : decode cX8_begin 65 = .ok (.ifCond .eq 16, 3) := by decide +kernel
theorem dX8_begin_68 : decode cX8_begin 68 = .ok (.aload_n 0, 1) := by decide +kernel
theorem dX8_begin_69 : decode cX8_begin 69 = .ok (.aload_n 1, 1) := by decide +kernel
theorem dX8_begin_70 : decode cX8_begin 70 = .ok (.iload 4, 2) := by decide +kernel
theorem dX8_begin_72 : decode cX8_begin 72 = .ok (.iload_n 3, 1) := by decide +kernel
theorem dX8_begin_73 : decode cX8_begin 73 = .ok (.invokevirtual 44, 3) := by decide +kernel
theorem dX8_begin_76 : decode cX8_begin 76 = .ok (.istore 4, 2) := by decide +kernel
theorem dX8_begin_78 : decode cX8_begin 78 = .ok (.goto 102, 3) := by decide +kernel
theorem dX8_begin_81 : decode cX8_begin 81 = .ok (.iload 6, 2) := by decide +kernel
theorem dX8_begin_83 : decode cX8_begin 83 = .ok (.invokestatic 48, 3) := by decide +kernel
theorem dX8_begin_86 : decode cX8_begin 86 = .ok (.ifCond .eq 16, 3) := by decide +kernel
theorem dX8_begin_89 : decode cX8_begin 89 = .ok (.aload_n 0, 1) := by decide +kernel
theorem dX8_begin_90 : decode cX8_begin 90 = .ok (.aload_n 1, 1) := by decide +kernel
theorem dX8_begin_91 : decode cX8_begin 91 = .ok (.iload 4, 2) := by decide +kernel
theorem dX8_begin_93 : decode cX8_begin 93 = .ok (.iload_n 3, 1) := by decide +kernel
theorem dX8_begin_94 : decode cX8_begin 94 = .ok (.invokevirtual 51, 3) := by decide +kernel
theorem dX8_begin_97 : decode cX8_begin 97 = .ok (.istore 4, 2) := by decide +kernel
theorem dX8_begin_99 : decode cX8_begin 99 = .ok (.goto 81, 3) := by decide +kernel
theorem dX8_begin_102 : decode cX8_begin 102 = .ok (.iload 6, 2) := by decide +kernel
theorem dX8_begin_104 : decode cX8_begin 104 = .ok (.bipush 46, 2) := by decide +kernel
theorem dX8_begin_106 : decode cX8_begin 106 = .ok (.if_icmp .ne 26, 3) := by decide +kernel
theorem dX8_begin_109 : decode cX8_begin 109 = .ok (.iload 4, 2) := by decide +kernel
theorem dX8_begin_111 : decode cX8_begin 111 = .ok (.iconst 1, 1) := by decide +kernel
theorem dX8_begin_112 : decode cX8_begin 112 = .ok (.iadd, 1) := by decide +kernel
theorem dX8_begin_113 : decode cX8_begin 113 = .ok (.iload_n 3, 1) := by decide +kernel
theorem dX8_begin_114 : decode cX8_begin 114 = .ok (.if_icmp .ge 18, 3) := by decide +kernel
theorem dX8_begin_117 : decode cX8_begin 117 = .ok (.aload_n 1, 1) := by decide +kernel
theorem dX8_begin_118 : decode cX8_begin 118 = .ok (.iload 4, 2) := by decide +kernel
theorem dX8_begin_120 : decode cX8_begin 120 = .ok (.iconst 1, 1) := by decide +kernel
theorem dX8_begin_121 : decode cX8_begin 121 = .ok (.iadd, 1) := by decide +kernel
theorem dX8_begin_122 : decode cX8_begin 122 = .ok (.iaload, 1) := by decide +kernel
theorem dX8_begin_123 : decode cX8_begin 123 = .ok (.bipush 46, 2) := by decide +kernel
theorem dX8_begin_125 : decode cX8_begin 125 = .ok (.if_icmp .ne 7, 3) := by decide +kernel
theorem dX8_begin_128 : decode cX8_begin 128 = .ok (.iconst 1, 1) := by decide +kernel
theorem dX8_begin_129 : decode cX8_begin 129 = .ok (.goto 4, 3) := by decide +kernel
theorem dX8_begin_132 : decode cX8_begin 132 = .ok (.iconst 0, 1) := by decide +kernel
theorem dX8_begin_133 : decode cX8_begin 133 = .ok (.istore 7, 2) := by decide +kernel
theorem dX8_begin_135 : decode cX8_begin 135 = .ok (.aload_n 0, 1) := by decide +kernel
theorem dX8_begin_136 : decode cX8_begin 136 = .ok (.iload 7, 2) := by decide +kernel
theorem dX8_begin_138 : decode cX8_begin 138 = .ok (.ifCond .eq 9, 3) := by decide +kernel
theorem dX8_begin_141 : decode cX8_begin 141 = .ok (.sipush 258, 3) := by decide +kernel
theorem dX8_begin_144 : decode cX8_begin 144 = .ok (.goto 5, 3) := by decide +kernel
theorem dX8_begin_147 : decode cX8_begin 147 = .ok (.iload 6, 2) := by decide +kernel
theorem dX8_begin_149 : decode cX8_begin 149 = .ok (.iload 4, 2) := by decide +kernel
theorem dX8_begin_151 : decode cX8_begin 151 = .ok (.iconst 0, 1) := by decide +kernel
theorem dX8_begin_152 : decode cX8_begin 152 = .ok (.iload 7, 2) := by decide +kernel
theorem dX8_begin_154 : decode cX8_begin 154 = .ok (.ifCond .eq 7, 3) := by decide +kernel
theorem dX8_begin_157 : decode cX8_begin 157 = .ok (.iconst 2, 1) := by decide +kernel
theorem dX8_begin_158 : decode cX8_begin 158 = .ok (.goto 4, 3) := by decide +kernel
theorem dX8_begin_161 : decode cX8_begin 161 = .ok (.iconst 1, 1) := by decide +kernel
theorem dX8_begin_162 : decode cX8_begin 162 = .ok (.invokevirtual 54, 3) := by decide +kernel
theorem dX8_begin_165 : decode cX8_begin 165 = .ok (.iload 4, 2) := by decide +kernel
theorem dX8_begin_167 : decode cX8_begin 167 = .ok (.iload 7, 2) := by decide +kernel
theorem dX8_begin_169 : decode cX8_begin 169 = .ok (.ifCond .eq 7, 3) := by decide +kernel
theorem dX8_begin_172 : decode cX8_begin 172 = .ok (.iconst 2, 1) := by decide +kernel
theorem dX8_begin_173 : decode cX8_begin 173 = .ok (.goto 4, 3) := by decide +kernel
theorem dX8_begin_176 : decode cX8_begin 176 = .ok (.iconst 1, 1) := by decide +kernel
theorem dX8_begin_177 : decode cX8_begin 177 = .ok (.iadd, 1) := by decide +kernel
theorem dX8_begin_178 : decode cX8_begin 178 = .ok (.istore 4, 2) := by decide +kernel
theorem dX8_begin_180 : decode cX8_begin 180 = .ok (.iinc 5 1, 3) := by decide +kernel
theorem dX8_begin_183 : decode cX8_begin 183 = .ok (.goto (-161), 3) := by decide +kernel
theorem dX8_begin_186 : decode cX8_begin 186 = .ok (.aload_n 0, 1) := by decide +kernel
theorem dX8_begin_187 : decode cX8_begin 187 = .ok (.sipush 259, 3) := by decide +kernel
theorem dX8_begin_190 : decode cX8_begin 190 = .ok (.iload_n 3, 1) := by decide +kernel
theorem dX8_begin_191 : decode cX8_begin 191 = .ok (.iconst 0, 1) := by decide +kernel
theorem dX8_begin_192 : decode cX8_begin 192 = .ok (.iconst 0, 1) := by decide +kernel
theorem dX8_begin_193 : decode cX8_begin 193 = .ok (.invokevirtual 54, 3) := by decide +kernel
theorem dX8_begin_196 : decode cX8_begin 196 = .ok (.aload_n 0, 1) := by decide +kernel
theorem dX8_begin_197 : decode cX8_begin 197 = .ok (.iconst 0, 1) := by decide +kernel
theorem dX8_begin_198 : decode cX8_begin 198 = .ok (.putfield 58, 3) := by decide +kernel
theorem dX8_begin_201 : decode cX8_begin 201 = .ok (.aload_n 0, 1) := by decide +kernel
theorem dX8_begin_202 : decode cX8_begin 202 = .ok (.iconst (-1), 1) := by decide +kernel
theorem dX8_begin_203 : decode cX8_begin 203 = .ok (.putfield 24, 3) := by decide +kernel
theorem dX8_begin_206 : decode cX8_begin 206 = .ok (.aload_n 0, 1) := by decide +kernel
theorem dX8_begin_207 : decode cX8_begin 207 = .ok (.iconst 0, 1) := by decide +kernel
theorem dX8_begin_208 : decode cX8_begin 208 = .ok (.putfield 61, 3) := by decide +kernel
theorem dX8_begin_211 : decode cX8_begin 211 = .ok (.aload_n 0, 1) := by decide +kernel
theorem dX8_begin_212 : decode cX8_begin 212 = .ok (.aload_n 0, 1) := by decide +kernel
theorem dX8_begin_213 : decode cX8_begin 213 = .ok (.getfield 11, 3) := by decide +kernel
theorem dX8_begin_216 : decode cX8_begin 216 = .ok (.iconst 0, 1) := by decide +kernel
theorem dX8_begin_217 : decode cX8_begin 217 = .ok (.iaload, 1) := by decide +kernel
theorem dX8_begin_218 : decode cX8_begin 218 = .ok (.putfield 64, 3) := by decide +kernel
theorem dX8_begin_221 : decode cX8_begin 221 = .ok (.return_, 1) := by decide +kernel
theorem dX8_addToken_0 : decode cX8_addToken 0 = .ok (.aload_n 0, 1) := by decide +kernel
theorem dX8_addToken_1 : decode cX8_addToken 1 = .ok (.getfield 37, 3) := by decide +kernel
theorem dX8_addToken_4 : decode cX8_addToken 4 = .ok (.ifCond .lt 64, 3) := by decide +kernel
theorem dX8_addToken_7 : decode cX8_addToken 7 = .ok (.aload_n 0, 1) := by decide +kernel
theorem dX8_addToken_8 : decode cX8_addToken 8 = .ok (.getfield 37, 3) := by decide +kernel
theorem dX8_addToken_11 : decode cX8_addToken 11 = .ok (.sipush 401, 3) := by decide +kernel
theorem dX8_addToken_14 : decode cX8_addToken 14 = .ok (.if_icmp .ge 54, 3) := by decide +kernel
theorem dX8_addToken_17 : decode cX8_addToken 17 = .ok (.aload_n 0, 1) := by decide +kernel
theorem dX8_addToken_18 : decode cX8_addToken 18 = .ok (.getfield 11, 3) := by decide +kernel
theorem dX8_addToken_21 : decode cX8_addToken 21 = .ok (.aload_n 0, 1) := by decide +kernel
theorem dX8_addToken_22 : decode cX8_addToken 22 = .ok (.getfield 37, 3) := by decide +kernel
theorem dX8_addToken_25 : decode cX8_addToken 25 = .ok (.iload_n 1, 1) := by decide +kernel
theorem dX8_addToken_26 : decode cX8_addToken 26 = .ok (.iastore, 1) := by decide +kernel
theorem dX8_addToken_27 : decode cX8_addToken 27 = .ok (.aload_n 0, 1) := by decide +kernel
theorem dX8_addToken_28 : decode cX8_addToken 28 = .ok (.getfield 15, 3) := by decide +kernel
theorem dX8_addToken_31 : decode cX8_addToken 31 = .ok (.aload_n 0, 1) := by decide +kernel
theorem dX8_addToken_32 : decode cX8_addToken 32 = .ok (.getfield 37, 3) := by decide +kernel
theorem dX8_addToken_35 : decode cX8_addToken 35 = .ok (.iload_n 2, 1) := by decide +kernel
theorem dX8_addToken_36 : decode cX8_addToken 36 = .ok (.iastore, 1) := by decide +kernel
theorem dX8_addToken_37 : decode cX8_addToken 37 = .ok (.aload_n 0, 1) := by decide +kernel
theorem dX8_addToken_38 : decode cX8_addToken 38 = .ok (.getfield 18, 3) := by decide +kernel
theorem dX8_addToken_41 : decode cX8_addToken 41 = .ok (.aload_n 0, 1) := by decide +kernel
theorem dX8_addToken_42 : decode cX8_addToken 42 = .ok (.getfield 37, 3) := by decide +kernel
theorem dX8_addToken_45 : decode cX8_addToken 45 = .ok (.iload_n 3, 1) := by decide +kernel
theorem dX8_addToken_46 : decode cX8_addToken 46 = .ok (.iastore, 1) := by decide +kernel
theorem dX8_addToken_47 : decode cX8_addToken 47 = .ok (.aload_n 0, 1) := by decide +kernel
theorem dX8_addToken_48 : decode cX8_addToken 48 = .ok (.getfield 21, 3) := by decide +kernel
theorem dX8_addToken_51 : decode cX8_addToken 51 = .ok (.aload_n 0, 1) := by decide +kernel
theorem dX8_addToken_52 : decode cX8_addToken 52 = .ok (.getfield 37, 3) := by decide +kernel
theorem dX8_addToken_55 : decode cX8_addToken 55 = .ok (.iload 4, 2) := by decide +kernel
theorem dX8_addToken_57 : decode cX8_addToken 57 = .ok (.iastore, 1) := by decide +kernel
theorem dX8_addToken_58 : decode cX8_addToken 58 = .ok (.aload_n 0, 1) := by decide +kernel
theorem dX8_addToken_59 : decode cX8_addToken 59 = .ok (.dup, 1) := by decide +kernel
theorem dX8_addToken_60 : decode cX8_addToken 60 = .ok (.getfield 37, 3) := by decide +kernel
theorem dX8_addToken_63 : decode cX8_addToken 63 = .ok (.iconst 1, 1) := by decide +kernel
theorem dX8_addToken_64 : decode cX8_addToken 64 = .ok (.iadd, 1) := by decide +kernel
theorem dX8_addToken_65 : decode cX8_addToken 65 = .ok (.putfield 37, 3) := by decide +kernel
theorem dX8_addToken_68 : decode cX8_addToken 68 = .ok (.return_, 1) := by decide +kernel
set_option maxRecDepth 100000 in
theorem ggX8_findWord_X8_isLetter : GoodIn wsX8_findWord wsX8_isLetter := (gi_cons 8 rfl rfl gi_nil)
set_option maxRecDepth 20000 in
theorem gX8_findWord_X8_isLetter : GoodIn wsX8_findWord (va_wsS RX8 40 yX8_isLetter wsX8_isLetter) := goodIn_app (goodIn_of _ (by decide +kernel)) ggX8_findWord_X8_isLetter
set_option maxRecDepth 100000 in
theorem ggX8_findWord_X8_addToken : GoodIn wsX8_findWord wsX8_addToken := (gi_cons 12 rfl rfl (gi_cons 13 rfl rfl (gi_cons 14 rfl rfl (gi_cons 15 rfl rfl (gi_cons 16 rfl rfl (gi_cons 17 rfl rfl (gi_cons 18 rfl rfl (gi_cons 19 rfl rfl (gi_cons 20 rfl rfl (gi_cons 21 rfl rfl (gi_cons 22 rfl rfl (gi_cons 23 rfl rfl (gi_cons 24 rfl rfl (gi_cons 25 rfl rfl (gi_cons 26 rfl rfl gi_nil)))))))))))))))
set_option maxRecDepth 20000 in
theorem gX8_findWord_X8_addToken : GoodIn wsX8_findWord (wsV RX8 54 RX8 yX8_addToken wsX8_addToken) := goodIn_app (goodIn_of _ (by decide +kernel)) ggX8_findWord_X8_addToken
theorem dX8_findWord_0 : decode cX8_findWord 0 = .ok (.iconst 0, 1) := by decide +kernel
theorem dX8_findWord_1 : decode cX8_findWord 1 = .ok (.istore 4, 2) := by decide +kernel
theorem dX8_findWord_3 : decode cX8_findWord 3 = .ok (.iconst 0, 1) := by decide +kernel
theorem dX8_findWord_4 : decode cX8_findWord 4 = .ok (.iload_n 2, 1) := by decide +kernel
theorem dX8_findWord_5 : decode cX8_findWord 5 = .ok (.invokestatic 34, 3) := by decide +kernel
theorem dX8_findWord_8 : decode cX8_findWord 8 = .ok (.istore 5, 2) := by decide +kernel
theorem dX8_findWord_10 : decode cX8_findWord 10 = .ok (.iload 5, 2) := by decide +kernel
theorem dX8_findWord_12 : decode cX8_findWord 12 = .ok (.iload_n 3, 1) := by decide +kernel
theorem dX8_findWord_13 : decode cX8_findWord 13 = .ok (.if_icmp .ge 42, 3) := by decide +kernel
theorem dX8_findWord_16 : decode cX8_findWord 16 = .ok (.iload 5, 2) := by decide +kernel
theorem dX8_findWord_18 : decode cX8_findWord 18 = .ok (.aload_n 1, 1) := by decide +kernel
theorem dX8_findWord_19 : decode cX8_findWord 19 = .ok (.arraylength, 1) := by decide +kernel
theorem dX8_findWord_20 : decode cX8_findWord 20 = .ok (.if_icmp .ge 35, 3) := by decide +kernel
theorem dX8_findWord_23 : decode cX8_findWord 23 = .ok (.aload_n 1, 1) := by decide +kernel
theorem dX8_findWord_24 : decode cX8_findWord 24 = .ok (.iload 5, 2) := by decide +kernel
theorem dX8_findWord_26 : decode cX8_findWord 26 = .ok (.iaload, 1) := by decide +kernel
theorem dX8_findWord_27 : decode cX8_findWord 27 = .ok (.invokestatic 40, 3) := by decide +kernel
theorem dX8_findWord_30 : decode cX8_findWord 30 = .ok (.ifCond .eq 25, 3) := by decide +kernel
theorem dX8_findWord_33 : decode cX8_findWord 33 = .ok (.iload 4, 2) := by decide +kernel
theorem dX8_findWord_35 : decode cX8_findWord 35 = .ok (.iconst 5, 1) := by decide +kernel
theorem dX8_findWord_36 : decode cX8_findWord 36 = .ok (.ishl, 1) := by decide +kernel
theorem dX8_findWord_37 : decode cX8_findWord 37 = .ok (.aload_n 1, 1) := by decide +kernel
theorem dX8_findWord_38 : decode cX8_findWord 38 = .ok (.iload 5, 2) := by decide +kernel
theorem dX8_findWord_40 : decode cX8_findWord 40 = .ok (.iaload, 1) := by decide +kernel
theorem dX8_findWord_41 : decode cX8_findWord 41 = .ok (.bipush 97, 2) := by decide +kernel
theorem dX8_findWord_43 : decode cX8_findWord 43 = .ok (.isub, 1) := by decide +kernel
theorem dX8_findWord_44 : decode cX8_findWord 44 = .ok (.iconst 1, 1) := by decide +kernel
theorem dX8_findWord_45 : decode cX8_findWord 45 = .ok (.iadd, 1) := by decide +kernel
theorem dX8_findWord_46 : decode cX8_findWord 46 = .ok (.ior, 1) := by decide +kernel
theorem dX8_findWord_47 : decode cX8_findWord 47 = .ok (.istore 4, 2) := by decide +kernel
theorem dX8_findWord_49 : decode cX8_findWord 49 = .ok (.iinc 5 1, 3) := by decide +kernel
theorem dX8_findWord_52 : decode cX8_findWord 52 = .ok (.goto (-42), 3) := by decide +kernel
theorem dX8_findWord_55 : decode cX8_findWord 55 = .ok (.aload_n 0, 1) := by decide +kernel
theorem dX8_findWord_56 : decode cX8_findWord 56 = .ok (.sipush 256, 3) := by decide +kernel
theorem dX8_findWord_59 : decode cX8_findWord 59 = .ok (.iload_n 2, 1) := by decide +kernel
theorem dX8_findWord_60 : decode cX8_findWord 60 = .ok (.iload 4, 2) := by decide +kernel
theorem dX8_findWord_62 : decode cX8_findWord 62 = .ok (.iload 5, 2) := by decide +kernel
theorem dX8_findWord_64 : decode cX8_findWord 64 = .ok (.iload_n 2, 1) := by decide +kernel
theorem dX8_findWord_65 : decode cX8_findWord 65 = .ok (.isub, 1) := by decide +kernel
theorem dX8_findWord_66 : decode cX8_findWord 66 = .ok (.invokevirtual 54, 3) := by decide +kernel
theorem dX8_findWord_69 : decode cX8_findWord 69 = .ok (.iload 5, 2) := by decide +kernel
theorem dX8_findWord_71 : decode cX8_findWord 71 = .ok (.ireturn, 1) := by decide +kernel
set_option maxRecDepth 100000 in
theorem ggX8_findDigits_X8_isDigit : GoodIn wsX8_findDigits wsX8_isDigit := (gi_cons 8 rfl rfl gi_nil)
set_option maxRecDepth 20000 in
theorem gX8_findDigits_X8_isDigit : GoodIn wsX8_findDigits (va_wsS RX8 48 yX8_isDigit wsX8_isDigit) := goodIn_app (goodIn_of _ (by decide +kernel)) ggX8_findDigits_X8_isDigit
set_option maxRecDepth 100000 in
theorem ggX8_findDigits_X8_addToken : GoodIn wsX8_findDigits wsX8_addToken := (gi_cons 12 rfl rfl (gi_cons 13 rfl rfl (gi_cons 14 rfl rfl (gi_cons 15 rfl rfl (gi_cons 16 rfl rfl (gi_cons 17 rfl rfl (gi_cons 18 rfl rfl (gi_cons 19 rfl rfl (gi_cons 20 rfl rfl (gi_cons 21 rfl rfl (gi_cons 22 rfl rfl (gi_cons 23 rfl rfl (gi_cons 24 rfl rfl (gi_cons 25 rfl rfl (gi_cons 26 rfl rfl gi_nil)))))))))))))))
set_option maxRecDepth 20000 in
theorem gX8_findDigits_X8_addToken : GoodIn wsX8_findDigits (wsV RX8 54 RX8 yX8_addToken wsX8_addToken) := goodIn_app (goodIn_of _ (by decide +kernel)) ggX8_findDigits_X8_addToken
theorem dX8_findDigits_0 : decode cX8_findDigits 0 = .ok (.iconst 0, 1) := by decide +kernel
theorem dX8_findDigits_1 : decode cX8_findDigits 1 = .ok (.istore 4, 2) := by decide +kernel
theorem dX8_findDigits_3 : decode cX8_findDigits 3 = .ok (.iconst 0, 1) := by decide +kernel
theorem dX8_findDigits_4 : decode cX8_findDigits 4 = .ok (.iload_n 2, 1) := by decide +kernel
theorem dX8_findDigits_5 : decode cX8_findDigits 5 = .ok (.invokestatic 34, 3) := by decide +kernel
theorem dX8_findDigits_8 : decode cX8_findDigits 8 = .ok (.istore 5, 2) := by decide +kernel
theorem dX8_findDigits_10 : decode cX8_findDigits 10 = .ok (.iload 5, 2) := by decide +kernel
theorem dX8_findDigits_12 : decode cX8_findDigits 12 = .ok (.iload_n 3, 1) := by decide +kernel
theorem dX8_findDigits_13 : decode cX8_findDigits 13 = .ok (.if_icmp .ge 41, 3) := by decide +kernel
theorem dX8_findDigits_16 : decode cX8_findDigits 16 = .ok (.iload 5, 2) := by decide +kernel
theorem dX8_findDigits_18 : decode cX8_findDigits 18 = .ok (.aload_n 1, 1) := by decide +kernel
theorem dX8_findDigits_19 : decode cX8_findDigits 19 = .ok (.arraylength, 1) := by decide +kernel
theorem dX8_findDigits_20 : decode cX8_findDigits 20 = .ok (.if_icmp .ge 34, 3) := by decide +kernel
theorem dX8_findDigits_23 : decode cX8_findDigits 23 = .ok (.aload_n 1, 1) := by decide +kernel
theorem dX8_findDigits_24 : decode cX8_findDigits 24 = .ok (.iload 5, 2) := by decide +kernel
theorem dX8_findDigits_26 : decode cX8_findDigits 26 = .ok (.iaload, 1) := by decide +kernel
theorem dX8_findDigits_27 : decode cX8_findDigits 27 = .ok (.invokestatic 48, 3) := by decide +kernel
theorem dX8_findDigits_30 : decode cX8_findDigits 30 = .ok (.ifCond .eq 24, 3) := by decide +kernel
theorem dX8_findDigits_33 : decode cX8_findDigits 33 = .ok (.iload 4, 2) := by decide +kernel
theorem dX8_findDigits_35 : decode cX8_findDigits 35 = .ok (.bipush 10, 2) := by decide +kernel
theorem dX8_findDigits_37 : decode cX8_findDigits 37 = .ok (.imul, 1) := by decide +kernel
theorem dX8_findDigits_38 : decode cX8_findDigits 38 = .ok (.aload_n 1, 1) := by decide +kernel
theorem dX8_findDigits_39 : decode cX8_findDigits 39 = .ok (.iload 5, 2) := by decide +kernel
theorem dX8_findDigits_41 : decode cX8_findDigits 41 = .ok (.iaload, 1) := by decide +kernel
theorem dX8_findDigits_42 : decode cX8_findDigits 42 = .ok (.iadd, 1) := by decide +kernel
theorem dX8_findDigits_43 : decode cX8_findDigits 43 = .ok (.bipush 48, 2) := by decide +kernel
theorem dX8_findDigits_45 : decode cX8_findDigits 45 = .ok (.isub, 1) := by decide +kernel
theorem dX8_findDigits_46 : decode cX8_findDigits 46 = .ok (.istore 4, 2) := by decide +kernel
theorem dX8_findDigits_48 : decode cX8_findDigits 48 = .ok (.iinc 5 1, 3) := by decide +kernel
theorem dX8_findDigits_51 : decode cX8_findDigits 51 = .ok (.goto (-41), 3) := by decide +kernel
theorem dX8_findDigits_54 : decode cX8_findDigits 54 = .ok (.aload_n 0, 1) := by decide +kernel
theorem dX8_findDigits_55 : decode cX8_findDigits 55 = .ok (.sipush 257, 3) := by decide +kernel
theorem dX8_findDigits_58 : decode cX8_findDigits 58 = .ok (.iload_n 2, 1) := by decide +kernel
theorem dX8_findDigits_59 : decode cX8_findDigits 59 = .ok (.iload 4, 2) := by decide +kernel
theorem dX8_findDigits_61 : decode cX8_findDigits 61 = .ok (.iload 5, 2) := by decide +kernel
theorem dX8_findDigits_63 : decode cX8_findDigits 63 = .ok (.iload_n 2, 1) := by decide +kernel
theorem dX8_findDigits_64 : decode cX8_findDigits 64 = .ok (.isub, 1) := by decide +kernel
theorem dX8_findDigits_65 : decode cX8_findDigits 65 = .ok (.invokevirtual 54, 3) := by decide +kernel
theorem dX8_findDigits_68 : decode cX8_findDigits 68 = .ok (.iload 5, 2) := by decide +kernel
theorem dX8_findDigits_70 : decode cX8_findDigits 70 = .ok (.ireturn, 1) := by decide +kernel
theorem dX8_isLetter_0 : decode cX8_isLetter 0 = .ok (.iload_n 0, 1) := by decide +kernel
theorem dX8_isLetter_1 : decode cX8_isLetter 1 = .ok (.bipush 97, 2) := by decide +kernel
theorem dX8_isLetter_3 : decode cX8_isLetter 3 = .ok (.if_icmp .lt 13, 3) := by decide +kernel
theorem dX8_isLetter_6 : decode cX8_isLetter 6 = .ok (.iload_n 0, 1) := by decide +kernel
theorem dX8_isLetter_7 : decode cX8_isLetter 7 = .ok (.bipush 122, 2) := by decide +kernel
theorem dX8_isLetter_9 : decode cX8_isLetter 9 = .ok (.if_icmp .gt 7, 3) := by decide +kernel
theorem dX8_isLetter_12 : decode cX8_isLetter 12 = .ok (.iconst 1, 1) := by decide +kernel
theorem dX8_isLetter_13 : decode cX8_isLetter 13 = .ok (.goto 4, 3) := by decide +kernel
theorem dX8_isLetter_16 : decode cX8_isLetter 16 = .ok (.iconst 0, 1) := by decide +kernel
theorem dX8_isLetter_17 : decode cX8_isLetter 17 = .ok (.ireturn, 1) := by decide +kernel
theorem dX8_isDigit_0 : decode cX8_isDigit 0 = .ok (.iload_n 0, 1) := by decide +kernel
theorem dX8_isDigit_1 : decode cX8_isDigit 1 = .ok (.bipush 48, 2) := by decide +kernel
theorem dX8_isDigit_3 : decode cX8_isDigit 3 = .ok (.if_icmp .lt 13, 3) := by decide +kernel
theorem dX8_isDigit_6 : decode cX8_isDigit 6 = .ok (.iload_n 0, 1) := by decide +kernel
theorem dX8_isDigit_7 : decode cX8_isDigit 7 = .ok (.bipush 57, 2) := by decide +kernel
theorem dX8_isDigit_9 : decode cX8_isDigit 9 = .ok (.if_icmp .gt 7, 3) := by decide +kernel
theorem dX8_isDigit_12 : decode cX8_isDigit 12 = .ok (.iconst 1, 1) := by decide +kernel
theorem dX8_isDigit_13 : decode cX8_isDigit 13 = .ok (.goto 4, 3) := by decide +kernel
theorem dX8_isDigit_16 : decode cX8_isDigit 16 = .ok (.iconst 0, 1) := by decide +kernel
theorem dX8_isDigit_17 : decode cX8_isDigit 17 = .ok (.ireturn, 1) := by decide +kernel
theorem dX8_fail_0 : decode cX8_fail 0 = .ok (.aload_n 0, 1) := by decide +kernel
theorem dX8_fail_1 : decode cX8_fail 1 = .ok (.getfield 58, 3) := by decide +kernel
theorem dX8_fail_4 : decode cX8_fail 4 = .ok (.ifCond .ne 38, 3) := by decide +kernel
theorem dX8_fail_7 : decode cX8_fail 7 = .ok (.aload_n 0, 1) := by decide +kernel
theorem dX8_fail_8 : decode cX8_fail 8 = .ok (.getfield 61, 3) := by decide +kernel
theorem dX8_fail_11 : decode cX8_fail 11 = .ok (.ifCond .lt 31, 3) := by decide +kernel
theorem dX8_fail_14 : decode cX8_fail 14 = .ok (.aload_n 0, 1) := by decide +kernel
theorem dX8_fail_15 : decode cX8_fail 15 = .ok (.getfield 61, 3) := by decide +kernel
theorem dX8_fail_18 : decode cX8_fail 18 = .ok (.sipush 401, 3) := by decide +kernel
theorem dX8_fail_21 : decode cX8_fail 21 = .ok (.if_icmp .ge 21, 3) := by decide +kernel
theorem dX8_fail_24 : decode cX8_fail 24 = .ok (.aload_n 0, 1) := by decide +kernel
theorem dX8_fail_25 : decode cX8_fail 25 = .ok (.iload_n 1, 1) := by decide +kernel
theorem dX8_fail_26 : decode cX8_fail 26 = .ok (.putfield 58, 3) := by decide +kernel
theorem dX8_fail_29 : decode cX8_fail 29 = .ok (.aload_n 0, 1) := by decide +kernel
theorem dX8_fail_30 : decode cX8_fail 30 = .ok (.aload_n 0, 1) := by decide +kernel
theorem dX8_fail_31 : decode cX8_fail 31 = .ok (.getfield 15, 3) := by decide +kernel
theorem dX8_fail_34 : decode cX8_fail 34 = .ok (.aload_n 0, 1) := by decide +kernel
theorem dX8_fail_35 : decode cX8_fail 35 = .ok (.getfield 61, 3) := by decide +kernel
theorem dX8_fail_38 : decode cX8_fail 38 = .ok (.iaload, 1) := by decide +kernel
theorem dX8_fail_39 : decode cX8_fail 39 = .ok (.putfield 24, 3) := by decide +kernel
theorem dX8_fail_42 : decode cX8_fail 42 = .ok (.aload_n 0, 1) := by decide +kernel
theorem dX8_fail_43 : decode cX8_fail 43 = .ok (.sipush 260, 3) := by decide +kernel
theorem dX8_fail_46 : decode cX8_fail 46 = .ok (.putfield 64, 3) := by decide +kernel
theorem dX8_fail_49 : decode cX8_fail 49 = .ok (.return_, 1) := by decide +kernel
theorem dX8_step_0 : decode cX8_step 0 = .ok (.aload_n 0, 1) := by decide +kernel
theorem dX8_step_1 : decode cX8_step 1 = .ok (.getfield 58, 3) := by decide +kernel
theorem dX8_step_4 : decode cX8_step 4 = .ok (.ifCond .ne 58, 3) := by decide +kernel
theorem dX8_step_7 : decode cX8_step 7 = .ok (.aload_n 0, 1) := by decide +kernel
theorem dX8_step_8 : decode cX8_step 8 = .ok (.getfield 61, 3) := by decide +kernel
theorem dX8_step_11 : decode cX8_step 11 = .ok (.ifCond .lt 51, 3) := by decide +kernel
theorem dX8_step_14 : decode cX8_step 14 = .ok (.aload_n 0, 1) := by decide +kernel
theorem dX8_step_15 : decode cX8_step 15 = .ok (.getfield 61, 3) := by decide +kernel
theorem dX8_step_18 : decode cX8_step 18 = .ok (.iconst 1, 1) := by decide +kernel
theorem dX8_step_19 : decode cX8_step 19 = .ok (.iadd, 1) := by decide +kernel
theorem dX8_step_20 : decode cX8_step 20 = .ok (.aload_n 0, 1) := by decide +kernel
theorem dX8_step_21 : decode cX8_step 21 = .ok (.getfield 37, 3) := by decide +kernel
theorem dX8_step_24 : decode cX8_step 24 = .ok (.if_icmp .ge 38, 3) := by decide +kernel
theorem dX8_step_27 : decode cX8_step 27 = .ok (.aload_n 0, 1) := by decide +kernel
theorem dX8_step_28 : decode cX8_step 28 = .ok (.getfield 61, 3) := by decide +kernel
theorem dX8_step_31 : decode cX8_step 31 = .ok (.iconst 1, 1) := by decide +kernel
theorem dX8_step_32 : decode cX8_step 32 = .ok (.iadd, 1) := by decide +kernel
theorem dX8_step_33 : decode cX8_step 33 = .ok (.sipush 401, 3) := by decide +kernel
theorem dX8_step_36 : decode cX8_step 36 = .ok (.if_icmp .ge 26, 3) := by decide +kernel
theorem dX8_step_39 : decode cX8_step 39 = .ok (.aload_n 0, 1) := by decide +kernel
theorem dX8_step_40 : decode cX8_step 40 = .ok (.dup, 1) := by decide +kernel
theorem dX8_step_41 : decode cX8_step 41 = .ok (.getfield 61, 3) := by decide +kernel
theorem dX8_step_44 : decode cX8_step 44 = .ok (.iconst 1, 1) := by decide +kernel
theorem dX8_step_45 : decode cX8_step 45 = .ok (.iadd, 1) := by decide +kernel
theorem dX8_step_46 : decode cX8_step 46 = .ok (.putfield 61, 3) := by decide +kernel
theorem dX8_step_49 : decode cX8_step 49 = .ok (.aload_n 0, 1) := by decide +kernel
theorem dX8_step_50 : decode cX8_step 50 = .ok (.aload_n 0, 1) := by decide +kernel
theorem dX8_step_51 : decode cX8_step 51 = .ok (.getfield 11, 3) := by decide +kernel
theorem dX8_step_54 : decode cX8_step 54 = .ok (.aload_n 0, 1) := by decide +kernel
theorem dX8_step_55 : decode cX8_step 55 = .ok (.getfield 61, 3) := by decide +kernel
theorem dX8_step_58 : decode cX8_step 58 = .ok (.iaload, 1) := by decide +kernel
theorem dX8_step_59 : decode cX8_step 59 = .ok (.putfield 64, 3) := by decide +kernel
theorem dX8_step_62 : decode cX8_step 62 = .ok (.return_, 1) := by decide +kernel
theorem dX8_value_0 : decode cX8_value 0 = .ok (.aload_n 0, 1) := by decide +kernel
theorem dX8_value_1 : decode cX8_value 1 = .ok (.getfield 61, 3) := by decide +kernel
theorem dX8_value_4 : decode cX8_value 4 = .ok (.ifCond .lt 13, 3) := by decide +kernel
theorem dX8_value_7 : decode cX8_value 7 = .ok (.aload_n 0, 1) := by decide +kernel
theorem dX8_value_8 : decode cX8_value 8 = .ok (.getfield 61, 3) := by decide +kernel
theorem dX8_value_11 : decode cX8_value 11 = .ok (.sipush 401, 3) := by decide +kernel
theorem dX8_value_14 : decode cX8_value 14 = .ok (.if_icmp .lt 7, 3) := by decide +kernel
theorem dX8_value_17 : decode cX8_value 17 = .ok (.iconst 0, 1) := by decide +kernel
theorem dX8_value_18 : decode cX8_value 18 = .ok (.goto 12, 3) := by decide +kernel
theorem dX8_value_21 : decode cX8_value 21 = .ok (.aload_n 0, 1) := by decide +kernel
theorem dX8_value_22 : decode cX8_value 22 = .ok (.getfield 18, 3) := by decide +kernel
theorem dX8_value_25 : decode cX8_value 25 = .ok (.aload_n 0, 1) := by decide +kernel
theorem dX8_value_26 : decode cX8_value 26 = .ok (.getfield 61, 3) := by decide +kernel
theorem dX8_value_29 : decode cX8_value 29 = .ok (.iaload, 1) := by decide +kernel
theorem dX8_value_30 : decode cX8_value 30 = .ok (.ireturn, 1) := by decide +kernel
theorem dX8_isLongerThan_0 : decode cX8_isLongerThan 0 = .ok (.aload_n 0, 1) := by decide +kernel
theorem dX8_isLongerThan_1 : decode cX8_isLongerThan 1 = .ok (.getfield 61, 3) := by decide +kernel
theorem dX8_isLongerThan_4 : decode cX8_isLongerThan 4 = .ok (.ifCond .lt 30, 3) := by decide +kernel
theorem dX8_isLongerThan_7 : decode cX8_isLongerThan 7 = .ok (.aload_n 0, 1) := by decide +kernel
theorem dX8_isLongerThan_8 : decode cX8_isLongerThan 8 = .ok (.getfield 61, 3) := by decide +kernel
theorem dX8_isLongerThan_11 : decode cX8_isLongerThan 11 = .ok (.sipush 401, 3) := by decide +kernel
theorem dX8_isLongerThan_14 : decode cX8_isLongerThan 14 = .ok (.if_icmp .ge 20, 3) := by decide +kernel
theorem dX8_isLongerThan_17 : decode cX8_isLongerThan 17 = .ok (.aload_n 0, 1) := by decide +kernel
theorem dX8_isLongerThan_18 : decode cX8_isLongerThan 18 = .ok (.getfield 21, 3) := by decide +kernel
theorem dX8_isLongerThan_21 : decode cX8_isLongerThan 21 = .ok (.aload_n 0, 1) := by decide +kernel
theorem dX8_isLongerThan_22 : decode cX8_isLongerThan 22 = .ok (.getfield 61, 3) := by decide +kernel
theorem dX8_isLongerThan_25 : decode cX8_isLongerThan 25 = .ok (.iaload, 1) := by decide +kernel
theorem dX8_isLongerThan_26 : decode cX8_isLongerThan 26 = .ok (.iload_n 1, 1) := by decide +kernel
theorem dX8_isLongerThan_27 : decode cX8_isLongerThan 27 = .ok (.if_icmp .le 7, 3) := by decide +kernel
theorem dX8_isLongerThan_30 : decode cX8_isLongerThan 30 = .ok (.iconst 1, 1) := by decide +kernel
theorem dX8_isLongerThan_31 : decode cX8_isLongerThan 31 = .ok (.goto 4, 3) := by decide +kernel
theorem dX8_isLongerThan_34 : decode cX8_isLongerThan 34 = .ok (.iconst 0, 1) := by decide +kernel
theorem dX8_isLongerThan_35 : decode cX8_isLongerThan 35 = .ok (.ireturn, 1) := by decide +kernel
set_option maxRecDepth 100000 in
theorem ggX8_expect_X8_step : GoodIn wsX8_expect wsX8_step := (gi_cons 6 rfl rfl (gi_cons 7 rfl rfl (gi_cons 8 rfl rfl (gi_cons 9 rfl rfl (gi_cons 10 rfl rfl (gi_cons 1 rfl rfl (gi_cons 17 rfl rfl (gi_cons 18 rfl rfl (gi_cons 19 rfl rfl (gi_cons 20 rfl rfl (gi_cons 21 rfl rfl (gi_cons 22 rfl rfl (gi_cons 23 rfl rfl (gi_cons 24 rfl rfl (gi_cons 25 rfl rfl gi_nil)))))))))))))))
set_option maxRecDepth 20000 in
theorem gX8_expect_X8_step : GoodIn wsX8_expect (wsV RX8 67 RX8 yX8_step wsX8_step) := goodIn_app (goodIn_of _ (by decide +kernel)) ggX8_expect_X8_step
set_option maxRecDepth 100000 in
theorem ggX8_expect_X8_fail : GoodIn wsX8_expect wsX8_fail := (gi_cons 14 rfl rfl (gi_cons 7 rfl rfl (gi_cons 8 rfl rfl (gi_cons 15 rfl rfl (gi_cons 16 rfl rfl (gi_cons 1 rfl rfl (gi_cons 17 rfl rfl (gi_cons 18 rfl rfl (gi_cons 19 rfl rfl (gi_cons 20 rfl rfl (gi_cons 21 rfl rfl (gi_cons 22 rfl rfl (gi_cons 23 rfl rfl (gi_cons 24 rfl rfl (gi_cons 25 rfl rfl gi_nil)))))))))))))))
set_option maxRecDepth 20000 in
theorem gX8_expect_X8_fail : GoodIn wsX8_expect (wsV RX8 70 RX8 yX8_fail wsX8_fail) := goodIn_app (goodIn_of _ (by decide +kernel)) ggX8_expect_X8_fail
theorem dX8_expect_0 : decode cX8_expect 0 = .ok (.aload_n 0, 1) := by decide +kernel
theorem dX8_expect_1 : decode cX8_expect 1 = .ok (.getfield 64, 3) := by decide +kernel
theorem dX8_expect_4 : decode cX8_expect 4 = .ok (.iload_n 1, 1) := by decide +kernel
theorem dX8_expect_5 : decode cX8_expect 5 = .ok (.if_icmp .ne 10, 3) := by decide +kernel
theorem dX8_expect_8 : decode cX8_expect 8 = .ok (.aload_n 0, 1) := by decide +kernel
theorem dX8_expect_9 : decode cX8_expect 9 = .ok (.invokevirtual 67, 3) := by decide +kernel
theorem dX8_expect_12 : decode cX8_expect 12 = .ok (.goto 8, 3) := by decide +kernel
theorem dX8_expect_15 : decode cX8_expect 15 = .ok (.aload_n 0, 1) := by decide +kernel
theorem dX8_expect_16 : decode cX8_expect 16 = .ok (.iconst 1, 1) := by decide +kernel
theorem dX8_expect_17 : decode cX8_expect 17 = .ok (.invokevirtual 70, 3) := by decide +kernel
theorem dX8_expect_20 : decode cX8_expect 20 = .ok (.return_, 1) := by decide +kernel
set_option maxRecDepth 100000 in
theorem ggX8_takeLetters_X8_fail : GoodIn wsX8_takeLetters wsX8_fail := (gi_cons 6 rfl rfl (gi_cons 7 rfl rfl (gi_cons 8 rfl rfl (gi_cons 9 rfl rfl (gi_cons 10 rfl rfl (gi_cons 1 rfl rfl (gi_cons 27 rfl rfl (gi_cons 28 rfl rfl (gi_cons 29 rfl rfl (gi_cons 30 rfl rfl (gi_cons 31 rfl rfl (gi_cons 32 rfl rfl (gi_cons 33 rfl rfl (gi_cons 34 rfl rfl (gi_cons 35 rfl rfl gi_nil)))))))))))))))
set_option maxRecDepth 20000 in
theorem gX8_takeLetters_X8_fail : GoodIn wsX8_takeLetters (wsV RX8 70 RX8 yX8_fail wsX8_fail) := goodIn_app (goodIn_of _ (by decide +kernel)) ggX8_takeLetters_X8_fail
set_option maxRecDepth 100000 in
theorem ggX8_takeLetters_X8_isLongerThan : GoodIn wsX8_takeLetters wsX8_isLongerThan := (gi_cons 14 rfl rfl (gi_cons 8 rfl rfl (gi_cons 15 rfl rfl (gi_cons 27 rfl rfl (gi_cons 28 rfl rfl (gi_cons 29 rfl rfl (gi_cons 30 rfl rfl (gi_cons 31 rfl rfl (gi_cons 32 rfl rfl (gi_cons 33 rfl rfl (gi_cons 34 rfl rfl (gi_cons 35 rfl rfl gi_nil))))))))))))
set_option maxRecDepth 20000 in
theorem gX8_takeLetters_X8_isLongerThan : GoodIn wsX8_takeLetters (wsV RX8 74 RX8 yX8_isLongerThan wsX8_isLongerThan) := goodIn_app (goodIn_of _ (by decide +kernel)) ggX8_takeLetters_X8_isLongerThan
set_option maxRecDepth 100000 in
theorem ggX8_takeLetters_X8_value : GoodIn wsX8_takeLetters wsX8_value := (gi_cons 19 rfl rfl (gi_cons 8 rfl rfl (gi_cons 20 rfl rfl (gi_cons 27 rfl rfl (gi_cons 28 rfl rfl (gi_cons 29 rfl rfl (gi_cons 30 rfl rfl (gi_cons 31 rfl rfl (gi_cons 32 rfl rfl (gi_cons 33 rfl rfl (gi_cons 34 rfl rfl (gi_cons 35 rfl rfl gi_nil))))))))))))
set_option maxRecDepth 20000 in
theorem gX8_takeLetters_X8_value : GoodIn wsX8_takeLetters (wsV RX8 77 RX8 yX8_value wsX8_value) := goodIn_app (goodIn_of _ (by decide +kernel)) ggX8_takeLetters_X8_value
set_option maxRecDepth 100000 in
theorem ggX8_takeLetters_X8_step : GoodIn wsX8_takeLetters wsX8_step := (gi_cons 24 rfl rfl (gi_cons 7 rfl rfl (gi_cons 8 rfl rfl (gi_cons 25 rfl rfl (gi_cons 26 rfl rfl (gi_cons 1 rfl rfl (gi_cons 27 rfl rfl (gi_cons 28 rfl rfl (gi_cons 29 rfl rfl (gi_cons 30 rfl rfl (gi_cons 31 rfl rfl (gi_cons 32 rfl rfl (gi_cons 33 rfl rfl (gi_cons 34 rfl rfl (gi_cons 35 rfl rfl gi_nil)))))))))))))))
set_option maxRecDepth 20000 in
theorem gX8_takeLetters_X8_step : GoodIn wsX8_takeLetters (wsV RX8 67 RX8 yX8_step wsX8_step) := goodIn_app (goodIn_of _ (by decide +kernel)) ggX8_takeLetters_X8_step
theorem dX8_takeLetters_0 : decode cX8_takeLetters 0 = .ok (.aload_n 0, 1) := by decide +kernel
theorem dX8_takeLetters_1 : decode cX8_takeLetters 1 = .ok (.getfield 64, 3) := by decide +kernel
theorem dX8_takeLetters_4 : decode cX8_takeLetters 4 = .ok (.sipush 256, 3) := by decide +kernel
theorem dX8_takeLetters_7 : decode cX8_takeLetters 7 = .ok (.if_icmp .eq 10, 3) := by decide +kernel
theorem dX8_takeLetters_10 : decode cX8_takeLetters 10 = .ok (.aload_n 0, 1) := by decide +kernel
theorem dX8_takeLetters_11 : decode cX8_takeLetters 11 = .ok (.iconst 1, 1) := by decide +kernel
theorem dX8_takeLetters_12 : decode cX8_takeLetters 12 = .ok (.invokevirtual 70, 3) := by decide +kernel
theorem dX8_takeLetters_15 : decode cX8_takeLetters 15 = .ok (.iconst 0, 1) := by decide +kernel
theorem dX8_takeLetters_16 : decode cX8_takeLetters 16 = .ok (.ireturn, 1) := by decide +kernel
theorem dX8_takeLetters_17 : decode cX8_takeLetters 17 = .ok (.aload_n 0, 1) := by decide +kernel
theorem dX8_takeLetters_18 : decode cX8_takeLetters 18 = .ok (.bipush 6, 2) := by decide +kernel
theorem dX8_takeLetters_20 : decode cX8_takeLetters 20 = .ok (.invokevirtual 74, 3) := by decide +kernel
theorem dX8_takeLetters_23 : decode cX8_takeLetters 23 = .ok (.ifCond .eq 10, 3) := by decide +kernel
theorem dX8_takeLetters_26 : decode cX8_takeLetters 26 = .ok (.aload_n 0, 1) := by decide +kernel
theorem dX8_takeLetters_27 : decode cX8_takeLetters 27 = .ok (.iconst 2, 1) := by decide +kernel
theorem dX8_takeLetters_28 : decode cX8_takeLetters 28 = .ok (.invokevirtual 70, 3) := by decide +kernel
theorem dX8_takeLetters_31 : decode cX8_takeLetters 31 = .ok (.iconst 0, 1) := by decide +kernel
theorem dX8_takeLetters_32 : decode cX8_takeLetters 32 = .ok (.ireturn, 1) := by decide +kernel
theorem dX8_takeLetters_33 : decode cX8_takeLetters 33 = .ok (.aload_n 0, 1) := by decide +kernel
theorem dX8_takeLetters_34 : decode cX8_takeLetters 34 = .ok (.invokevirtual 77, 3) := by decide +kernel
theorem dX8_takeLetters_37 : decode cX8_takeLetters 37 = .ok (.istore_n 1, 1) := by decide +kernel
theorem dX8_takeLetters_38 : decode cX8_takeLetters 38 = .ok (.aload_n 0, 1) := by decide +kernel
theorem dX8_takeLetters_39 : decode cX8_takeLetters 39 = .ok (.invokevirtual 67, 3) := by decide +kernel
theorem dX8_takeLetters_42 : decode cX8_takeLetters 42 = .ok (.iload_n 1, 1) := by decide +kernel
theorem dX8_takeLetters_43 : decode cX8_takeLetters 43 = .ok (.ireturn, 1) := by decide +kernel
set_option maxRecDepth 100000 in
theorem ggX8_takeNumber_X8_step : GoodIn wsX8_takeNumber wsX8_step := (gi_cons 6 rfl rfl (gi_cons 7 rfl rfl (gi_cons 8 rfl rfl (gi_cons 9 rfl rfl (gi_cons 10 rfl rfl (gi_cons 1 rfl rfl (gi_cons 27 rfl rfl (gi_cons 28 rfl rfl (gi_cons 29 rfl rfl (gi_cons 30 rfl rfl (gi_cons 31 rfl rfl (gi_cons 32 rfl rfl (gi_cons 33 rfl rfl (gi_cons 34 rfl rfl (gi_cons 35 rfl rfl gi_nil)))))))))))))))
set_option maxRecDepth 20000 in
theorem gX8_takeNumber_X8_step : GoodIn wsX8_takeNumber (wsV RX8 67 RX8 yX8_step wsX8_step) := goodIn_app (goodIn_of _ (by decide +kernel)) ggX8_takeNumber_X8_step
set_option maxRecDepth 100000 in
theorem ggX8_takeNumber_X8_fail : GoodIn wsX8_takeNumber wsX8_fail := (gi_cons 14 rfl rfl (gi_cons 7 rfl rfl (gi_cons 8 rfl rfl (gi_cons 15 rfl rfl (gi_cons 16 rfl rfl (gi_cons 1 rfl rfl (gi_cons 27 rfl rfl (gi_cons 28 rfl rfl (gi_cons 29 rfl rfl (gi_cons 30 rfl rfl (gi_cons 31 rfl rfl (gi_cons 32 rfl rfl (gi_cons 33 rfl rfl (gi_cons 34 rfl rfl (gi_cons 35 rfl rfl gi_nil)))))))))))))))
set_option maxRecDepth 20000 in
theorem gX8_takeNumber_X8_fail : GoodIn wsX8_takeNumber (wsV RX8 70 RX8 yX8_fail wsX8_fail) := goodIn_app (goodIn_of _ (by decide +kernel)) ggX8_takeNumber_X8_fail
set_option maxRecDepth 100000 in
theorem ggX8_takeNumber_X8_isLongerThan : GoodIn wsX8_takeNumber wsX8_isLongerThan := (gi_cons 20 rfl rfl (gi_cons 8 rfl rfl (gi_cons 21 rfl rfl (gi_cons 27 rfl rfl (gi_cons 28 rfl rfl (gi_cons 29 rfl rfl (gi_cons 30 rfl rfl (gi_cons 31 rfl rfl (gi_cons 32 rfl rfl (gi_cons 33 rfl rfl (gi_cons 34 rfl rfl (gi_cons 35 rfl rfl gi_nil))))))))))))
set_option maxRecDepth 20000 in
theorem gX8_takeNumber_X8_isLongerThan : GoodIn wsX8_takeNumber (wsV RX8 74 RX8 yX8_isLongerThan wsX8_isLongerThan) := goodIn_app (goodIn_of _ (by decide +kernel)) ggX8_takeNumber_X8_isLongerThan
set_option maxRecDepth 100000 in
theorem ggX8_takeNumber_X8_value : GoodIn wsX8_takeNumber wsX8_value := (gi_cons 25 rfl rfl (gi_cons 8 rfl rfl (gi_cons 26 rfl rfl (gi_cons 27 rfl rfl (gi_cons 28 rfl rfl (gi_cons 29 rfl rfl (gi_cons 30 rfl rfl (gi_cons 31 rfl rfl (gi_cons 32 rfl rfl (gi_cons 33 rfl rfl (gi_cons 34 rfl rfl (gi_cons 35 rfl rfl gi_nil))))))))))))
set_option maxRecDepth 20000 in
theorem gX8_takeNumber_X8_value : GoodIn wsX8_takeNumber (wsV RX8 77 RX8 yX8_value wsX8_value) := goodIn_app (goodIn_of _ (by decide +kernel)) ggX8_takeNumber_X8_value
theorem dX8_takeNumber_0 : decode cX8_takeNumber 0 = .ok (.aload_n 0, 1) := by decide +kernel
theorem dX8_takeNumber_1 : decode cX8_takeNumber 1 = .ok (.getfield 64, 3) := by decide +kernel
theorem dX8_takeNumber_4 : decode cX8_takeNumber 4 = .ok (.bipush 45, 2) := by decide +kernel
theorem dX8_takeNumber_6 : decode cX8_takeNumber 6 = .ok (.if_icmp .ne 7, 3) := by decide +kernel
theorem dX8_takeNumber_9 : decode cX8_takeNumber 9 = .ok (.iconst 1, 1) := by decide +kernel
theorem dX8_takeNumber_10 : decode cX8_takeNumber 10 = .ok (.goto 4, 3) := by decide +kernel
theorem dX8_takeNumber_13 : decode cX8_takeNumber 13 = .ok (.iconst 0, 1) := by decide +kernel
theorem dX8_takeNumber_14 : decode cX8_takeNumber 14 = .ok (.istore_n 1, 1) := by decide +kernel
theorem dX8_takeNumber_15 : decode cX8_takeNumber 15 = .ok (.iload_n 1, 1) := by decide +kernel
theorem dX8_takeNumber_16 : decode cX8_takeNumber 16 = .ok (.ifCond .eq 7, 3) := by decide +kernel
theorem dX8_takeNumber_19 : decode cX8_takeNumber 19 = .ok (.aload_n 0, 1) := by decide +kernel
theorem dX8_takeNumber_20 : decode cX8_takeNumber 20 = .ok (.invokevirtual 67, 3) := by decide +kernel
theorem dX8_takeNumber_23 : decode cX8_takeNumber 23 = .ok (.aload_n 0, 1) := by decide +kernel
theorem dX8_takeNumber_24 : decode cX8_takeNumber 24 = .ok (.getfield 64, 3) := by decide +kernel
theorem dX8_takeNumber_27 : decode cX8_takeNumber 27 = .ok (.sipush 257, 3) := by decide +kernel
theorem dX8_takeNumber_30 : decode cX8_takeNumber 30 = .ok (.if_icmp .eq 10, 3) := by decide +kernel
theorem dX8_takeNumber_33 : decode cX8_takeNumber 33 = .ok (.aload_n 0, 1) := by decide +kernel
theorem dX8_takeNumber_34 : decode cX8_takeNumber 34 = .ok (.iconst 1, 1) := by decide +kernel
theorem dX8_takeNumber_35 : decode cX8_takeNumber 35 = .ok (.invokevirtual 70, 3) := by decide +kernel
theorem dX8_takeNumber_38 : decode cX8_takeNumber 38 = .ok (.iconst 0, 1) := by decide +kernel
theorem dX8_takeNumber_39 : decode cX8_takeNumber 39 = .ok (.ireturn, 1) := by decide +kernel
theorem dX8_takeNumber_40 : decode cX8_takeNumber 40 = .ok (.aload_n 0, 1) := by decide +kernel
theorem dX8_takeNumber_41 : decode cX8_takeNumber 41 = .ok (.iconst 3, 1) := by decide +kernel
theorem dX8_takeNumber_42 : decode cX8_takeNumber 42 = .ok (.invokevirtual 74, 3) := by decide +kernel
theorem dX8_takeNumber_45 : decode cX8_takeNumber 45 = .ok (.ifCond .eq 10, 3) := by decide +kernel
theorem dX8_takeNumber_48 : decode cX8_takeNumber 48 = .ok (.aload_n 0, 1) := by decide +kernel
theorem dX8_takeNumber_49 : decode cX8_takeNumber 49 = .ok (.iconst 2, 1) := by decide +kernel
theorem dX8_takeNumber_50 : decode cX8_takeNumber 50 = .ok (.invokevirtual 70, 3) := by decide +kernel
theorem dX8_takeNumber_53 : decode cX8_takeNumber 53 = .ok (.iconst 0, 1) := by decide +kernel
theorem dX8_takeNumber_54 : decode cX8_takeNumber 54 = .ok (.ireturn, 1) := by decide +kernel
theorem dX8_takeNumber_55 : decode cX8_takeNumber 55 = .ok (.iload_n 1, 1) := by decide +kernel
theorem dX8_takeNumber_56 : decode cX8_takeNumber 56 = .ok (.ifCond .eq 11, 3) := by decide +kernel
theorem dX8_takeNumber_59 : decode cX8_takeNumber 59 = .ok (.aload_n 0, 1) := by decide +kernel
theorem dX8_takeNumber_60 : decode cX8_takeNumber 60 = .ok (.invokevirtual 77, 3) := by decide +kernel
theorem dX8_takeNumber_63 : decode cX8_takeNumber 63 = .ok (.ineg, 1) := by decide +kernel
theorem dX8_takeNumber_64 : decode cX8_takeNumber 64 = .ok (.goto 7, 3) := by decide +kernel
theorem dX8_takeNumber_67 : decode cX8_takeNumber 67 = .ok (.aload_n 0, 1) := by decide +kernel
theorem dX8_takeNumber_68 : decode cX8_takeNumber 68 = .ok (.invokevirtual 77, 3) := by decide +kernel
theorem dX8_takeNumber_71 : decode cX8_takeNumber 71 = .ok (.istore_n 2, 1) := by decide +kernel
theorem dX8_takeNumber_72 : decode cX8_takeNumber 72 = .ok (.aload_n 0, 1) := by decide +kernel
theorem dX8_takeNumber_73 : decode cX8_takeNumber 73 = .ok (.invokevirtual 67, 3) := by decide +kernel
theorem dX8_takeNumber_76 : decode cX8_takeNumber 76 = .ok (.iload_n 2, 1) := by decide +kernel
theorem dX8_takeNumber_77 : decode cX8_takeNumber 77 = .ok (.ireturn, 1) := by decide +kernel
theorem dX10_bit_0 : decode cX10_bit 0 = .ok (.iload_n 0, 1) := by decide +kernel
theorem dX10_bit_1 : decode cX10_bit 1 = .ok (.ifCond .lt 9, 3) := by decide +kernel
theorem dX10_bit_4 : decode cX10_bit 4 = .ok (.iload_n 0, 1) := by decide +kernel
theorem dX10_bit_5 : decode cX10_bit 5 = .ok (.bipush 60, 2) := by decide +kernel
theorem dX10_bit_7 : decode cX10_bit 7 = .ok (.if_icmp .lt 7, 3) := by decide +kernel
theorem dX10_bit_10 : decode cX10_bit 10 = .ok (.lconst 0, 1) := by decide +kernel
theorem dX10_bit_11 : decode cX10_bit 11 = .ok (.goto 6, 3) := by decide +kernel
theorem dX10_bit_14 : decode cX10_bit 14 = .ok (.lconst 1, 1) := by decide +kernel
theorem dX10_bit_15 : decode cX10_bit 15 = .ok (.iload_n 0, 1) := by decide +kernel
theorem dX10_bit_16 : decode cX10_bit 16 = .ok (.lshl, 1) := by decide +kernel
theorem dX10_bit_17 : decode cX10_bit 17 = .ok (.lreturn, 1) := by decide +kernel
set_option maxRecDepth 100000 in
theorem ggX10_isIn_X10_bit : GoodIn wsX10_isIn wsX10_bit := (gi_cons 4 rfl rfl gi_nil)
set_option maxRecDepth 20000 in
theorem gX10_isIn_X10_bit : GoodIn wsX10_isIn (va_wsS RX10 414 yX10_bit wsX10_bit) := goodIn_app (goodIn_of _ (by decide +kernel)) ggX10_isIn_X10_bit
theorem dX10_isIn_0 : decode cX10_isIn 0 = .ok (.lload_n 0, 1) := by decide +kernel
theorem dX10_isIn_1 : decode cX10_isIn 1 = .ok (.iload_n 2, 1) := by decide +kernel
theorem dX10_isIn_2 : decode cX10_isIn 2 = .ok (.invokestatic 414, 3) := by decide +kernel
theorem dX10_isIn_5 : decode cX10_isIn 5 = .ok (.land, 1) := by decide +kernel
theorem dX10_isIn_6 : decode cX10_isIn 6 = .ok (.lconst 0, 1) := by decide +kernel
theorem dX10_isIn_7 : decode cX10_isIn 7 = .ok (.lcmp, 1) := by decide +kernel
theorem dX10_isIn_8 : decode cX10_isIn 8 = .ok (.ifCond .eq 7, 3) := by decide +kernel
theorem dX10_isIn_11 : decode cX10_isIn 11 = .ok (.iconst 1, 1) := by decide +kernel
theorem dX10_isIn_12 : decode cX10_isIn 12 = .ok (.goto 4, 3) := by decide +kernel
theorem dX10_isIn_15 : decode cX10_isIn 15 = .ok (.iconst 0, 1) := by decide +kernel
theorem dX10_isIn_16 : decode cX10_isIn 16 = .ok (.ireturn, 1) := by decide +kernel
set_option maxRecDepth 100000 in
theorem ggX10_nthOf_X10_isIn : GoodIn wsX10_nthOf wsX10_isIn := (gi_cons 4 rfl rfl (gi_cons 5 rfl rfl (gi_cons 6 rfl rfl (gi_cons 3 rfl rfl (gi_cons 7 rfl rfl gi_nil)))))
set_option maxRecDepth 20000 in
theorem gX10_nthOf_X10_isIn : GoodIn wsX10_nthOf (va_wsS RX10 393 yX10_isIn wsX10_isIn) := goodIn_app (goodIn_of _ (by decide +kernel)) ggX10_nthOf_X10_isIn
theorem dX10_nthOf_0 : decode cX10_nthOf 0 = .ok (.iconst 0, 1) := by decide +kernel
theorem dX10_nthOf_1 : decode cX10_nthOf 1 = .ok (.istore_n 3, 1) := by decide +kernel
theorem dX10_nthOf_2 : decode cX10_nthOf 2 = .ok (.iconst 0, 1) := by decide +kernel
theorem dX10_nthOf_3 : decode cX10_nthOf 3 = .ok (.istore 4, 2) := by decide +kernel
theorem dX10_nthOf_5 : decode cX10_nthOf 5 = .ok (.iload 4, 2) := by decide +kernel
theorem dX10_nthOf_7 : decode cX10_nthOf 7 = .ok (.bipush 60, 2) := by decide +kernel
theorem dX10_nthOf_9 : decode cX10_nthOf 9 = .ok (.if_icmp .ge 29, 3) := by decide +kernel
theorem dX10_nthOf_12 : decode cX10_nthOf 12 = .ok (.lload_n 0, 1) := by decide +kernel
theorem dX10_nthOf_13 : decode cX10_nthOf 13 = .ok (.iload 4, 2) := by decide +kernel
theorem dX10_nthOf_15 : decode cX10_nthOf 15 = .ok (.invokestatic 393, 3) := by decide +kernel
theorem dX10_nthOf_18 : decode cX10_nthOf 18 = .ok (.ifCond .eq 14, 3) := by decide +kernel
theorem dX10_nthOf_21 : decode cX10_nthOf 21 = .ok (.iload_n 3, 1) := by decide +kernel
theorem dX10_nthOf_22 : decode cX10_nthOf 22 = .ok (.iload_n 2, 1) := by decide +kernel
theorem dX10_nthOf_23 : decode cX10_nthOf 23 = .ok (.if_icmp .ne 6, 3) := by decide +kernel
theorem dX10_nthOf_26 : decode cX10_nthOf 26 = .ok (.iload 4, 2) := by decide +kernel
theorem dX10_nthOf_28 : decode cX10_nthOf 28 = .ok (.ireturn, 1) := by decide +kernel
theorem dX10_nthOf_29 : decode cX10_nthOf 29 = .ok (.iinc 3 1, 3) := by decide +kernel
theorem dX10_nthOf_32 : decode cX10_nthOf 32 = .ok (.iinc 4 1, 3) := by decide +kernel
theorem dX10_nthOf_35 : decode cX10_nthOf 35 = .ok (.goto (-30), 3) := by decide +kernel
theorem dX10_nthOf_38 : decode cX10_nthOf 38 = .ok (.iconst (-1), 1) := by decide +kernel
theorem dX10_nthOf_39 : decode cX10_nthOf 39 = .ok (.ireturn, 1) := by decide +kernel
theorem dX10_lettersOf_0 : decode cX10_lettersOf 0 = .ok (.iconst 0, 1) := by decide +kernel
theorem dX10_lettersOf_1 : decode cX10_lettersOf 1 = .ok (.istore_n 1, 1) := by decide +kernel
theorem dX10_lettersOf_2 : decode cX10_lettersOf 2 = .ok (.iload_n 0, 1) := by decide +kernel
theorem dX10_lettersOf_3 : decode cX10_lettersOf 3 = .ok (.istore_n 2, 1) := by decide +kernel
theorem dX10_lettersOf_4 : decode cX10_lettersOf 4 = .ok (.iconst 0, 1) := by decide +kernel
theorem dX10_lettersOf_5 : decode cX10_lettersOf 5 = .ok (.istore_n 3, 1) := by decide +kernel
theorem dX10_lettersOf_6 : decode cX10_lettersOf 6 = .ok (.iload_n 3, 1) := by decide +kernel
theorem dX10_lettersOf_7 : decode cX10_lettersOf 7 = .ok (.bipush 6, 2) := by decide +kernel
theorem dX10_lettersOf_9 : decode cX10_lettersOf 9 = .ok (.if_icmp .ge 20, 3) := by decide +kernel
theorem dX10_lettersOf_12 : decode cX10_lettersOf 12 = .ok (.iload_n 2, 1) := by decide +kernel
theorem dX10_lettersOf_13 : decode cX10_lettersOf 13 = .ok (.ifCond .le 16, 3) := by decide +kernel
theorem dX10_lettersOf_16 : decode cX10_lettersOf 16 = .ok (.iload_n 2, 1) := by decide +kernel
theorem dX10_lettersOf_17 : decode cX10_lettersOf 17 = .ok (.iconst 5, 1) := by decide +kernel
theorem dX10_lettersOf_18 : decode cX10_lettersOf 18 = .ok (.iushr, 1) := by decide +kernel
theorem dX10_lettersOf_19 : decode cX10_lettersOf 19 = .ok (.istore_n 2, 1) := by decide +kernel
theorem dX10_lettersOf_20 : decode cX10_lettersOf 20 = .ok (.iinc 1 1, 3) := by decide +kernel
theorem dX10_lettersOf_23 : decode cX10_lettersOf 23 = .ok (.iinc 3 1, 3) := by decide +kernel
theorem dX10_lettersOf_26 : decode cX10_lettersOf 26 = .ok (.goto (-20), 3) := by decide +kernel
theorem dX10_lettersOf_29 : decode cX10_lettersOf 29 = .ok (.iload_n 1, 1) := by decide +kernel
theorem dX10_lettersOf_30 : decode cX10_lettersOf 30 = .ok (.ireturn, 1) := by decide +kernel
theorem dX10_isWord_0 : decode cX10_isWord 0 = .ok (.iload_n 0, 1) := by decide +kernel
theorem dX10_isWord_1 : decode cX10_isWord 1 = .ok (.iconst 1, 1) := by decide +kernel
theorem dX10_isWord_2 : decode cX10_isWord 2 = .ok (.if_icmp .lt 10, 3) := by decide +kernel
theorem dX10_isWord_5 : decode cX10_isWord 5 = .ok (.iload_n 0, 1) := by decide +kernel
theorem dX10_isWord_6 : decode cX10_isWord 6 = .ok (.ldc_w 418, 3) := by decide +kernel
theorem dX10_isWord_9 : decode cX10_isWord 9 = .ok (.if_icmp .lt 5, 3) := by decide +kernel
theorem dX10_isWord_12 : decode cX10_isWord 12 = .ok (.iconst 0, 1) := by decide +kernel
theorem dX10_isWord_13 : decode cX10_isWord 13 = .ok (.ireturn, 1) := by decide +kernel
theorem dX10_isWord_14 : decode cX10_isWord 14 = .ok (.iload_n 0, 1) := by decide +kernel
theorem dX10_isWord_15 : decode cX10_isWord 15 = .ok (.istore_n 1, 1) := by decide +kernel
theorem dX10_isWord_16 : decode cX10_isWord 16 = .ok (.iconst 0, 1) := by decide +kernel
theorem dX10_isWord_17 : decode cX10_isWord 17 = .ok (.istore_n 2, 1) := by decide +kernel
theorem dX10_isWord_18 : decode cX10_isWord 18 = .ok (.iload_n 2, 1) := by decide +kernel
theorem dX10_isWord_19 : decode cX10_isWord 19 = .ok (.bipush 6, 2) := by decide +kernel
theorem dX10_isWord_21 : decode cX10_isWord 21 = .ok (.if_icmp .ge 35, 3) := by decide +kernel
theorem dX10_isWord_24 : decode cX10_isWord 24 = .ok (.iload_n 1, 1) := by decide +kernel
theorem dX10_isWord_25 : decode cX10_isWord 25 = .ok (.ifCond .le 31, 3) := by decide +kernel
theorem dX10_isWord_28 : decode cX10_isWord 28 = .ok (.iload_n 1, 1) := by decide +kernel
theorem dX10_isWord_29 : decode cX10_isWord 29 = .ok (.bipush 31, 2) := by decide +kernel
theorem dX10_isWord_31 : decode cX10_isWord 31 = .ok (.iand, 1) := by decide +kernel
theorem dX10_isWord_32 : decode cX10_isWord 32 = .ok (.istore_n 3, 1) := by decide +kernel
theorem dX10_isWord_33 : decode cX10_isWord 33 = .ok (.iload_n 3, 1) := by decide +kernel
theorem dX10_isWord_34 : decode cX10_isWord 34 = .ok (.iconst 1, 1) := by decide +kernel
theorem dX10_isWord_35 : decode cX10_isWord 35 = .ok (.if_icmp .lt 9, 3) := by decide +kernel
theorem dX10_isWord_38 : decode cX10_isWord 38 = .ok (.iload_n 3, 1) := by decide +kernel
theorem dX10_isWord_39 : decode cX10_isWord 39 = .ok (.bipush 26, 2) := by decide +kernel
theorem dX10_isWord_41 : decode cX10_isWord 41 = .ok (.if_icmp .le 5, 3) := by decide +kernel
theorem dX10_isWord_44 : decode cX10_isWord 44 = .ok (.iconst 0, 1) := by decide +kernel
theorem dX10_isWord_45 : decode cX10_isWord 45 = .ok (.ireturn, 1) := by decide +kernel
theorem dX10_isWord_46 : decode cX10_isWord 46 = .ok (.iload_n 1, 1) := by decide +kernel
theorem dX10_isWord_47 : decode cX10_isWord 47 = .ok (.iconst 5, 1) := by decide +kernel
theorem dX10_isWord_48 : decode cX10_isWord 48 = .ok (.iushr, 1) := by decide +kernel
theorem dX10_isWord_49 : decode cX10_isWord 49 = .ok (.istore_n 1, 1) := by decide +kernel
theorem dX10_isWord_50 : decode cX10_isWord 50 = .ok (.iinc 2 1, 3) := by decide +kernel
theorem dX10_isWord_53 : decode cX10_isWord 53 = .ok (.goto (-35), 3) := by decide +kernel
theorem dX10_isWord_56 : decode cX10_isWord 56 = .ok (.iconst 1, 1) := by decide +kernel
theorem dX10_isWord_57 : decode cX10_isWord 57 = .ok (.ireturn, 1) := by decide +kernel
theorem dX10_firstLetterHighest_0 : decode cX10_firstLetterHighest 0 = .ok (.iload_n 0, 1) := by decide +kernel
theorem dX10_firstLetterHighest_1 : decode cX10_firstLetterHighest 1 = .ok (.istore_n 1, 1) := by decide +kernel
theorem dX10_firstLetterHighest_2 : decode cX10_firstLetterHighest 2 = .ok (.iconst 0, 1) := by decide +kernel
theorem dX10_firstLetterHighest_3 : decode cX10_firstLetterHighest 3 = .ok (.istore_n 2, 1) := by decide +kernel
theorem dX10_firstLetterHighest_4 : decode cX10_firstLetterHighest 4 = .ok (.iload_n 2, 1) := by decide +kernel
theorem dX10_firstLetterHighest_5 : decode cX10_firstLetterHighest 5 = .ok (.bipush 6, 2) := by decide +kernel
theorem dX10_firstLetterHighest_7 : decode cX10_firstLetterHighest 7 = .ok (.if_icmp .ge 20, 3) := by decide +kernel
theorem dX10_firstLetterHighest_10 : decode cX10_firstLetterHighest 10 = .ok (.iload_n 1, 1) := by decide +kernel
theorem dX10_firstLetterHighest_11 : decode cX10_firstLetterHighest 11 = .ok (.ldc_w 419, 3) := by decide +kernel
theorem dX10_firstLetterHighest_14 : decode cX10_firstLetterHighest 14 = .ok (.if_icmp .ge 13, 3) := by decide +kernel
theorem dX10_firstLetterHighest_17 : decode cX10_firstLetterHighest 17 = .ok (.iload_n 1, 1) := by decide +kernel
theorem dX10_firstLetterHighest_18 : decode cX10_firstLetterHighest 18 = .ok (.iconst 5, 1) := by decide +kernel
theorem dX10_firstLetterHighest_19 : decode cX10_firstLetterHighest 19 = .ok (.ishl, 1) := by decide +kernel
theorem dX10_firstLetterHighest_20 : decode cX10_firstLetterHighest 20 = .ok (.istore_n 1, 1) := by decide +kernel
theorem dX10_firstLetterHighest_21 : decode cX10_firstLetterHighest 21 = .ok (.iinc 2 1, 3) := by decide +kernel
theorem dX10_firstLetterHighest_24 : decode cX10_firstLetterHighest 24 = .ok (.goto (-20), 3) := by decide +kernel
theorem dX10_firstLetterHighest_27 : decode cX10_firstLetterHighest 27 = .ok (.iload_n 1, 1) := by decide +kernel
theorem dX10_firstLetterHighest_28 : decode cX10_firstLetterHighest 28 = .ok (.ireturn, 1) := by decide +kernel
theorem dJ6_bitCount_0f7a4_0 : decode cJ6_bitCount_0f7a4 0 = .ok (.iload_n 0, 1) := by decide +kernel
theorem dJ6_bitCount_0f7a4_1 : decode cJ6_bitCount_0f7a4 1 = .ok (.iload_n 0, 1) := by decide +kernel
theorem dJ6_bitCount_0f7a4_2 : decode cJ6_bitCount_0f7a4 2 = .ok (.iconst 1, 1) := by decide +kernel
theorem dJ6_bitCount_0f7a4_3 : decode cJ6_bitCount_0f7a4 3 = .ok (.iushr, 1) := by decide +kernel
theorem dJ6_bitCount_0f7a4_4 : decode cJ6_bitCount_0f7a4 4 = .ok (.ldc_w 265, 3) := by decide +kernel
theorem dJ6_bitCount_0f7a4_7 : decode cJ6_bitCount_0f7a4 7 = .ok (.iand, 1) := by decide +kernel
theorem dJ6_bitCount_0f7a4_8 : decode cJ6_bitCount_0f7a4 8 = .ok (.isub, 1) := by decide +kernel
theorem dJ6_bitCount_0f7a4_9 : decode cJ6_bitCount_0f7a4 9 = .ok (.istore_n 0, 1) := by decide +kernel
theorem dJ6_bitCount_0f7a4_10 : decode cJ6_bitCount_0f7a4 10 = .ok (.iload_n 0, 1) := by decide +kernel
theorem dJ6_bitCount_0f7a4_11 : decode cJ6_bitCount_0f7a4 11 = .ok (.ldc_w 266, 3) := by decide +kernel
theorem dJ6_bitCount_0f7a4_14 : decode cJ6_bitCount_0f7a4 14 = .ok (.iand, 1) := by decide +kernel
theorem dJ6_bitCount_0f7a4_15 : decode cJ6_bitCount_0f7a4 15 = .ok (.iload_n 0, 1) := by decide +kernel
theorem dJ6_bitCount_0f7a4_16 : decode cJ6_bitCount_0f7a4 16 = .ok (.iconst 2, 1) := by decide +kernel
theorem dJ6_bitCount_0f7a4_17 : decode cJ6_bitCount_0f7a4 17 = .ok (.iushr, 1) := by decide +kernel
theorem dJ6_bitCount_0f7a4_18 : decode cJ6_bitCount_0f7a4 18 = .ok (.ldc_w 266, 3) := by decide +kernel
theorem dJ6_bitCount_0f7a4_21 : decode cJ6_bitCount_0f7a4 21 = .ok (.iand, 1) := by decide +kernel
theorem dJ6_bitCount_0f7a4_22 : decode cJ6_bitCount_0f7a4 22 = .ok (.iadd, 1) := by decide +kernel
theorem dJ6_bitCount_0f7a4_23 : decode cJ6_bitCount_0f7a4 23 = .ok (.istore_n 0, 1) := by decide +kernel
theorem dJ6_bitCount_0f7a4_24 : decode cJ6_bitCount_0f7a4 24 = .ok (.iload_n 0, 1) := by decide +kernel
theorem dJ6_bitCount_0f7a4_25 : decode cJ6_bitCount_0f7a4 25 = .ok (.iload_n 0, 1) := by decide +kernel
theorem dJ6_bitCount_0f7a4_26 : decode cJ6_bitCount_0f7a4 26 = .ok (.iconst 4, 1) := by decide +kernel
theorem dJ6_bitCount_0f7a4_27 : decode cJ6_bitCount_0f7a4 27 = .ok (.iushr, 1) := by decide +kernel
theorem dJ6_bitCount_0f7a4_28 : decode cJ6_bitCount_0f7a4 28 = .ok (.iadd, 1) := by decide +kernel
theorem dJ6_bitCount_0f7a4_29 : decode cJ6_bitCount_0f7a4 29 = .ok (.ldc_w 267, 3) := by decide +kernel
theorem dJ6_bitCount_0f7a4_32 : decode cJ6_bitCount_0f7a4 32 = .ok (.iand, 1) := by decide +kernel
theorem dJ6_bitCount_0f7a4_33 : decode cJ6_bitCount_0f7a4 33 = .ok (.istore_n 0, 1) := by decide +kernel
theorem dJ6_bitCount_0f7a4_34 : decode cJ6_bitCount_0f7a4 34 = .ok (.iload_n 0, 1) := by decide +kernel
theorem dJ6_bitCount_0f7a4_35 : decode cJ6_bitCount_0f7a4 35 = .ok (.iload_n 0, 1) := by decide +kernel
theorem dJ6_bitCount_0f7a4_36 : decode cJ6_bitCount_0f7a4 36 = .ok (.bipush 8, 2) := by decide +kernel
theorem dJ6_bitCount_0f7a4_38 : decode cJ6_bitCount_0f7a4 38 = .ok (.iushr, 1) := by decide +kernel
theorem dJ6_bitCount_0f7a4_39 : decode cJ6_bitCount_0f7a4 39 = .ok (.iadd, 1) := by decide +kernel
theorem dJ6_bitCount_0f7a4_40 : decode cJ6_bitCount_0f7a4 40 = .ok (.istore_n 0, 1) := by decide +kernel
theorem dJ6_bitCount_0f7a4_41 : decode cJ6_bitCount_0f7a4 41 = .ok (.iload_n 0, 1) := by decide +kernel
theorem dJ6_bitCount_0f7a4_42 : decode cJ6_bitCount_0f7a4 42 = .ok (.iload_n 0, 1) := by decide +kernel
theorem dJ6_bitCount_0f7a4_43 : decode cJ6_bitCount_0f7a4 43 = .ok (.bipush 16, 2) := by decide +kernel
theorem dJ6_bitCount_0f7a4_45 : decode cJ6_bitCount_0f7a4 45 = .ok (.iushr, 1) := by decide +kernel
theorem dJ6_bitCount_0f7a4_46 : decode cJ6_bitCount_0f7a4 46 = .ok (.iadd, 1) := by decide +kernel
theorem dJ6_bitCount_0f7a4_47 : decode cJ6_bitCount_0f7a4 47 = .ok (.istore_n 0, 1) := by decide +kernel
theorem dJ6_bitCount_0f7a4_48 : decode cJ6_bitCount_0f7a4 48 = .ok (.iload_n 0, 1) := by decide +kernel
theorem dJ6_bitCount_0f7a4_49 : decode cJ6_bitCount_0f7a4 49 = .ok (.bipush 63, 2) := by decide +kernel
theorem dJ6_bitCount_0f7a4_51 : decode cJ6_bitCount_0f7a4 51 = .ok (.iand, 1) := by decide +kernel
theorem dJ6_bitCount_0f7a4_52 : decode cJ6_bitCount_0f7a4 52 = .ok (.ireturn, 1) := by decide +kernel
theorem dJ13_bitCount_95d88_0 : decode cJ13_bitCount_95d88 0 = .ok (.lload_n 0, 1) := by decide +kernel
theorem dJ13_bitCount_95d88_1 : decode cJ13_bitCount_95d88 1 = .ok (.lload_n 0, 1) := by decide +kernel
theorem dJ13_bitCount_95d88_2 : decode cJ13_bitCount_95d88 2 = .ok (.iconst 1, 1) := by decide +kernel
theorem dJ13_bitCount_95d88_3 : decode cJ13_bitCount_95d88 3 = .ok (.lushr, 1) := by decide +kernel
theorem dJ13_bitCount_95d88_4 : decode cJ13_bitCount_95d88 4 = .ok (.ldc2_w 314, 3) := by decide +kernel
theorem dJ13_bitCount_95d88_7 : decode cJ13_bitCount_95d88 7 = .ok (.land, 1) := by decide +kernel
theorem dJ13_bitCount_95d88_8 : decode cJ13_bitCount_95d88 8 = .ok (.lsub, 1) := by decide +kernel
theorem dJ13_bitCount_95d88_9 : decode cJ13_bitCount_95d88 9 = .ok (.lstore_n 0, 1) := by decide +kernel
theorem dJ13_bitCount_95d88_10 : decode cJ13_bitCount_95d88 10 = .ok (.lload_n 0, 1) := by decide +kernel
theorem dJ13_bitCount_95d88_11 : decode cJ13_bitCount_95d88 11 = .ok (.ldc2_w 316, 3) := by decide +kernel
theorem dJ13_bitCount_95d88_14 : decode cJ13_bitCount_95d88 14 = .ok (.land, 1) := by decide +kernel
theorem dJ13_bitCount_95d88_15 : decode cJ13_bitCount_95d88 15 = .ok (.lload_n 0, 1) := by decide +kernel
theorem dJ13_bitCount_95d88_16 : decode cJ13_bitCount_95d88 16 = .ok (.iconst 2, 1) := by decide +kernel
theorem dJ13_bitCount_95d88_17 : decode cJ13_bitCount_95d88 17 = .ok (.lushr, 1) := by decide +kernel
theorem dJ13_bitCount_95d88_18 : decode cJ13_bitCount_95d88 18 = .ok (.ldc2_w 316, 3) := by decide +kernel
theorem dJ13_bitCount_95d88_21 : decode cJ13_bitCount_95d88 21 = .ok (.land, 1) := by decide +kernel
theorem dJ13_bitCount_95d88_22 : decode cJ13_bitCount_95d88 22 = .ok (.ladd, 1) := by decide +kernel
theorem dJ13_bitCount_95d88_23 : decode cJ13_bitCount_95d88 23 = .ok (.lstore_n 0, 1) := by decide +kernel
theorem dJ13_bitCount_95d88_24 : decode cJ13_bitCount_95d88 24 = .ok (.lload_n 0, 1) := by decide +kernel
theorem dJ13_bitCount_95d88_25 : decode cJ13_bitCount_95d88 25 = .ok (.lload_n 0, 1) := by decide +kernel
theorem dJ13_bitCount_95d88_26 : decode cJ13_bitCount_95d88 26 = .ok (.iconst 4, 1) := by decide +kernel
theorem dJ13_bitCount_95d88_27 : decode cJ13_bitCount_95d88 27 = .ok (.lushr, 1) := by decide +kernel
theorem dJ13_bitCount_95d88_28 : decode cJ13_bitCount_95d88 28 = .ok (.ladd, 1) := by decide +kernel
theorem dJ13_bitCount_95d88_29 : decode cJ13_bitCount_95d88 29 = .ok (.ldc2_w 318, 3) := by decide +kernel
theorem dJ13_bitCount_95d88_32 : decode cJ13_bitCount_95d88 32 = .ok (.land, 1) := by decide +kernel
theorem dJ13_bitCount_95d88_33 : decode cJ13_bitCount_95d88 33 = .ok (.lstore_n 0, 1) := by decide +kernel
theorem dJ13_bitCount_95d88_34 : decode cJ13_bitCount_95d88 34 = .ok (.lload_n 0, 1) := by decide +kernel
theorem dJ13_bitCount_95d88_35 : decode cJ13_bitCount_95d88 35 = .ok (.lload_n 0, 1) := by decide +kernel
theorem dJ13_bitCount_95d88_36 : decode cJ13_bitCount_95d88 36 = .ok (.bipush 8, 2) := by decide +kernel
theorem dJ13_bitCount_95d88_38 : decode cJ13_bitCount_95d88 38 = .ok (.lushr, 1) := by decide +kernel
theorem dJ13_bitCount_95d88_39 : decode cJ13_bitCount_95d88 39 = .ok (.ladd, 1) := by decide +kernel
theorem dJ13_bitCount_95d88_40 : decode cJ13_bitCount_95d88 40 = .ok (.lstore_n 0, 1) := by decide +kernel
theorem dJ13_bitCount_95d88_41 : decode cJ13_bitCount_95d88 41 = .ok (.lload_n 0, 1) := by decide +kernel
theorem dJ13_bitCount_95d88_42 : decode cJ13_bitCount_95d88 42 = .ok (.lload_n 0, 1) := by decide +kernel
theorem dJ13_bitCount_95d88_43 : decode cJ13_bitCount_95d88 43 = .ok (.bipush 16, 2) := by decide +kernel
theorem dJ13_bitCount_95d88_45 : decode cJ13_bitCount_95d88 45 = .ok (.lushr, 1) := by decide +kernel
theorem dJ13_bitCount_95d88_46 : decode cJ13_bitCount_95d88 46 = .ok (.ladd, 1) := by decide +kernel
theorem dJ13_bitCount_95d88_47 : decode cJ13_bitCount_95d88 47 = .ok (.lstore_n 0, 1) := by decide +kernel
theorem dJ13_bitCount_95d88_48 : decode cJ13_bitCount_95d88 48 = .ok (.lload_n 0, 1) := by decide +kernel
theorem dJ13_bitCount_95d88_49 : decode cJ13_bitCount_95d88 49 = .ok (.lload_n 0, 1) := by decide +kernel
theorem dJ13_bitCount_95d88_50 : decode cJ13_bitCount_95d88 50 = .ok (.bipush 32, 2) := by decide +kernel
theorem dJ13_bitCount_95d88_52 : decode cJ13_bitCount_95d88 52 = .ok (.lushr, 1) := by decide +kernel
theorem dJ13_bitCount_95d88_53 : decode cJ13_bitCount_95d88 53 = .ok (.ladd, 1) := by decide +kernel
theorem dJ13_bitCount_95d88_54 : decode cJ13_bitCount_95d88 54 = .ok (.lstore_n 0, 1) := by decide +kernel
theorem dJ13_bitCount_95d88_55 : decode cJ13_bitCount_95d88 55 = .ok (.lload_n 0, 1) := by decide +kernel
theorem dJ13_bitCount_95d88_56 : decode cJ13_bitCount_95d88 56 = .ok (.l2i, 1) := by decide +kernel
theorem dJ13_bitCount_95d88_57 : decode cJ13_bitCount_95d88 57 = .ok (.bipush 127, 2) := by decide +kernel
theorem dJ13_bitCount_95d88_59 : decode cJ13_bitCount_95d88 59 = .ok (.iand, 1) := by decide +kernel
theorem dJ13_bitCount_95d88_60 : decode cJ13_bitCount_95d88 60 = .ok (.ireturn, 1) := by decide +kernel
