theorem dX10_path_84 : decode cX10_path 84 = .ok (.ifnonnull 13, 3) := by decide +kernel
theorem dX10_path_87 : decode cX10_path 87 = .ok (.new 17, 3) := by decide +kernel
theorem dX10_path_90 : decode cX10_path 90 = .ok (.dup, 1) := by decide +kernel
theorem dX10_path_91 : decode cX10_path 91 = .ok (.invokespecial 23, 3) := by decide +kernel
theorem dX10_path_94 : decode cX10_path 94 = .ok (.goto 5, 3) := by decide +kernel
theorem dX10_path_97 : decode cX10_path 97 = .ok (.aload 4, 2) := by decide +kernel
theorem dX10_path_99 : decode cX10_path 99 = .ok (.putfield 24, 3) := by decide +kernel
theorem dX10_path_102 : decode cX10_path 102 = .ok (.iload_n 3, 1) := by decide +kernel
theorem dX10_path_103 : decode cX10_path 103 = .ok (.ireturn, 1) := by decide +kernel
set_option maxRecDepth 20000 in
theorem gX10_put_X10_tapeHas : GoodIn wsX10_put (wsV RX10 120 RX10 yX10_tapeHas wsX10_tapeHas) := goodIn_app (goodIn_of _ (by decide +kernel)) ggX10_put_X10_tapeHas
set_option maxRecDepth 20000 in
theorem gX10_put_X10_pathAt : GoodIn wsX10_put (wsV RX10 257 RX10 yX10_pathAt wsX10_pathAt) := goodIn_app (goodIn_of _ (by decide +kernel)) ggX10_put_X10_pathAt
set_option maxRecDepth 20000 in
theorem gX10_put_X10_refusedUnread : GoodIn wsX10_put (wsV RX10 304 RX10 yX10_refusedUnread wsX10_refusedUnread) := goodIn_app (goodIn_of _ (by decide +kernel)) ggX10_put_X10_refusedUnread
set_option maxRecDepth 20000 in
theorem gX10_put_X10_readData : GoodIn wsX10_put (wsV RX10 131 RX10 yX10_readData wsX10_readData) := goodIn_app (goodIn_of _ (by decide +kernel)) ggX10_put_X10_readData
set_option maxRecDepth 20000 in
theorem gX10_put_X4_answersIn : GoodIn wsX10_put (wsV RX10 263 RX4 yX4_answersIn wsX4_answersIn) := goodIn_app (goodIn_of _ (by decide +kernel)) ggX10_put_X4_answersIn
set_option maxRecDepth 20000 in
theorem gX10_put_X0_putAll : GoodIn wsX10_put (wsV RX10 307 RX0 yX0_putAll wsX0_putAll) := goodIn_app (goodIn_of _ (by decide +kernel)) ggX10_put_X0_putAll
set_option maxRecDepth 20000 in
theorem gX10_put_X10_actDone : GoodIn wsX10_put (wsV RX10 311 RX10 yX10_actDone wsX10_actDone) := goodIn_app (goodIn_of _ (by decide +kernel)) ggX10_put_X10_actDone
theorem dX10_put_0 : decode cX10_put 0 = .ok (.aload_n 0, 1) := by decide +kernel
theorem dX10_put_1 : decode cX10_put 1 = .ok (.iload_n 2, 1) := by decide +kernel
theorem dX10_put_2 : decode cX10_put 2 = .ok (.invokevirtual 120, 3) := by decide +kernel
theorem dX10_put_5 : decode cX10_put 5 = .ok (.ifCond .ne 13, 3) := by decide +kernel
theorem dX10_put_8 : decode cX10_put 8 = .ok (.new 124, 3) := by decide +kernel
theorem dX10_put_11 : decode cX10_put 11 = .ok (.dup, 1) := by decide +kernel
theorem dX10_put_12 : decode cX10_put 12 = .ok (.ldc 126, 2) := by decide +kernel
theorem dX10_put_14 : decode cX10_put 14 = .ok (.invokespecial 128, 3) := by decide +kernel
theorem dX10_put_17 : decode cX10_put 17 = .ok (.athrow, 1) := by decide +kernel
theorem dX10_put_18 : decode cX10_put 18 = .ok (.aload_n 0, 1) := by decide +kernel
theorem dX10_put_19 : decode cX10_put 19 = .ok (.iload_n 1, 1) := by decide +kernel
theorem dX10_put_20 : decode cX10_put 20 = .ok (.invokevirtual 257, 3) := by decide +kernel
theorem dX10_put_23 : decode cX10_put 23 = .ok (.astore_n 3, 1) := by decide +kernel
theorem dX10_put_24 : decode cX10_put 24 = .ok (.aload_n 3, 1) := by decide +kernel
theorem dX10_put_25 : decode cX10_put 25 = .ok (.ifnonnull 8, 3) := by decide +kernel
theorem dX10_put_28 : decode cX10_put 28 = .ok (.aload_n 0, 1) := by decide +kernel
theorem dX10_put_29 : decode cX10_put 29 = .ok (.invokevirtual 304, 3) := by decide +kernel
theorem dX10_put_32 : decode cX10_put 32 = .ok (.ireturn, 1) := by decide +kernel
theorem dX10_put_33 : decode cX10_put 33 = .ok (.aload_n 0, 1) := by decide +kernel
theorem dX10_put_34 : decode cX10_put 34 = .ok (.iload_n 2, 1) := by decide +kernel
theorem dX10_put_35 : decode cX10_put 35 = .ok (.invokevirtual 131, 3) := by decide +kernel
theorem dX10_put_38 : decode cX10_put 38 = .ok (.ifCond .eq 6, 3) := by decide +kernel
theorem dX10_put_41 : decode cX10_put 41 = .ok (.bipush (-2), 2) := by decide +kernel
theorem dX10_put_43 : decode cX10_put 43 = .ok (.ireturn, 1) := by decide +kernel
theorem dX10_put_44 : decode cX10_put 44 = .ok (.aload_n 0, 1) := by decide +kernel
theorem dX10_put_45 : decode cX10_put 45 = .ok (.aload_n 0, 1) := by decide +kernel
theorem dX10_put_46 : decode cX10_put 46 = .ok (.getfield 75, 3) := by decide +kernel
theorem dX10_put_49 : decode cX10_put 49 = .ok (.aload_n 3, 1) := by decide +kernel
theorem dX10_put_50 : decode cX10_put 50 = .ok (.aload_n 0, 1) := by decide +kernel
theorem dX10_put_51 : decode cX10_put 51 = .ok (.getfield 63, 3) := by decide +kernel
theorem dX10_put_54 : decode cX10_put 54 = .ok (.getfield 107, 3) := by decide +kernel
theorem dX10_put_57 : decode cX10_put 57 = .ok (.bipush 8, 2) := by decide +kernel
theorem dX10_put_59 : decode cX10_put 59 = .ok (.invokevirtual 263, 3) := by decide +kernel
theorem dX10_put_62 : decode cX10_put 62 = .ok (.aload_n 0, 1) := by decide +kernel
theorem dX10_put_63 : decode cX10_put 63 = .ok (.getfield 56, 3) := by decide +kernel
theorem dX10_put_66 : decode cX10_put 66 = .ok (.invokevirtual 307, 3) := by decide +kernel
theorem dX10_put_69 : decode cX10_put 69 = .ok (.invokevirtual 311, 3) := by decide +kernel
theorem dX10_put_72 : decode cX10_put 72 = .ok (.ireturn, 1) := by decide +kernel
set_option maxRecDepth 20000 in
theorem gX10_append_X10_tapeHas : GoodIn wsX10_append (wsV RX10 120 RX10 yX10_tapeHas wsX10_tapeHas) := goodIn_app (goodIn_of _ (by decide +kernel)) ggX10_append_X10_tapeHas
set_option maxRecDepth 20000 in
theorem gX10_append_X10_pathAt : GoodIn wsX10_append (wsV RX10 257 RX10 yX10_pathAt wsX10_pathAt) := goodIn_app (goodIn_of _ (by decide +kernel)) ggX10_append_X10_pathAt
set_option maxRecDepth 20000 in
theorem gX10_append_X10_refusedUnread : GoodIn wsX10_append (wsV RX10 304 RX10 yX10_refusedUnread wsX10_refusedUnread) := goodIn_app (goodIn_of _ (by decide +kernel)) ggX10_append_X10_refusedUnread
set_option maxRecDepth 20000 in
theorem gX10_append_X10_readData : GoodIn wsX10_append (wsV RX10 131 RX10 yX10_readData wsX10_readData) := goodIn_app (goodIn_of _ (by decide +kernel)) ggX10_append_X10_readData
set_option maxRecDepth 20000 in
theorem gX10_append_X4_answersIn : GoodIn wsX10_append (wsV RX10 263 RX4 yX4_answersIn wsX4_answersIn) := goodIn_app (goodIn_of _ (by decide +kernel)) ggX10_append_X4_answersIn
set_option maxRecDepth 20000 in
theorem gX10_append_X0_appendAll : GoodIn wsX10_append (wsV RX10 314 RX0 yX0_appendAll wsX0_appendAll) := goodIn_app (goodIn_of _ (by decide +kernel)) ggX10_append_X0_appendAll
set_option maxRecDepth 20000 in
theorem gX10_append_X10_actDone : GoodIn wsX10_append (wsV RX10 311 RX10 yX10_actDone wsX10_actDone) := goodIn_app (goodIn_of _ (by decide +kernel)) ggX10_append_X10_actDone
theorem dX10_append_0 : decode cX10_append 0 = .ok (.aload_n 0, 1) := by decide +kernel
theorem dX10_append_1 : decode cX10_append 1 = .ok (.iload_n 2, 1) := by decide +kernel
theorem dX10_append_2 : decode cX10_append 2 = .ok (.invokevirtual 120, 3) := by decide +kernel
theorem dX10_append_5 : decode cX10_append 5 = .ok (.ifCond .ne 13, 3) := by decide +kernel
theorem dX10_append_8 : decode cX10_append 8 = .ok (.new 124, 3) := by decide +kernel
theorem dX10_append_11 : decode cX10_append 11 = .ok (.dup, 1) := by decide +kernel
theorem dX10_append_12 : decode cX10_append 12 = .ok (.ldc 126, 2) := by decide +kernel
theorem dX10_append_14 : decode cX10_append 14 = .ok (.invokespecial 128, 3) := by decide +kernel
theorem dX10_append_17 : decode cX10_append 17 = .ok (.athrow, 1) := by decide +kernel
theorem dX10_append_18 : decode cX10_append 18 = .ok (.aload_n 0, 1) := by decide +kernel
theorem dX10_append_19 : decode cX10_append 19 = .ok (.iload_n 1, 1) := by decide +kernel
theorem dX10_append_20 : decode cX10_append 20 = .ok (.invokevirtual 257, 3) := by decide +kernel
theorem dX10_append_23 : decode cX10_append 23 = .ok (.astore_n 3, 1) := by decide +kernel
theorem dX10_append_24 : decode cX10_append 24 = .ok (.aload_n 3, 1) := by decide +kernel
theorem dX10_append_25 : decode cX10_append 25 = .ok (.ifnonnull 8, 3) := by decide +kernel
theorem dX10_append_28 : decode cX10_append 28 = .ok (.aload_n 0, 1) := by decide +kernel
theorem dX10_append_29 : decode cX10_append 29 = .ok (.invokevirtual 304, 3) := by decide +kernel
theorem dX10_append_32 : decode cX10_append 32 = .ok (.ireturn, 1) := by decide +kernel
theorem dX10_append_33 : decode cX10_append 33 = .ok (.aload_n 0, 1) := by decide +kernel
theorem dX10_append_34 : decode cX10_append 34 = .ok (.iload_n 2, 1) := by decide +kernel
theorem dX10_append_35 : decode cX10_append 35 = .ok (.invokevirtual 131, 3) := by decide +kernel
theorem dX10_append_38 : decode cX10_append 38 = .ok (.ifCond .eq 6, 3) := by decide +kernel
theorem dX10_append_41 : decode cX10_append 41 = .ok (.bipush (-2), 2) := by decide +kernel
theorem dX10_append_43 : decode cX10_append 43 = .ok (.ireturn, 1) := by decide +kernel
theorem dX10_append_44 : decode cX10_append 44 = .ok (.aload_n 0, 1) := by decide +kernel
theorem dX10_append_45 : decode cX10_append 45 = .ok (.aload_n 0, 1) := by decide +kernel
theorem dX10_append_46 : decode cX10_append 46 = .ok (.getfield 75, 3) := by decide +kernel
theorem dX10_append_49 : decode cX10_append 49 = .ok (.aload_n 3, 1) := by decide +kernel
theorem dX10_append_50 : decode cX10_append 50 = .ok (.aload_n 0, 1) := by decide +kernel
theorem dX10_append_51 : decode cX10_append 51 = .ok (.getfield 63, 3) := by decide +kernel
theorem dX10_append_54 : decode cX10_append 54 = .ok (.getfield 107, 3) := by decide +kernel
theorem dX10_append_57 : decode cX10_append 57 = .ok (.bipush 8, 2) := by decide +kernel
theorem dX10_append_59 : decode cX10_append 59 = .ok (.invokevirtual 263, 3) := by decide +kernel
theorem dX10_append_62 : decode cX10_append 62 = .ok (.aload_n 0, 1) := by decide +kernel
theorem dX10_append_63 : decode cX10_append 63 = .ok (.getfield 56, 3) := by decide +kernel
theorem dX10_append_66 : decode cX10_append 66 = .ok (.invokevirtual 314, 3) := by decide +kernel
theorem dX10_append_69 : decode cX10_append 69 = .ok (.invokevirtual 311, 3) := by decide +kernel
theorem dX10_append_72 : decode cX10_append 72 = .ok (.ireturn, 1) := by decide +kernel
set_option maxRecDepth 20000 in
theorem gX10_key_X10_tapeHas : GoodIn wsX10_key (wsV RX10 120 RX10 yX10_tapeHas wsX10_tapeHas) := goodIn_app (goodIn_of _ (by decide +kernel)) ggX10_key_X10_tapeHas
set_option maxRecDepth 20000 in
theorem gX10_key_X10_pathAt : GoodIn wsX10_key (wsV RX10 257 RX10 yX10_pathAt wsX10_pathAt) := goodIn_app (goodIn_of _ (by decide +kernel)) ggX10_key_X10_pathAt
set_option maxRecDepth 20000 in
theorem gX10_key_X10_isWord : GoodIn wsX10_key (va_wsS RX10 317 yX10_isWord wsX10_isWord) := goodIn_app (goodIn_of _ (by decide +kernel)) ggX10_key_X10_isWord
set_option maxRecDepth 20000 in
theorem gX10_key_X10_refusedUnread : GoodIn wsX10_key (wsV RX10 304 RX10 yX10_refusedUnread wsX10_refusedUnread) := goodIn_app (goodIn_of _ (by decide +kernel)) ggX10_key_X10_refusedUnread
set_option maxRecDepth 20000 in
theorem gX10_key_X10_readData : GoodIn wsX10_key (wsV RX10 131 RX10 yX10_readData wsX10_readData) := goodIn_app (goodIn_of _ (by decide +kernel)) ggX10_key_X10_readData
set_option maxRecDepth 20000 in
theorem gX10_key_X4_answersIn : GoodIn wsX10_key (wsV RX10 263 RX4 yX4_answersIn wsX4_answersIn) := goodIn_app (goodIn_of _ (by decide +kernel)) ggX10_key_X4_answersIn
set_option maxRecDepth 20000 in
theorem gX10_key_X0_keyAll : GoodIn wsX10_key (wsV RX10 320 RX0 yX0_keyAll wsX0_keyAll) := goodIn_app (goodIn_of _ (by decide +kernel)) ggX10_key_X0_keyAll
set_option maxRecDepth 20000 in
theorem gX10_key_X10_actDone : GoodIn wsX10_key (wsV RX10 311 RX10 yX10_actDone wsX10_actDone) := goodIn_app (goodIn_of _ (by decide +kernel)) ggX10_key_X10_actDone
theorem dX10_key_0 : decode cX10_key 0 = .ok (.aload_n 0, 1) := by decide +kernel
theorem dX10_key_1 : decode cX10_key 1 = .ok (.iload_n 3, 1) := by decide +kernel
theorem dX10_key_2 : decode cX10_key 2 = .ok (.invokevirtual 120, 3) := by decide +kernel
theorem dX10_key_5 : decode cX10_key 5 = .ok (.ifCond .ne 13, 3) := by decide +kernel
theorem dX10_key_8 : decode cX10_key 8 = .ok (.new 124, 3) := by decide +kernel
theorem dX10_key_11 : decode cX10_key 11 = .ok (.dup, 1) := by decide +kernel
theorem dX10_key_12 : decode cX10_key 12 = .ok (.ldc 126, 2) := by decide +kernel
theorem dX10_key_14 : decode cX10_key 14 = .ok (.invokespecial 128, 3) := by decide +kernel
theorem dX10_key_17 : decode cX10_key 17 = .ok (.athrow, 1) := by decide +kernel
theorem dX10_key_18 : decode cX10_key 18 = .ok (.aload_n 0, 1) := by decide +kernel
theorem dX10_key_19 : decode cX10_key 19 = .ok (.iload_n 1, 1) := by decide +kernel
theorem dX10_key_20 : decode cX10_key 20 = .ok (.invokevirtual 257, 3) := by decide +kernel
theorem dX10_key_23 : decode cX10_key 23 = .ok (.astore 4, 2) := by decide +kernel
theorem dX10_key_25 : decode cX10_key 25 = .ok (.aload 4, 2) := by decide +kernel
theorem dX10_key_27 : decode cX10_key 27 = .ok (.ifnull 10, 3) := by decide +kernel
theorem dX10_key_30 : decode cX10_key 30 = .ok (.iload_n 2, 1) := by decide +kernel
theorem dX10_key_31 : decode cX10_key 31 = .ok (.invokestatic 317, 3) := by decide +kernel
theorem dX10_key_34 : decode cX10_key 34 = .ok (.ifCond .ne 8, 3) := by decide +kernel
theorem dX10_key_37 : decode cX10_key 37 = .ok (.aload_n 0, 1) := by decide +kernel
theorem dX10_key_38 : decode cX10_key 38 = .ok (.invokevirtual 304, 3) := by decide +kernel
theorem dX10_key_41 : decode cX10_key 41 = .ok (.ireturn, 1) := by decide +kernel
theorem dX10_key_42 : decode cX10_key 42 = .ok (.aload_n 0, 1) := by decide +kernel
theorem dX10_key_43 : decode cX10_key 43 = .ok (.iload_n 3, 1) := by decide +kernel
theorem dX10_key_44 : decode cX10_key 44 = .ok (.invokevirtual 131, 3) := by decide +kernel
theorem dX10_key_47 : decode cX10_key 47 = .ok (.ifCond .eq 6, 3) := by decide +kernel
theorem dX10_key_50 : decode cX10_key 50 = .ok (.bipush (-2), 2) := by decide +kernel
theorem dX10_key_52 : decode cX10_key 52 = .ok (.ireturn, 1) := by decide +kernel
theorem dX10_key_53 : decode cX10_key 53 = .ok (.aload_n 0, 1) := by decide +kernel
theorem dX10_key_54 : decode cX10_key 54 = .ok (.aload_n 0, 1) := by decide +kernel
theorem dX10_key_55 : decode cX10_key 55 = .ok (.getfield 75, 3) := by decide +kernel
theorem dX10_key_58 : decode cX10_key 58 = .ok (.aload 4, 2) := by decide +kernel
theorem dX10_key_60 : decode cX10_key 60 = .ok (.aload_n 0, 1) := by decide +kernel
theorem dX10_key_61 : decode cX10_key 61 = .ok (.getfield 63, 3) := by decide +kernel
theorem dX10_key_64 : decode cX10_key 64 = .ok (.getfield 107, 3) := by decide +kernel
theorem dX10_key_67 : decode cX10_key 67 = .ok (.bipush 8, 2) := by decide +kernel
theorem dX10_key_69 : decode cX10_key 69 = .ok (.invokevirtual 263, 3) := by decide +kernel
theorem dX10_key_72 : decode cX10_key 72 = .ok (.iload_n 2, 1) := by decide +kernel
theorem dX10_key_73 : decode cX10_key 73 = .ok (.aload_n 0, 1) := by decide +kernel
theorem dX10_key_74 : decode cX10_key 74 = .ok (.getfield 56, 3) := by decide +kernel
theorem dX10_key_77 : decode cX10_key 77 = .ok (.invokevirtual 320, 3) := by decide +kernel
theorem dX10_key_80 : decode cX10_key 80 = .ok (.invokevirtual 311, 3) := by decide +kernel
theorem dX10_key_83 : decode cX10_key 83 = .ok (.ireturn, 1) := by decide +kernel
