theorem dX11_withText_21 : decode cX11_withText 21 = .ok (.iconst 0, 1) := by decide +kernel
theorem dX11_withText_22 : decode cX11_withText 22 = .ok (.putfield 114, 3) := by decide +kernel
theorem dX11_withText_25 : decode cX11_withText 25 = .ok (.aload_n 0, 1) := by decide +kernel
theorem dX11_withText_26 : decode cX11_withText 26 = .ok (.iload_n 1, 1) := by decide +kernel
theorem dX11_withText_27 : decode cX11_withText 27 = .ok (.invokevirtual 344, 3) := by decide +kernel
theorem dX11_withText_30 : decode cX11_withText 30 = .ok (.ifCond .eq 15, 3) := by decide +kernel
theorem dX11_withText_33 : decode cX11_withText 33 = .ok (.iload_n 2, 1) := by decide +kernel
theorem dX11_withText_34 : decode cX11_withText 34 = .ok (.iconst 2, 1) := by decide +kernel
theorem dX11_withText_35 : decode cX11_withText 35 = .ok (.if_icmp .ne 16, 3) := by decide +kernel
theorem dX11_withText_38 : decode cX11_withText 38 = .ok (.iload_n 3, 1) := by decide +kernel
theorem dX11_withText_39 : decode cX11_withText 39 = .ok (.invokestatic 406, 3) := by decide +kernel
theorem dX11_withText_42 : decode cX11_withText 42 = .ok (.ifCond .ne 9, 3) := by decide +kernel
theorem dX11_withText_45 : decode cX11_withText 45 = .ok (.aload_n 0, 1) := by decide +kernel
theorem dX11_withText_46 : decode cX11_withText 46 = .ok (.iconst 1, 1) := by decide +kernel
theorem dX11_withText_47 : decode cX11_withText 47 = .ok (.invokevirtual 409, 3) := by decide +kernel
theorem dX11_withText_50 : decode cX11_withText 50 = .ok (.ireturn, 1) := by decide +kernel
theorem dX11_withText_51 : decode cX11_withText 51 = .ok (.aload_n 0, 1) := by decide +kernel
theorem dX11_withText_52 : decode cX11_withText 52 = .ok (.iload 4, 2) := by decide +kernel
theorem dX11_withText_54 : decode cX11_withText 54 = .ok (.invokevirtual 229, 3) := by decide +kernel
theorem dX11_withText_57 : decode cX11_withText 57 = .ok (.ifCond .ne 6, 3) := by decide +kernel
theorem dX11_withText_60 : decode cX11_withText 60 = .ok (.bipush (-2), 2) := by decide +kernel
theorem dX11_withText_62 : decode cX11_withText 62 = .ok (.ireturn, 1) := by decide +kernel
theorem dX11_withText_63 : decode cX11_withText 63 = .ok (.aload_n 0, 1) := by decide +kernel
theorem dX11_withText_64 : decode cX11_withText 64 = .ok (.iload_n 3, 1) := by decide +kernel
theorem dX11_withText_65 : decode cX11_withText 65 = .ok (.putfield 385, 3) := by decide +kernel
theorem dX11_withText_68 : decode cX11_withText 68 = .ok (.aload_n 0, 1) := by decide +kernel
theorem dX11_withText_69 : decode cX11_withText 69 = .ok (.iload_n 1, 1) := by decide +kernel
theorem dX11_withText_70 : decode cX11_withText 70 = .ok (.iload_n 2, 1) := by decide +kernel
theorem dX11_withText_71 : decode cX11_withText 71 = .ok (.iconst 0, 1) := by decide +kernel
theorem dX11_withText_72 : decode cX11_withText 72 = .ok (.invokevirtual 412, 3) := by decide +kernel
theorem dX11_withText_75 : decode cX11_withText 75 = .ok (.istore 5, 2) := by decide +kernel
theorem dX11_withText_77 : decode cX11_withText 77 = .ok (.iload 5, 2) := by decide +kernel
theorem dX11_withText_79 : decode cX11_withText 79 = .ok (.iconst (-1), 1) := by decide +kernel
theorem dX11_withText_80 : decode cX11_withText 80 = .ok (.if_icmp .ne 11, 3) := by decide +kernel
theorem dX11_withText_83 : decode cX11_withText 83 = .ok (.aload_n 0, 1) := by decide +kernel
theorem dX11_withText_84 : decode cX11_withText 84 = .ok (.iconst 1, 1) := by decide +kernel
theorem dX11_withText_85 : decode cX11_withText 85 = .ok (.invokevirtual 409, 3) := by decide +kernel
theorem dX11_withText_88 : decode cX11_withText 88 = .ok (.goto 5, 3) := by decide +kernel
theorem dX11_withText_91 : decode cX11_withText 91 = .ok (.iload 5, 2) := by decide +kernel
theorem dX11_withText_93 : decode cX11_withText 93 = .ok (.ireturn, 1) := by decide +kernel
set_option maxRecDepth 20000 in
theorem gX11_put_X11_withText : GoodIn wsX11_put (wsV RX11 416 RX11 yX11_withText wsX11_withText) := goodIn_app (goodIn_of _ (by decide +kernel)) ggX11_put_X11_withText
theorem dX11_put_0 : decode cX11_put 0 = .ok (.aload_n 0, 1) := by decide +kernel
theorem dX11_put_1 : decode cX11_put 1 = .ok (.iload_n 1, 1) := by decide +kernel
theorem dX11_put_2 : decode cX11_put 2 = .ok (.iconst 0, 1) := by decide +kernel
theorem dX11_put_3 : decode cX11_put 3 = .ok (.iconst 0, 1) := by decide +kernel
theorem dX11_put_4 : decode cX11_put 4 = .ok (.iload_n 2, 1) := by decide +kernel
theorem dX11_put_5 : decode cX11_put 5 = .ok (.invokevirtual 416, 3) := by decide +kernel
theorem dX11_put_8 : decode cX11_put 8 = .ok (.ireturn, 1) := by decide +kernel
set_option maxRecDepth 20000 in
theorem gX11_append_X11_withText : GoodIn wsX11_append (wsV RX11 416 RX11 yX11_withText wsX11_withText) := goodIn_app (goodIn_of _ (by decide +kernel)) ggX11_append_X11_withText
theorem dX11_append_0 : decode cX11_append 0 = .ok (.aload_n 0, 1) := by decide +kernel
theorem dX11_append_1 : decode cX11_append 1 = .ok (.iload_n 1, 1) := by decide +kernel
theorem dX11_append_2 : decode cX11_append 2 = .ok (.iconst 1, 1) := by decide +kernel
theorem dX11_append_3 : decode cX11_append 3 = .ok (.iconst 0, 1) := by decide +kernel
theorem dX11_append_4 : decode cX11_append 4 = .ok (.iload_n 2, 1) := by decide +kernel
theorem dX11_append_5 : decode cX11_append 5 = .ok (.invokevirtual 416, 3) := by decide +kernel
theorem dX11_append_8 : decode cX11_append 8 = .ok (.ireturn, 1) := by decide +kernel
set_option maxRecDepth 20000 in
theorem gX11_key_X11_withText : GoodIn wsX11_key (wsV RX11 416 RX11 yX11_withText wsX11_withText) := goodIn_app (goodIn_of _ (by decide +kernel)) ggX11_key_X11_withText
theorem dX11_key_0 : decode cX11_key 0 = .ok (.aload_n 0, 1) := by decide +kernel
theorem dX11_key_1 : decode cX11_key 1 = .ok (.iload_n 1, 1) := by decide +kernel
theorem dX11_key_2 : decode cX11_key 2 = .ok (.iconst 2, 1) := by decide +kernel
theorem dX11_key_3 : decode cX11_key 3 = .ok (.iload_n 2, 1) := by decide +kernel
theorem dX11_key_4 : decode cX11_key 4 = .ok (.iload_n 3, 1) := by decide +kernel
theorem dX11_key_5 : decode cX11_key 5 = .ok (.invokevirtual 416, 3) := by decide +kernel
theorem dX11_key_8 : decode cX11_key 8 = .ok (.ireturn, 1) := by decide +kernel
theorem dX10_isWord_0 : decode cX10_isWord 0 = .ok (.iload_n 0, 1) := by decide +kernel
theorem dX10_isWord_1 : decode cX10_isWord 1 = .ok (.iconst 1, 1) := by decide +kernel
theorem dX10_isWord_2 : decode cX10_isWord 2 = .ok (.if_icmp .lt 10, 3) := by decide +kernel
theorem dX10_isWord_5 : decode cX10_isWord 5 = .ok (.iload_n 0, 1) := by decide +kernel
theorem dX10_isWord_6 : decode cX10_isWord 6 = .ok (.ldc_w 418, 3) := by decide +kernel
theorem dX10_isWord_9 : decode cX10_isWord 9 = .ok (.if_icmp .lt 5, 3) := by decide +kernel
theorem dX10_isWord_12 : decode cX10_isWord 12 = .ok (.iconst 0, 1) := by decide +kernel
theorem dX10_isWord_13 : decode cX10_isWord 13 = .ok (.ireturn, 1) := by decide +kernel
theorem dX10_isWord_14 : decode cX10_isWord 14 = .ok (.iload_n 0, 1) := by decide +kernel
theorem dX10_isWord_15 : decode cX10_isWord 15 = .ok (.istore_n 1, 1) := by decide +kernel
theorem dX10_isWord_16 : decode cX10_isWord 16 = .ok (.iconst 0, 1) := by decide +kernel
theorem dX10_isWord_17 : decode cX10_isWord 17 = .ok (.istore_n 2, 1) := by decide +kernel
theorem dX10_isWord_18 : decode cX10_isWord 18 = .ok (.iload_n 2, 1) := by decide +kernel
theorem dX10_isWord_19 : decode cX10_isWord 19 = .ok (.bipush 6, 2) := by decide +kernel
theorem dX10_isWord_21 : decode cX10_isWord 21 = .ok (.if_icmp .ge 35, 3) := by decide +kernel
theorem dX10_isWord_24 : decode cX10_isWord 24 = .ok (.iload_n 1, 1) := by decide +kernel
theorem dX10_isWord_25 : decode cX10_isWord 25 = .ok (.ifCond .le 31, 3) := by decide +kernel
theorem dX10_isWord_28 : decode cX10_isWord 28 = .ok (.iload_n 1, 1) := by decide +kernel
theorem dX10_isWord_29 : decode cX10_isWord 29 = .ok (.bipush 31, 2) := by decide +kernel
theorem dX10_isWord_31 : decode cX10_isWord 31 = .ok (.iand, 1) := by decide +kernel
theorem dX10_isWord_32 : decode cX10_isWord 32 = .ok (.istore_n 3, 1) := by decide +kernel
theorem dX10_isWord_33 : decode cX10_isWord 33 = .ok (.iload_n 3, 1) := by decide +kernel
theorem dX10_isWord_34 : decode cX10_isWord 34 = .ok (.iconst 1, 1) := by decide +kernel
theorem dX10_isWord_35 : decode cX10_isWord 35 = .ok (.if_icmp .lt 9, 3) := by decide +kernel
theorem dX10_isWord_38 : decode cX10_isWord 38 = .ok (.iload_n 3, 1) := by decide +kernel
theorem dX10_isWord_39 : decode cX10_isWord 39 = .ok (.bipush 26, 2) := by decide +kernel
theorem dX10_isWord_41 : decode cX10_isWord 41 = .ok (.if_icmp .le 5, 3) := by decide +kernel
theorem dX10_isWord_44 : decode cX10_isWord 44 = .ok (.iconst 0, 1) := by decide +kernel
theorem dX10_isWord_45 : decode cX10_isWord 45 = .ok (.ireturn, 1) := by decide +kernel
theorem dX10_isWord_46 : decode cX10_isWord 46 = .ok (.iload_n 1, 1) := by decide +kernel
theorem dX10_isWord_47 : decode cX10_isWord 47 = .ok (.iconst 5, 1) := by decide +kernel
theorem dX10_isWord_48 : decode cX10_isWord 48 = .ok (.iushr, 1) := by decide +kernel
theorem dX10_isWord_49 : decode cX10_isWord 49 = .ok (.istore_n 1, 1) := by decide +kernel
theorem dX10_isWord_50 : decode cX10_isWord 50 = .ok (.iinc 2 1, 3) := by decide +kernel
theorem dX10_isWord_53 : decode cX10_isWord 53 = .ok (.goto (-35), 3) := by decide +kernel
theorem dX10_isWord_56 : decode cX10_isWord 56 = .ok (.iconst 1, 1) := by decide +kernel
theorem dX10_isWord_57 : decode cX10_isWord 57 = .ok (.ireturn, 1) := by decide +kernel
set_option maxRecDepth 20000 in
theorem gX10_feed_X10_layBytes : GoodIn wsX10_feed (wsV RX10 117 RX10 yX10_layBytes wsX10_layBytes) := goodIn_app (goodIn_of _ (by decide +kernel)) ggX10_feed_X10_layBytes
theorem dX10_feed_0 : decode cX10_feed 0 = .ok (.aload_n 0, 1) := by decide +kernel
theorem dX10_feed_1 : decode cX10_feed 1 = .ok (.getfield 114, 3) := by decide +kernel
theorem dX10_feed_4 : decode cX10_feed 4 = .ok (.bipush 20, 2) := by decide +kernel
theorem dX10_feed_6 : decode cX10_feed 6 = .ok (.iadd, 1) := by decide +kernel
theorem dX10_feed_7 : decode cX10_feed 7 = .ok (.sipush 400, 3) := by decide +kernel
theorem dX10_feed_10 : decode cX10_feed 10 = .ok (.if_icmp .le 5, 3) := by decide +kernel
theorem dX10_feed_13 : decode cX10_feed 13 = .ok (.iconst (-1), 1) := by decide +kernel
theorem dX10_feed_14 : decode cX10_feed 14 = .ok (.ireturn, 1) := by decide +kernel
theorem dX10_feed_15 : decode cX10_feed 15 = .ok (.aload_n 0, 1) := by decide +kernel
theorem dX10_feed_16 : decode cX10_feed 16 = .ok (.iload_n 1, 1) := by decide +kernel
theorem dX10_feed_17 : decode cX10_feed 17 = .ok (.invokevirtual 117, 3) := by decide +kernel
theorem dX10_feed_20 : decode cX10_feed 20 = .ok (.aload_n 0, 1) := by decide +kernel
theorem dX10_feed_21 : decode cX10_feed 21 = .ok (.iload_n 2, 1) := by decide +kernel
theorem dX10_feed_22 : decode cX10_feed 22 = .ok (.invokevirtual 117, 3) := by decide +kernel
theorem dX10_feed_25 : decode cX10_feed 25 = .ok (.aload_n 0, 1) := by decide +kernel
theorem dX10_feed_26 : decode cX10_feed 26 = .ok (.iload_n 3, 1) := by decide +kernel
theorem dX10_feed_27 : decode cX10_feed 27 = .ok (.invokevirtual 117, 3) := by decide +kernel
theorem dX10_feed_30 : decode cX10_feed 30 = .ok (.aload_n 0, 1) := by decide +kernel
theorem dX10_feed_31 : decode cX10_feed 31 = .ok (.iload 4, 2) := by decide +kernel
theorem dX10_feed_33 : decode cX10_feed 33 = .ok (.invokevirtual 117, 3) := by decide +kernel
theorem dX10_feed_36 : decode cX10_feed 36 = .ok (.aload_n 0, 1) := by decide +kernel
theorem dX10_feed_37 : decode cX10_feed 37 = .ok (.iload 5, 2) := by decide +kernel
theorem dX10_feed_39 : decode cX10_feed 39 = .ok (.invokevirtual 117, 3) := by decide +kernel
theorem dX10_feed_42 : decode cX10_feed 42 = .ok (.aload_n 0, 1) := by decide +kernel
theorem dX10_feed_43 : decode cX10_feed 43 = .ok (.getfield 114, 3) := by decide +kernel
theorem dX10_feed_46 : decode cX10_feed 46 = .ok (.ireturn, 1) := by decide +kernel
set_option maxRecDepth 20000 in
theorem gX10_look_X10_pathsThatFit : GoodIn wsX10_look (wsV RX10 190 RX10 yX10_pathsThatFit wsX10_pathsThatFit) := goodIn_app (goodIn_of _ (by decide +kernel)) ggX10_look_X10_pathsThatFit
set_option maxRecDepth 20000 in
theorem gX10_look_J6_bitCount_0f7a4 : GoodIn wsX10_look (va_wsS RX10 351 yJ6_bitCount_0f7a4 wsJ6_bitCount_0f7a4) := goodIn_app (goodIn_of _ (by decide +kernel)) ggX10_look_J6_bitCount_0f7a4
set_option maxRecDepth 20000 in
theorem gX10_look_X10_foundAmong : GoodIn wsX10_look (wsV RX10 355 RX10 yX10_foundAmong wsX10_foundAmong) := goodIn_app (goodIn_of _ (by decide +kernel)) ggX10_look_X10_foundAmong
theorem dX10_look_0 : decode cX10_look 0 = .ok (.aload_n 0, 1) := by decide +kernel
theorem dX10_look_1 : decode cX10_look 1 = .ok (.invokevirtual 190, 3) := by decide +kernel
theorem dX10_look_4 : decode cX10_look 4 = .ok (.istore_n 1, 1) := by decide +kernel
theorem dX10_look_5 : decode cX10_look 5 = .ok (.iload_n 1, 1) := by decide +kernel
theorem dX10_look_6 : decode cX10_look 6 = .ok (.invokestatic 351, 3) := by decide +kernel
theorem dX10_look_9 : decode cX10_look 9 = .ok (.istore_n 2, 1) := by decide +kernel
theorem dX10_look_10 : decode cX10_look 10 = .ok (.iconst (-1), 1) := by decide +kernel
theorem dX10_look_11 : decode cX10_look 11 = .ok (.istore_n 3, 1) := by decide +kernel
theorem dX10_look_12 : decode cX10_look 12 = .ok (.iconst 0, 1) := by decide +kernel
theorem dX10_look_13 : decode cX10_look 13 = .ok (.istore 4, 2) := by decide +kernel
theorem dX10_look_15 : decode cX10_look 15 = .ok (.iconst 0, 1) := by decide +kernel
theorem dX10_look_16 : decode cX10_look 16 = .ok (.istore 5, 2) := by decide +kernel
theorem dX10_look_18 : decode cX10_look 18 = .ok (.iload 5, 2) := by decide +kernel
theorem dX10_look_20 : decode cX10_look 20 = .ok (.aload_n 0, 1) := by decide +kernel
theorem dX10_look_21 : decode cX10_look 21 = .ok (.getfield 63, 3) := by decide +kernel
theorem dX10_look_24 : decode cX10_look 24 = .ok (.getfield 107, 3) := by decide +kernel
theorem dX10_look_27 : decode cX10_look 27 = .ok (.getfield 161, 3) := by decide +kernel
theorem dX10_look_30 : decode cX10_look 30 = .ok (.if_icmp .ge 43, 3) := by decide +kernel
theorem dX10_look_33 : decode cX10_look 33 = .ok (.aload_n 0, 1) := by decide +kernel
theorem dX10_look_34 : decode cX10_look 34 = .ok (.iload 5, 2) := by decide +kernel
theorem dX10_look_36 : decode cX10_look 36 = .ok (.iload_n 1, 1) := by decide +kernel
theorem dX10_look_37 : decode cX10_look 37 = .ok (.invokevirtual 355, 3) := by decide +kernel
theorem dX10_look_40 : decode cX10_look 40 = .ok (.istore 6, 2) := by decide +kernel
theorem dX10_look_42 : decode cX10_look 42 = .ok (.iload 6, 2) := by decide +kernel
theorem dX10_look_44 : decode cX10_look 44 = .ok (.iload_n 2, 1) := by decide +kernel
theorem dX10_look_45 : decode cX10_look 45 = .ok (.iload 6, 2) := by decide +kernel
theorem dX10_look_47 : decode cX10_look 47 = .ok (.isub, 1) := by decide +kernel
theorem dX10_look_48 : decode cX10_look 48 = .ok (.invokestatic 358, 3) := by decide +kernel
theorem dX10_look_51 : decode cX10_look 51 = .ok (.istore 7, 2) := by decide +kernel
theorem dX10_look_53 : decode cX10_look 53 = .ok (.iload 7, 2) := by decide +kernel
theorem dX10_look_55 : decode cX10_look 55 = .ok (.iload 4, 2) := by decide +kernel
theorem dX10_look_57 : decode cX10_look 57 = .ok (.if_icmp .le 10, 3) := by decide +kernel
theorem dX10_look_60 : decode cX10_look 60 = .ok (.iload 7, 2) := by decide +kernel
theorem dX10_look_62 : decode cX10_look 62 = .ok (.istore 4, 2) := by decide +kernel
theorem dX10_look_64 : decode cX10_look 64 = .ok (.iload 5, 2) := by decide +kernel
theorem dX10_look_66 : decode cX10_look 66 = .ok (.istore_n 3, 1) := by decide +kernel
theorem dX10_look_67 : decode cX10_look 67 = .ok (.iinc 5 1, 3) := by decide +kernel
theorem dX10_look_70 : decode cX10_look 70 = .ok (.goto (-52), 3) := by decide +kernel
theorem dX10_look_73 : decode cX10_look 73 = .ok (.iload_n 3, 1) := by decide +kernel
theorem dX10_look_74 : decode cX10_look 74 = .ok (.ireturn, 1) := by decide +kernel
theorem dX10_layBytes_0 : decode cX10_layBytes 0 = .ok (.bipush 24, 2) := by decide +kernel
theorem dX10_layBytes_2 : decode cX10_layBytes 2 = .ok (.istore_n 2, 1) := by decide +kernel
theorem dX10_layBytes_3 : decode cX10_layBytes 3 = .ok (.iload_n 2, 1) := by decide +kernel
theorem dX10_layBytes_4 : decode cX10_layBytes 4 = .ok (.ifCond .lt 52, 3) := by decide +kernel
theorem dX10_layBytes_7 : decode cX10_layBytes 7 = .ok (.aload_n 0, 1) := by decide +kernel
theorem dX10_layBytes_8 : decode cX10_layBytes 8 = .ok (.getfield 114, 3) := by decide +kernel
theorem dX10_layBytes_11 : decode cX10_layBytes 11 = .ok (.ifCond .lt 39, 3) := by decide +kernel
theorem dX10_layBytes_14 : decode cX10_layBytes 14 = .ok (.aload_n 0, 1) := by decide +kernel
theorem dX10_layBytes_15 : decode cX10_layBytes 15 = .ok (.getfield 114, 3) := by decide +kernel
theorem dX10_layBytes_18 : decode cX10_layBytes 18 = .ok (.sipush 400, 3) := by decide +kernel
theorem dX10_layBytes_21 : decode cX10_layBytes 21 = .ok (.if_icmp .ge 29, 3) := by decide +kernel
theorem dX10_layBytes_24 : decode cX10_layBytes 24 = .ok (.aload_n 0, 1) := by decide +kernel
theorem dX10_layBytes_25 : decode cX10_layBytes 25 = .ok (.getfield 9, 3) := by decide +kernel
theorem dX10_layBytes_28 : decode cX10_layBytes 28 = .ok (.aload_n 0, 1) := by decide +kernel
theorem dX10_layBytes_29 : decode cX10_layBytes 29 = .ok (.getfield 114, 3) := by decide +kernel
theorem dX10_layBytes_32 : decode cX10_layBytes 32 = .ok (.iload_n 1, 1) := by decide +kernel
theorem dX10_layBytes_33 : decode cX10_layBytes 33 = .ok (.iload_n 2, 1) := by decide +kernel
theorem dX10_layBytes_34 : decode cX10_layBytes 34 = .ok (.iushr, 1) := by decide +kernel
theorem dX10_layBytes_35 : decode cX10_layBytes 35 = .ok (.sipush 255, 3) := by decide +kernel
theorem dX10_layBytes_38 : decode cX10_layBytes 38 = .ok (.iand, 1) := by decide +kernel
theorem dX10_layBytes_39 : decode cX10_layBytes 39 = .ok (.iastore, 1) := by decide +kernel
theorem dX10_layBytes_40 : decode cX10_layBytes 40 = .ok (.aload_n 0, 1) := by decide +kernel
theorem dX10_layBytes_41 : decode cX10_layBytes 41 = .ok (.dup, 1) := by decide +kernel
theorem dX10_layBytes_42 : decode cX10_layBytes 42 = .ok (.getfield 114, 3) := by decide +kernel
theorem dX10_layBytes_45 : decode cX10_layBytes 45 = .ok (.iconst 1, 1) := by decide +kernel
theorem dX10_layBytes_46 : decode cX10_layBytes 46 = .ok (.iadd, 1) := by decide +kernel
theorem dX10_layBytes_47 : decode cX10_layBytes 47 = .ok (.putfield 114, 3) := by decide +kernel
theorem dX10_layBytes_50 : decode cX10_layBytes 50 = .ok (.iinc 2 (-8), 3) := by decide +kernel
theorem dX10_layBytes_53 : decode cX10_layBytes 53 = .ok (.goto (-50), 3) := by decide +kernel
theorem dX10_layBytes_56 : decode cX10_layBytes 56 = .ok (.return_, 1) := by decide +kernel
set_option maxRecDepth 20000 in
theorem gX10_readData_X1_read : GoodIn wsX10_readData (wsV RX10 376 RX1 yX1_read wsX1_read) := goodIn_app (goodIn_of _ (by decide +kernel)) ggX10_readData_X1_read
set_option maxRecDepth 20000 in
theorem gX10_readData_X10_textWasRead : GoodIn wsX10_readData (wsV RX10 158 RX10 yX10_textWasRead wsX10_textWasRead) := goodIn_app (goodIn_of _ (by decide +kernel)) ggX10_readData_X10_textWasRead
theorem dX10_readData_0 : decode cX10_readData 0 = .ok (.aload_n 0, 1) := by decide +kernel
theorem dX10_readData_1 : decode cX10_readData 1 = .ok (.getfield 40, 3) := by decide +kernel
theorem dX10_readData_4 : decode cX10_readData 4 = .ok (.aload_n 0, 1) := by decide +kernel
theorem dX10_readData_5 : decode cX10_readData 5 = .ok (.getfield 9, 3) := by decide +kernel
theorem dX10_readData_8 : decode cX10_readData 8 = .ok (.iload_n 1, 1) := by decide +kernel
theorem dX10_readData_9 : decode cX10_readData 9 = .ok (.aload_n 0, 1) := by decide +kernel
theorem dX10_readData_10 : decode cX10_readData 10 = .ok (.getfield 56, 3) := by decide +kernel
theorem dX10_readData_13 : decode cX10_readData 13 = .ok (.invokevirtual 376, 3) := by decide +kernel
theorem dX10_readData_16 : decode cX10_readData 16 = .ok (.istore_n 2, 1) := by decide +kernel
theorem dX10_readData_17 : decode cX10_readData 17 = .ok (.aload_n 0, 1) := by decide +kernel
theorem dX10_readData_18 : decode cX10_readData 18 = .ok (.iload_n 2, 1) := by decide +kernel
theorem dX10_readData_19 : decode cX10_readData 19 = .ok (.invokevirtual 158, 3) := by decide +kernel
theorem dX10_readData_22 : decode cX10_readData 22 = .ok (.iload_n 2, 1) := by decide +kernel
theorem dX10_readData_23 : decode cX10_readData 23 = .ok (.ireturn, 1) := by decide +kernel
set_option maxRecDepth 20000 in
theorem gX10_textWasRead_X6_refuse : GoodIn wsX10_textWasRead (wsV RX10 348 RX6 yX6_refuse wsX6_refuse) := goodIn_app (goodIn_of _ (by decide +kernel)) ggX10_textWasRead_X6_refuse
theorem dX10_textWasRead_0 : decode cX10_textWasRead 0 = .ok (.aload_n 0, 1) := by decide +kernel
theorem dX10_textWasRead_1 : decode cX10_textWasRead 1 = .ok (.iconst 0, 1) := by decide +kernel
theorem dX10_textWasRead_2 : decode cX10_textWasRead 2 = .ok (.putfield 114, 3) := by decide +kernel
theorem dX10_textWasRead_5 : decode cX10_textWasRead 5 = .ok (.aload_n 0, 1) := by decide +kernel
theorem dX10_textWasRead_6 : decode cX10_textWasRead 6 = .ok (.aload_n 0, 1) := by decide +kernel
theorem dX10_textWasRead_7 : decode cX10_textWasRead 7 = .ok (.getfield 31, 3) := by decide +kernel
theorem dX10_textWasRead_10 : decode cX10_textWasRead 10 = .ok (.getfield 379, 3) := by decide +kernel
theorem dX10_textWasRead_13 : decode cX10_textWasRead 13 = .ok (.putfield 13, 3) := by decide +kernel
theorem dX10_textWasRead_16 : decode cX10_textWasRead 16 = .ok (.iload_n 1, 1) := by decide +kernel
theorem dX10_textWasRead_17 : decode cX10_textWasRead 17 = .ok (.ifCond .eq 11, 3) := by decide +kernel
theorem dX10_textWasRead_20 : decode cX10_textWasRead 20 = .ok (.aload_n 0, 1) := by decide +kernel
theorem dX10_textWasRead_21 : decode cX10_textWasRead 21 = .ok (.getfield 63, 3) := by decide +kernel
theorem dX10_textWasRead_24 : decode cX10_textWasRead 24 = .ok (.iconst 0, 1) := by decide +kernel
theorem dX10_textWasRead_25 : decode cX10_textWasRead 25 = .ok (.invokevirtual 348, 3) := by decide +kernel
theorem dX10_textWasRead_28 : decode cX10_textWasRead 28 = .ok (.return_, 1) := by decide +kernel
set_option maxRecDepth 20000 in
theorem gX10_refusedUnread_X6_refuse : GoodIn wsX10_refusedUnread (wsV RX10 348 RX6 yX6_refuse wsX6_refuse) := goodIn_app (goodIn_of _ (by decide +kernel)) ggX10_refusedUnread_X6_refuse
theorem dX10_refusedUnread_0 : decode cX10_refusedUnread 0 = .ok (.aload_n 0, 1) := by decide +kernel
theorem dX10_refusedUnread_1 : decode cX10_refusedUnread 1 = .ok (.iconst 0, 1) := by decide +kernel
theorem dX10_refusedUnread_2 : decode cX10_refusedUnread 2 = .ok (.putfield 114, 3) := by decide +kernel
theorem dX10_refusedUnread_5 : decode cX10_refusedUnread 5 = .ok (.aload_n 0, 1) := by decide +kernel
theorem dX10_refusedUnread_6 : decode cX10_refusedUnread 6 = .ok (.getfield 63, 3) := by decide +kernel
theorem dX10_refusedUnread_9 : decode cX10_refusedUnread 9 = .ok (.iconst 1, 1) := by decide +kernel
theorem dX10_refusedUnread_10 : decode cX10_refusedUnread 10 = .ok (.invokevirtual 348, 3) := by decide +kernel
theorem dX10_refusedUnread_13 : decode cX10_refusedUnread 13 = .ok (.iconst (-1), 1) := by decide +kernel
theorem dX10_refusedUnread_14 : decode cX10_refusedUnread 14 = .ok (.ireturn, 1) := by decide +kernel
theorem dX10_pathAt_0 : decode cX10_pathAt 0 = .ok (.iload_n 1, 1) := by decide +kernel
theorem dX10_pathAt_1 : decode cX10_pathAt 1 = .ok (.ifCond .lt 8, 3) := by decide +kernel
theorem dX10_pathAt_4 : decode cX10_pathAt 4 = .ok (.iload_n 1, 1) := by decide +kernel
theorem dX10_pathAt_5 : decode cX10_pathAt 5 = .ok (.iconst 4, 1) := by decide +kernel
theorem dX10_pathAt_6 : decode cX10_pathAt 6 = .ok (.if_icmp .lt 7, 3) := by decide +kernel
theorem dX10_pathAt_9 : decode cX10_pathAt 9 = .ok (.aconst_null, 1) := by decide +kernel
theorem dX10_pathAt_10 : decode cX10_pathAt 10 = .ok (.goto 9, 3) := by decide +kernel
theorem dX10_pathAt_13 : decode cX10_pathAt 13 = .ok (.aload_n 0, 1) := by decide +kernel
theorem dX10_pathAt_14 : decode cX10_pathAt 14 = .ok (.getfield 19, 3) := by decide +kernel
theorem dX10_pathAt_17 : decode cX10_pathAt 17 = .ok (.iload_n 1, 1) := by decide +kernel
theorem dX10_pathAt_18 : decode cX10_pathAt 18 = .ok (.aaload, 1) := by decide +kernel
theorem dX10_pathAt_19 : decode cX10_pathAt 19 = .ok (.areturn, 1) := by decide +kernel
set_option maxRecDepth 20000 in
theorem gX10_findAnswers_X4_answersIn : GoodIn wsX10_findAnswers (wsV RX10 263 RX4 yX4_answersIn wsX4_answersIn) := goodIn_app (goodIn_of _ (by decide +kernel)) ggX10_findAnswers_X4_answersIn
theorem dX10_findAnswers_0 : decode cX10_findAnswers 0 = .ok (.iconst 0, 1) := by decide +kernel
theorem dX10_findAnswers_1 : decode cX10_findAnswers 1 = .ok (.istore_n 1, 1) := by decide +kernel
theorem dX10_findAnswers_2 : decode cX10_findAnswers 2 = .ok (.iload_n 1, 1) := by decide +kernel
theorem dX10_findAnswers_3 : decode cX10_findAnswers 3 = .ok (.iconst 4, 1) := by decide +kernel
theorem dX10_findAnswers_4 : decode cX10_findAnswers 4 = .ok (.if_icmp .ge 43, 3) := by decide +kernel
theorem dX10_findAnswers_7 : decode cX10_findAnswers 7 = .ok (.aload_n 0, 1) := by decide +kernel
theorem dX10_findAnswers_8 : decode cX10_findAnswers 8 = .ok (.getfield 19, 3) := by decide +kernel
theorem dX10_findAnswers_11 : decode cX10_findAnswers 11 = .ok (.iload_n 1, 1) := by decide +kernel
theorem dX10_findAnswers_12 : decode cX10_findAnswers 12 = .ok (.aaload, 1) := by decide +kernel
theorem dX10_findAnswers_13 : decode cX10_findAnswers 13 = .ok (.astore_n 2, 1) := by decide +kernel
theorem dX10_findAnswers_14 : decode cX10_findAnswers 14 = .ok (.aload_n 0, 1) := by decide +kernel
theorem dX10_findAnswers_15 : decode cX10_findAnswers 15 = .ok (.getfield 96, 3) := by decide +kernel
theorem dX10_findAnswers_18 : decode cX10_findAnswers 18 = .ok (.iload_n 1, 1) := by decide +kernel
theorem dX10_findAnswers_19 : decode cX10_findAnswers 19 = .ok (.aload_n 2, 1) := by decide +kernel
theorem dX10_findAnswers_20 : decode cX10_findAnswers 20 = .ok (.ifnonnull 7, 3) := by decide +kernel
theorem dX10_findAnswers_23 : decode cX10_findAnswers 23 = .ok (.lconst 0, 1) := by decide +kernel
theorem dX10_findAnswers_24 : decode cX10_findAnswers 24 = .ok (.goto 16, 3) := by decide +kernel
theorem dX10_findAnswers_27 : decode cX10_findAnswers 27 = .ok (.aload_n 2, 1) := by decide +kernel
theorem dX10_findAnswers_28 : decode cX10_findAnswers 28 = .ok (.aload_n 0, 1) := by decide +kernel
theorem dX10_findAnswers_29 : decode cX10_findAnswers 29 = .ok (.getfield 63, 3) := by decide +kernel
theorem dX10_findAnswers_32 : decode cX10_findAnswers 32 = .ok (.getfield 107, 3) := by decide +kernel
theorem dX10_findAnswers_35 : decode cX10_findAnswers 35 = .ok (.bipush 8, 2) := by decide +kernel
theorem dX10_findAnswers_37 : decode cX10_findAnswers 37 = .ok (.invokevirtual 263, 3) := by decide +kernel
theorem dX10_findAnswers_40 : decode cX10_findAnswers 40 = .ok (.lastore, 1) := by decide +kernel
theorem dX10_findAnswers_41 : decode cX10_findAnswers 41 = .ok (.iinc 1 1, 3) := by decide +kernel
theorem dX10_findAnswers_44 : decode cX10_findAnswers 44 = .ok (.goto (-42), 3) := by decide +kernel
theorem dX10_findAnswers_47 : decode cX10_findAnswers 47 = .ok (.return_, 1) := by decide +kernel
set_option maxRecDepth 20000 in
theorem gX10_pathsAnswering_X10_findAnswers : GoodIn wsX10_pathsAnswering (wsV RX10 397 RX10 yX10_findAnswers wsX10_findAnswers) := goodIn_app (goodIn_of _ (by decide +kernel)) ggX10_pathsAnswering_X10_findAnswers
set_option maxRecDepth 20000 in
theorem gX10_pathsAnswering_X10_pathsThere : GoodIn wsX10_pathsAnswering (wsV RX10 171 RX10 yX10_pathsThere wsX10_pathsThere) := goodIn_app (goodIn_of _ (by decide +kernel)) ggX10_pathsAnswering_X10_pathsThere
set_option maxRecDepth 20000 in
theorem gX10_pathsAnswering_X10_foundAmong : GoodIn wsX10_pathsAnswering (wsV RX10 355 RX10 yX10_foundAmong wsX10_foundAmong) := goodIn_app (goodIn_of _ (by decide +kernel)) ggX10_pathsAnswering_X10_foundAmong
theorem dX10_pathsAnswering_0 : decode cX10_pathsAnswering 0 = .ok (.aload_n 0, 1) := by decide +kernel
theorem dX10_pathsAnswering_1 : decode cX10_pathsAnswering 1 = .ok (.invokevirtual 397, 3) := by decide +kernel
theorem dX10_pathsAnswering_4 : decode cX10_pathsAnswering 4 = .ok (.aload_n 0, 1) := by decide +kernel
theorem dX10_pathsAnswering_5 : decode cX10_pathsAnswering 5 = .ok (.iload_n 1, 1) := by decide +kernel
theorem dX10_pathsAnswering_6 : decode cX10_pathsAnswering 6 = .ok (.aload_n 0, 1) := by decide +kernel
theorem dX10_pathsAnswering_7 : decode cX10_pathsAnswering 7 = .ok (.invokevirtual 171, 3) := by decide +kernel
theorem dX10_pathsAnswering_10 : decode cX10_pathsAnswering 10 = .ok (.invokevirtual 355, 3) := by decide +kernel
theorem dX10_pathsAnswering_13 : decode cX10_pathsAnswering 13 = .ok (.ireturn, 1) := by decide +kernel
set_option maxRecDepth 20000 in
theorem gX10_pathsThatFit_X10_findAnswers : GoodIn wsX10_pathsThatFit (wsV RX10 397 RX10 yX10_findAnswers wsX10_findAnswers) := goodIn_app (goodIn_of _ (by decide +kernel)) ggX10_pathsThatFit_X10_findAnswers
set_option maxRecDepth 20000 in
theorem gX10_pathsThatFit_X6_notedFits : GoodIn wsX10_pathsThatFit (wsV RX10 400 RX6 yX6_notedFits wsX6_notedFits) := goodIn_app (goodIn_of _ (by decide +kernel)) ggX10_pathsThatFit_X6_notedFits
theorem dX10_pathsThatFit_0 : decode cX10_pathsThatFit 0 = .ok (.aload_n 0, 1) := by decide +kernel
theorem dX10_pathsThatFit_1 : decode cX10_pathsThatFit 1 = .ok (.invokevirtual 397, 3) := by decide +kernel
theorem dX10_pathsThatFit_4 : decode cX10_pathsThatFit 4 = .ok (.iconst 0, 1) := by decide +kernel
theorem dX10_pathsThatFit_5 : decode cX10_pathsThatFit 5 = .ok (.istore_n 1, 1) := by decide +kernel
