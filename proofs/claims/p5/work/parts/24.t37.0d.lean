set_option maxRecDepth 100000 in
theorem ggX11_readThing_X11_isMarked : GoodIn wsX11_readThing wsX11_isMarked := (gi_cons 9 rfl rfl (gi_cons 2 rfl rfl (gi_cons 1 rfl rfl (gi_cons 10 rfl rfl (gi_cons 11 rfl rfl (gi_cons 12 rfl rfl (gi_cons 13 rfl rfl (gi_cons 8 rfl rfl (gi_cons 14 rfl rfl (gi_cons 15 rfl rfl (gi_cons 16 rfl rfl (gi_cons 17 rfl rfl (gi_cons 77 rfl rfl (gi_cons 78 rfl rfl (gi_cons 79 rfl rfl (gi_cons 80 rfl rfl (gi_cons 81 rfl rfl (gi_cons 82 rfl rfl (gi_cons 83 rfl rfl (gi_cons 84 rfl rfl (gi_cons 85 rfl rfl (gi_cons 86 rfl rfl (gi_cons 87 rfl rfl (gi_cons 88 rfl rfl (gi_cons 89 rfl rfl (gi_cons 90 rfl rfl (gi_cons 91 rfl rfl (gi_cons 92 rfl rfl (gi_cons 93 rfl rfl (gi_cons 94 rfl rfl (gi_cons 95 rfl rfl (gi_cons 96 rfl rfl (gi_cons 97 rfl rfl (gi_cons 98 rfl rfl (gi_cons 99 rfl rfl (gi_cons 100 rfl rfl (gi_cons 101 rfl rfl (gi_cons 102 rfl rfl (gi_cons 103 rfl rfl (gi_cons 104 rfl rfl (gi_cons 105 rfl rfl (gi_cons 106 rfl rfl (gi_cons 107 rfl rfl (gi_cons 108 rfl rfl (gi_cons 109 rfl rfl (gi_cons 110 rfl rfl (gi_cons 111 rfl rfl (gi_cons 112 rfl rfl (gi_cons 113 rfl rfl (gi_cons 114 rfl rfl (gi_cons 115 rfl rfl (gi_cons 116 rfl rfl (gi_cons 117 rfl rfl (gi_cons 118 rfl rfl (gi_cons 119 rfl rfl (gi_cons 120 rfl rfl (gi_cons 121 rfl rfl (gi_cons 122 rfl rfl (gi_cons 123 rfl rfl (gi_cons 124 rfl rfl (gi_cons 125 rfl rfl (gi_cons 126 rfl rfl (gi_cons 127 rfl rfl (gi_cons 128 rfl rfl (gi_cons 129 rfl rfl (gi_cons 130 rfl rfl (gi_cons 131 rfl rfl (gi_cons 132 rfl rfl (gi_cons 133 rfl rfl (gi_cons 134 rfl rfl (gi_cons 135 rfl rfl (gi_cons 136 rfl rfl (gi_cons 137 rfl rfl (gi_cons 138 rfl rfl (gi_cons 139 rfl rfl (gi_cons 140 rfl rfl (gi_cons 141 rfl rfl (gi_cons 142 rfl rfl gi_nil))))))))))))))))))))))))))))))))))))))))))))))))))))))))))))))))))))))))))))))
set_option maxRecDepth 20000 in
theorem gX11_readThing_X11_isMarked : GoodIn wsX11_readThing (wsV RX11 171 RX11 yX11_isMarked wsX11_isMarked) := goodIn_app (goodIn_of _ (by decide +kernel)) ggX11_readThing_X11_isMarked
set_option maxRecDepth 100000 in
theorem ggX11_readThing_X11_wrong : GoodIn wsX11_readThing wsX11_wrong := (gi_cons 21 rfl rfl (gi_cons 2 rfl rfl (gi_cons 10 rfl rfl (gi_cons 22 rfl rfl (gi_cons 77 rfl rfl (gi_cons 78 rfl rfl (gi_cons 79 rfl rfl (gi_cons 80 rfl rfl (gi_cons 81 rfl rfl (gi_cons 82 rfl rfl (gi_cons 83 rfl rfl (gi_cons 84 rfl rfl (gi_cons 85 rfl rfl (gi_cons 86 rfl rfl (gi_cons 87 rfl rfl (gi_cons 88 rfl rfl (gi_cons 89 rfl rfl (gi_cons 90 rfl rfl (gi_cons 91 rfl rfl (gi_cons 92 rfl rfl (gi_cons 93 rfl rfl (gi_cons 94 rfl rfl (gi_cons 95 rfl rfl (gi_cons 96 rfl rfl (gi_cons 97 rfl rfl (gi_cons 98 rfl rfl (gi_cons 99 rfl rfl (gi_cons 100 rfl rfl (gi_cons 101 rfl rfl (gi_cons 102 rfl rfl (gi_cons 103 rfl rfl (gi_cons 104 rfl rfl (gi_cons 105 rfl rfl (gi_cons 106 rfl rfl (gi_cons 107 rfl rfl (gi_cons 108 rfl rfl (gi_cons 109 rfl rfl (gi_cons 110 rfl rfl (gi_cons 111 rfl rfl (gi_cons 112 rfl rfl (gi_cons 113 rfl rfl (gi_cons 114 rfl rfl (gi_cons 115 rfl rfl (gi_cons 116 rfl rfl (gi_cons 117 rfl rfl (gi_cons 118 rfl rfl (gi_cons 119 rfl rfl (gi_cons 120 rfl rfl (gi_cons 121 rfl rfl (gi_cons 122 rfl rfl (gi_cons 123 rfl rfl (gi_cons 124 rfl rfl (gi_cons 125 rfl rfl (gi_cons 126 rfl rfl (gi_cons 127 rfl rfl (gi_cons 128 rfl rfl (gi_cons 129 rfl rfl (gi_cons 130 rfl rfl (gi_cons 131 rfl rfl (gi_cons 132 rfl rfl (gi_cons 133 rfl rfl (gi_cons 134 rfl rfl (gi_cons 135 rfl rfl (gi_cons 136 rfl rfl (gi_cons 137 rfl rfl (gi_cons 138 rfl rfl (gi_cons 139 rfl rfl (gi_cons 140 rfl rfl (gi_cons 141 rfl rfl (gi_cons 142 rfl rfl gi_nil))))))))))))))))))))))))))))))))))))))))))))))))))))))))))))))))))))))
set_option maxRecDepth 20000 in
theorem gX11_readThing_X11_wrong : GoodIn wsX11_readThing (wsV RX11 174 RX11 yX11_wrong wsX11_wrong) := goodIn_app (goodIn_of _ (by decide +kernel)) ggX11_readThing_X11_wrong
set_option maxRecDepth 100000 in
theorem ggX11_readThing_X11_readWord : GoodIn wsX11_readThing wsX11_readWord := (gi_cons 26 rfl rfl (gi_cons 27 rfl rfl (gi_cons 28 rfl rfl (gi_cons 29 rfl rfl (gi_cons 8 rfl rfl (gi_cons 30 rfl rfl (gi_cons 2 rfl rfl (gi_cons 1 rfl rfl (gi_cons 31 rfl rfl (gi_cons 10 rfl rfl (gi_cons 32 rfl rfl (gi_cons 18 rfl rfl (gi_cons 19 rfl rfl (gi_cons 20 rfl rfl (gi_cons 21 rfl rfl (gi_cons 22 rfl rfl (gi_cons 33 rfl rfl (gi_cons 34 rfl rfl (gi_cons 35 rfl rfl (gi_cons 36 rfl rfl (gi_cons 37 rfl rfl (gi_cons 38 rfl rfl (gi_cons 39 rfl rfl (gi_cons 40 rfl rfl (gi_cons 41 rfl rfl (gi_cons 42 rfl rfl (gi_cons 43 rfl rfl (gi_cons 44 rfl rfl (gi_cons 45 rfl rfl (gi_cons 46 rfl rfl (gi_cons 47 rfl rfl (gi_cons 11 rfl rfl (gi_cons 12 rfl rfl (gi_cons 13 rfl rfl (gi_cons 14 rfl rfl (gi_cons 15 rfl rfl (gi_cons 16 rfl rfl (gi_cons 17 rfl rfl (gi_cons 48 rfl rfl (gi_cons 49 rfl rfl (gi_cons 50 rfl rfl (gi_cons 51 rfl rfl (gi_cons 52 rfl rfl (gi_cons 53 rfl rfl (gi_cons 77 rfl rfl (gi_cons 78 rfl rfl (gi_cons 79 rfl rfl (gi_cons 80 rfl rfl (gi_cons 81 rfl rfl (gi_cons 82 rfl rfl (gi_cons 83 rfl rfl (gi_cons 84 rfl rfl (gi_cons 85 rfl rfl (gi_cons 86 rfl rfl (gi_cons 87 rfl rfl (gi_cons 88 rfl rfl (gi_cons 89 rfl rfl (gi_cons 90 rfl rfl (gi_cons 91 rfl rfl (gi_cons 92 rfl rfl (gi_cons 93 rfl rfl (gi_cons 94 rfl rfl (gi_cons 95 rfl rfl (gi_cons 96 rfl rfl (gi_cons 97 rfl rfl (gi_cons 98 rfl rfl (gi_cons 99 rfl rfl (gi_cons 100 rfl rfl (gi_cons 101 rfl rfl (gi_cons 102 rfl rfl (gi_cons 103 rfl rfl (gi_cons 104 rfl rfl (gi_cons 105 rfl rfl (gi_cons 106 rfl rfl (gi_cons 107 rfl rfl (gi_cons 108 rfl rfl (gi_cons 109 rfl rfl (gi_cons 110 rfl rfl (gi_cons 111 rfl rfl (gi_cons 112 rfl rfl (gi_cons 113 rfl rfl (gi_cons 114 rfl rfl (gi_cons 115 rfl rfl (gi_cons 116 rfl rfl (gi_cons 117 rfl rfl (gi_cons 118 rfl rfl (gi_cons 119 rfl rfl (gi_cons 120 rfl rfl (gi_cons 121 rfl rfl (gi_cons 122 rfl rfl (gi_cons 123 rfl rfl (gi_cons 124 rfl rfl (gi_cons 125 rfl rfl (gi_cons 126 rfl rfl (gi_cons 127 rfl rfl (gi_cons 128 rfl rfl (gi_cons 129 rfl rfl (gi_cons 130 rfl rfl (gi_cons 131 rfl rfl (gi_cons 132 rfl rfl (gi_cons 133 rfl rfl (gi_cons 134 rfl rfl (gi_cons 135 rfl rfl (gi_cons 136 rfl rfl (gi_cons 137 rfl rfl (gi_cons 138 rfl rfl (gi_cons 139 rfl rfl (gi_cons 140 rfl rfl (gi_cons 141 rfl rfl (gi_cons 142 rfl rfl gi_nil))))))))))))))))))))))))))))))))))))))))))))))))))))))))))))))))))))))))))))))))))))))))))))))))))))))))))))))
set_option maxRecDepth 20000 in
theorem gX11_readThing_X11_readWord : GoodIn wsX11_readThing (wsV RX11 191 RX11 yX11_readWord wsX11_readWord) := goodIn_app (goodIn_of _ (by decide +kernel)) ggX11_readThing_X11_readWord
set_option maxRecDepth 100000 in
theorem ggX11_readThing_X11_readMany : GoodIn wsX11_readThing wsX11_readMany := (gi_cons 65 rfl rfl (gi_cons 2 rfl rfl (gi_cons 4 rfl rfl (gi_cons 33 rfl rfl (gi_cons 34 rfl rfl (gi_cons 35 rfl rfl (gi_cons 8 rfl rfl (gi_cons 36 rfl rfl (gi_cons 37 rfl rfl (gi_cons 38 rfl rfl (gi_cons 39 rfl rfl (gi_cons 40 rfl rfl (gi_cons 41 rfl rfl (gi_cons 10 rfl rfl (gi_cons 1 rfl rfl (gi_cons 32 rfl rfl (gi_cons 42 rfl rfl (gi_cons 43 rfl rfl (gi_cons 44 rfl rfl (gi_cons 45 rfl rfl (gi_cons 46 rfl rfl (gi_cons 47 rfl rfl (gi_cons 31 rfl rfl (gi_cons 11 rfl rfl (gi_cons 12 rfl rfl (gi_cons 13 rfl rfl (gi_cons 14 rfl rfl (gi_cons 15 rfl rfl (gi_cons 16 rfl rfl (gi_cons 17 rfl rfl (gi_cons 48 rfl rfl (gi_cons 49 rfl rfl (gi_cons 50 rfl rfl (gi_cons 51 rfl rfl (gi_cons 52 rfl rfl (gi_cons 53 rfl rfl (gi_cons 5 rfl rfl (gi_cons 6 rfl rfl (gi_cons 7 rfl rfl (gi_cons 9 rfl rfl (gi_cons 66 rfl rfl (gi_cons 67 rfl rfl (gi_cons 68 rfl rfl (gi_cons 69 rfl rfl (gi_cons 3 rfl rfl (gi_cons 27 rfl rfl (gi_cons 28 rfl rfl (gi_cons 29 rfl rfl (gi_cons 30 rfl rfl (gi_cons 18 rfl rfl (gi_cons 19 rfl rfl (gi_cons 20 rfl rfl (gi_cons 21 rfl rfl (gi_cons 22 rfl rfl (gi_cons 70 rfl rfl (gi_cons 71 rfl rfl (gi_cons 72 rfl rfl (gi_cons 73 rfl rfl (gi_cons 74 rfl rfl (gi_cons 75 rfl rfl (gi_cons 76 rfl rfl (gi_cons 0 rfl rfl (gi_cons 23 rfl rfl (gi_cons 24 rfl rfl (gi_cons 25 rfl rfl (gi_cons 26 rfl rfl (gi_cons 54 rfl rfl (gi_cons 55 rfl rfl (gi_cons 56 rfl rfl (gi_cons 57 rfl rfl (gi_cons 58 rfl rfl (gi_cons 59 rfl rfl (gi_cons 60 rfl rfl (gi_cons 61 rfl rfl (gi_cons 62 rfl rfl (gi_cons 63 rfl rfl (gi_cons 64 rfl rfl (gi_cons 77 rfl rfl (gi_cons 78 rfl rfl (gi_cons 79 rfl rfl (gi_cons 80 rfl rfl (gi_cons 81 rfl rfl (gi_cons 82 rfl rfl (gi_cons 83 rfl rfl (gi_cons 84 rfl rfl (gi_cons 85 rfl rfl (gi_cons 86 rfl rfl (gi_cons 87 rfl rfl (gi_cons 88 rfl rfl (gi_cons 89 rfl rfl (gi_cons 90 rfl rfl (gi_cons 91 rfl rfl (gi_cons 92 rfl rfl (gi_cons 93 rfl rfl (gi_cons 94 rfl rfl (gi_cons 95 rfl rfl (gi_cons 96 rfl rfl (gi_cons 97 rfl rfl (gi_cons 98 rfl rfl (gi_cons 99 rfl rfl (gi_cons 100 rfl rfl (gi_cons 101 rfl rfl (gi_cons 102 rfl rfl (gi_cons 103 rfl rfl (gi_cons 104 rfl rfl (gi_cons 105 rfl rfl (gi_cons 106 rfl rfl (gi_cons 107 rfl rfl (gi_cons 108 rfl rfl (gi_cons 109 rfl rfl (gi_cons 110 rfl rfl (gi_cons 111 rfl rfl (gi_cons 112 rfl rfl (gi_cons 113 rfl rfl (gi_cons 114 rfl rfl (gi_cons 115 rfl rfl (gi_cons 116 rfl rfl (gi_cons 117 rfl rfl (gi_cons 118 rfl rfl (gi_cons 119 rfl rfl (gi_cons 120 rfl rfl (gi_cons 121 rfl rfl (gi_cons 122 rfl rfl (gi_cons 123 rfl rfl (gi_cons 124 rfl rfl (gi_cons 125 rfl rfl (gi_cons 126 rfl rfl (gi_cons 127 rfl rfl (gi_cons 128 rfl rfl (gi_cons 129 rfl rfl (gi_cons 130 rfl rfl (gi_cons 131 rfl rfl (gi_cons 132 rfl rfl (gi_cons 133 rfl rfl (gi_cons 134 rfl rfl (gi_cons 135 rfl rfl (gi_cons 136 rfl rfl (gi_cons 137 rfl rfl (gi_cons 138 rfl rfl (gi_cons 139 rfl rfl (gi_cons 140 rfl rfl (gi_cons 141 rfl rfl (gi_cons 142 rfl rfl gi_nil)))))))))))))))))))))))))))))))))))))))))))))))))))))))))))))))))))))))))))))))))))))))))))))))))))))))))))))))))))))))))))))))))))))))))))))))
set_option maxRecDepth 20000 in
theorem gX11_readThing_X11_readMany : GoodIn wsX11_readThing (wsV RX11 194 RX11 yX11_readMany wsX11_readMany) := goodIn_app (goodIn_of _ (by decide +kernel)) ggX11_readThing_X11_readMany
set_option maxRecDepth 100000 in
theorem ggX11_readThing_X11_readNumber : GoodIn wsX11_readThing wsX11_readNumber := (gi_cons 60 rfl rfl (gi_cons 5 rfl rfl (gi_cons 6 rfl rfl (gi_cons 7 rfl rfl (gi_cons 8 rfl rfl (gi_cons 9 rfl rfl (gi_cons 2 rfl rfl (gi_cons 1 rfl rfl (gi_cons 10 rfl rfl (gi_cons 11 rfl rfl (gi_cons 12 rfl rfl (gi_cons 13 rfl rfl (gi_cons 14 rfl rfl (gi_cons 15 rfl rfl (gi_cons 16 rfl rfl (gi_cons 17 rfl rfl (gi_cons 33 rfl rfl (gi_cons 34 rfl rfl (gi_cons 35 rfl rfl (gi_cons 36 rfl rfl (gi_cons 37 rfl rfl (gi_cons 38 rfl rfl (gi_cons 39 rfl rfl (gi_cons 40 rfl rfl (gi_cons 41 rfl rfl (gi_cons 32 rfl rfl (gi_cons 42 rfl rfl (gi_cons 43 rfl rfl (gi_cons 44 rfl rfl (gi_cons 45 rfl rfl (gi_cons 46 rfl rfl (gi_cons 47 rfl rfl (gi_cons 31 rfl rfl (gi_cons 48 rfl rfl (gi_cons 49 rfl rfl (gi_cons 50 rfl rfl (gi_cons 51 rfl rfl (gi_cons 52 rfl rfl (gi_cons 53 rfl rfl (gi_cons 61 rfl rfl (gi_cons 62 rfl rfl (gi_cons 63 rfl rfl (gi_cons 64 rfl rfl (gi_cons 18 rfl rfl (gi_cons 19 rfl rfl (gi_cons 20 rfl rfl (gi_cons 21 rfl rfl (gi_cons 22 rfl rfl (gi_cons 77 rfl rfl (gi_cons 78 rfl rfl (gi_cons 79 rfl rfl (gi_cons 80 rfl rfl (gi_cons 81 rfl rfl (gi_cons 82 rfl rfl (gi_cons 83 rfl rfl (gi_cons 84 rfl rfl (gi_cons 85 rfl rfl (gi_cons 86 rfl rfl (gi_cons 87 rfl rfl (gi_cons 88 rfl rfl (gi_cons 89 rfl rfl (gi_cons 90 rfl rfl (gi_cons 91 rfl rfl (gi_cons 92 rfl rfl (gi_cons 93 rfl rfl (gi_cons 94 rfl rfl (gi_cons 95 rfl rfl (gi_cons 96 rfl rfl (gi_cons 97 rfl rfl (gi_cons 98 rfl rfl (gi_cons 99 rfl rfl (gi_cons 100 rfl rfl (gi_cons 101 rfl rfl (gi_cons 102 rfl rfl (gi_cons 103 rfl rfl (gi_cons 104 rfl rfl (gi_cons 105 rfl rfl (gi_cons 106 rfl rfl (gi_cons 107 rfl rfl (gi_cons 108 rfl rfl (gi_cons 109 rfl rfl (gi_cons 110 rfl rfl (gi_cons 111 rfl rfl (gi_cons 112 rfl rfl (gi_cons 113 rfl rfl (gi_cons 114 rfl rfl (gi_cons 115 rfl rfl (gi_cons 116 rfl rfl (gi_cons 117 rfl rfl (gi_cons 118 rfl rfl (gi_cons 119 rfl rfl (gi_cons 120 rfl rfl (gi_cons 121 rfl rfl (gi_cons 122 rfl rfl (gi_cons 123 rfl rfl (gi_cons 124 rfl rfl (gi_cons 125 rfl rfl (gi_cons 126 rfl rfl (gi_cons 127 rfl rfl (gi_cons 128 rfl rfl (gi_cons 129 rfl rfl (gi_cons 130 rfl rfl (gi_cons 131 rfl rfl (gi_cons 132 rfl rfl (gi_cons 133 rfl rfl (gi_cons 134 rfl rfl (gi_cons 135 rfl rfl (gi_cons 136 rfl rfl (gi_cons 137 rfl rfl (gi_cons 138 rfl rfl (gi_cons 139 rfl rfl (gi_cons 140 rfl rfl (gi_cons 141 rfl rfl (gi_cons 142 rfl rfl gi_nil))))))))))))))))))))))))))))))))))))))))))))))))))))))))))))))))))))))))))))))))))))))))))))))))))))))))))))))))))
set_option maxRecDepth 20000 in
theorem gX11_readThing_X11_readNumber : GoodIn wsX11_readThing (wsV RX11 198 RX11 yX11_readNumber wsX11_readNumber) := goodIn_app (goodIn_of _ (by decide +kernel)) ggX11_readThing_X11_readNumber
theorem dX11_readThing_0 : decode cX11_readThing 0 = .ok (.aload_n 0, 1) := by decide +kernel
theorem dX11_readThing_1 : decode cX11_readThing 1 = .ok (.getfield 136, 3) := by decide +kernel
theorem dX11_readThing_4 : decode cX11_readThing 4 = .ok (.iconst 2, 1) := by decide +kernel
theorem dX11_readThing_5 : decode cX11_readThing 5 = .ok (.if_icmp .eq 38, 3) := by decide +kernel
theorem dX11_readThing_8 : decode cX11_readThing 8 = .ok (.aload_n 0, 1) := by decide +kernel
theorem dX11_readThing_9 : decode cX11_readThing 9 = .ok (.getfield 136, 3) := by decide +kernel
theorem dX11_readThing_12 : decode cX11_readThing 12 = .ok (.iconst 1, 1) := by decide +kernel
theorem dX11_readThing_13 : decode cX11_readThing 13 = .ok (.if_icmp .eq 30, 3) := by decide +kernel
theorem dX11_readThing_16 : decode cX11_readThing 16 = .ok (.aload_n 0, 1) := by decide +kernel
theorem dX11_readThing_17 : decode cX11_readThing 17 = .ok (.bipush 45, 2) := by decide +kernel
theorem dX11_readThing_19 : decode cX11_readThing 19 = .ok (.invokevirtual 171, 3) := by decide +kernel
theorem dX11_readThing_22 : decode cX11_readThing 22 = .ok (.ifCond .ne 21, 3) := by decide +kernel
theorem dX11_readThing_25 : decode cX11_readThing 25 = .ok (.aload_n 0, 1) := by decide +kernel
theorem dX11_readThing_26 : decode cX11_readThing 26 = .ok (.bipush 91, 2) := by decide +kernel
theorem dX11_readThing_28 : decode cX11_readThing 28 = .ok (.invokevirtual 171, 3) := by decide +kernel
theorem dX11_readThing_31 : decode cX11_readThing 31 = .ok (.ifCond .ne 12, 3) := by decide +kernel
theorem dX11_readThing_34 : decode cX11_readThing 34 = .ok (.aload_n 0, 1) := by decide +kernel
theorem dX11_readThing_35 : decode cX11_readThing 35 = .ok (.bipush 123, 2) := by decide +kernel
theorem dX11_readThing_37 : decode cX11_readThing 37 = .ok (.invokevirtual 171, 3) := by decide +kernel
theorem dX11_readThing_40 : decode cX11_readThing 40 = .ok (.ifCond .eq 7, 3) := by decide +kernel
theorem dX11_readThing_43 : decode cX11_readThing 43 = .ok (.iconst 1, 1) := by decide +kernel
theorem dX11_readThing_44 : decode cX11_readThing 44 = .ok (.goto 4, 3) := by decide +kernel
theorem dX11_readThing_47 : decode cX11_readThing 47 = .ok (.iconst 0, 1) := by decide +kernel
theorem dX11_readThing_48 : decode cX11_readThing 48 = .ok (.istore_n 3, 1) := by decide +kernel
theorem dX11_readThing_49 : decode cX11_readThing 49 = .ok (.iload_n 3, 1) := by decide +kernel
theorem dX11_readThing_50 : decode cX11_readThing 50 = .ok (.ifCond .ne 8, 3) := by decide +kernel
theorem dX11_readThing_53 : decode cX11_readThing 53 = .ok (.aload_n 0, 1) := by decide +kernel
theorem dX11_readThing_54 : decode cX11_readThing 54 = .ok (.iconst 1, 1) := by decide +kernel
theorem dX11_readThing_55 : decode cX11_readThing 55 = .ok (.invokevirtual 174, 3) := by decide +kernel
theorem dX11_readThing_58 : decode cX11_readThing 58 = .ok (.aload_n 0, 1) := by decide +kernel
theorem dX11_readThing_59 : decode cX11_readThing 59 = .ok (.getfield 162, 3) := by decide +kernel
theorem dX11_readThing_62 : decode cX11_readThing 62 = .ok (.ifCond .ne 23, 3) := by decide +kernel
theorem dX11_readThing_65 : decode cX11_readThing 65 = .ok (.aload_n 0, 1) := by decide +kernel
theorem dX11_readThing_66 : decode cX11_readThing 66 = .ok (.getfield 188, 3) := by decide +kernel
theorem dX11_readThing_69 : decode cX11_readThing 69 = .ok (.bipush 60, 2) := by decide +kernel
theorem dX11_readThing_71 : decode cX11_readThing 71 = .ok (.if_icmp .eq 9, 3) := by decide +kernel
theorem dX11_readThing_74 : decode cX11_readThing 74 = .ok (.iload_n 2, 1) := by decide +kernel
theorem dX11_readThing_75 : decode cX11_readThing 75 = .ok (.bipush 7, 2) := by decide +kernel
theorem dX11_readThing_77 : decode cX11_readThing 77 = .ok (.if_icmp .le 8, 3) := by decide +kernel
theorem dX11_readThing_80 : decode cX11_readThing 80 = .ok (.aload_n 0, 1) := by decide +kernel
theorem dX11_readThing_81 : decode cX11_readThing 81 = .ok (.iconst 2, 1) := by decide +kernel
theorem dX11_readThing_82 : decode cX11_readThing 82 = .ok (.invokevirtual 174, 3) := by decide +kernel
theorem dX11_readThing_85 : decode cX11_readThing 85 = .ok (.aload_n 0, 1) := by decide +kernel
theorem dX11_readThing_86 : decode cX11_readThing 86 = .ok (.getfield 162, 3) := by decide +kernel
theorem dX11_readThing_89 : decode cX11_readThing 89 = .ok (.ifCond .eq 4, 3) := by decide +kernel
theorem dX11_readThing_92 : decode cX11_readThing 92 = .ok (.return_, 1) := by decide +kernel
theorem dX11_readThing_93 : decode cX11_readThing 93 = .ok (.iconst 4, 1) := by decide +kernel
theorem dX11_readThing_94 : decode cX11_readThing 94 = .ok (.aload_n 0, 1) := by decide +kernel
theorem dX11_readThing_95 : decode cX11_readThing 95 = .ok (.getfield 188, 3) := by decide +kernel
theorem dX11_readThing_98 : decode cX11_readThing 98 = .ok (.imul, 1) := by decide +kernel
theorem dX11_readThing_99 : decode cX11_readThing 99 = .ok (.istore 4, 2) := by decide +kernel
theorem dX11_readThing_101 : decode cX11_readThing 101 = .ok (.aload_n 0, 1) := by decide +kernel
theorem dX11_readThing_102 : decode cX11_readThing 102 = .ok (.dup, 1) := by decide +kernel
theorem dX11_readThing_103 : decode cX11_readThing 103 = .ok (.getfield 188, 3) := by decide +kernel
theorem dX11_readThing_106 : decode cX11_readThing 106 = .ok (.iconst 1, 1) := by decide +kernel
theorem dX11_readThing_107 : decode cX11_readThing 107 = .ok (.iadd, 1) := by decide +kernel
theorem dX11_readThing_108 : decode cX11_readThing 108 = .ok (.putfield 188, 3) := by decide +kernel
theorem dX11_readThing_111 : decode cX11_readThing 111 = .ok (.aload_n 0, 1) := by decide +kernel
theorem dX11_readThing_112 : decode cX11_readThing 112 = .ok (.getfield 13, 3) := by decide +kernel
theorem dX11_readThing_115 : decode cX11_readThing 115 = .ok (.iload 4, 2) := by decide +kernel
theorem dX11_readThing_117 : decode cX11_readThing 117 = .ok (.iconst 2, 1) := by decide +kernel
theorem dX11_readThing_118 : decode cX11_readThing 118 = .ok (.iadd, 1) := by decide +kernel
theorem dX11_readThing_119 : decode cX11_readThing 119 = .ok (.iload_n 1, 1) := by decide +kernel
theorem dX11_readThing_120 : decode cX11_readThing 120 = .ok (.iastore, 1) := by decide +kernel
theorem dX11_readThing_121 : decode cX11_readThing 121 = .ok (.aload_n 0, 1) := by decide +kernel
theorem dX11_readThing_122 : decode cX11_readThing 122 = .ok (.getfield 13, 3) := by decide +kernel
theorem dX11_readThing_125 : decode cX11_readThing 125 = .ok (.iload 4, 2) := by decide +kernel
theorem dX11_readThing_127 : decode cX11_readThing 127 = .ok (.iconst 1, 1) := by decide +kernel
theorem dX11_readThing_128 : decode cX11_readThing 128 = .ok (.iadd, 1) := by decide +kernel
theorem dX11_readThing_129 : decode cX11_readThing 129 = .ok (.iconst 0, 1) := by decide +kernel
theorem dX11_readThing_130 : decode cX11_readThing 130 = .ok (.iastore, 1) := by decide +kernel
theorem dX11_readThing_131 : decode cX11_readThing 131 = .ok (.aload_n 0, 1) := by decide +kernel
theorem dX11_readThing_132 : decode cX11_readThing 132 = .ok (.getfield 136, 3) := by decide +kernel
theorem dX11_readThing_135 : decode cX11_readThing 135 = .ok (.iconst 1, 1) := by decide +kernel
theorem dX11_readThing_136 : decode cX11_readThing 136 = .ok (.if_icmp .ne 27, 3) := by decide +kernel
theorem dX11_readThing_139 : decode cX11_readThing 139 = .ok (.aload_n 0, 1) := by decide +kernel
theorem dX11_readThing_140 : decode cX11_readThing 140 = .ok (.getfield 13, 3) := by decide +kernel
theorem dX11_readThing_143 : decode cX11_readThing 143 = .ok (.iload 4, 2) := by decide +kernel
theorem dX11_readThing_145 : decode cX11_readThing 145 = .ok (.iconst 1, 1) := by decide +kernel
theorem dX11_readThing_146 : decode cX11_readThing 146 = .ok (.iastore, 1) := by decide +kernel
theorem dX11_readThing_147 : decode cX11_readThing 147 = .ok (.aload_n 0, 1) := by decide +kernel
theorem dX11_readThing_148 : decode cX11_readThing 148 = .ok (.getfield 13, 3) := by decide +kernel
theorem dX11_readThing_151 : decode cX11_readThing 151 = .ok (.iload 4, 2) := by decide +kernel
theorem dX11_readThing_153 : decode cX11_readThing 153 = .ok (.iconst 1, 1) := by decide +kernel
theorem dX11_readThing_154 : decode cX11_readThing 154 = .ok (.iadd, 1) := by decide +kernel
theorem dX11_readThing_155 : decode cX11_readThing 155 = .ok (.aload_n 0, 1) := by decide +kernel
theorem dX11_readThing_156 : decode cX11_readThing 156 = .ok (.invokevirtual 191, 3) := by decide +kernel
theorem dX11_readThing_159 : decode cX11_readThing 159 = .ok (.iastore, 1) := by decide +kernel
theorem dX11_readThing_160 : decode cX11_readThing 160 = .ok (.goto 82, 3) := by decide +kernel
theorem dX11_readThing_163 : decode cX11_readThing 163 = .ok (.aload_n 0, 1) := by decide +kernel
theorem dX11_readThing_164 : decode cX11_readThing 164 = .ok (.bipush 91, 2) := by decide +kernel
theorem dX11_readThing_166 : decode cX11_readThing 166 = .ok (.invokevirtual 171, 3) := by decide +kernel
theorem dX11_readThing_169 : decode cX11_readThing 169 = .ok (.ifCond .eq 23, 3) := by decide +kernel
theorem dX11_readThing_172 : decode cX11_readThing 172 = .ok (.aload_n 0, 1) := by decide +kernel
theorem dX11_readThing_173 : decode cX11_readThing 173 = .ok (.getfield 13, 3) := by decide +kernel
theorem dX11_readThing_176 : decode cX11_readThing 176 = .ok (.iload 4, 2) := by decide +kernel
theorem dX11_readThing_178 : decode cX11_readThing 178 = .ok (.iconst 2, 1) := by decide +kernel
theorem dX11_readThing_179 : decode cX11_readThing 179 = .ok (.iastore, 1) := by decide +kernel
theorem dX11_readThing_180 : decode cX11_readThing 180 = .ok (.aload_n 0, 1) := by decide +kernel
theorem dX11_readThing_181 : decode cX11_readThing 181 = .ok (.iload 4, 2) := by decide +kernel
theorem dX11_readThing_183 : decode cX11_readThing 183 = .ok (.iload_n 2, 1) := by decide +kernel
theorem dX11_readThing_184 : decode cX11_readThing 184 = .ok (.bipush 93, 2) := by decide +kernel
theorem dX11_readThing_186 : decode cX11_readThing 186 = .ok (.invokevirtual 194, 3) := by decide +kernel
theorem dX11_readThing_189 : decode cX11_readThing 189 = .ok (.goto 53, 3) := by decide +kernel
theorem dX11_readThing_192 : decode cX11_readThing 192 = .ok (.aload_n 0, 1) := by decide +kernel
theorem dX11_readThing_193 : decode cX11_readThing 193 = .ok (.bipush 123, 2) := by decide +kernel
theorem dX11_readThing_195 : decode cX11_readThing 195 = .ok (.invokevirtual 171, 3) := by decide +kernel
theorem dX11_readThing_198 : decode cX11_readThing 198 = .ok (.ifCond .eq 23, 3) := by decide +kernel
theorem dX11_readThing_201 : decode cX11_readThing 201 = .ok (.aload_n 0, 1) := by decide +kernel
theorem dX11_readThing_202 : decode cX11_readThing 202 = .ok (.getfield 13, 3) := by decide +kernel
theorem dX11_readThing_205 : decode cX11_readThing 205 = .ok (.iload 4, 2) := by decide +kernel
theorem dX11_readThing_207 : decode cX11_readThing 207 = .ok (.iconst 3, 1) := by decide +kernel
theorem dX11_readThing_208 : decode cX11_readThing 208 = .ok (.iastore, 1) := by decide +kernel
theorem dX11_readThing_209 : decode cX11_readThing 209 = .ok (.aload_n 0, 1) := by decide +kernel
theorem dX11_readThing_210 : decode cX11_readThing 210 = .ok (.iload 4, 2) := by decide +kernel
theorem dX11_readThing_212 : decode cX11_readThing 212 = .ok (.iload_n 2, 1) := by decide +kernel
theorem dX11_readThing_213 : decode cX11_readThing 213 = .ok (.bipush 125, 2) := by decide +kernel
theorem dX11_readThing_215 : decode cX11_readThing 215 = .ok (.invokevirtual 194, 3) := by decide +kernel
theorem dX11_readThing_218 : decode cX11_readThing 218 = .ok (.goto 24, 3) := by decide +kernel
theorem dX11_readThing_221 : decode cX11_readThing 221 = .ok (.aload_n 0, 1) := by decide +kernel
theorem dX11_readThing_222 : decode cX11_readThing 222 = .ok (.getfield 13, 3) := by decide +kernel
theorem dX11_readThing_225 : decode cX11_readThing 225 = .ok (.iload 4, 2) := by decide +kernel
theorem dX11_readThing_227 : decode cX11_readThing 227 = .ok (.iconst 0, 1) := by decide +kernel
theorem dX11_readThing_228 : decode cX11_readThing 228 = .ok (.iastore, 1) := by decide +kernel
theorem dX11_readThing_229 : decode cX11_readThing 229 = .ok (.aload_n 0, 1) := by decide +kernel
theorem dX11_readThing_230 : decode cX11_readThing 230 = .ok (.getfield 13, 3) := by decide +kernel
theorem dX11_readThing_233 : decode cX11_readThing 233 = .ok (.iload 4, 2) := by decide +kernel
theorem dX11_readThing_235 : decode cX11_readThing 235 = .ok (.iconst 1, 1) := by decide +kernel
theorem dX11_readThing_236 : decode cX11_readThing 236 = .ok (.iadd, 1) := by decide +kernel
theorem dX11_readThing_237 : decode cX11_readThing 237 = .ok (.aload_n 0, 1) := by decide +kernel
theorem dX11_readThing_238 : decode cX11_readThing 238 = .ok (.invokevirtual 198, 3) := by decide +kernel
theorem dX11_readThing_241 : decode cX11_readThing 241 = .ok (.iastore, 1) := by decide +kernel
theorem dX11_readThing_242 : decode cX11_readThing 242 = .ok (.aload_n 0, 1) := by decide +kernel
theorem dX11_readThing_243 : decode cX11_readThing 243 = .ok (.getfield 13, 3) := by decide +kernel
theorem dX11_readThing_246 : decode cX11_readThing 246 = .ok (.iload 4, 2) := by decide +kernel
theorem dX11_readThing_248 : decode cX11_readThing 248 = .ok (.iconst 3, 1) := by decide +kernel
theorem dX11_readThing_249 : decode cX11_readThing 249 = .ok (.iadd, 1) := by decide +kernel
theorem dX11_readThing_250 : decode cX11_readThing 250 = .ok (.aload_n 0, 1) := by decide +kernel
theorem dX11_readThing_251 : decode cX11_readThing 251 = .ok (.getfield 188, 3) := by decide +kernel
theorem dX11_readThing_254 : decode cX11_readThing 254 = .ok (.iload 4, 2) := by decide +kernel
theorem dX11_readThing_256 : decode cX11_readThing 256 = .ok (.iconst 4, 1) := by decide +kernel
theorem dX11_readThing_257 : decode cX11_readThing 257 = .ok (.idiv, 1) := by decide +kernel
theorem dX11_readThing_258 : decode cX11_readThing 258 = .ok (.isub, 1) := by decide +kernel
theorem dX11_readThing_259 : decode cX11_readThing 259 = .ok (.iastore, 1) := by decide +kernel
theorem dX11_readThing_260 : decode cX11_readThing 260 = .ok (.return_, 1) := by decide +kernel
