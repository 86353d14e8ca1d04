set_option maxRecDepth 100000 in
theorem ggX11_little_X11_isMarked : GoodIn wsX11_little wsX11_isMarked := (gi_cons 12 rfl rfl (gi_cons 1 rfl rfl (gi_cons 7 rfl rfl (gi_cons 6 rfl rfl (gi_cons 13 rfl rfl (gi_cons 14 rfl rfl (gi_cons 15 rfl rfl (gi_cons 11 rfl rfl (gi_cons 16 rfl rfl (gi_cons 17 rfl rfl (gi_cons 18 rfl rfl (gi_cons 19 rfl rfl (gi_cons 95 rfl rfl (gi_cons 96 rfl rfl (gi_cons 97 rfl rfl (gi_cons 98 rfl rfl (gi_cons 99 rfl rfl (gi_cons 100 rfl rfl (gi_cons 101 rfl rfl (gi_cons 102 rfl rfl (gi_cons 103 rfl rfl (gi_cons 104 rfl rfl (gi_cons 105 rfl rfl (gi_cons 106 rfl rfl (gi_cons 107 rfl rfl (gi_cons 108 rfl rfl (gi_cons 109 rfl rfl (gi_cons 110 rfl rfl (gi_cons 111 rfl rfl (gi_cons 112 rfl rfl (gi_cons 113 rfl rfl (gi_cons 114 rfl rfl (gi_cons 115 rfl rfl (gi_cons 116 rfl rfl (gi_cons 117 rfl rfl (gi_cons 118 rfl rfl (gi_cons 119 rfl rfl (gi_cons 120 rfl rfl (gi_cons 121 rfl rfl (gi_cons 122 rfl rfl (gi_cons 123 rfl rfl (gi_cons 124 rfl rfl (gi_cons 125 rfl rfl (gi_cons 126 rfl rfl (gi_cons 127 rfl rfl (gi_cons 128 rfl rfl (gi_cons 129 rfl rfl (gi_cons 130 rfl rfl (gi_cons 131 rfl rfl (gi_cons 132 rfl rfl (gi_cons 133 rfl rfl (gi_cons 134 rfl rfl (gi_cons 135 rfl rfl (gi_cons 136 rfl rfl (gi_cons 137 rfl rfl (gi_cons 138 rfl rfl (gi_cons 139 rfl rfl (gi_cons 140 rfl rfl (gi_cons 141 rfl rfl (gi_cons 142 rfl rfl (gi_cons 143 rfl rfl (gi_cons 144 rfl rfl (gi_cons 145 rfl rfl (gi_cons 146 rfl rfl (gi_cons 147 rfl rfl (gi_cons 148 rfl rfl (gi_cons 149 rfl rfl (gi_cons 150 rfl rfl (gi_cons 151 rfl rfl (gi_cons 152 rfl rfl (gi_cons 153 rfl rfl (gi_cons 154 rfl rfl (gi_cons 155 rfl rfl (gi_cons 156 rfl rfl (gi_cons 157 rfl rfl (gi_cons 158 rfl rfl (gi_cons 159 rfl rfl (gi_cons 160 rfl rfl gi_nil))))))))))))))))))))))))))))))))))))))))))))))))))))))))))))))))))))))))))))))
set_option maxRecDepth 20000 in
theorem gX11_little_X11_isMarked : GoodIn wsX11_little (wsV RX11 171 RX11 yX11_isMarked wsX11_isMarked) := goodIn_app (goodIn_of _ (by decide +kernel)) ggX11_little_X11_isMarked
set_option maxRecDepth 100000 in
theorem ggX11_little_X11_wrong : GoodIn wsX11_little wsX11_wrong := (gi_cons 23 rfl rfl (gi_cons 1 rfl rfl (gi_cons 6 rfl rfl (gi_cons 24 rfl rfl (gi_cons 95 rfl rfl (gi_cons 96 rfl rfl (gi_cons 97 rfl rfl (gi_cons 98 rfl rfl (gi_cons 99 rfl rfl (gi_cons 100 rfl rfl (gi_cons 101 rfl rfl (gi_cons 102 rfl rfl (gi_cons 103 rfl rfl (gi_cons 104 rfl rfl (gi_cons 105 rfl rfl (gi_cons 106 rfl rfl (gi_cons 107 rfl rfl (gi_cons 108 rfl rfl (gi_cons 109 rfl rfl (gi_cons 110 rfl rfl (gi_cons 111 rfl rfl (gi_cons 112 rfl rfl (gi_cons 113 rfl rfl (gi_cons 114 rfl rfl (gi_cons 115 rfl rfl (gi_cons 116 rfl rfl (gi_cons 117 rfl rfl (gi_cons 118 rfl rfl (gi_cons 119 rfl rfl (gi_cons 120 rfl rfl (gi_cons 121 rfl rfl (gi_cons 122 rfl rfl (gi_cons 123 rfl rfl (gi_cons 124 rfl rfl (gi_cons 125 rfl rfl (gi_cons 126 rfl rfl (gi_cons 127 rfl rfl (gi_cons 128 rfl rfl (gi_cons 129 rfl rfl (gi_cons 130 rfl rfl (gi_cons 131 rfl rfl (gi_cons 132 rfl rfl (gi_cons 133 rfl rfl (gi_cons 134 rfl rfl (gi_cons 135 rfl rfl (gi_cons 136 rfl rfl (gi_cons 137 rfl rfl (gi_cons 138 rfl rfl (gi_cons 139 rfl rfl (gi_cons 140 rfl rfl (gi_cons 141 rfl rfl (gi_cons 142 rfl rfl (gi_cons 143 rfl rfl (gi_cons 144 rfl rfl (gi_cons 145 rfl rfl (gi_cons 146 rfl rfl (gi_cons 147 rfl rfl (gi_cons 148 rfl rfl (gi_cons 149 rfl rfl (gi_cons 150 rfl rfl (gi_cons 151 rfl rfl (gi_cons 152 rfl rfl (gi_cons 153 rfl rfl (gi_cons 154 rfl rfl (gi_cons 155 rfl rfl (gi_cons 156 rfl rfl (gi_cons 157 rfl rfl (gi_cons 158 rfl rfl (gi_cons 159 rfl rfl (gi_cons 160 rfl rfl gi_nil))))))))))))))))))))))))))))))))))))))))))))))))))))))))))))))))))))))
set_option maxRecDepth 20000 in
theorem gX11_little_X11_wrong : GoodIn wsX11_little (wsV RX11 174 RX11 yX11_wrong wsX11_wrong) := goodIn_app (goodIn_of _ (by decide +kernel)) ggX11_little_X11_wrong
set_option maxRecDepth 100000 in
theorem ggX11_little_X11_pass : GoodIn wsX11_little wsX11_pass := (gi_cons 28 rfl rfl (gi_cons 1 rfl rfl (gi_cons 29 rfl rfl (gi_cons 30 rfl rfl (gi_cons 31 rfl rfl (gi_cons 11 rfl rfl (gi_cons 32 rfl rfl (gi_cons 33 rfl rfl (gi_cons 6 rfl rfl (gi_cons 7 rfl rfl (gi_cons 34 rfl rfl (gi_cons 35 rfl rfl (gi_cons 36 rfl rfl (gi_cons 37 rfl rfl (gi_cons 38 rfl rfl (gi_cons 39 rfl rfl (gi_cons 40 rfl rfl (gi_cons 41 rfl rfl (gi_cons 13 rfl rfl (gi_cons 14 rfl rfl (gi_cons 15 rfl rfl (gi_cons 16 rfl rfl (gi_cons 17 rfl rfl (gi_cons 18 rfl rfl (gi_cons 19 rfl rfl (gi_cons 42 rfl rfl (gi_cons 43 rfl rfl (gi_cons 44 rfl rfl (gi_cons 45 rfl rfl (gi_cons 46 rfl rfl (gi_cons 47 rfl rfl (gi_cons 95 rfl rfl (gi_cons 96 rfl rfl (gi_cons 97 rfl rfl (gi_cons 98 rfl rfl (gi_cons 99 rfl rfl (gi_cons 100 rfl rfl (gi_cons 101 rfl rfl (gi_cons 102 rfl rfl (gi_cons 103 rfl rfl (gi_cons 104 rfl rfl (gi_cons 105 rfl rfl (gi_cons 106 rfl rfl (gi_cons 107 rfl rfl (gi_cons 108 rfl rfl (gi_cons 109 rfl rfl (gi_cons 110 rfl rfl (gi_cons 111 rfl rfl (gi_cons 112 rfl rfl (gi_cons 113 rfl rfl (gi_cons 114 rfl rfl (gi_cons 115 rfl rfl (gi_cons 116 rfl rfl (gi_cons 117 rfl rfl (gi_cons 118 rfl rfl (gi_cons 119 rfl rfl (gi_cons 120 rfl rfl (gi_cons 121 rfl rfl (gi_cons 122 rfl rfl (gi_cons 123 rfl rfl (gi_cons 124 rfl rfl (gi_cons 125 rfl rfl (gi_cons 126 rfl rfl (gi_cons 127 rfl rfl (gi_cons 128 rfl rfl (gi_cons 129 rfl rfl (gi_cons 130 rfl rfl (gi_cons 131 rfl rfl (gi_cons 132 rfl rfl (gi_cons 133 rfl rfl (gi_cons 134 rfl rfl (gi_cons 135 rfl rfl (gi_cons 136 rfl rfl (gi_cons 137 rfl rfl (gi_cons 138 rfl rfl (gi_cons 139 rfl rfl (gi_cons 140 rfl rfl (gi_cons 141 rfl rfl (gi_cons 142 rfl rfl (gi_cons 143 rfl rfl (gi_cons 144 rfl rfl (gi_cons 145 rfl rfl (gi_cons 146 rfl rfl (gi_cons 147 rfl rfl (gi_cons 148 rfl rfl (gi_cons 149 rfl rfl (gi_cons 150 rfl rfl (gi_cons 151 rfl rfl (gi_cons 152 rfl rfl (gi_cons 153 rfl rfl (gi_cons 154 rfl rfl (gi_cons 155 rfl rfl (gi_cons 156 rfl rfl (gi_cons 157 rfl rfl (gi_cons 158 rfl rfl (gi_cons 159 rfl rfl (gi_cons 160 rfl rfl gi_nil)))))))))))))))))))))))))))))))))))))))))))))))))))))))))))))))))))))))))))))))))))))))))))))))))
set_option maxRecDepth 20000 in
theorem gX11_little_X11_pass : GoodIn wsX11_little (wsV RX11 178 RX11 yX11_pass wsX11_pass) := goodIn_app (goodIn_of _ (by decide +kernel)) ggX11_little_X11_pass
set_option maxRecDepth 100000 in
theorem ggX11_little_X11_readWord : GoodIn wsX11_little wsX11_readWord := (gi_cons 51 rfl rfl (gi_cons 52 rfl rfl (gi_cons 53 rfl rfl (gi_cons 54 rfl rfl (gi_cons 11 rfl rfl (gi_cons 55 rfl rfl (gi_cons 1 rfl rfl (gi_cons 7 rfl rfl (gi_cons 41 rfl rfl (gi_cons 6 rfl rfl (gi_cons 34 rfl rfl (gi_cons 20 rfl rfl (gi_cons 21 rfl rfl (gi_cons 22 rfl rfl (gi_cons 23 rfl rfl (gi_cons 24 rfl rfl (gi_cons 25 rfl rfl (gi_cons 26 rfl rfl (gi_cons 27 rfl rfl (gi_cons 28 rfl rfl (gi_cons 29 rfl rfl (gi_cons 30 rfl rfl (gi_cons 31 rfl rfl (gi_cons 32 rfl rfl (gi_cons 33 rfl rfl (gi_cons 35 rfl rfl (gi_cons 36 rfl rfl (gi_cons 37 rfl rfl (gi_cons 38 rfl rfl (gi_cons 39 rfl rfl (gi_cons 40 rfl rfl (gi_cons 13 rfl rfl (gi_cons 14 rfl rfl (gi_cons 15 rfl rfl (gi_cons 16 rfl rfl (gi_cons 17 rfl rfl (gi_cons 18 rfl rfl (gi_cons 19 rfl rfl (gi_cons 42 rfl rfl (gi_cons 43 rfl rfl (gi_cons 44 rfl rfl (gi_cons 45 rfl rfl (gi_cons 46 rfl rfl (gi_cons 47 rfl rfl (gi_cons 95 rfl rfl (gi_cons 96 rfl rfl (gi_cons 97 rfl rfl (gi_cons 98 rfl rfl (gi_cons 99 rfl rfl (gi_cons 100 rfl rfl (gi_cons 101 rfl rfl (gi_cons 102 rfl rfl (gi_cons 103 rfl rfl (gi_cons 104 rfl rfl (gi_cons 105 rfl rfl (gi_cons 106 rfl rfl (gi_cons 107 rfl rfl (gi_cons 108 rfl rfl (gi_cons 109 rfl rfl (gi_cons 110 rfl rfl (gi_cons 111 rfl rfl (gi_cons 112 rfl rfl (gi_cons 113 rfl rfl (gi_cons 114 rfl rfl (gi_cons 115 rfl rfl (gi_cons 116 rfl rfl (gi_cons 117 rfl rfl (gi_cons 118 rfl rfl (gi_cons 119 rfl rfl (gi_cons 120 rfl rfl (gi_cons 121 rfl rfl (gi_cons 122 rfl rfl (gi_cons 123 rfl rfl (gi_cons 124 rfl rfl (gi_cons 125 rfl rfl (gi_cons 126 rfl rfl (gi_cons 127 rfl rfl (gi_cons 128 rfl rfl (gi_cons 129 rfl rfl (gi_cons 130 rfl rfl (gi_cons 131 rfl rfl (gi_cons 132 rfl rfl (gi_cons 133 rfl rfl (gi_cons 134 rfl rfl (gi_cons 135 rfl rfl (gi_cons 136 rfl rfl (gi_cons 137 rfl rfl (gi_cons 138 rfl rfl (gi_cons 139 rfl rfl (gi_cons 140 rfl rfl (gi_cons 141 rfl rfl (gi_cons 142 rfl rfl (gi_cons 143 rfl rfl (gi_cons 144 rfl rfl (gi_cons 145 rfl rfl (gi_cons 146 rfl rfl (gi_cons 147 rfl rfl (gi_cons 148 rfl rfl (gi_cons 149 rfl rfl (gi_cons 150 rfl rfl (gi_cons 151 rfl rfl (gi_cons 152 rfl rfl (gi_cons 153 rfl rfl (gi_cons 154 rfl rfl (gi_cons 155 rfl rfl (gi_cons 156 rfl rfl (gi_cons 157 rfl rfl (gi_cons 158 rfl rfl (gi_cons 159 rfl rfl (gi_cons 160 rfl rfl gi_nil))))))))))))))))))))))))))))))))))))))))))))))))))))))))))))))))))))))))))))))))))))))))))))))))))))))))))))))
set_option maxRecDepth 20000 in
theorem gX11_little_X11_readWord : GoodIn wsX11_little (wsV RX11 191 RX11 yX11_readWord wsX11_readWord) := goodIn_app (goodIn_of _ (by decide +kernel)) ggX11_little_X11_readWord
set_option maxRecDepth 100000 in
theorem ggX11_little_X11_readNumber : GoodIn wsX11_little wsX11_readNumber := (gi_cons 59 rfl rfl (gi_cons 8 rfl rfl (gi_cons 9 rfl rfl (gi_cons 10 rfl rfl (gi_cons 11 rfl rfl (gi_cons 12 rfl rfl (gi_cons 1 rfl rfl (gi_cons 7 rfl rfl (gi_cons 6 rfl rfl (gi_cons 13 rfl rfl (gi_cons 14 rfl rfl (gi_cons 15 rfl rfl (gi_cons 16 rfl rfl (gi_cons 17 rfl rfl (gi_cons 18 rfl rfl (gi_cons 19 rfl rfl (gi_cons 25 rfl rfl (gi_cons 26 rfl rfl (gi_cons 27 rfl rfl (gi_cons 28 rfl rfl (gi_cons 29 rfl rfl (gi_cons 30 rfl rfl (gi_cons 31 rfl rfl (gi_cons 32 rfl rfl (gi_cons 33 rfl rfl (gi_cons 34 rfl rfl (gi_cons 35 rfl rfl (gi_cons 36 rfl rfl (gi_cons 37 rfl rfl (gi_cons 38 rfl rfl (gi_cons 39 rfl rfl (gi_cons 40 rfl rfl (gi_cons 41 rfl rfl (gi_cons 42 rfl rfl (gi_cons 43 rfl rfl (gi_cons 44 rfl rfl (gi_cons 45 rfl rfl (gi_cons 46 rfl rfl (gi_cons 47 rfl rfl (gi_cons 60 rfl rfl (gi_cons 61 rfl rfl (gi_cons 62 rfl rfl (gi_cons 63 rfl rfl (gi_cons 20 rfl rfl (gi_cons 21 rfl rfl (gi_cons 22 rfl rfl (gi_cons 23 rfl rfl (gi_cons 24 rfl rfl (gi_cons 95 rfl rfl (gi_cons 96 rfl rfl (gi_cons 97 rfl rfl (gi_cons 98 rfl rfl (gi_cons 99 rfl rfl (gi_cons 100 rfl rfl (gi_cons 101 rfl rfl (gi_cons 102 rfl rfl (gi_cons 103 rfl rfl (gi_cons 104 rfl rfl (gi_cons 105 rfl rfl (gi_cons 106 rfl rfl (gi_cons 107 rfl rfl (gi_cons 108 rfl rfl (gi_cons 109 rfl rfl (gi_cons 110 rfl rfl (gi_cons 111 rfl rfl (gi_cons 112 rfl rfl (gi_cons 113 rfl rfl (gi_cons 114 rfl rfl (gi_cons 115 rfl rfl (gi_cons 116 rfl rfl (gi_cons 117 rfl rfl (gi_cons 118 rfl rfl (gi_cons 119 rfl rfl (gi_cons 120 rfl rfl (gi_cons 121 rfl rfl (gi_cons 122 rfl rfl (gi_cons 123 rfl rfl (gi_cons 124 rfl rfl (gi_cons 125 rfl rfl (gi_cons 126 rfl rfl (gi_cons 127 rfl rfl (gi_cons 128 rfl rfl (gi_cons 129 rfl rfl (gi_cons 130 rfl rfl (gi_cons 131 rfl rfl (gi_cons 132 rfl rfl (gi_cons 133 rfl rfl (gi_cons 134 rfl rfl (gi_cons 135 rfl rfl (gi_cons 136 rfl rfl (gi_cons 137 rfl rfl (gi_cons 138 rfl rfl (gi_cons 139 rfl rfl (gi_cons 140 rfl rfl (gi_cons 141 rfl rfl (gi_cons 142 rfl rfl (gi_cons 143 rfl rfl (gi_cons 144 rfl rfl (gi_cons 145 rfl rfl (gi_cons 146 rfl rfl (gi_cons 147 rfl rfl (gi_cons 148 rfl rfl (gi_cons 149 rfl rfl (gi_cons 150 rfl rfl (gi_cons 151 rfl rfl (gi_cons 152 rfl rfl (gi_cons 153 rfl rfl (gi_cons 154 rfl rfl (gi_cons 155 rfl rfl (gi_cons 156 rfl rfl (gi_cons 157 rfl rfl (gi_cons 158 rfl rfl (gi_cons 159 rfl rfl (gi_cons 160 rfl rfl gi_nil))))))))))))))))))))))))))))))))))))))))))))))))))))))))))))))))))))))))))))))))))))))))))))))))))))))))))))))))))
set_option maxRecDepth 20000 in
theorem gX11_little_X11_readNumber : GoodIn wsX11_little (wsV RX11 198 RX11 yX11_readNumber wsX11_readNumber) := goodIn_app (goodIn_of _ (by decide +kernel)) ggX11_little_X11_readNumber
set_option maxRecDepth 100000 in
theorem ggX11_little_X11_need : GoodIn wsX11_little wsX11_need := (gi_cons 67 rfl rfl (gi_cons 8 rfl rfl (gi_cons 9 rfl rfl (gi_cons 10 rfl rfl (gi_cons 11 rfl rfl (gi_cons 12 rfl rfl (gi_cons 1 rfl rfl (gi_cons 7 rfl rfl (gi_cons 6 rfl rfl (gi_cons 13 rfl rfl (gi_cons 14 rfl rfl (gi_cons 15 rfl rfl (gi_cons 16 rfl rfl (gi_cons 17 rfl rfl (gi_cons 18 rfl rfl (gi_cons 19 rfl rfl (gi_cons 20 rfl rfl (gi_cons 21 rfl rfl (gi_cons 22 rfl rfl (gi_cons 23 rfl rfl (gi_cons 24 rfl rfl (gi_cons 25 rfl rfl (gi_cons 26 rfl rfl (gi_cons 27 rfl rfl (gi_cons 28 rfl rfl (gi_cons 29 rfl rfl (gi_cons 30 rfl rfl (gi_cons 31 rfl rfl (gi_cons 32 rfl rfl (gi_cons 33 rfl rfl (gi_cons 34 rfl rfl (gi_cons 35 rfl rfl (gi_cons 36 rfl rfl (gi_cons 37 rfl rfl (gi_cons 38 rfl rfl (gi_cons 39 rfl rfl (gi_cons 40 rfl rfl (gi_cons 41 rfl rfl (gi_cons 42 rfl rfl (gi_cons 43 rfl rfl (gi_cons 44 rfl rfl (gi_cons 45 rfl rfl (gi_cons 46 rfl rfl (gi_cons 47 rfl rfl (gi_cons 95 rfl rfl (gi_cons 96 rfl rfl (gi_cons 97 rfl rfl (gi_cons 98 rfl rfl (gi_cons 99 rfl rfl (gi_cons 100 rfl rfl (gi_cons 101 rfl rfl (gi_cons 102 rfl rfl (gi_cons 103 rfl rfl (gi_cons 104 rfl rfl (gi_cons 105 rfl rfl (gi_cons 106 rfl rfl (gi_cons 107 rfl rfl (gi_cons 108 rfl rfl (gi_cons 109 rfl rfl (gi_cons 110 rfl rfl (gi_cons 111 rfl rfl (gi_cons 112 rfl rfl (gi_cons 113 rfl rfl (gi_cons 114 rfl rfl (gi_cons 115 rfl rfl (gi_cons 116 rfl rfl (gi_cons 117 rfl rfl (gi_cons 118 rfl rfl (gi_cons 119 rfl rfl (gi_cons 120 rfl rfl (gi_cons 121 rfl rfl (gi_cons 122 rfl rfl (gi_cons 123 rfl rfl (gi_cons 124 rfl rfl (gi_cons 125 rfl rfl (gi_cons 126 rfl rfl (gi_cons 127 rfl rfl (gi_cons 128 rfl rfl (gi_cons 129 rfl rfl (gi_cons 130 rfl rfl (gi_cons 131 rfl rfl (gi_cons 132 rfl rfl (gi_cons 133 rfl rfl (gi_cons 134 rfl rfl (gi_cons 135 rfl rfl (gi_cons 136 rfl rfl (gi_cons 137 rfl rfl (gi_cons 138 rfl rfl (gi_cons 139 rfl rfl (gi_cons 140 rfl rfl (gi_cons 141 rfl rfl (gi_cons 142 rfl rfl (gi_cons 143 rfl rfl (gi_cons 144 rfl rfl (gi_cons 145 rfl rfl (gi_cons 146 rfl rfl (gi_cons 147 rfl rfl (gi_cons 148 rfl rfl (gi_cons 149 rfl rfl (gi_cons 150 rfl rfl (gi_cons 151 rfl rfl (gi_cons 152 rfl rfl (gi_cons 153 rfl rfl (gi_cons 154 rfl rfl (gi_cons 155 rfl rfl (gi_cons 156 rfl rfl (gi_cons 157 rfl rfl (gi_cons 158 rfl rfl (gi_cons 159 rfl rfl (gi_cons 160 rfl rfl gi_nil))))))))))))))))))))))))))))))))))))))))))))))))))))))))))))))))))))))))))))))))))))))))))))))))))))))))))))))
set_option maxRecDepth 20000 in
theorem gX11_little_X11_need : GoodIn wsX11_little (wsV RX11 208 RX11 yX11_need wsX11_need) := goodIn_app (goodIn_of _ (by decide +kernel)) ggX11_little_X11_need
set_option maxRecDepth 100000 in
theorem ggX11_little_X11_byteAt : GoodIn wsX11_little wsX11_byteAt := (gi_cons 16 rfl rfl (gi_cons 17 rfl rfl (gi_cons 18 rfl rfl (gi_cons 19 rfl rfl (gi_cons 95 rfl rfl (gi_cons 96 rfl rfl (gi_cons 97 rfl rfl (gi_cons 98 rfl rfl (gi_cons 99 rfl rfl (gi_cons 100 rfl rfl (gi_cons 101 rfl rfl (gi_cons 102 rfl rfl (gi_cons 103 rfl rfl (gi_cons 104 rfl rfl (gi_cons 105 rfl rfl (gi_cons 106 rfl rfl (gi_cons 107 rfl rfl (gi_cons 108 rfl rfl (gi_cons 109 rfl rfl (gi_cons 110 rfl rfl (gi_cons 111 rfl rfl (gi_cons 112 rfl rfl (gi_cons 113 rfl rfl (gi_cons 114 rfl rfl (gi_cons 115 rfl rfl (gi_cons 116 rfl rfl (gi_cons 117 rfl rfl (gi_cons 118 rfl rfl (gi_cons 119 rfl rfl (gi_cons 120 rfl rfl (gi_cons 121 rfl rfl (gi_cons 122 rfl rfl (gi_cons 123 rfl rfl (gi_cons 124 rfl rfl (gi_cons 125 rfl rfl (gi_cons 126 rfl rfl (gi_cons 127 rfl rfl (gi_cons 128 rfl rfl (gi_cons 129 rfl rfl (gi_cons 130 rfl rfl (gi_cons 131 rfl rfl (gi_cons 132 rfl rfl (gi_cons 133 rfl rfl (gi_cons 134 rfl rfl (gi_cons 135 rfl rfl (gi_cons 136 rfl rfl (gi_cons 137 rfl rfl (gi_cons 138 rfl rfl (gi_cons 139 rfl rfl (gi_cons 140 rfl rfl (gi_cons 141 rfl rfl (gi_cons 142 rfl rfl (gi_cons 143 rfl rfl (gi_cons 144 rfl rfl (gi_cons 145 rfl rfl (gi_cons 146 rfl rfl (gi_cons 147 rfl rfl (gi_cons 148 rfl rfl (gi_cons 149 rfl rfl (gi_cons 150 rfl rfl (gi_cons 151 rfl rfl (gi_cons 152 rfl rfl (gi_cons 153 rfl rfl (gi_cons 154 rfl rfl (gi_cons 155 rfl rfl (gi_cons 156 rfl rfl (gi_cons 157 rfl rfl (gi_cons 158 rfl rfl (gi_cons 159 rfl rfl (gi_cons 160 rfl rfl gi_nil))))))))))))))))))))))))))))))))))))))))))))))))))))))))))))))))))))))
set_option maxRecDepth 20000 in
theorem gX11_little_X11_byteAt : GoodIn wsX11_little (wsV RX11 129 RX11 yX11_byteAt wsX11_byteAt) := goodIn_app (goodIn_of _ (by decide +kernel)) ggX11_little_X11_byteAt
theorem dX11_little_0 : decode cX11_little 0 = .ok (.aload_n 0, 1) := by decide +kernel
theorem dX11_little_1 : decode cX11_little 1 = .ok (.bipush 64, 2) := by decide +kernel
theorem dX11_little_3 : decode cX11_little 3 = .ok (.invokevirtual 171, 3) := by decide +kernel
theorem dX11_little_6 : decode cX11_little 6 = .ok (.ifCond .ne 8, 3) := by decide +kernel
theorem dX11_little_9 : decode cX11_little 9 = .ok (.aload_n 0, 1) := by decide +kernel
theorem dX11_little_10 : decode cX11_little 10 = .ok (.iconst 1, 1) := by decide +kernel
theorem dX11_little_11 : decode cX11_little 11 = .ok (.invokevirtual 174, 3) := by decide +kernel
theorem dX11_little_14 : decode cX11_little 14 = .ok (.aload_n 0, 1) := by decide +kernel
theorem dX11_little_15 : decode cX11_little 15 = .ok (.getfield 162, 3) := by decide +kernel
theorem dX11_little_18 : decode cX11_little 18 = .ok (.ifCond .ne 24, 3) := by decide +kernel
theorem dX11_little_21 : decode cX11_little 21 = .ok (.aload_n 0, 1) := by decide +kernel
theorem dX11_little_22 : decode cX11_little 22 = .ok (.getfield 276, 3) := by decide +kernel
theorem dX11_little_25 : decode cX11_little 25 = .ok (.bipush 12, 2) := by decide +kernel
theorem dX11_little_27 : decode cX11_little 27 = .ok (.if_icmp .ne 15, 3) := by decide +kernel
theorem dX11_little_30 : decode cX11_little 30 = .ok (.aload_n 0, 1) := by decide +kernel
theorem dX11_little_31 : decode cX11_little 31 = .ok (.getfield 300, 3) := by decide +kernel
theorem dX11_little_34 : decode cX11_little 34 = .ok (.ifCond .ne 8, 3) := by decide +kernel
theorem dX11_little_37 : decode cX11_little 37 = .ok (.aload_n 0, 1) := by decide +kernel
theorem dX11_little_38 : decode cX11_little 38 = .ok (.iconst 2, 1) := by decide +kernel
theorem dX11_little_39 : decode cX11_little 39 = .ok (.invokevirtual 174, 3) := by decide +kernel
theorem dX11_little_42 : decode cX11_little 42 = .ok (.aload_n 0, 1) := by decide +kernel
theorem dX11_little_43 : decode cX11_little 43 = .ok (.dup, 1) := by decide +kernel
theorem dX11_little_44 : decode cX11_little 44 = .ok (.getfield 276, 3) := by decide +kernel
theorem dX11_little_47 : decode cX11_little 47 = .ok (.iconst 1, 1) := by decide +kernel
theorem dX11_little_48 : decode cX11_little 48 = .ok (.iadd, 1) := by decide +kernel
theorem dX11_little_49 : decode cX11_little 49 = .ok (.putfield 276, 3) := by decide +kernel
theorem dX11_little_52 : decode cX11_little 52 = .ok (.aload_n 0, 1) := by decide +kernel
theorem dX11_little_53 : decode cX11_little 53 = .ok (.invokevirtual 178, 3) := by decide +kernel
theorem dX11_little_56 : decode cX11_little 56 = .ok (.aload_n 0, 1) := by decide +kernel
theorem dX11_little_57 : decode cX11_little 57 = .ok (.getfield 316, 3) := by decide +kernel
theorem dX11_little_60 : decode cX11_little 60 = .ok (.istore_n 1, 1) := by decide +kernel
theorem dX11_little_61 : decode cX11_little 61 = .ok (.aload_n 0, 1) := by decide +kernel
theorem dX11_little_62 : decode cX11_little 62 = .ok (.bipush 46, 2) := by decide +kernel
theorem dX11_little_64 : decode cX11_little 64 = .ok (.invokevirtual 171, 3) := by decide +kernel
theorem dX11_little_67 : decode cX11_little 67 = .ok (.ifCond .ne 12, 3) := by decide +kernel
theorem dX11_little_70 : decode cX11_little 70 = .ok (.aload_n 0, 1) := by decide +kernel
theorem dX11_little_71 : decode cX11_little 71 = .ok (.bipush 91, 2) := by decide +kernel
theorem dX11_little_73 : decode cX11_little 73 = .ok (.invokevirtual 171, 3) := by decide +kernel
theorem dX11_little_76 : decode cX11_little 76 = .ok (.ifCond .eq 109, 3) := by decide +kernel
theorem dX11_little_79 : decode cX11_little 79 = .ok (.aload_n 0, 1) := by decide +kernel
theorem dX11_little_80 : decode cX11_little 80 = .ok (.bipush 46, 2) := by decide +kernel
theorem dX11_little_82 : decode cX11_little 82 = .ok (.invokevirtual 171, 3) := by decide +kernel
theorem dX11_little_85 : decode cX11_little 85 = .ok (.istore_n 2, 1) := by decide +kernel
theorem dX11_little_86 : decode cX11_little 86 = .ok (.aload_n 0, 1) := by decide +kernel
theorem dX11_little_87 : decode cX11_little 87 = .ok (.invokevirtual 178, 3) := by decide +kernel
theorem dX11_little_90 : decode cX11_little 90 = .ok (.iload_n 2, 1) := by decide +kernel
theorem dX11_little_91 : decode cX11_little 91 = .ok (.ifCond .eq 10, 3) := by decide +kernel
theorem dX11_little_94 : decode cX11_little 94 = .ok (.aload_n 0, 1) := by decide +kernel
theorem dX11_little_95 : decode cX11_little 95 = .ok (.invokevirtual 191, 3) := by decide +kernel
theorem dX11_little_98 : decode cX11_little 98 = .ok (.goto 7, 3) := by decide +kernel
theorem dX11_little_101 : decode cX11_little 101 = .ok (.aload_n 0, 1) := by decide +kernel
theorem dX11_little_102 : decode cX11_little 102 = .ok (.invokevirtual 198, 3) := by decide +kernel
theorem dX11_little_105 : decode cX11_little 105 = .ok (.istore_n 3, 1) := by decide +kernel
theorem dX11_little_106 : decode cX11_little 106 = .ok (.iload_n 2, 1) := by decide +kernel
theorem dX11_little_107 : decode cX11_little 107 = .ok (.ifCond .ne 9, 3) := by decide +kernel
theorem dX11_little_110 : decode cX11_little 110 = .ok (.aload_n 0, 1) := by decide +kernel
theorem dX11_little_111 : decode cX11_little 111 = .ok (.bipush 93, 2) := by decide +kernel
theorem dX11_little_113 : decode cX11_little 113 = .ok (.invokevirtual 208, 3) := by decide +kernel
theorem dX11_little_116 : decode cX11_little 116 = .ok (.iload_n 1, 1) := by decide +kernel
theorem dX11_little_117 : decode cX11_little 117 = .ok (.iconst (-1), 1) := by decide +kernel
theorem dX11_little_118 : decode cX11_little 118 = .ok (.if_icmp .ne 6, 3) := by decide +kernel
theorem dX11_little_121 : decode cX11_little 121 = .ok (.goto (-60), 3) := by decide +kernel
theorem dX11_little_185 : decode cX11_little 185 = .ok (.aload_n 0, 1) := by decide +kernel
theorem dX11_little_186 : decode cX11_little 186 = .ok (.bipush 61, 2) := by decide +kernel
theorem dX11_little_188 : decode cX11_little 188 = .ok (.invokevirtual 171, 3) := by decide +kernel
theorem dX11_little_191 : decode cX11_little 191 = .ok (.ifCond .ne 21, 3) := by decide +kernel
theorem dX11_little_194 : decode cX11_little 194 = .ok (.aload_n 0, 1) := by decide +kernel
theorem dX11_little_195 : decode cX11_little 195 = .ok (.bipush 60, 2) := by decide +kernel
theorem dX11_little_197 : decode cX11_little 197 = .ok (.invokevirtual 171, 3) := by decide +kernel
theorem dX11_little_200 : decode cX11_little 200 = .ok (.ifCond .ne 12, 3) := by decide +kernel
theorem dX11_little_203 : decode cX11_little 203 = .ok (.aload_n 0, 1) := by decide +kernel
theorem dX11_little_204 : decode cX11_little 204 = .ok (.bipush 62, 2) := by decide +kernel
theorem dX11_little_206 : decode cX11_little 206 = .ok (.invokevirtual 171, 3) := by decide +kernel
theorem dX11_little_209 : decode cX11_little 209 = .ok (.ifCond .eq 7, 3) := by decide +kernel
theorem dX11_little_212 : decode cX11_little 212 = .ok (.iconst 1, 1) := by decide +kernel
theorem dX11_little_213 : decode cX11_little 213 = .ok (.goto 4, 3) := by decide +kernel
theorem dX11_little_216 : decode cX11_little 216 = .ok (.iconst 0, 1) := by decide +kernel
theorem dX11_little_217 : decode cX11_little 217 = .ok (.istore_n 2, 1) := by decide +kernel
theorem dX11_little_218 : decode cX11_little 218 = .ok (.iload_n 2, 1) := by decide +kernel
theorem dX11_little_219 : decode cX11_little 219 = .ok (.ifCond .ne 14, 3) := by decide +kernel
theorem dX11_little_222 : decode cX11_little 222 = .ok (.iload_n 1, 1) := by decide +kernel
theorem dX11_little_223 : decode cX11_little 223 = .ok (.iconst (-1), 1) := by decide +kernel
theorem dX11_little_224 : decode cX11_little 224 = .ok (.if_icmp .eq 7, 3) := by decide +kernel
theorem dX11_little_231 : decode cX11_little 231 = .ok (.iconst 0, 1) := by decide +kernel
theorem dX11_little_232 : decode cX11_little 232 = .ok (.ireturn, 1) := by decide +kernel
theorem dX11_little_233 : decode cX11_little 233 = .ok (.aload_n 0, 1) := by decide +kernel
theorem dX11_little_234 : decode cX11_little 234 = .ok (.aload_n 0, 1) := by decide +kernel
theorem dX11_little_235 : decode cX11_little 235 = .ok (.getfield 133, 3) := by decide +kernel
theorem dX11_little_238 : decode cX11_little 238 = .ok (.invokevirtual 129, 3) := by decide +kernel
theorem dX11_little_241 : decode cX11_little 241 = .ok (.istore_n 3, 1) := by decide +kernel
theorem dX11_little_242 : decode cX11_little 242 = .ok (.aload_n 0, 1) := by decide +kernel
theorem dX11_little_243 : decode cX11_little 243 = .ok (.invokevirtual 178, 3) := by decide +kernel
theorem dX11_little_246 : decode cX11_little 246 = .ok (.aload_n 0, 1) := by decide +kernel
theorem dX11_little_247 : decode cX11_little 247 = .ok (.getfield 136, 3) := by decide +kernel
theorem dX11_little_250 : decode cX11_little 250 = .ok (.iconst 1, 1) := by decide +kernel
theorem dX11_little_251 : decode cX11_little 251 = .ok (.if_icmp .ne 7, 3) := by decide +kernel
theorem dX11_little_254 : decode cX11_little 254 = .ok (.iconst 1, 1) := by decide +kernel
theorem dX11_little_255 : decode cX11_little 255 = .ok (.goto 4, 3) := by decide +kernel
theorem dX11_little_258 : decode cX11_little 258 = .ok (.iconst 0, 1) := by decide +kernel
theorem dX11_little_259 : decode cX11_little 259 = .ok (.istore 4, 2) := by decide +kernel
theorem dX11_little_261 : decode cX11_little 261 = .ok (.iload 4, 2) := by decide +kernel
theorem dX11_little_263 : decode cX11_little 263 = .ok (.ifCond .eq 10, 3) := by decide +kernel
theorem dX11_little_266 : decode cX11_little 266 = .ok (.aload_n 0, 1) := by decide +kernel
theorem dX11_little_267 : decode cX11_little 267 = .ok (.invokevirtual 191, 3) := by decide +kernel
theorem dX11_little_270 : decode cX11_little 270 = .ok (.goto 7, 3) := by decide +kernel
theorem dX11_little_273 : decode cX11_little 273 = .ok (.aload_n 0, 1) := by decide +kernel
theorem dX11_little_274 : decode cX11_little 274 = .ok (.invokevirtual 198, 3) := by decide +kernel
theorem dX11_little_277 : decode cX11_little 277 = .ok (.istore 5, 2) := by decide +kernel
theorem dX11_little_279 : decode cX11_little 279 = .ok (.iload_n 1, 1) := by decide +kernel
theorem dX11_little_280 : decode cX11_little 280 = .ok (.iconst (-1), 1) := by decide +kernel
theorem dX11_little_281 : decode cX11_little 281 = .ok (.if_icmp .eq 71, 3) := by decide +kernel
theorem dX11_little_352 : decode cX11_little 352 = .ok (.iconst 0, 1) := by decide +kernel
theorem dX11_little_353 : decode cX11_little 353 = .ok (.ireturn, 1) := by decide +kernel
