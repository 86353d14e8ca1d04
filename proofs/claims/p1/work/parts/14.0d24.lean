set_option maxRecDepth 20000 in
theorem ggX11_thing_X11_fail : GoodIn wsX11_thing wsX11_fail := goodIn_r _ [18, 1, 202, 203, 204, 205, 206, 207, 208, 209, 210, 211, 212, 213, 214, 215, 216, 217, 218, 219, 220, 221, 222, 223, 224, 225, 226, 227, 228, 229, 230, 231, 232, 233, 234, 235, 236, 237, 238, 239, 240, 241, 242, 243, 244, 245, 246, 247, 248, 249, 250, 251, 252, 253, 254, 255, 256, 257, 258, 259, 260, 261, 262, 263, 264, 265, 266, 267] (by decide +kernel) (by decide +kernel)
set_option maxRecDepth 20000 in
theorem gX11_thing_X11_fail : GoodIn wsX11_thing (wsV RX11 226 RX11 yX11_fail wsX11_fail) := goodIn_app (goodIn_of _ (by decide +kernel)) ggX11_thing_X11_fail
set_option maxRecDepth 20000 in
theorem ggX11_thing_X11_kind : GoodIn wsX11_thing wsX11_kind := goodIn_r _ [21] (by decide +kernel) (by decide +kernel)
set_option maxRecDepth 20000 in
theorem gX11_thing_X11_kind : GoodIn wsX11_thing (va_wsS RX11 253 yX11_kind wsX11_kind) := goodIn_app (goodIn_of _ (by decide +kernel)) ggX11_thing_X11_kind
set_option maxRecDepth 20000 in
theorem ggX11_thing_X11_parentOf : GoodIn wsX11_thing wsX11_parentOf := goodIn_r _ [24, 25, 26, 6, 27] (by decide +kernel) (by decide +kernel)
set_option maxRecDepth 20000 in
theorem gX11_thing_X11_parentOf : GoodIn wsX11_thing (va_wsS RX11 270 yX11_parentOf wsX11_parentOf) := goodIn_app (goodIn_of _ (by decide +kernel)) ggX11_thing_X11_parentOf
set_option maxRecDepth 20000 in
theorem ggX11_thing_X11_placeOf : GoodIn wsX11_thing wsX11_placeOf := goodIn_r _ [30, 22, 23, 6, 24, 25, 26, 27] (by decide +kernel) (by decide +kernel)
set_option maxRecDepth 20000 in
theorem gX11_thing_X11_placeOf : GoodIn wsX11_thing (va_wsS RX11 489 yX11_placeOf wsX11_placeOf) := goodIn_app (goodIn_of _ (by decide +kernel)) ggX11_thing_X11_placeOf
set_option maxRecDepth 20000 in
theorem ggX11_thing_X11_depthOf : GoodIn wsX11_thing wsX11_depthOf := goodIn_r _ [33, 25, 26, 6, 27] (by decide +kernel) (by decide +kernel)
set_option maxRecDepth 20000 in
theorem gX11_thing_X11_depthOf : GoodIn wsX11_thing (va_wsS RX11 360 yX11_depthOf wsX11_depthOf) := goodIn_app (goodIn_of _ (by decide +kernel)) ggX11_thing_X11_depthOf
set_option maxRecDepth 20000 in
theorem ggX11_thing_X11_many : GoodIn wsX11_thing wsX11_many := goodIn_r _ [36, 25, 26, 6, 27] (by decide +kernel) (by decide +kernel)
set_option maxRecDepth 20000 in
theorem gX11_thing_X11_many : GoodIn wsX11_thing (va_wsS RX11 246 yX11_many wsX11_many) := goodIn_app (goodIn_of _ (by decide +kernel)) ggX11_thing_X11_many
set_option maxRecDepth 20000 in
theorem ggX11_thing_X11_size : GoodIn wsX11_thing wsX11_size := goodIn_r _ [27] (by decide +kernel) (by decide +kernel)
set_option maxRecDepth 20000 in
theorem gX11_thing_X11_size : GoodIn wsX11_thing (va_wsS RX11 242 yX11_size wsX11_size) := goodIn_app (goodIn_of _ (by decide +kernel)) ggX11_thing_X11_size
set_option maxRecDepth 20000 in
theorem ggX11_thing_X11_lettersOf : GoodIn wsX11_thing wsX11_lettersOf := goodIn_r _ [39] (by decide +kernel) (by decide +kernel)
set_option maxRecDepth 20000 in
theorem gX11_thing_X11_lettersOf : GoodIn wsX11_thing (va_wsS RX11 338 yX11_lettersOf wsX11_lettersOf) := goodIn_app (goodIn_of _ (by decide +kernel)) ggX11_thing_X11_lettersOf
set_option maxRecDepth 20000 in
theorem ggX11_thing_X11_twinsOf : GoodIn wsX11_thing wsX11_twinsOf := goodIn_r _ [43, 2, 8, 9, 10, 6, 11, 44, 45, 46, 19, 20, 21, 25, 26, 27, 47, 48, 49, 34, 35, 36, 50, 51, 52, 53, 54, 55, 202, 203, 204, 205, 206, 207, 208, 209, 210, 211, 212, 213, 214, 215, 216, 217, 218, 219, 220, 221, 222, 223, 224, 225, 226, 227, 228, 229, 230, 231, 232, 233, 234, 235, 236, 237, 238, 239, 240, 241, 242, 243, 244, 245, 246, 247, 248, 249, 250, 251, 252, 253, 254, 255, 256, 257, 258, 259, 260, 261, 262, 263, 264, 265, 266, 267] (by decide +kernel) (by decide +kernel)
set_option maxRecDepth 20000 in
theorem gX11_thing_X11_twinsOf : GoodIn wsX11_thing (wsV RX11 516 RX11 yX11_twinsOf wsX11_twinsOf) := goodIn_app (goodIn_of _ (by decide +kernel)) ggX11_thing_X11_twinsOf
