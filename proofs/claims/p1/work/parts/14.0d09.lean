set_option maxRecDepth 20000 in
theorem gX11_thing_X11_kind : GoodIn wsX11_thing (va_wsS RX11 253 yX11_kind wsX11_kind) := goodIn_app (goodIn_of _ (by decide +kernel)) ggX11_thing_X11_kind
set_option maxRecDepth 20000 in
theorem ggX11_thing_X11_parentOf : GoodIn wsX11_thing wsX11_parentOf := goodIn_r _ [24, 25, 26, 6, 27] (by decide +kernel) (by decide +kernel)
set_option maxRecDepth 20000 in
theorem gX11_thing_X11_parentOf : GoodIn wsX11_thing (va_wsS RX11 270 yX11_parentOf wsX11_parentOf) := goodIn_app (goodIn_of _ (by decide +kernel)) ggX11_thing_X11_parentOf
set_option maxRecDepth 20000 in
theorem ggX11_thing_X11_placeOf : GoodIn wsX11_thing wsX11_placeOf := goodIn_r _ [30, 22, 23, 6, 24, 25, 26, 27] (by decide +kernel) (by decide +kernel)
set_option maxRecDepth 20000 in
theorem gX11_thing_X11_placeOf : GoodIn wsX11_thing (va_wsS RX11 489 yX11_placeOf wsX11_placeOf) := goodIn_app (goodIn_of _ (by decide +kernel)) ggX11_thing_X11_placeOf
set_option maxRecDepth 20000 in
theorem ggX11_thing_X11_depthOf : GoodIn wsX11_thing wsX11_depthOf := goodIn_r _ [33, 25, 26, 6, 27] (by decide +kernel) (by decide +kernel)
set_option maxRecDepth 20000 in
theorem gX11_thing_X11_depthOf : GoodIn wsX11_thing (va_wsS RX11 360 yX11_depthOf wsX11_depthOf) := goodIn_app (goodIn_of _ (by decide +kernel)) ggX11_thing_X11_depthOf
set_option maxRecDepth 20000 in
theorem ggX11_thing_X11_many : GoodIn wsX11_thing wsX11_many := goodIn_r _ [36, 25, 26, 6, 27] (by decide +kernel) (by decide +kernel)
set_option maxRecDepth 20000 in
theorem gX11_thing_X11_many : GoodIn wsX11_thing (va_wsS RX11 246 yX11_many wsX11_many) := goodIn_app (goodIn_of _ (by decide +kernel)) ggX11_thing_X11_many
set_option maxRecDepth 20000 in
theorem ggX11_thing_X11_size : GoodIn wsX11_thing wsX11_size := goodIn_r _ [27] (by decide +kernel) (by decide +kernel)
set_option maxRecDepth 20000 in
theorem gX11_thing_X11_size : GoodIn wsX11_thing (va_wsS RX11 242 yX11_size wsX11_size) := goodIn_app (goodIn_of _ (by decide +kernel)) ggX11_thing_X11_size
set_option maxRecDepth 20000 in
theorem ggX11_thing_X11_lettersOf : GoodIn wsX11_thing wsX11_lettersOf := goodIn_r _ [39] (by decide +kernel) (by decide +kernel)
