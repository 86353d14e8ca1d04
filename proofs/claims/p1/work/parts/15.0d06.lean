set_option maxRecDepth 20000 in
theorem gX11_years_X11_happens : GoodIn wsX11_years (wsV RX11 536 RX11 yX11_happens wsX11_happens) := goodIn_app (goodIn_of _ (by decide +kernel)) ggX11_years_X11_happens
set_option maxRecDepth 20000 in
theorem ggX11_years_X11_things : GoodIn wsX11_years wsX11_things := goodIn_r _ [29, 3, 285, 286, 287, 288, 289, 290, 291, 292, 293, 294, 295, 296, 297, 298, 299, 300, 301, 302, 303, 304, 305, 306, 307, 308, 309, 310, 311, 312, 313, 314, 315, 316, 317, 318, 319, 320, 321, 322, 323, 324, 325, 326, 327, 328, 329, 330, 331, 332, 333, 334, 335, 336, 337, 338, 339, 340, 341, 342, 343, 344, 345, 346, 347, 348, 349, 350] (by decide +kernel) (by decide +kernel)
set_option maxRecDepth 20000 in
theorem gX11_years_X11_things : GoodIn wsX11_years (wsV RX11 267 RX11 yX11_things wsX11_things) := goodIn_app (goodIn_of _ (by decide +kernel)) ggX11_years_X11_things
