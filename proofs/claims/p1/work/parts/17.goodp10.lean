set_option maxRecDepth 100000 in
theorem gw_wsX20 : GoodIn lw_tbl wsX20 := goodIn_r _ [410] (by decide +kernel) (by decide +kernel)
set_option maxRecDepth 100000 in
theorem gw_wsX30 : GoodIn lw_tbl wsX30 := goodIn_r _ [378, 380, 382, 384, 386] (by decide +kernel) (by decide +kernel)
set_option maxRecDepth 100000 in
theorem gw_wsX40 : GoodIn lw_tbl wsX40 := goodIn_r _ [191, 193, 195, 197, 199, 201, 203, 205, 207, 209, 211, 213, 215, 217] (by decide +kernel) (by decide +kernel)
set_option maxRecDepth 100000 in
theorem gw_wsX50 : GoodIn lw_tbl wsX50 := goodIn_r _ [278] (by decide +kernel) (by decide +kernel)
set_option maxRecDepth 100000 in
theorem gw_wsX60 : GoodIn lw_tbl wsX60 := goodIn_r _ [327, 329, 331, 333, 335, 337, 339] (by decide +kernel) (by decide +kernel)
set_option maxRecDepth 100000 in
theorem gw_wsX70 : GoodIn lw_tbl wsX70 := goodIn_r _ [398, 400] (by decide +kernel) (by decide +kernel)
set_option maxRecDepth 100000 in
theorem gw_wsX80 : GoodIn lw_tbl wsX80 := goodIn_r _ [242, 244, 246, 248, 250, 252, 254, 256, 258] (by decide +kernel) (by decide +kernel)
set_option maxRecDepth 100000 in
theorem gw_wsX90 : GoodIn lw_tbl wsX90 := goodIn_r _ [296, 298, 300, 302, 304] (by decide +kernel) (by decide +kernel)
