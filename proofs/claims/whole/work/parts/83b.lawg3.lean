set_option maxRecDepth 20000 in
theorem gs_1 : GoodIn wsL_law (.code yX4_scan cX4_scan 5 (some .int) :: wsX4_scan_r1) := goodIn_r _ [325, 99, 55, 56, 57, 326, 100, 64, 61, 95, 96, 97, 5, 98, 327, 328, 329, 330, 54, 331, 332, 333, 334, 62, 63] (by decide +kernel) (by decide +kernel)
set_option maxRecDepth 20000 in
theorem gs_2 : GoodIn wsL_law wsX4_scan_r2 := goodIn_r _ [335, 336, 337, 338, 339, 340, 341, 342, 343, 344, 345, 346, 347, 348, 349, 350, 351, 352, 353, 354, 355, 356, 357, 358] (by decide +kernel) (by decide +kernel)
