set_option maxRecDepth 20000 in
theorem gs_3 : GoodIn wsL_law wsX4_scan_r3 := goodIn_r _ [359, 360, 361, 362, 363, 364, 365, 366, 367, 368, 369, 370, 371, 372, 373, 374, 58, 59, 60, 375, 376, 377, 378, 379] (by decide +kernel) (by decide +kernel)
