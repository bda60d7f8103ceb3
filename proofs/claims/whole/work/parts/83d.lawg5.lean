set_option maxRecDepth 20000 in
theorem gs_4 : GoodIn wsL_law wsX4_scan_r4 := goodIn_r _ [380, 381, 382, 92, 93, 94] (by decide +kernel) (by decide +kernel)
set_option maxRecDepth 20000 in
theorem gs_5 : GoodIn wsL_law wsX40 := goodIn_r _ [421, 422, 423, 424, 425, 426, 427, 428, 429, 430, 431, 432, 433, 434, 435] (by decide +kernel) (by decide +kernel)
theorem ggL_law_X4_scan : GoodIn wsL_law wsX4_scan := goodIn_ca (goodIn_ca gs_1 (goodIn_app gs_2 (goodIn_app gs_3 gs_4))) gs_5
set_option maxRecDepth 20000 in
theorem gL_law_X4_scan : GoodIn wsL_law (wsV RL 35 RX4 yX4_scan wsX4_scan) := goodIn_app (goodIn_of _ (by decide +kernel)) ggL_law_X4_scan
