set_option maxRecDepth 20000 in
theorem li_wsL_law_r13 : ∀ w ∈ wsL_law_r13, w ∈ lw_tbl := goodIn_mem (goodIn_r _ [317, 319, 15, 320, 321, 323, 16, 324, 325, 327, 17, 328, 329, 331, 18, 332, 333, 334, 335, 336, 337, 338, 339, 340] (by decide +kernel) (by decide +kernel))
set_option maxRecDepth 20000 in
theorem li_wsL_law_r14 : ∀ w ∈ wsL_law_r14, w ∈ lw_tbl := goodIn_mem (goodIn_r _ [341, 343, 19, 344, 345, 346, 347, 349, 20, 350, 444, 445, 446, 447, 452, 448, 450, 22, 451, 453, 455, 23, 456, 478] (by decide +kernel) (by decide +kernel))
set_option maxRecDepth 20000 in
theorem li_wsL_law_r15 : ∀ w ∈ wsL_law_r15, w ∈ lw_tbl := goodIn_mem (goodIn_r _ [462, 463, 457, 459, 24, 460, 461, 464, 466, 25, 467, 468, 385, 386, 477, 469, 471, 26, 472, 473, 475, 27, 476, 479] (by decide +kernel) (by decide +kernel))
set_option maxRecDepth 20000 in
theorem li_wsL_law_r16 : ∀ w ∈ wsL_law_r16, w ∈ lw_tbl := goodIn_mem (goodIn_r _ [481, 28, 482, 483, 485, 29, 486, 487, 489, 30, 490, 491, 493, 31, 494, 495, 496, 497, 498, 499, 500, 501, 502, 351] (by decide +kernel) (by decide +kernel))
set_option maxRecDepth 20000 in
theorem li_wsL_law_r17 : ∀ w ∈ wsL_law_r17, w ∈ lw_tbl := goodIn_mem (goodIn_r _ [352, 353, 354, 503, 504, 505, 506, 355, 507, 356, 357, 358, 359, 360, 508, 509, 510, 511, 512, 361, 362, 363, 364, 513] (by decide +kernel) (by decide +kernel))
set_option maxRecDepth 20000 in
theorem li_wsL_law_r18 : ∀ w ∈ wsL_law_r18, w ∈ lw_tbl := goodIn_mem (goodIn_r _ [514, 515, 516, 365, 517] (by decide +kernel) (by decide +kernel))
