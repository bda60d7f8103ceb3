theorem goodIn_mem {big ws : List Cond} (h : GoodIn big ws) : ∀ w ∈ ws, w ∈ big := fun w hw => (h w hw).1
set_option maxRecDepth 20000 in
theorem li_wsL_law_r1 : ∀ w ∈ wsL_law_r1, w ∈ lw_tbl := goodIn_mem (goodIn_r _ [39, 40, 33, 366, 367, 37, 41, 42, 43, 44, 45, 46, 63, 98, 99, 100, 101, 47, 48, 34, 102, 103, 66, 67] (by decide +kernel) (by decide +kernel))
set_option maxRecDepth 20000 in
theorem li_wsL_law_r2 : ∀ w ∈ wsL_law_r2, w ∈ lw_tbl := goodIn_mem (goodIn_r _ [35, 104, 82, 83, 36, 105, 50, 51, 52, 64, 53, 65, 54, 55, 69, 70, 71, 72, 73, 74, 85, 86, 87, 88] (by decide +kernel) (by decide +kernel))
set_option maxRecDepth 20000 in
theorem li_wsL_law_r3 : ∀ w ∈ wsL_law_r3, w ∈ lw_tbl := goodIn_mem (goodIn_r _ [89, 90, 368, 369, 370, 371, 372, 376, 377, 378, 379, 380, 381, 382, 383, 384, 373, 123, 124, 125, 126, 127, 128, 129] (by decide +kernel) (by decide +kernel))
set_option maxRecDepth 20000 in
theorem li_wsL_law_r4 : ∀ w ∈ wsL_law_r4, w ∈ lw_tbl := goodIn_mem (goodIn_r _ [130, 131, 132, 133, 134, 135, 136, 137, 138, 139, 141, 0, 142, 418, 419, 420, 421, 422, 423, 424, 425, 426, 427, 428] (by decide +kernel) (by decide +kernel))
set_option maxRecDepth 20000 in
theorem li_wsL_law_r5 : ∀ w ∈ wsL_law_r5, w ∈ lw_tbl := goodIn_mem (goodIn_r _ [430, 21, 431, 375, 374, 143, 144, 145, 146, 432, 433, 434, 435, 147, 148, 149, 150, 436, 437, 438, 439, 151, 152, 153] (by decide +kernel) (by decide +kernel))
set_option maxRecDepth 20000 in
theorem li_wsL_law_r6 : ∀ w ∈ wsL_law_r6, w ∈ lw_tbl := goodIn_mem (goodIn_r _ [154, 155, 157, 1, 158, 440, 441, 442, 443, 159, 160, 161, 162, 163, 165, 2, 166, 167, 169, 3, 170, 171, 172, 173] (by decide +kernel) (by decide +kernel))
