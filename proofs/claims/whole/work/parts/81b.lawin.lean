set_option maxRecDepth 20000 in
theorem li_wsL_law_r7 : ∀ w ∈ wsL_law_r7, w ∈ lw_tbl := goodIn_mem (goodIn_r _ [174, 175, 177, 4, 178, 179, 180, 181, 182, 183, 185, 5, 186, 187, 189, 6, 190, 272, 273, 191, 192, 193, 194, 195] (by decide +kernel) (by decide +kernel))
set_option maxRecDepth 20000 in
theorem li_wsL_law_r8 : ∀ w ∈ wsL_law_r8, w ∈ lw_tbl := goodIn_mem (goodIn_r _ [196, 197, 198, 199, 200, 201, 202, 203, 204, 205, 206, 207, 208, 209, 210, 211, 212, 213, 214, 215, 216, 217, 218, 219] (by decide +kernel) (by decide +kernel))
set_option maxRecDepth 20000 in
theorem li_wsL_law_r9 : ∀ w ∈ wsL_law_r9, w ∈ lw_tbl := goodIn_mem (goodIn_r _ [220, 222, 7, 223, 228, 229, 230, 38, 231, 243, 244, 245, 224, 225, 226, 227, 232, 234, 8, 235, 236, 237, 238, 239] (by decide +kernel) (by decide +kernel))
set_option maxRecDepth 20000 in
theorem li_wsL_law_r10 : ∀ w ∈ wsL_law_r10, w ∈ lw_tbl := goodIn_mem (goodIn_r _ [240, 241, 242, 246, 248, 9, 249, 250, 251, 252, 253, 254, 255, 256, 257, 258, 259, 260, 261, 262, 263, 264, 265, 266] (by decide +kernel) (by decide +kernel))
set_option maxRecDepth 20000 in
theorem li_wsL_law_r11 : ∀ w ∈ wsL_law_r11, w ∈ lw_tbl := goodIn_mem (goodIn_r _ [267, 268, 269, 270, 271, 274, 276, 10, 277, 278, 279, 281, 11, 282, 283, 284, 285, 286, 287, 288, 290, 12, 291, 292] (by decide +kernel) (by decide +kernel))
set_option maxRecDepth 20000 in
theorem li_wsL_law_r12 : ∀ w ∈ wsL_law_r12, w ∈ lw_tbl := goodIn_mem (goodIn_r _ [293, 294, 295, 296, 297, 298, 299, 300, 301, 302, 303, 304, 305, 307, 13, 308, 309, 310, 311, 313, 14, 314, 315, 316] (by decide +kernel) (by decide +kernel))
