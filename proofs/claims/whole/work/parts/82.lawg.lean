theorem inlX0 : ∀ w ∈ wsX00, w ∈ wsL_law := fun _ h => List.mem_append_left _ (List.mem_append_left _ (List.mem_append_right _ h))
theorem inX0 : ∀ w ∈ wsX00, w ∈ lw_tbl := fun w h => wsL_law_in w (inlX0 w h)
theorem inlX1 : ∀ w ∈ wsX10, w ∈ wsL_law := fun _ h => List.mem_append_left _ (List.mem_append_right _ h)
theorem inX1 : ∀ w ∈ wsX10, w ∈ lw_tbl := fun w h => wsL_law_in w (inlX1 w h)
theorem inlX2 : ∀ w ∈ wsX20, w ∈ wsL_law := fun _ h => List.mem_append_left _ (List.mem_append_left _ (List.mem_append_left _ (List.mem_append_right _ h)))
theorem inX2 : ∀ w ∈ wsX20, w ∈ lw_tbl := fun w h => wsL_law_in w (inlX2 w h)
theorem inlX3 : ∀ w ∈ wsX30, w ∈ wsL_law := fun _ h => List.mem_append_left _ (List.mem_append_left _ (List.mem_append_left _ (List.mem_append_left _ (List.mem_append_left _ (List.mem_append_right _ h)))))
theorem inX3 : ∀ w ∈ wsX30, w ∈ lw_tbl := fun w h => wsL_law_in w (inlX3 w h)
theorem inlX4 : ∀ w ∈ wsX40, w ∈ wsL_law := fun _ h => List.mem_append_left _ (List.mem_append_left _ (List.mem_append_left _ (List.mem_append_left _ (List.mem_append_right _ h))))
theorem inX4 : ∀ w ∈ wsX40, w ∈ lw_tbl := fun w h => wsL_law_in w (inlX4 w h)
theorem inJ9 : ∀ w ∈ wsJ90, w ∈ lw_tbl := by decide +kernel
set_option maxRecDepth 20000 in
theorem ggL_law_X3_init : GoodIn wsL_law wsX3_init := goodIn_r _ [8, 9, 10, 11, 12, 13, 14, 15, 16, 17, 18, 19, 20, 21, 22, 23, 24, 25, 26, 27, 28, 29, 30, 31, 32, 33, 34, 35, 36, 37, 38, 39, 40, 41, 42, 43, 44, 45, 46, 47, 48, 49, 413, 414, 415, 416, 417, 418, 419, 420, 436, 437, 438, 439, 440, 441, 442, 443, 444] (by decide +kernel) (by decide +kernel)
set_option maxRecDepth 20000 in
theorem gL_law_X3_init : GoodIn wsL_law (wsX3_init) := ggL_law_X3_init
set_option maxRecDepth 20000 in
theorem ggL_law_X4_init : GoodIn wsL_law wsX4_init := goodIn_r _ [52, 53, 10, 11, 12, 54, 33, 55, 35, 56, 57, 58, 59, 60, 61, 62, 63, 64, 421, 422, 423, 424, 425, 426, 427, 428, 429, 430, 431, 432, 433, 434, 435] (by decide +kernel) (by decide +kernel)
set_option maxRecDepth 20000 in
theorem gL_law_X4_init : GoodIn wsL_law (wsX4_init) := ggL_law_X4_init
set_option maxRecDepth 20000 in
theorem ggL_law_X3_add : GoodIn wsL_law wsX3_add := goodIn_r _ [68, 14, 13, 69, 70, 2, 71, 72, 73, 74, 75, 76, 77, 78, 79, 80, 81, 82, 83, 84, 15, 16, 413, 414, 415, 416, 417, 418, 419, 420] (by decide +kernel) (by decide +kernel)
set_option maxRecDepth 20000 in
theorem gL_law_X3_add : GoodIn wsL_law (wsV RL 13 RX3 yX3_add wsX3_add) := goodIn_app (goodIn_of _ (by decide +kernel)) ggL_law_X3_add
set_option maxRecDepth 20000 in
theorem ggL_law_X4_add : GoodIn wsL_law wsX4_add := goodIn_r _ [88, 64, 54, 89, 90, 5, 91, 92, 93, 94, 95, 96, 97, 98, 99, 100, 421, 422, 423, 424, 425, 426, 427, 428, 429, 430, 431, 432, 433, 434, 435] (by decide +kernel) (by decide +kernel)
set_option maxRecDepth 20000 in
theorem gL_law_X4_add : GoodIn wsL_law (wsV RL 17 RX4 yX4_add wsX4_add) := goodIn_app (goodIn_of _ (by decide +kernel)) ggL_law_X4_add
set_option maxRecDepth 20000 in
theorem ggL_law_X3_clear : GoodIn wsL_law wsX3_clear := goodIn_r _ [104, 14, 81, 82, 83, 2, 84, 15, 16, 413, 414, 415, 416, 417, 418, 419, 420] (by decide +kernel) (by decide +kernel)
set_option maxRecDepth 20000 in
theorem gL_law_X3_clear : GoodIn wsL_law (wsV RL 18 RX3 yX3_clear wsX3_clear) := goodIn_app (goodIn_of _ (by decide +kernel)) ggL_law_X3_clear
set_option maxRecDepth 20000 in
theorem ggL_law_X4_clear : GoodIn wsL_law wsX4_clear := goodIn_r _ [108, 64, 95, 96, 97, 5, 98, 99, 100, 421, 422, 423, 424, 425, 426, 427, 428, 429, 430, 431, 432, 433, 434, 435] (by decide +kernel) (by decide +kernel)
set_option maxRecDepth 20000 in
theorem gL_law_X4_clear : GoodIn wsL_law (wsV RL 21 RX4 yX4_clear wsX4_clear) := goodIn_app (goodIn_of _ (by decide +kernel)) ggL_law_X4_clear
set_option maxRecDepth 20000 in
theorem ggL_law_X3_size : GoodIn wsL_law wsX3_size := goodIn_r _ [112, 14, 413, 414, 415, 416, 417, 418, 419, 420] (by decide +kernel) (by decide +kernel)
set_option maxRecDepth 20000 in
theorem gL_law_X3_size : GoodIn wsL_law (wsV RL 22 RX3 yX3_size wsX3_size) := goodIn_app (goodIn_of _ (by decide +kernel)) ggL_law_X3_size
set_option maxRecDepth 20000 in
theorem ggL_law_X4_size : GoodIn wsL_law wsX4_size := goodIn_r _ [116, 64, 421, 422, 423, 424, 425, 426, 427, 428, 429, 430, 431, 432, 433, 434, 435] (by decide +kernel) (by decide +kernel)
set_option maxRecDepth 20000 in
theorem gL_law_X4_size : GoodIn wsL_law (wsV RL 26 RX4 yX4_size wsX4_size) := goodIn_app (goodIn_of _ (by decide +kernel)) ggL_law_X4_size
set_option maxRecDepth 20000 in
theorem ggL_law_X3_code : GoodIn wsL_law wsX3_code := goodIn_r _ [120, 13, 121, 122, 123, 2, 124, 14, 413, 414, 415, 416, 417, 418, 419, 420] (by decide +kernel) (by decide +kernel)
set_option maxRecDepth 20000 in
theorem gL_law_X3_code : GoodIn wsL_law (wsV RL 27 RX3 yX3_code wsX3_code) := goodIn_app (goodIn_of _ (by decide +kernel)) ggL_law_X3_code
set_option maxRecDepth 20000 in
theorem ggL_law_X4_code : GoodIn wsL_law wsX4_code := goodIn_r _ [128, 64, 54, 92, 93, 5, 94, 421, 422, 423, 424, 425, 426, 427, 428, 429, 430, 431, 432, 433, 434, 435] (by decide +kernel) (by decide +kernel)
set_option maxRecDepth 20000 in
theorem gL_law_X4_code : GoodIn wsL_law (wsV RL 31 RX4 yX4_code wsX4_code) := goodIn_app (goodIn_of _ (by decide +kernel)) ggL_law_X4_code
set_option maxRecDepth 20000 in
theorem ggL_law_X3_rounds : GoodIn wsL_law wsX3_rounds := goodIn_r _ [386, 16, 413, 414, 415, 416, 417, 418, 419, 420] (by decide +kernel) (by decide +kernel)
set_option maxRecDepth 20000 in
theorem gL_law_X3_rounds : GoodIn wsL_law (wsV RL 36 RX3 yX3_rounds wsX3_rounds) := goodIn_app (goodIn_of _ (by decide +kernel)) ggL_law_X3_rounds
set_option maxRecDepth 20000 in
theorem ggL_law_X4_rounds : GoodIn wsL_law wsX4_rounds := goodIn_r _ [390, 100, 421, 422, 423, 424, 425, 426, 427, 428, 429, 430, 431, 432, 433, 434, 435] (by decide +kernel) (by decide +kernel)
set_option maxRecDepth 20000 in
theorem gL_law_X4_rounds : GoodIn wsL_law (wsV RL 39 RX4 yX4_rounds wsX4_rounds) := goodIn_app (goodIn_of _ (by decide +kernel)) ggL_law_X4_rounds
set_option maxRecDepth 20000 in
theorem ggL_law_X3_reached : GoodIn wsL_law wsX3_reached := goodIn_r _ [311, 15, 21, 121, 122, 123, 2, 124, 14, 149, 150, 151, 19, 152, 34, 413, 414, 415, 416, 417, 418, 419, 420, 436, 437, 438] (by decide +kernel) (by decide +kernel)
set_option maxRecDepth 20000 in
theorem gL_law_X3_reached : GoodIn wsL_law (wsV RL 40 RX3 yX3_reached wsX3_reached) := goodIn_app (goodIn_of _ (by decide +kernel)) ggL_law_X3_reached
set_option maxRecDepth 20000 in
theorem ggL_law_X4_reached : GoodIn wsL_law wsX4_reached := goodIn_r _ [382, 99, 64, 55, 92, 93, 5, 94, 421, 422, 423, 424, 425, 426, 427, 428, 429, 430, 431, 432, 433, 434, 435] (by decide +kernel) (by decide +kernel)
set_option maxRecDepth 20000 in
theorem gL_law_X4_reached : GoodIn wsL_law (wsV RL 44 RX4 yX4_reached wsX4_reached) := goodIn_app (goodIn_of _ (by decide +kernel)) ggL_law_X4_reached
set_option maxRecDepth 20000 in
theorem ggL_law_X3_low : GoodIn wsL_law wsX3_low := goodIn_r _ [396, 397, 21, 308, 309, 310, 2, 311, 15, 121, 122, 123, 124, 14, 149, 150, 151, 19, 152, 34, 72, 73, 74, 316, 172, 173, 174, 36, 413, 414, 415, 416, 417, 418, 419, 420, 436, 437, 438] (by decide +kernel) (by decide +kernel)
set_option maxRecDepth 20000 in
theorem gL_law_X3_low : GoodIn wsL_law (wsV RL 45 RX3 yX3_low wsX3_low) := goodIn_app (goodIn_of _ (by decide +kernel)) ggL_law_X3_low
set_option maxRecDepth 20000 in
theorem ggL_law_X4_low : GoodIn wsL_law wsX4_low := goodIn_r _ [401, 56, 402, 379, 380, 381, 5, 382, 99, 64, 55, 92, 93, 94, 421, 422, 423, 424, 425, 426, 427, 428, 429, 430, 431, 432, 433, 434, 435] (by decide +kernel) (by decide +kernel)
set_option maxRecDepth 20000 in
theorem gL_law_X4_low : GoodIn wsL_law (wsV RL 49 RX4 yX4_low wsX4_low) := goodIn_app (goodIn_of _ (by decide +kernel)) ggL_law_X4_low
set_option maxRecDepth 20000 in
theorem ggL_law_X3_high : GoodIn wsL_law wsX3_high := goodIn_r _ [406, 397, 21, 308, 309, 310, 2, 311, 15, 121, 122, 123, 124, 14, 149, 150, 151, 19, 152, 34, 72, 73, 74, 317, 176, 177, 178, 37, 413, 414, 415, 416, 417, 418, 419, 420, 436, 437, 438] (by decide +kernel) (by decide +kernel)
set_option maxRecDepth 20000 in
theorem gL_law_X3_high : GoodIn wsL_law (wsV RL 50 RX3 yX3_high wsX3_high) := goodIn_app (goodIn_of _ (by decide +kernel)) ggL_law_X3_high
set_option maxRecDepth 20000 in
theorem ggL_law_X4_high : GoodIn wsL_law wsX4_high := goodIn_r _ [410, 57, 402, 379, 380, 381, 5, 382, 99, 64, 55, 92, 93, 94, 421, 422, 423, 424, 425, 426, 427, 428, 429, 430, 431, 432, 433, 434, 435] (by decide +kernel) (by decide +kernel)
set_option maxRecDepth 20000 in
theorem gL_law_X4_high : GoodIn wsL_law (wsV RL 53 RX4 yX4_high wsX4_high) := goodIn_app (goodIn_of _ (by decide +kernel)) ggL_law_X4_high
set_option maxRecDepth 20000 in
theorem ggL_law_X3_alarm : GoodIn wsL_law wsX3_alarm := goodIn_r _ [307, 13, 308, 309, 310, 2, 311, 15, 21, 121, 122, 123, 124, 14, 149, 150, 151, 19, 152, 34, 312, 313, 314, 315, 316, 172, 173, 174, 36, 317, 176, 177, 178, 37, 318, 319, 320, 321, 249, 413, 414, 415, 416, 417, 418, 419, 420, 436, 437, 438] (by decide +kernel) (by decide +kernel)
set_option maxRecDepth 20000 in
theorem gL_law_X3_alarm : GoodIn wsL_law (wsV RL 54 RX3 yX3_alarm wsX3_alarm) := goodIn_app (goodIn_of _ (by decide +kernel)) ggL_law_X3_alarm
set_option maxRecDepth 20000 in
theorem ggL_law_X4_alarm : GoodIn wsL_law wsX4_alarm := goodIn_r _ [378, 54, 56, 57, 335, 379, 380, 381, 5, 382, 99, 64, 55, 92, 93, 94, 421, 422, 423, 424, 425, 426, 427, 428, 429, 430, 431, 432, 433, 434, 435] (by decide +kernel) (by decide +kernel)
set_option maxRecDepth 20000 in
theorem gL_law_X4_alarm : GoodIn wsL_law (wsV RL 57 RX4 yX4_alarm wsX4_alarm) := goodIn_app (goodIn_of _ (by decide +kernel)) ggL_law_X4_alarm
