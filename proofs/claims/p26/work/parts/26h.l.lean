set_option maxRecDepth 20000 in
theorem ggL_law_X0_mirror : GoodIn wsL_law wsX0_mirror := goodIn_ca (goodIn_r _ [180, 22, 101, 102, 103, 2, 104, 105, 106, 181, 182, 183, 184, 24, 115, 116, 117, 118, 17, 119, 120, 121, 122, 133, 134, 135, 136, 345, 346, 347, 348, 349, 350, 351] (by decide +kernel) (by decide +kernel)) (goodIn_sub (fun _ h => List.mem_append_right _ h) (by decide +kernel))
set_option maxRecDepth 20000 in
theorem gL_law_X0_mirror : GoodIn wsL_law (wsV RL 61 RX0 yX0_mirror wsX0_mirror) := goodIn_app (goodIn_of _ (by decide +kernel)) ggL_law_X0_mirror
set_option maxRecDepth 20000 in
theorem ggL_law_X0_move : GoodIn wsL_law wsX0_move := goodIn_ca (goodIn_ca (goodIn_r _ [235, 78, 79, 22, 101, 102, 103, 2, 104, 105, 106, 209, 210, 211, 212, 115, 116, 117, 118, 17, 119, 120, 121, 122, 133, 134, 135, 136, 345, 346, 347, 348, 349, 350, 351] (by decide +kernel) (by decide +kernel)) (goodIn_sub (fun _ h => List.mem_append_left _ (List.mem_append_right _ h)) (by decide +kernel))) (goodIn_sub (fun _ h => List.mem_append_right _ h) (by decide +kernel))
set_option maxRecDepth 20000 in
theorem gL_law_X0_move : GoodIn wsL_law (wsV RL 93 RX0 yX0_move wsX0_move) := goodIn_app (goodIn_of _ (by decide +kernel)) ggL_law_X0_move
set_option maxRecDepth 20000 in
theorem ggL_law_X0_copy : GoodIn wsL_law wsX0_copy := goodIn_ca (goodIn_r _ [132, 101, 102, 103, 2, 104, 105, 106, 133, 134, 135, 136, 22, 115, 116, 117, 118, 17, 119, 120, 121, 122, 345, 346, 347, 348, 349, 350, 351] (by decide +kernel) (by decide +kernel)) (goodIn_sub (fun _ h => List.mem_append_right _ h) (by decide +kernel))
set_option maxRecDepth 20000 in
theorem gL_law_X0_copy : GoodIn wsL_law (wsV RL 44 RX0 yX0_copy wsX0_copy) := goodIn_app (goodIn_of _ (by decide +kernel)) ggL_law_X0_copy
set_option maxRecDepth 20000 in
theorem ggL_law_X1_moved : GoodIn wsL_law wsX1_moved := goodIn_r _ [231, 61, 3, 352, 353, 354, 355] (by decide +kernel) (by decide +kernel)
set_option maxRecDepth 20000 in
theorem gL_law_X1_moved : GoodIn wsL_law (wsV RL 90 RX1 yX1_moved wsX1_moved) := goodIn_app (goodIn_of _ (by decide +kernel)) ggL_law_X1_moved
set_option maxRecDepth 20000 in
theorem ggL_law_X1_tones : GoodIn wsL_law wsX1_tones := goodIn_r _ [152, 61, 3, 63, 62, 141, 142, 143, 54, 144, 352, 353, 354, 355] (by decide +kernel) (by decide +kernel)
set_option maxRecDepth 20000 in
theorem gL_law_X1_tones : GoodIn wsL_law (wsV RL 51 RX1 yX1_tones wsX1_tones) := goodIn_app (goodIn_of _ (by decide +kernel)) ggL_law_X1_tones
set_option maxRecDepth 20000 in
theorem ggL_law_X0_tones : GoodIn wsL_law wsX0_tones := goodIn_ca (goodIn_r _ [325, 101, 102, 103, 2, 104, 105, 106, 169, 170, 171, 172, 25, 161, 162, 163, 164, 22, 165, 166, 167, 168, 115, 116, 117, 118, 17, 36, 37, 38, 39, 23, 40, 41, 42, 43, 119, 120, 121, 122, 270, 271, 272, 273, 209, 210, 211, 212, 345, 346, 347, 348, 349, 350, 351] (by decide +kernel) (by decide +kernel)) (goodIn_sub (fun _ h => List.mem_append_right _ h) (by decide +kernel))
set_option maxRecDepth 20000 in
theorem gL_law_X0_tones : GoodIn wsL_law (wsV RL 147 RX0 yX0_tones wsX0_tones) := goodIn_app (goodIn_of _ (by decide +kernel)) ggL_law_X0_tones
