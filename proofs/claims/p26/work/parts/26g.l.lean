set_option maxRecDepth 20000 in
theorem ggL_law_X0_would : GoodIn wsL_law wsX0_would := goodIn_ca (goodIn_r _ [309, 101, 102, 103, 2, 104, 105, 106, 107, 108, 109, 110, 22, 205, 206, 207, 208, 115, 116, 117, 118, 17, 209, 210, 211, 212, 36, 37, 38, 39, 23, 40, 41, 42, 43, 345, 346, 347, 348, 349, 350, 351] (by decide +kernel) (by decide +kernel)) (goodIn_sub (fun _ h => List.mem_append_right _ h) (by decide +kernel))
set_option maxRecDepth 20000 in
theorem gL_law_X0_would : GoodIn wsL_law (wsV RL 135 RX0 yX0_would wsX0_would) := goodIn_app (goodIn_of _ (by decide +kernel)) ggL_law_X0_would
set_option maxRecDepth 20000 in
theorem ggL_law_X0_about : GoodIn wsL_law wsX0_about := goodIn_ca (goodIn_r _ [313, 105, 106, 101, 102, 103, 2, 104, 254, 255, 256, 257, 258, 259, 260, 261, 22, 115, 116, 117, 118, 17, 36, 37, 38, 39, 23, 40, 41, 42, 43, 221, 222, 223, 224, 262, 263, 264, 265, 266, 267, 268, 269, 270, 271, 272, 273, 209, 210, 211, 212, 274, 275, 276, 277, 278, 279, 280, 281, 345, 346, 347, 348, 349, 350, 351] (by decide +kernel) (by decide +kernel)) (goodIn_sub (fun _ h => List.mem_append_right _ h) (by decide +kernel))
set_option maxRecDepth 20000 in
theorem gL_law_X0_about : GoodIn wsL_law (wsV RL 138 RX0 yX0_about wsX0_about) := goodIn_app (goodIn_of _ (by decide +kernel)) ggL_law_X0_about
set_option maxRecDepth 20000 in
theorem ggL_law_X0_point : GoodIn wsL_law wsX0_point := goodIn_ca (goodIn_ca (goodIn_r _ [317, 101, 102, 103, 2, 104, 105, 106, 111, 112, 113, 114, 78, 79, 23, 165, 166, 167, 168, 22, 115, 116, 117, 118, 17, 36, 37, 38, 39, 40, 41, 42, 43, 345, 346, 347, 348, 349, 350, 351] (by decide +kernel) (by decide +kernel)) (goodIn_sub (fun _ h => List.mem_append_right _ h) (by decide +kernel))) (goodIn_sub (fun _ h => List.mem_append_left _ (List.mem_append_right _ h)) (by decide +kernel))
set_option maxRecDepth 20000 in
theorem gL_law_X0_point : GoodIn wsL_law (wsV RL 141 RX0 yX0_point wsX0_point) := goodIn_app (goodIn_of _ (by decide +kernel)) ggL_law_X0_point
set_option maxRecDepth 20000 in
theorem ggL_law_X0_comes : GoodIn wsL_law wsX0_comes := goodIn_ca (goodIn_r _ [321, 22, 101, 102, 103, 2, 104, 105, 106, 270, 271, 272, 273, 209, 210, 211, 212, 115, 116, 117, 118, 17, 345, 346, 347, 348, 349, 350, 351] (by decide +kernel) (by decide +kernel)) (goodIn_sub (fun _ h => List.mem_append_right _ h) (by decide +kernel))
set_option maxRecDepth 20000 in
theorem gL_law_X0_comes : GoodIn wsL_law (wsV RL 144 RX0 yX0_comes wsX0_comes) := goodIn_app (goodIn_of _ (by decide +kernel)) ggL_law_X0_comes
set_option maxRecDepth 20000 in
theorem ggL_law_X0_turn : GoodIn wsL_law wsX0_turn := goodIn_ca (goodIn_r _ [156, 101, 102, 103, 2, 104, 105, 106, 157, 158, 159, 160, 26, 27, 161, 162, 163, 164, 22, 165, 166, 167, 168, 115, 116, 117, 118, 17, 36, 37, 38, 39, 23, 40, 41, 42, 43, 119, 120, 121, 122, 169, 170, 171, 172, 25, 133, 134, 135, 136, 345, 346, 347, 348, 349, 350, 351] (by decide +kernel) (by decide +kernel)) (goodIn_sub (fun _ h => List.mem_append_right _ h) (by decide +kernel))
set_option maxRecDepth 20000 in
theorem gL_law_X0_turn : GoodIn wsL_law (wsV RL 54 RX0 yX0_turn wsX0_turn) := goodIn_app (goodIn_of _ (by decide +kernel)) ggL_law_X0_turn
