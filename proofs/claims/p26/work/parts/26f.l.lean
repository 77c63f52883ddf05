set_option maxRecDepth 20000 in
theorem ggL_law_X0_digest : GoodIn wsL_law wsX0_digest := goodIn_r _ [243, 244, 245, 246, 247, 248, 2, 249, 22, 23, 25, 26, 27, 24, 250, 251, 252, 253, 115, 116, 117, 118, 17, 254, 255, 256, 257, 258, 259, 260, 261, 36, 37, 38, 39, 40, 41, 42, 43, 221, 222, 223, 224, 262, 263, 264, 265, 266, 267, 268, 269, 270, 271, 272, 273, 209, 210, 211, 212, 274, 275, 276, 277, 278, 279, 280, 281, 169, 170, 171, 172, 161, 162, 163, 164, 165, 166, 167, 168, 119, 120, 121, 122, 345, 346, 347, 348, 349, 350, 351] (by decide +kernel) (by decide +kernel)
set_option maxRecDepth 20000 in
theorem gL_law_X0_digest : GoodIn wsL_law (wsV RL 116 RX0 yX0_digest wsX0_digest) := goodIn_app (goodIn_of _ (by decide +kernel)) ggL_law_X0_digest
set_option maxRecDepth 20000 in
theorem ggL_law_X0_count : GoodIn wsL_law wsX0_count := goodIn_ca (goodIn_r _ [285, 105, 106, 246, 247, 248, 2, 249, 22, 23, 25, 26, 27, 24, 345, 346, 347, 348, 349, 350, 351] (by decide +kernel) (by decide +kernel)) (goodIn_sub (fun _ h => List.mem_append_right _ h) (by decide +kernel))
set_option maxRecDepth 20000 in
theorem gL_law_X0_count : GoodIn wsL_law (wsV RL 120 RX0 yX0_count wsX0_count) := goodIn_app (goodIn_of _ (by decide +kernel)) ggL_law_X0_count
set_option maxRecDepth 20000 in
theorem ggL_law_X0_order : GoodIn wsL_law wsX0_order := goodIn_ca (goodIn_r _ [289, 23, 290, 291, 292, 2, 293, 78, 79, 36, 37, 38, 39, 40, 41, 42, 43, 345, 346, 347, 348, 349, 350, 351] (by decide +kernel) (by decide +kernel)) (goodIn_sub (fun _ h => List.mem_append_left _ (List.mem_append_right _ h)) (by decide +kernel))
set_option maxRecDepth 20000 in
theorem gL_law_X0_order : GoodIn wsL_law (wsV RL 123 RX0 yX0_order wsX0_order) := goodIn_app (goodIn_of _ (by decide +kernel)) ggL_law_X0_order
set_option maxRecDepth 20000 in
theorem ggL_law_X0_root : GoodIn wsL_law wsX0_root := goodIn_ca (goodIn_r _ [297, 78, 79, 25, 32, 33, 34, 2, 35, 36, 37, 38, 39, 23, 40, 41, 42, 43, 345, 346, 347, 348, 349, 350, 351] (by decide +kernel) (by decide +kernel)) (goodIn_sub (fun _ h => List.mem_append_left _ (List.mem_append_right _ h)) (by decide +kernel))
set_option maxRecDepth 20000 in
theorem gL_law_X0_root : GoodIn wsL_law (wsV RL 126 RX0 yX0_root wsX0_root) := goodIn_app (goodIn_of _ (by decide +kernel)) ggL_law_X0_root
set_option maxRecDepth 20000 in
theorem ggL_law_X0_inverse : GoodIn wsL_law wsX0_inverse := goodIn_ca (goodIn_r _ [301, 290, 291, 292, 2, 293, 78, 79, 23, 44, 45, 46, 47, 32, 33, 34, 35, 36, 37, 38, 39, 40, 41, 42, 43, 345, 346, 347, 348, 349, 350, 351] (by decide +kernel) (by decide +kernel)) (goodIn_sub (fun _ h => List.mem_append_left _ (List.mem_append_right _ h)) (by decide +kernel))
set_option maxRecDepth 20000 in
theorem gL_law_X0_inverse : GoodIn wsL_law (wsV RL 129 RX0 yX0_inverse wsX0_inverse) := goodIn_app (goodIn_of _ (by decide +kernel)) ggL_law_X0_inverse
set_option maxRecDepth 20000 in
theorem ggL_law_L_below : GoodIn wsL_law wsL_below := goodIn_r _ [72, 73] (by decide +kernel) (by decide +kernel)
set_option maxRecDepth 20000 in
theorem gL_law_L_below : GoodIn wsL_law (va_wsS RL 9 yL_below wsL_below) := goodIn_app (goodIn_of _ (by decide +kernel)) ggL_law_L_below
set_option maxRecDepth 20000 in
theorem ggL_law_X0_at : GoodIn wsL_law wsX0_at := goodIn_ca (goodIn_r _ [305, 101, 102, 103, 2, 104, 105, 106, 107, 108, 109, 110, 22, 115, 116, 117, 118, 17, 345, 346, 347, 348, 349, 350, 351] (by decide +kernel) (by decide +kernel)) (goodIn_sub (fun _ h => List.mem_append_right _ h) (by decide +kernel))
set_option maxRecDepth 20000 in
theorem gL_law_X0_at : GoodIn wsL_law (wsV RL 132 RX0 yX0_at wsX0_at) := goodIn_app (goodIn_of _ (by decide +kernel)) ggL_law_X0_at
