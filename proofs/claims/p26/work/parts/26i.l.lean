theorem gk_ggL_law_X1_isSame_c : GoodIn wsL_law [Cond.code yX1_isSame cX1_isSame 7 (some .boolean)] := goodIn_r _ [329] (by rfl) (by decide +kernel)
set_option maxRecDepth 20000 in
theorem gk_ggL_law_X1_isSame_wsX1_isSame_r1 : GoodIn wsL_law wsX1_isSame_r1 := goodIn_r _ [61, 3, 62, 63, 65, 145, 146, 147, 54, 148, 330, 283, 284, 2, 285, 105, 106, 246, 247, 248, 249, 22, 23, 25] (by decide +kernel) (by decide +kernel)
set_option maxRecDepth 20000 in
theorem gk_ggL_law_X1_isSame_wsX1_isSame_r2 : GoodIn wsL_law wsX1_isSame_r2 := goodIn_r _ [26, 27, 24, 331, 303, 304, 305, 101, 102, 103, 104, 107, 108, 109, 110, 115, 116, 117, 118, 17, 332, 333, 334, 335] (by decide +kernel) (by decide +kernel)
set_option maxRecDepth 20000 in
theorem gk_ggL_law_X1_isSame_wsX1_isSame_r3 : GoodIn wsL_law wsX1_isSame_r3 := goodIn_r _ [336, 279, 280, 281, 337, 229, 230, 231, 338, 127, 128, 339, 226, 227, 340, 311, 312, 313, 254, 255, 256, 257, 258, 259] (by decide +kernel) (by decide +kernel)
set_option maxRecDepth 20000 in
theorem gk_ggL_law_X1_isSame_wsX1_isSame_r4 : GoodIn wsL_law wsX1_isSame_r4 := goodIn_r _ [260, 261, 36, 37, 38, 39, 40, 41, 42, 43, 221, 222, 223, 224, 262, 263, 264, 265, 266, 267, 268, 269, 270, 271] (by decide +kernel) (by decide +kernel)
set_option maxRecDepth 20000 in
theorem gk_ggL_law_X1_isSame_wsX1_isSame_r5 : GoodIn wsL_law wsX1_isSame_r5 := goodIn_r _ [272, 273, 209, 210, 211, 212, 274, 275, 276, 277, 278, 341, 342, 343, 344] (by decide +kernel) (by decide +kernel)
set_option maxRecDepth 20000 in
theorem gk_ggL_law_X1_isSame_wsX10 : GoodIn wsL_law wsX10 := goodIn_r _ [352, 353, 354, 355] (by decide +kernel) (by decide +kernel)
set_option maxRecDepth 20000 in
theorem gk_ggL_law_X1_isSame_wsX00 : GoodIn wsL_law wsX00 := goodIn_r _ [345, 346, 347, 348, 349, 350, 351] (by decide +kernel) (by decide +kernel)
set_option maxRecDepth 20000 in
theorem ggL_law_X1_isSame : GoodIn wsL_law wsX1_isSame := goodIn_ca (goodIn_app gk_ggL_law_X1_isSame_c (goodIn_app (goodIn_app (goodIn_app gk_ggL_law_X1_isSame_wsX1_isSame_r1 (goodIn_app gk_ggL_law_X1_isSame_wsX1_isSame_r2 (goodIn_app gk_ggL_law_X1_isSame_wsX1_isSame_r3 (goodIn_app gk_ggL_law_X1_isSame_wsX1_isSame_r4 gk_ggL_law_X1_isSame_wsX1_isSame_r5)))) gk_ggL_law_X1_isSame_wsX10) gk_ggL_law_X1_isSame_wsX00)) (goodIn_sub (fun _ h => List.mem_append_right _ h) (by decide +kernel))
set_option maxRecDepth 20000 in
theorem gL_law_X1_isSame : GoodIn wsL_law (wsV RL 150 RX1 yX1_isSame wsX1_isSame) := goodIn_app (goodIn_of _ (by decide +kernel)) ggL_law_X1_isSame
