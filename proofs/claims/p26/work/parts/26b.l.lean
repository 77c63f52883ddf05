set_option maxRecDepth 20000 in
theorem ggL_act_X0_stage : GoodIn wsL_act wsX0_stage := goodIn_ca (goodIn_r _ [158, 89, 90, 40, 38, 24, 85, 86, 87, 20, 88, 48, 49, 50, 51, 52, 53, 54, 55, 39, 56, 57, 58, 59, 159, 160, 161, 162, 95, 96, 97, 98, 43, 99, 100, 101, 102, 222, 223, 224, 225, 226, 227, 228] (by decide +kernel) (by decide +kernel)) (goodIn_sub (fun _ h => List.mem_cons_of_mem _ (List.mem_append_right _ h)) (by decide +kernel))
set_option maxRecDepth 20000 in
theorem gL_act_X0_stage : GoodIn wsL_act (wsV RL 69 RX0 yX0_stage wsX0_stage) := goodIn_app (goodIn_of _ (by decide +kernel)) ggL_act_X0_stage
set_option maxRecDepth 20000 in
theorem ggL_act_X1_folded : GoodIn wsL_act wsX1_folded := goodIn_r _ [166, 69, 10, 70, 218, 219, 220, 221] (by decide +kernel) (by decide +kernel)
set_option maxRecDepth 20000 in
theorem gL_act_X1_folded : GoodIn wsL_act (wsV RL 72 RX1 yX1_folded wsX1_folded) := goodIn_app (goodIn_of _ (by decide +kernel)) ggL_act_X1_folded
set_option maxRecDepth 20000 in
theorem ggL_act_X0_fold : GoodIn wsL_act wsX0_fold := goodIn_ca (goodIn_r _ [170, 38, 85, 86, 87, 20, 88, 89, 90, 171, 172, 173, 174, 95, 96, 97, 98, 43, 175, 176, 177, 178, 52, 53, 54, 55, 39, 56, 57, 58, 59, 99, 100, 101, 102, 91, 92, 93, 94, 222, 223, 224, 225, 226, 227, 228] (by decide +kernel) (by decide +kernel)) (goodIn_sub (fun _ h => List.mem_cons_of_mem _ (List.mem_append_right _ h)) (by decide +kernel))
set_option maxRecDepth 20000 in
theorem gL_act_X0_fold : GoodIn wsL_act (wsV RL 76 RX0 yX0_fold wsX0_fold) := goodIn_app (goodIn_of _ (by decide +kernel)) ggL_act_X0_fold
set_option maxRecDepth 20000 in
theorem ggL_act_X0_join : GoodIn wsL_act wsX0_join := goodIn_ca (goodIn_r _ [182, 89, 90, 38, 85, 86, 87, 20, 88, 95, 96, 97, 98, 43, 183, 184, 185, 186, 52, 53, 54, 55, 39, 56, 57, 58, 59, 99, 100, 101, 102, 187, 188, 189, 190, 222, 223, 224, 225, 226, 227, 228] (by decide +kernel) (by decide +kernel)) (goodIn_sub (fun _ h => List.mem_cons_of_mem _ (List.mem_append_right _ h)) (by decide +kernel))
set_option maxRecDepth 20000 in
theorem gL_act_X0_join : GoodIn wsL_act (wsV RL 82 RX0 yX0_join wsX0_join) := goodIn_app (goodIn_of _ (by decide +kernel)) ggL_act_X0_join
set_option maxRecDepth 20000 in
theorem ggL_act_X1_others : GoodIn wsL_act wsX1_others := goodIn_r _ [193] (by decide +kernel) (by decide +kernel)
set_option maxRecDepth 20000 in
theorem gL_act_X1_others : GoodIn wsL_act (va_wsS RL 86 yX1_others wsX1_others) := goodIn_app (goodIn_of _ (by decide +kernel)) ggL_act_X1_others
set_option maxRecDepth 20000 in
theorem ggL_act_X1_moved : GoodIn wsL_act wsX1_moved := goodIn_r _ [197, 69, 10, 218, 219, 220, 221] (by decide +kernel) (by decide +kernel)
set_option maxRecDepth 20000 in
theorem gL_act_X1_moved : GoodIn wsL_act (wsV RL 90 RX1 yX1_moved wsX1_moved) := goodIn_app (goodIn_of _ (by decide +kernel)) ggL_act_X1_moved
set_option maxRecDepth 20000 in
theorem ggL_act_X0_move : GoodIn wsL_act wsX0_move := goodIn_ca (goodIn_ca (goodIn_r _ [201, 22, 23, 38, 85, 86, 87, 20, 88, 89, 90, 175, 176, 177, 178, 95, 96, 97, 98, 43, 99, 100, 101, 102, 91, 92, 93, 94, 222, 223, 224, 225, 226, 227, 228] (by decide +kernel) (by decide +kernel)) (goodIn_sub (fun _ h => List.mem_cons_of_mem _ (List.mem_append_left _ (List.mem_append_right _ h))) (by decide +kernel))) (goodIn_sub (fun _ h => List.mem_cons_of_mem _ (List.mem_append_right _ h)) (by decide +kernel))
set_option maxRecDepth 20000 in
theorem gL_act_X0_move : GoodIn wsL_act (wsV RL 93 RX0 yX0_move wsX0_move) := goodIn_app (goodIn_of _ (by decide +kernel)) ggL_act_X0_move
set_option maxRecDepth 20000 in
theorem ggL_act_X0_times : GoodIn wsL_act wsX0_times := goodIn_ca (goodIn_ca (goodIn_r _ [205, 38, 85, 86, 87, 20, 88, 89, 90, 206, 207, 208, 209, 22, 23, 39, 95, 96, 97, 98, 43, 52, 53, 54, 55, 56, 57, 58, 59, 99, 100, 101, 102, 187, 188, 189, 190, 222, 223, 224, 225, 226, 227, 228] (by decide +kernel) (by decide +kernel)) (goodIn_sub (fun _ h => List.mem_cons_of_mem _ (List.mem_append_right _ h)) (by decide +kernel))) (goodIn_sub (fun _ h => List.mem_cons_of_mem _ (List.mem_append_left _ (List.mem_append_right _ h))) (by decide +kernel))
set_option maxRecDepth 20000 in
theorem gL_act_X0_times : GoodIn wsL_act (wsV RL 96 RX0 yX0_times wsX0_times) := goodIn_app (goodIn_of _ (by decide +kernel)) ggL_act_X0_times
