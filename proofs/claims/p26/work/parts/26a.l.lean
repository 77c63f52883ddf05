theorem dL_below_0 : decode cL_below 0 = .ok (.iload_n 0, 1) := by decide +kernel
theorem dL_below_1 : decode cL_below 1 = .ok (.ldc 7, 2) := by decide +kernel
theorem dL_below_3 : decode cL_below 3 = .ok (.iand, 1) := by decide +kernel
theorem dL_below_4 : decode cL_below 4 = .ok (.iload_n 1, 1) := by decide +kernel
theorem dL_below_5 : decode cL_below 5 = .ok (.irem, 1) := by decide +kernel
theorem dL_below_6 : decode cL_below 6 = .ok (.ireturn, 1) := by decide +kernel
theorem dL_cell_0 : decode cL_cell 0 = .ok (.iload_n 1, 1) := by decide +kernel
theorem dL_cell_1 : decode cL_cell 1 = .ok (.aload_n 0, 1) := by decide +kernel
theorem dL_cell_2 : decode cL_cell 2 = .ok (.arraylength, 1) := by decide +kernel
theorem dL_cell_3 : decode cL_cell 3 = .ok (.if_icmp .ge 9, 3) := by decide +kernel
theorem dL_cell_6 : decode cL_cell 6 = .ok (.aload_n 0, 1) := by decide +kernel
theorem dL_cell_7 : decode cL_cell 7 = .ok (.iload_n 1, 1) := by decide +kernel
theorem dL_cell_8 : decode cL_cell 8 = .ok (.iaload, 1) := by decide +kernel
theorem dL_cell_9 : decode cL_cell 9 = .ok (.goto 9, 3) := by decide +kernel
theorem dL_cell_12 : decode cL_cell 12 = .ok (.ldc 8, 2) := by decide +kernel
theorem dL_cell_14 : decode cL_cell 14 = .ok (.iload_n 1, 1) := by decide +kernel
theorem dL_cell_15 : decode cL_cell 15 = .ok (.iconst 3, 1) := by decide +kernel
theorem dL_cell_16 : decode cL_cell 16 = .ok (.iadd, 1) := by decide +kernel
theorem dL_cell_17 : decode cL_cell 17 = .ok (.imul, 1) := by decide +kernel
theorem dL_cell_18 : decode cL_cell 18 = .ok (.ireturn, 1) := by decide +kernel
set_option maxRecDepth 20000 in
theorem ggL_act_L_below : GoodIn wsL_act wsL_below := goodIn_r _ [15, 16] (by decide +kernel) (by decide +kernel)
set_option maxRecDepth 20000 in
theorem gL_act_L_below : GoodIn wsL_act (va_wsS RL 9 yL_below wsL_below) := goodIn_app (goodIn_of _ (by decide +kernel)) ggL_act_L_below
set_option maxRecDepth 20000 in
theorem ggL_act_X0_ring : GoodIn wsL_act wsX0_ring := goodIn_ca (goodIn_r _ [21, 22, 23, 24, 25, 26, 20, 27, 28, 29, 30, 31, 32, 33, 34, 35, 36, 37, 38, 39, 40, 41, 42, 43, 44, 45, 46, 47, 48, 49, 50, 51, 52, 53, 54, 55, 56, 57, 58, 59, 60, 61, 62, 63, 222, 223, 224, 225, 226, 227, 228] (by decide +kernel) (by decide +kernel)) (goodIn_sub (fun _ h => List.mem_cons_of_mem _ (List.mem_append_left _ (List.mem_append_right _ h))) (by decide +kernel))
set_option maxRecDepth 20000 in
theorem gL_act_X0_ring : GoodIn wsL_act (wsV RL 25 RX0 yX0_ring wsX0_ring) := goodIn_app (goodIn_of _ (by decide +kernel)) ggL_act_X0_ring
set_option maxRecDepth 20000 in
theorem ggL_act_X1_ring : GoodIn wsL_act wsX1_ring := goodIn_r _ [68, 69, 70, 71, 72, 10, 73, 74, 75, 76, 67, 77, 218, 219, 220, 221] (by decide +kernel) (by decide +kernel)
set_option maxRecDepth 20000 in
theorem gL_act_X1_ring : GoodIn wsL_act (wsV RL 30 RX1 yX1_ring wsX1_ring) := goodIn_app (goodIn_of _ (by decide +kernel)) ggL_act_X1_ring
set_option maxRecDepth 20000 in
theorem ggL_act_X1_unlike : GoodIn wsL_act wsX1_unlike := goodIn_r _ [80] (by decide +kernel) (by decide +kernel)
set_option maxRecDepth 20000 in
theorem gL_act_X1_unlike : GoodIn wsL_act (va_wsS RL 35 yX1_unlike wsX1_unlike) := goodIn_app (goodIn_of _ (by decide +kernel)) ggL_act_X1_unlike
set_option maxRecDepth 20000 in
theorem ggL_act_X0_copy : GoodIn wsL_act wsX0_copy := goodIn_ca (goodIn_r _ [84, 85, 86, 87, 20, 88, 89, 90, 91, 92, 93, 94, 38, 95, 96, 97, 98, 43, 99, 100, 101, 102, 222, 223, 224, 225, 226, 227, 228] (by decide +kernel) (by decide +kernel)) (goodIn_sub (fun _ h => List.mem_cons_of_mem _ (List.mem_append_right _ h)) (by decide +kernel))
set_option maxRecDepth 20000 in
theorem gL_act_X0_copy : GoodIn wsL_act (wsV RL 44 RX0 yX0_copy wsX0_copy) := goodIn_app (goodIn_of _ (by decide +kernel)) ggL_act_X0_copy
set_option maxRecDepth 20000 in
theorem ggL_act_X1_back : GoodIn wsL_act wsX1_back := goodIn_r _ [106, 69, 10, 71, 70, 107, 108, 109, 67, 110, 111, 112, 113, 114, 218, 219, 220, 221] (by decide +kernel) (by decide +kernel)
set_option maxRecDepth 20000 in
theorem gL_act_X1_back : GoodIn wsL_act (wsV RL 47 RX1 yX1_back wsX1_back) := goodIn_app (goodIn_of _ (by decide +kernel)) ggL_act_X1_back
set_option maxRecDepth 20000 in
theorem ggL_act_X1_tones : GoodIn wsL_act wsX1_tones := goodIn_r _ [118, 69, 10, 71, 70, 107, 108, 109, 67, 110, 218, 219, 220, 221] (by decide +kernel) (by decide +kernel)
set_option maxRecDepth 20000 in
theorem gL_act_X1_tones : GoodIn wsL_act (wsV RL 51 RX1 yX1_tones wsX1_tones) := goodIn_app (goodIn_of _ (by decide +kernel)) ggL_act_X1_tones
set_option maxRecDepth 20000 in
theorem ggL_act_X0_turn : GoodIn wsL_act wsX0_turn := goodIn_ca (goodIn_r _ [122, 85, 86, 87, 20, 88, 89, 90, 123, 124, 125, 126, 41, 42, 127, 128, 129, 130, 38, 131, 132, 133, 134, 95, 96, 97, 98, 43, 52, 53, 54, 55, 39, 56, 57, 58, 59, 99, 100, 101, 102, 135, 136, 137, 138, 24, 91, 92, 93, 94, 222, 223, 224, 225, 226, 227, 228] (by decide +kernel) (by decide +kernel)) (goodIn_sub (fun _ h => List.mem_cons_of_mem _ (List.mem_append_right _ h)) (by decide +kernel))
set_option maxRecDepth 20000 in
theorem gL_act_X0_turn : GoodIn wsL_act (wsV RL 54 RX0 yX0_turn wsX0_turn) := goodIn_app (goodIn_of _ (by decide +kernel)) ggL_act_X0_turn
set_option maxRecDepth 20000 in
theorem ggL_act_X1_mirrored : GoodIn wsL_act wsX1_mirrored := goodIn_r _ [142, 69, 10, 218, 219, 220, 221] (by decide +kernel) (by decide +kernel)
set_option maxRecDepth 20000 in
theorem gL_act_X1_mirrored : GoodIn wsL_act (wsV RL 58 RX1 yX1_mirrored wsX1_mirrored) := goodIn_app (goodIn_of _ (by decide +kernel)) ggL_act_X1_mirrored
set_option maxRecDepth 20000 in
theorem ggL_act_X0_mirror : GoodIn wsL_act wsX0_mirror := goodIn_ca (goodIn_r _ [146, 38, 85, 86, 87, 20, 88, 89, 90, 147, 148, 149, 150, 40, 95, 96, 97, 98, 43, 99, 100, 101, 102, 91, 92, 93, 94, 222, 223, 224, 225, 226, 227, 228] (by decide +kernel) (by decide +kernel)) (goodIn_sub (fun _ h => List.mem_cons_of_mem _ (List.mem_append_right _ h)) (by decide +kernel))
set_option maxRecDepth 20000 in
theorem gL_act_X0_mirror : GoodIn wsL_act (wsV RL 61 RX0 yX0_mirror wsX0_mirror) := goodIn_app (goodIn_of _ (by decide +kernel)) ggL_act_X0_mirror
set_option maxRecDepth 20000 in
theorem ggL_act_X1_staged : GoodIn wsL_act wsX1_staged := goodIn_r _ [154, 69, 10, 71, 70, 107, 108, 109, 67, 110, 218, 219, 220, 221] (by decide +kernel) (by decide +kernel)
set_option maxRecDepth 20000 in
theorem gL_act_X1_staged : GoodIn wsL_act (wsV RL 65 RX1 yX1_staged wsX1_staged) := goodIn_app (goodIn_of _ (by decide +kernel)) ggL_act_X1_staged
