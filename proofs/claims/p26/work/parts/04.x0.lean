set_option maxRecDepth 20000 in
theorem ggX0_init_X0_takeRing : GoodIn wsX0_init wsX0_takeRing := goodIn_r _ [10, 11, 12, 13, 14, 15, 16, 5, 17, 18, 19, 9, 20, 21, 22, 23, 24, 25, 26, 27, 28, 29, 30, 31, 32, 33, 34, 35, 36, 37, 38, 39, 40, 41, 42, 43] (by decide +kernel) (by decide +kernel)
set_option maxRecDepth 20000 in
theorem gX0_init_X0_takeRing : GoodIn wsX0_init (wsV RX0 13 RX0 yX0_takeRing wsX0_takeRing) := goodIn_app (goodIn_of _ (by decide +kernel)) ggX0_init_X0_takeRing
theorem dX0_init_0 : decode cX0_init 0 = .ok (.aload_n 0, 1) := by decide +kernel
theorem dX0_init_1 : decode cX0_init 1 = .ok (.invokespecial 3, 3) := by decide +kernel
theorem dX0_init_4 : decode cX0_init 4 = .ok (.aload_n 0, 1) := by decide +kernel
theorem dX0_init_5 : decode cX0_init 5 = .ok (.bipush 80, 2) := by decide +kernel
theorem dX0_init_7 : decode cX0_init 7 = .ok (.newarray .int, 2) := by decide +kernel
theorem dX0_init_9 : decode cX0_init 9 = .ok (.putfield 9, 3) := by decide +kernel
theorem dX0_init_12 : decode cX0_init 12 = .ok (.aload_n 0, 1) := by decide +kernel
theorem dX0_init_13 : decode cX0_init 13 = .ok (.bipush 8, 2) := by decide +kernel
theorem dX0_init_15 : decode cX0_init 15 = .ok (.bipush 17, 2) := by decide +kernel
theorem dX0_init_17 : decode cX0_init 17 = .ok (.invokevirtual 13, 3) := by decide +kernel
theorem dX0_init_20 : decode cX0_init 20 = .ok (.return_, 1) := by decide +kernel
set_option maxRecDepth 20000 in
theorem ggX0_ring_X0_isLength : GoodIn wsX0_ring wsX0_isLength := goodIn_r _ [7] (by decide +kernel) (by decide +kernel)
set_option maxRecDepth 20000 in
theorem gX0_ring_X0_isLength : GoodIn wsX0_ring (va_wsS RX0 17 yX0_isLength wsX0_isLength) := goodIn_app (goodIn_of _ (by decide +kernel)) ggX0_ring_X0_isLength
set_option maxRecDepth 20000 in
theorem ggX0_ring_X0_isPrimeOfRing : GoodIn wsX0_ring wsX0_isPrimeOfRing := goodIn_r _ [10, 11, 12, 6, 13] (by decide +kernel) (by decide +kernel)
set_option maxRecDepth 20000 in
theorem gX0_ring_X0_isPrimeOfRing : GoodIn wsX0_ring (va_wsS RX0 21 yX0_isPrimeOfRing wsX0_isPrimeOfRing) := goodIn_app (goodIn_of _ (by decide +kernel)) ggX0_ring_X0_isPrimeOfRing
set_option maxRecDepth 20000 in
theorem ggX0_ring_X0_divides : GoodIn wsX0_ring wsX0_divides := goodIn_r _ [13] (by decide +kernel) (by decide +kernel)
set_option maxRecDepth 20000 in
theorem gX0_ring_X0_divides : GoodIn wsX0_ring (va_wsS RX0 24 yX0_divides wsX0_divides) := goodIn_app (goodIn_of _ (by decide +kernel)) ggX0_ring_X0_divides
set_option maxRecDepth 20000 in
theorem ggX0_ring_X0_takeRing : GoodIn wsX0_ring wsX0_takeRing := goodIn_r _ [17, 18, 19, 20, 3, 21, 22, 23, 24, 25, 26, 6, 27, 28, 29, 30, 31, 32, 33, 34, 35, 36, 37, 38, 39, 40, 41, 42, 43, 44, 45, 46, 47, 48, 49, 50] (by decide +kernel) (by decide +kernel)
set_option maxRecDepth 20000 in
theorem gX0_ring_X0_takeRing : GoodIn wsX0_ring (wsV RX0 13 RX0 yX0_takeRing wsX0_takeRing) := goodIn_app (goodIn_of _ (by decide +kernel)) ggX0_ring_X0_takeRing
theorem dX0_ring_0 : decode cX0_ring 0 = .ok (.iload_n 1, 1) := by decide +kernel
theorem dX0_ring_1 : decode cX0_ring 1 = .ok (.invokestatic 17, 3) := by decide +kernel
theorem dX0_ring_4 : decode cX0_ring 4 = .ok (.ifCond .eq 20, 3) := by decide +kernel
theorem dX0_ring_7 : decode cX0_ring 7 = .ok (.iload_n 2, 1) := by decide +kernel
theorem dX0_ring_8 : decode cX0_ring 8 = .ok (.invokestatic 21, 3) := by decide +kernel
theorem dX0_ring_11 : decode cX0_ring 11 = .ok (.ifCond .eq 13, 3) := by decide +kernel
theorem dX0_ring_14 : decode cX0_ring 14 = .ok (.iload_n 1, 1) := by decide +kernel
theorem dX0_ring_15 : decode cX0_ring 15 = .ok (.iload_n 2, 1) := by decide +kernel
theorem dX0_ring_16 : decode cX0_ring 16 = .ok (.iconst 1, 1) := by decide +kernel
theorem dX0_ring_17 : decode cX0_ring 17 = .ok (.isub, 1) := by decide +kernel
theorem dX0_ring_18 : decode cX0_ring 18 = .ok (.invokestatic 24, 3) := by decide +kernel
theorem dX0_ring_21 : decode cX0_ring 21 = .ok (.ifCond .ne 13, 3) := by decide +kernel
theorem dX0_ring_24 : decode cX0_ring 24 = .ok (.new 28, 3) := by decide +kernel
theorem dX0_ring_27 : decode cX0_ring 27 = .ok (.dup, 1) := by decide +kernel
theorem dX0_ring_28 : decode cX0_ring 28 = .ok (.ldc 30, 2) := by decide +kernel
theorem dX0_ring_30 : decode cX0_ring 30 = .ok (.invokespecial 32, 3) := by decide +kernel
theorem dX0_ring_33 : decode cX0_ring 33 = .ok (.athrow, 1) := by decide +kernel
theorem dX0_ring_34 : decode cX0_ring 34 = .ok (.aload_n 0, 1) := by decide +kernel
theorem dX0_ring_35 : decode cX0_ring 35 = .ok (.iload_n 1, 1) := by decide +kernel
theorem dX0_ring_36 : decode cX0_ring 36 = .ok (.iload_n 2, 1) := by decide +kernel
theorem dX0_ring_37 : decode cX0_ring 37 = .ok (.invokevirtual 13, 3) := by decide +kernel
theorem dX0_ring_40 : decode cX0_ring 40 = .ok (.aload_n 0, 1) := by decide +kernel
theorem dX0_ring_41 : decode cX0_ring 41 = .ok (.getfield 35, 3) := by decide +kernel
theorem dX0_ring_44 : decode cX0_ring 44 = .ok (.ireturn, 1) := by decide +kernel
set_option maxRecDepth 20000 in
theorem ggX0_order_X0_requireInvertible : GoodIn wsX0_order wsX0_requireInvertible := goodIn_ca (goodIn_r _ [6, 7, 8, 1, 17, 18, 19, 20, 21, 22, 23] (by decide +kernel) (by decide +kernel)) (goodIn_sub (fun _ h => List.mem_cons_of_mem _ (List.mem_append_right _ h)) (by decide +kernel))
set_option maxRecDepth 20000 in
theorem gX0_order_X0_requireInvertible : GoodIn wsX0_order (wsV RX0 39 RX0 yX0_requireInvertible wsX0_requireInvertible) := goodIn_app (goodIn_of _ (by decide +kernel)) ggX0_order_X0_requireInvertible
set_option maxRecDepth 20000 in
theorem ggX0_order_X0_reduced : GoodIn wsX0_order wsX0_reduced := goodIn_r _ [12, 1, 13, 14, 15, 16, 17, 18, 19, 20, 21, 22, 23] (by decide +kernel) (by decide +kernel)
set_option maxRecDepth 20000 in
theorem gX0_order_X0_reduced : GoodIn wsX0_order (wsV RX0 46 RX0 yX0_reduced wsX0_reduced) := goodIn_app (goodIn_of _ (by decide +kernel)) ggX0_order_X0_reduced
theorem dX0_order_0 : decode cX0_order 0 = .ok (.aload_n 0, 1) := by decide +kernel
theorem dX0_order_1 : decode cX0_order 1 = .ok (.iload_n 1, 1) := by decide +kernel
theorem dX0_order_2 : decode cX0_order 2 = .ok (.invokevirtual 39, 3) := by decide +kernel
theorem dX0_order_5 : decode cX0_order 5 = .ok (.iconst 1, 1) := by decide +kernel
theorem dX0_order_6 : decode cX0_order 6 = .ok (.istore_n 2, 1) := by decide +kernel
theorem dX0_order_7 : decode cX0_order 7 = .ok (.iload_n 1, 1) := by decide +kernel
theorem dX0_order_8 : decode cX0_order 8 = .ok (.istore_n 3, 1) := by decide +kernel
theorem dX0_order_9 : decode cX0_order 9 = .ok (.iload_n 3, 1) := by decide +kernel
theorem dX0_order_10 : decode cX0_order 10 = .ok (.iconst 1, 1) := by decide +kernel
theorem dX0_order_11 : decode cX0_order 11 = .ok (.if_icmp .eq 25, 3) := by decide +kernel
theorem dX0_order_14 : decode cX0_order 14 = .ok (.iload_n 2, 1) := by decide +kernel
theorem dX0_order_15 : decode cX0_order 15 = .ok (.aload_n 0, 1) := by decide +kernel
theorem dX0_order_16 : decode cX0_order 16 = .ok (.getfield 43, 3) := by decide +kernel
theorem dX0_order_19 : decode cX0_order 19 = .ok (.if_icmp .ge 17, 3) := by decide +kernel
theorem dX0_order_22 : decode cX0_order 22 = .ok (.aload_n 0, 1) := by decide +kernel
theorem dX0_order_23 : decode cX0_order 23 = .ok (.iload_n 3, 1) := by decide +kernel
theorem dX0_order_24 : decode cX0_order 24 = .ok (.iload_n 1, 1) := by decide +kernel
theorem dX0_order_25 : decode cX0_order 25 = .ok (.imul, 1) := by decide +kernel
theorem dX0_order_26 : decode cX0_order 26 = .ok (.invokevirtual 46, 3) := by decide +kernel
theorem dX0_order_29 : decode cX0_order 29 = .ok (.istore_n 3, 1) := by decide +kernel
theorem dX0_order_30 : decode cX0_order 30 = .ok (.iinc 2 1, 3) := by decide +kernel
theorem dX0_order_33 : decode cX0_order 33 = .ok (.goto (-24), 3) := by decide +kernel
theorem dX0_order_36 : decode cX0_order 36 = .ok (.iload_n 2, 1) := by decide +kernel
theorem dX0_order_37 : decode cX0_order 37 = .ok (.ireturn, 1) := by decide +kernel
set_option maxRecDepth 20000 in
theorem ggX0_inverse_X0_requireInvertible : GoodIn wsX0_inverse wsX0_requireInvertible := goodIn_ca (goodIn_r _ [5, 6, 7, 8, 25, 26, 27, 28, 29, 30, 31] (by decide +kernel) (by decide +kernel)) (goodIn_sub (fun _ h => List.mem_cons_of_mem _ (List.mem_append_right _ h)) (by decide +kernel))
set_option maxRecDepth 20000 in
theorem gX0_inverse_X0_requireInvertible : GoodIn wsX0_inverse (wsV RX0 39 RX0 yX0_requireInvertible wsX0_requireInvertible) := goodIn_app (goodIn_of _ (by decide +kernel)) ggX0_inverse_X0_requireInvertible
set_option maxRecDepth 20000 in
theorem ggX0_inverse_X0_inverseOf : GoodIn wsX0_inverse wsX0_inverseOf := goodIn_r _ [12, 8, 13, 14, 15, 4, 16, 17, 18, 19, 20, 21, 22, 23, 24, 25, 26, 27, 28, 29, 30, 31] (by decide +kernel) (by decide +kernel)
set_option maxRecDepth 20000 in
theorem gX0_inverse_X0_inverseOf : GoodIn wsX0_inverse (wsV RX0 50 RX0 yX0_inverseOf wsX0_inverseOf) := goodIn_app (goodIn_of _ (by decide +kernel)) ggX0_inverse_X0_inverseOf
theorem dX0_inverse_0 : decode cX0_inverse 0 = .ok (.aload_n 0, 1) := by decide +kernel
theorem dX0_inverse_1 : decode cX0_inverse 1 = .ok (.iload_n 1, 1) := by decide +kernel
theorem dX0_inverse_2 : decode cX0_inverse 2 = .ok (.invokevirtual 39, 3) := by decide +kernel
theorem dX0_inverse_5 : decode cX0_inverse 5 = .ok (.aload_n 0, 1) := by decide +kernel
theorem dX0_inverse_6 : decode cX0_inverse 6 = .ok (.iload_n 1, 1) := by decide +kernel
theorem dX0_inverse_7 : decode cX0_inverse 7 = .ok (.invokevirtual 50, 3) := by decide +kernel
theorem dX0_inverse_10 : decode cX0_inverse 10 = .ok (.ireturn, 1) := by decide +kernel
set_option maxRecDepth 20000 in
theorem ggX0_root_X0_powerOf : GoodIn wsX0_root wsX0_powerOf := goodIn_r _ [8, 9, 10, 11, 7, 12, 13, 14, 15, 16, 17, 18, 19, 20, 21, 22, 23, 24] (by decide +kernel) (by decide +kernel)
set_option maxRecDepth 20000 in
theorem gX0_root_X0_powerOf : GoodIn wsX0_root (wsV RX0 55 RX0 yX0_powerOf wsX0_powerOf) := goodIn_app (goodIn_of _ (by decide +kernel)) ggX0_root_X0_powerOf
theorem dX0_root_0 : decode cX0_root 0 = .ok (.iload_n 1, 1) := by decide +kernel
theorem dX0_root_1 : decode cX0_root 1 = .ok (.ifCond .lt 10, 3) := by decide +kernel
theorem dX0_root_4 : decode cX0_root 4 = .ok (.iload_n 1, 1) := by decide +kernel
theorem dX0_root_5 : decode cX0_root 5 = .ok (.sipush 9999, 3) := by decide +kernel
theorem dX0_root_8 : decode cX0_root 8 = .ok (.if_icmp .le 13, 3) := by decide +kernel
theorem dX0_root_11 : decode cX0_root 11 = .ok (.new 28, 3) := by decide +kernel
theorem dX0_root_14 : decode cX0_root 14 = .ok (.dup, 1) := by decide +kernel
theorem dX0_root_15 : decode cX0_root 15 = .ok (.ldc 53, 2) := by decide +kernel
theorem dX0_root_17 : decode cX0_root 17 = .ok (.invokespecial 32, 3) := by decide +kernel
theorem dX0_root_20 : decode cX0_root 20 = .ok (.athrow, 1) := by decide +kernel
theorem dX0_root_21 : decode cX0_root 21 = .ok (.aload_n 0, 1) := by decide +kernel
theorem dX0_root_22 : decode cX0_root 22 = .ok (.aload_n 0, 1) := by decide +kernel
theorem dX0_root_23 : decode cX0_root 23 = .ok (.getfield 35, 3) := by decide +kernel
theorem dX0_root_26 : decode cX0_root 26 = .ok (.iload_n 1, 1) := by decide +kernel
theorem dX0_root_27 : decode cX0_root 27 = .ok (.invokevirtual 55, 3) := by decide +kernel
theorem dX0_root_30 : decode cX0_root 30 = .ok (.ireturn, 1) := by decide +kernel
set_option maxRecDepth 20000 in
theorem ggX0_set_X0_requireRow : GoodIn wsX0_set wsX0_requireRow := goodIn_ca (goodIn_r _ [5, 6, 7] (by decide +kernel) (by decide +kernel)) (goodIn_sub (fun _ h => List.mem_cons_of_mem _ (List.mem_append_left _ (List.mem_append_right _ h))) (by decide +kernel))
set_option maxRecDepth 20000 in
theorem gX0_set_X0_requireRow : GoodIn wsX0_set (wsV RX0 59 RX0 yX0_requireRow wsX0_requireRow) := goodIn_app (goodIn_of _ (by decide +kernel)) ggX0_set_X0_requireRow
set_option maxRecDepth 20000 in
theorem ggX0_set_X0_requirePlace : GoodIn wsX0_set wsX0_requirePlace := goodIn_ca (goodIn_r _ [11, 6, 7, 12, 29, 30, 31, 32, 33, 34, 35] (by decide +kernel) (by decide +kernel)) (goodIn_sub (fun _ h => List.mem_cons_of_mem _ (List.mem_append_left _ (List.mem_append_right _ h))) (by decide +kernel))
set_option maxRecDepth 20000 in
theorem gX0_set_X0_requirePlace : GoodIn wsX0_set (wsV RX0 62 RX0 yX0_requirePlace wsX0_requirePlace) := goodIn_app (goodIn_of _ (by decide +kernel)) ggX0_set_X0_requirePlace
set_option maxRecDepth 20000 in
theorem ggX0_set_X0_requireNumber : GoodIn wsX0_set wsX0_requireNumber := goodIn_ca (goodIn_r _ [16, 17, 18, 19, 29, 30, 31, 32, 33, 34, 35] (by decide +kernel) (by decide +kernel)) (goodIn_sub (fun _ h => List.mem_cons_of_mem _ (List.mem_append_right _ h)) (by decide +kernel))
set_option maxRecDepth 20000 in
theorem gX0_set_X0_requireNumber : GoodIn wsX0_set (wsV RX0 65 RX0 yX0_requireNumber wsX0_requireNumber) := goodIn_app (goodIn_of _ (by decide +kernel)) ggX0_set_X0_requireNumber
set_option maxRecDepth 20000 in
theorem ggX0_set_X0_read : GoodIn wsX0_set wsX0_read := goodIn_r _ [23, 24, 29, 30, 31, 32, 33, 34, 35] (by decide +kernel) (by decide +kernel)
set_option maxRecDepth 20000 in
theorem gX0_set_X0_read : GoodIn wsX0_set (wsV RX0 68 RX0 yX0_read wsX0_read) := goodIn_app (goodIn_of _ (by decide +kernel)) ggX0_set_X0_read
set_option maxRecDepth 20000 in
theorem ggX0_set_X0_write : GoodIn wsX0_set wsX0_write := goodIn_r _ [28, 24, 29, 30, 31, 32, 33, 34, 35] (by decide +kernel) (by decide +kernel)
set_option maxRecDepth 20000 in
theorem gX0_set_X0_write : GoodIn wsX0_set (wsV RX0 71 RX0 yX0_write wsX0_write) := goodIn_app (goodIn_of _ (by decide +kernel)) ggX0_set_X0_write
theorem dX0_set_0 : decode cX0_set 0 = .ok (.aload_n 0, 1) := by decide +kernel
theorem dX0_set_1 : decode cX0_set 1 = .ok (.iload_n 1, 1) := by decide +kernel
theorem dX0_set_2 : decode cX0_set 2 = .ok (.invokevirtual 59, 3) := by decide +kernel
theorem dX0_set_5 : decode cX0_set 5 = .ok (.aload_n 0, 1) := by decide +kernel
theorem dX0_set_6 : decode cX0_set 6 = .ok (.iload_n 2, 1) := by decide +kernel
theorem dX0_set_7 : decode cX0_set 7 = .ok (.invokevirtual 62, 3) := by decide +kernel
theorem dX0_set_10 : decode cX0_set 10 = .ok (.aload_n 0, 1) := by decide +kernel
theorem dX0_set_11 : decode cX0_set 11 = .ok (.iload_n 3, 1) := by decide +kernel
theorem dX0_set_12 : decode cX0_set 12 = .ok (.invokevirtual 65, 3) := by decide +kernel
theorem dX0_set_15 : decode cX0_set 15 = .ok (.aload_n 0, 1) := by decide +kernel
theorem dX0_set_16 : decode cX0_set 16 = .ok (.iload_n 1, 1) := by decide +kernel
theorem dX0_set_17 : decode cX0_set 17 = .ok (.iload_n 2, 1) := by decide +kernel
theorem dX0_set_18 : decode cX0_set 18 = .ok (.invokevirtual 68, 3) := by decide +kernel
theorem dX0_set_21 : decode cX0_set 21 = .ok (.istore 4, 2) := by decide +kernel
theorem dX0_set_23 : decode cX0_set 23 = .ok (.aload_n 0, 1) := by decide +kernel
theorem dX0_set_24 : decode cX0_set 24 = .ok (.iload_n 1, 1) := by decide +kernel
theorem dX0_set_25 : decode cX0_set 25 = .ok (.iload_n 2, 1) := by decide +kernel
theorem dX0_set_26 : decode cX0_set 26 = .ok (.iload_n 3, 1) := by decide +kernel
theorem dX0_set_27 : decode cX0_set 27 = .ok (.invokevirtual 71, 3) := by decide +kernel
theorem dX0_set_30 : decode cX0_set 30 = .ok (.iload 4, 2) := by decide +kernel
theorem dX0_set_32 : decode cX0_set 32 = .ok (.ireturn, 1) := by decide +kernel
set_option maxRecDepth 20000 in
theorem ggX0_copy_X0_requireRow : GoodIn wsX0_copy wsX0_requireRow := goodIn_ca (goodIn_r _ [5, 6, 7] (by decide +kernel) (by decide +kernel)) (goodIn_sub (fun _ h => List.mem_cons_of_mem _ (List.mem_append_right _ h)) (by decide +kernel))
set_option maxRecDepth 20000 in
theorem gX0_copy_X0_requireRow : GoodIn wsX0_copy (wsV RX0 59 RX0 yX0_requireRow wsX0_requireRow) := goodIn_app (goodIn_of _ (by decide +kernel)) ggX0_copy_X0_requireRow
set_option maxRecDepth 20000 in
theorem ggX0_copy_X0_copyRow : GoodIn wsX0_copy wsX0_copyRow := goodIn_r _ [11, 12, 13, 14, 15, 4, 16, 17, 18, 19, 20, 21, 22, 23, 24, 25, 26, 27, 28] (by decide +kernel) (by decide +kernel)
set_option maxRecDepth 20000 in
theorem gX0_copy_X0_copyRow : GoodIn wsX0_copy (wsV RX0 75 RX0 yX0_copyRow wsX0_copyRow) := goodIn_app (goodIn_of _ (by decide +kernel)) ggX0_copy_X0_copyRow
theorem dX0_copy_0 : decode cX0_copy 0 = .ok (.aload_n 0, 1) := by decide +kernel
theorem dX0_copy_1 : decode cX0_copy 1 = .ok (.iload_n 1, 1) := by decide +kernel
theorem dX0_copy_2 : decode cX0_copy 2 = .ok (.invokevirtual 59, 3) := by decide +kernel
theorem dX0_copy_5 : decode cX0_copy 5 = .ok (.aload_n 0, 1) := by decide +kernel
theorem dX0_copy_6 : decode cX0_copy 6 = .ok (.iload_n 2, 1) := by decide +kernel
theorem dX0_copy_7 : decode cX0_copy 7 = .ok (.invokevirtual 59, 3) := by decide +kernel
theorem dX0_copy_10 : decode cX0_copy 10 = .ok (.aload_n 0, 1) := by decide +kernel
theorem dX0_copy_11 : decode cX0_copy 11 = .ok (.iload_n 1, 1) := by decide +kernel
theorem dX0_copy_12 : decode cX0_copy 12 = .ok (.iload_n 2, 1) := by decide +kernel
theorem dX0_copy_13 : decode cX0_copy 13 = .ok (.invokevirtual 75, 3) := by decide +kernel
theorem dX0_copy_16 : decode cX0_copy 16 = .ok (.ireturn, 1) := by decide +kernel
set_option maxRecDepth 20000 in
theorem ggX0_turn_X0_requireRow : GoodIn wsX0_turn wsX0_requireRow := goodIn_ca (goodIn_r _ [5, 6, 7] (by decide +kernel) (by decide +kernel)) (goodIn_sub (fun _ h => List.mem_cons_of_mem _ (List.mem_append_right _ h)) (by decide +kernel))
set_option maxRecDepth 20000 in
theorem gX0_turn_X0_requireRow : GoodIn wsX0_turn (wsV RX0 59 RX0 yX0_requireRow wsX0_requireRow) := goodIn_app (goodIn_of _ (by decide +kernel)) ggX0_turn_X0_requireRow
set_option maxRecDepth 20000 in
theorem ggX0_turn_X0_scratchTurnedBack : GoodIn wsX0_turn wsX0_scratchTurnedBack := goodIn_r _ [11, 12, 13, 14, 15, 16, 4, 17, 18, 19, 20, 21, 22, 23, 24, 25, 26, 27, 28, 29, 30, 31, 32, 33, 34, 35, 36, 37, 38, 39, 40, 50, 51, 52, 53, 54, 55, 56] (by decide +kernel) (by decide +kernel)
set_option maxRecDepth 20000 in
theorem gX0_turn_X0_scratchTurnedBack : GoodIn wsX0_turn (wsV RX0 78 RX0 yX0_scratchTurnedBack wsX0_scratchTurnedBack) := goodIn_app (goodIn_of _ (by decide +kernel)) ggX0_turn_X0_scratchTurnedBack
set_option maxRecDepth 20000 in
theorem ggX0_turn_X0_scratchTones : GoodIn wsX0_turn wsX0_scratchTones := goodIn_r _ [44, 45, 14, 15, 16, 4, 17, 18, 19, 20, 21, 22, 23, 24, 25, 26, 27, 28, 29, 30, 31, 32, 33, 34, 35, 36, 37, 38, 39, 40, 50, 51, 52, 53, 54, 55, 56] (by decide +kernel) (by decide +kernel)
set_option maxRecDepth 20000 in
theorem gX0_turn_X0_scratchTones : GoodIn wsX0_turn (wsV RX0 81 RX0 yX0_scratchTones wsX0_scratchTones) := goodIn_app (goodIn_of _ (by decide +kernel)) ggX0_turn_X0_scratchTones
set_option maxRecDepth 20000 in
theorem ggX0_turn_X0_copyRow : GoodIn wsX0_turn wsX0_copyRow := goodIn_r _ [49, 18, 23, 24, 25, 4, 26, 27, 37, 38, 39, 40, 50, 51, 52, 53, 54, 55, 56] (by decide +kernel) (by decide +kernel)
set_option maxRecDepth 20000 in
theorem gX0_turn_X0_copyRow : GoodIn wsX0_turn (wsV RX0 75 RX0 yX0_copyRow wsX0_copyRow) := goodIn_app (goodIn_of _ (by decide +kernel)) ggX0_turn_X0_copyRow
set_option maxRecDepth 20000 in
theorem ggX0_turn_X0_read : GoodIn wsX0_turn wsX0_read := goodIn_r _ [26, 27, 50, 51, 52, 53, 54, 55, 56] (by decide +kernel) (by decide +kernel)
set_option maxRecDepth 20000 in
theorem gX0_turn_X0_read : GoodIn wsX0_turn (wsV RX0 68 RX0 yX0_read wsX0_read) := goodIn_app (goodIn_of _ (by decide +kernel)) ggX0_turn_X0_read
theorem dX0_turn_0 : decode cX0_turn 0 = .ok (.aload_n 0, 1) := by decide +kernel
theorem dX0_turn_1 : decode cX0_turn 1 = .ok (.iload_n 1, 1) := by decide +kernel
theorem dX0_turn_2 : decode cX0_turn 2 = .ok (.invokevirtual 59, 3) := by decide +kernel
theorem dX0_turn_5 : decode cX0_turn 5 = .ok (.iload_n 2, 1) := by decide +kernel
theorem dX0_turn_6 : decode cX0_turn 6 = .ok (.ifCond .eq 11, 3) := by decide +kernel
theorem dX0_turn_9 : decode cX0_turn 9 = .ok (.aload_n 0, 1) := by decide +kernel
theorem dX0_turn_10 : decode cX0_turn 10 = .ok (.iload_n 1, 1) := by decide +kernel
theorem dX0_turn_11 : decode cX0_turn 11 = .ok (.invokevirtual 78, 3) := by decide +kernel
theorem dX0_turn_14 : decode cX0_turn 14 = .ok (.goto 8, 3) := by decide +kernel
theorem dX0_turn_17 : decode cX0_turn 17 = .ok (.aload_n 0, 1) := by decide +kernel
theorem dX0_turn_18 : decode cX0_turn 18 = .ok (.iload_n 1, 1) := by decide +kernel
theorem dX0_turn_19 : decode cX0_turn 19 = .ok (.invokevirtual 81, 3) := by decide +kernel
theorem dX0_turn_22 : decode cX0_turn 22 = .ok (.aload_n 0, 1) := by decide +kernel
theorem dX0_turn_23 : decode cX0_turn 23 = .ok (.iconst 4, 1) := by decide +kernel
theorem dX0_turn_24 : decode cX0_turn 24 = .ok (.iload_n 1, 1) := by decide +kernel
theorem dX0_turn_25 : decode cX0_turn 25 = .ok (.invokevirtual 75, 3) := by decide +kernel
theorem dX0_turn_28 : decode cX0_turn 28 = .ok (.pop, 1) := by decide +kernel
theorem dX0_turn_29 : decode cX0_turn 29 = .ok (.aload_n 0, 1) := by decide +kernel
theorem dX0_turn_30 : decode cX0_turn 30 = .ok (.iload_n 1, 1) := by decide +kernel
theorem dX0_turn_31 : decode cX0_turn 31 = .ok (.iconst 0, 1) := by decide +kernel
theorem dX0_turn_32 : decode cX0_turn 32 = .ok (.invokevirtual 68, 3) := by decide +kernel
theorem dX0_turn_35 : decode cX0_turn 35 = .ok (.ireturn, 1) := by decide +kernel
set_option maxRecDepth 20000 in
theorem ggX0_mirror_X0_requireRow : GoodIn wsX0_mirror wsX0_requireRow := goodIn_ca (goodIn_r _ [6, 7, 8] (by decide +kernel) (by decide +kernel)) (goodIn_sub (fun _ h => List.mem_cons_of_mem _ (List.mem_append_right _ h)) (by decide +kernel))
set_option maxRecDepth 20000 in
theorem gX0_mirror_X0_requireRow : GoodIn wsX0_mirror (wsV RX0 59 RX0 yX0_requireRow wsX0_requireRow) := goodIn_app (goodIn_of _ (by decide +kernel)) ggX0_mirror_X0_requireRow
set_option maxRecDepth 20000 in
theorem ggX0_mirror_X0_mirrored : GoodIn wsX0_mirror wsX0_mirrored := goodIn_r _ [12, 13, 27, 28, 29, 30, 31, 32, 33] (by decide +kernel) (by decide +kernel)
set_option maxRecDepth 20000 in
theorem gX0_mirror_X0_mirrored : GoodIn wsX0_mirror (wsV RX0 87 RX0 yX0_mirrored wsX0_mirrored) := goodIn_app (goodIn_of _ (by decide +kernel)) ggX0_mirror_X0_mirrored
set_option maxRecDepth 20000 in
theorem ggX0_mirror_X0_read : GoodIn wsX0_mirror wsX0_read := goodIn_r _ [17, 18, 27, 28, 29, 30, 31, 32, 33] (by decide +kernel) (by decide +kernel)
set_option maxRecDepth 20000 in
theorem gX0_mirror_X0_read : GoodIn wsX0_mirror (wsV RX0 68 RX0 yX0_read wsX0_read) := goodIn_app (goodIn_of _ (by decide +kernel)) ggX0_mirror_X0_read
set_option maxRecDepth 20000 in
theorem ggX0_mirror_X0_write : GoodIn wsX0_mirror wsX0_write := goodIn_r _ [22, 18, 27, 28, 29, 30, 31, 32, 33] (by decide +kernel) (by decide +kernel)
set_option maxRecDepth 20000 in
theorem gX0_mirror_X0_write : GoodIn wsX0_mirror (wsV RX0 71 RX0 yX0_write wsX0_write) := goodIn_app (goodIn_of _ (by decide +kernel)) ggX0_mirror_X0_write
set_option maxRecDepth 20000 in
theorem ggX0_mirror_X0_copyRow : GoodIn wsX0_mirror wsX0_copyRow := goodIn_r _ [26, 1, 14, 15, 16, 5, 17, 18, 19, 20, 21, 22, 27, 28, 29, 30, 31, 32, 33] (by decide +kernel) (by decide +kernel)
set_option maxRecDepth 20000 in
theorem gX0_mirror_X0_copyRow : GoodIn wsX0_mirror (wsV RX0 75 RX0 yX0_copyRow wsX0_copyRow) := goodIn_app (goodIn_of _ (by decide +kernel)) ggX0_mirror_X0_copyRow
theorem dX0_mirror_0 : decode cX0_mirror 0 = .ok (.aload_n 0, 1) := by decide +kernel
theorem dX0_mirror_1 : decode cX0_mirror 1 = .ok (.iload_n 1, 1) := by decide +kernel
theorem dX0_mirror_2 : decode cX0_mirror 2 = .ok (.invokevirtual 59, 3) := by decide +kernel
theorem dX0_mirror_5 : decode cX0_mirror 5 = .ok (.iconst 0, 1) := by decide +kernel
theorem dX0_mirror_6 : decode cX0_mirror 6 = .ok (.istore_n 2, 1) := by decide +kernel
theorem dX0_mirror_7 : decode cX0_mirror 7 = .ok (.iload_n 2, 1) := by decide +kernel
theorem dX0_mirror_8 : decode cX0_mirror 8 = .ok (.aload_n 0, 1) := by decide +kernel
theorem dX0_mirror_9 : decode cX0_mirror 9 = .ok (.getfield 84, 3) := by decide +kernel
theorem dX0_mirror_12 : decode cX0_mirror 12 = .ok (.if_icmp .ge 25, 3) := by decide +kernel
theorem dX0_mirror_15 : decode cX0_mirror 15 = .ok (.aload_n 0, 1) := by decide +kernel
theorem dX0_mirror_16 : decode cX0_mirror 16 = .ok (.iconst 4, 1) := by decide +kernel
theorem dX0_mirror_17 : decode cX0_mirror 17 = .ok (.aload_n 0, 1) := by decide +kernel
theorem dX0_mirror_18 : decode cX0_mirror 18 = .ok (.iload_n 2, 1) := by decide +kernel
theorem dX0_mirror_19 : decode cX0_mirror 19 = .ok (.invokevirtual 87, 3) := by decide +kernel
theorem dX0_mirror_22 : decode cX0_mirror 22 = .ok (.aload_n 0, 1) := by decide +kernel
theorem dX0_mirror_23 : decode cX0_mirror 23 = .ok (.iload_n 1, 1) := by decide +kernel
theorem dX0_mirror_24 : decode cX0_mirror 24 = .ok (.iload_n 2, 1) := by decide +kernel
theorem dX0_mirror_25 : decode cX0_mirror 25 = .ok (.invokevirtual 68, 3) := by decide +kernel
theorem dX0_mirror_28 : decode cX0_mirror 28 = .ok (.invokevirtual 71, 3) := by decide +kernel
theorem dX0_mirror_31 : decode cX0_mirror 31 = .ok (.iinc 2 1, 3) := by decide +kernel
theorem dX0_mirror_34 : decode cX0_mirror 34 = .ok (.goto (-27), 3) := by decide +kernel
theorem dX0_mirror_37 : decode cX0_mirror 37 = .ok (.aload_n 0, 1) := by decide +kernel
theorem dX0_mirror_38 : decode cX0_mirror 38 = .ok (.iconst 4, 1) := by decide +kernel
theorem dX0_mirror_39 : decode cX0_mirror 39 = .ok (.iload_n 1, 1) := by decide +kernel
theorem dX0_mirror_40 : decode cX0_mirror 40 = .ok (.invokevirtual 75, 3) := by decide +kernel
theorem dX0_mirror_43 : decode cX0_mirror 43 = .ok (.ireturn, 1) := by decide +kernel
set_option maxRecDepth 20000 in
theorem ggX0_stage_X0_requireRow : GoodIn wsX0_stage wsX0_requireRow := goodIn_ca (goodIn_r _ [10, 1, 2] (by decide +kernel) (by decide +kernel)) (goodIn_sub (fun _ h => List.mem_cons_of_mem _ (List.mem_append_right _ h)) (by decide +kernel))
set_option maxRecDepth 20000 in
theorem gX0_stage_X0_requireRow : GoodIn wsX0_stage (wsV RX0 59 RX0 yX0_requireRow wsX0_requireRow) := goodIn_app (goodIn_of _ (by decide +kernel)) ggX0_stage_X0_requireRow
set_option maxRecDepth 20000 in
theorem ggX0_stage_X0_powerOf : GoodIn wsX0_stage wsX0_powerOf := goodIn_r _ [14, 15, 16, 17, 9, 18, 19, 20, 21, 22, 23, 37, 38, 39, 40, 41, 42, 43] (by decide +kernel) (by decide +kernel)
set_option maxRecDepth 20000 in
theorem gX0_stage_X0_powerOf : GoodIn wsX0_stage (wsV RX0 55 RX0 yX0_powerOf wsX0_powerOf) := goodIn_app (goodIn_of _ (by decide +kernel)) ggX0_stage_X0_powerOf
set_option maxRecDepth 20000 in
theorem ggX0_stage_X0_butterfly : GoodIn wsX0_stage wsX0_butterfly := goodIn_r _ [27, 28, 29, 30, 9, 31, 32, 15, 16, 17, 18, 19, 20, 21, 22, 23, 33, 34, 35, 36, 37, 38, 39, 40, 41, 42, 43] (by decide +kernel) (by decide +kernel)
set_option maxRecDepth 20000 in
theorem gX0_stage_X0_butterfly : GoodIn wsX0_stage (wsV RX0 98 RX0 yX0_butterfly wsX0_butterfly) := goodIn_app (goodIn_of _ (by decide +kernel)) ggX0_stage_X0_butterfly
set_option maxRecDepth 20000 in
theorem ggX0_stage_X0_read : GoodIn wsX0_stage wsX0_read := goodIn_r _ [31, 32, 37, 38, 39, 40, 41, 42, 43] (by decide +kernel) (by decide +kernel)
set_option maxRecDepth 20000 in
theorem gX0_stage_X0_read : GoodIn wsX0_stage (wsV RX0 68 RX0 yX0_read wsX0_read) := goodIn_app (goodIn_of _ (by decide +kernel)) ggX0_stage_X0_read
theorem dX0_stage_0 : decode cX0_stage 0 = .ok (.aload_n 0, 1) := by decide +kernel
theorem dX0_stage_1 : decode cX0_stage 1 = .ok (.iload_n 1, 1) := by decide +kernel
theorem dX0_stage_2 : decode cX0_stage 2 = .ok (.invokevirtual 59, 3) := by decide +kernel
theorem dX0_stage_5 : decode cX0_stage 5 = .ok (.iload_n 2, 1) := by decide +kernel
theorem dX0_stage_6 : decode cX0_stage 6 = .ok (.ifCond .lt 11, 3) := by decide +kernel
theorem dX0_stage_9 : decode cX0_stage 9 = .ok (.iload_n 2, 1) := by decide +kernel
theorem dX0_stage_10 : decode cX0_stage 10 = .ok (.aload_n 0, 1) := by decide +kernel
theorem dX0_stage_11 : decode cX0_stage 11 = .ok (.getfield 90, 3) := by decide +kernel
theorem dX0_stage_14 : decode cX0_stage 14 = .ok (.if_icmp .lt 13, 3) := by decide +kernel
theorem dX0_stage_17 : decode cX0_stage 17 = .ok (.new 93, 3) := by decide +kernel
theorem dX0_stage_20 : decode cX0_stage 20 = .ok (.dup, 1) := by decide +kernel
theorem dX0_stage_21 : decode cX0_stage 21 = .ok (.ldc 95, 2) := by decide +kernel
theorem dX0_stage_23 : decode cX0_stage 23 = .ok (.invokespecial 97, 3) := by decide +kernel
theorem dX0_stage_26 : decode cX0_stage 26 = .ok (.athrow, 1) := by decide +kernel
theorem dX0_stage_27 : decode cX0_stage 27 = .ok (.iconst 1, 1) := by decide +kernel
theorem dX0_stage_28 : decode cX0_stage 28 = .ok (.iload_n 2, 1) := by decide +kernel
theorem dX0_stage_29 : decode cX0_stage 29 = .ok (.ishl, 1) := by decide +kernel
theorem dX0_stage_30 : decode cX0_stage 30 = .ok (.istore_n 3, 1) := by decide +kernel
theorem dX0_stage_31 : decode cX0_stage 31 = .ok (.iconst 0, 1) := by decide +kernel
theorem dX0_stage_32 : decode cX0_stage 32 = .ok (.istore 4, 2) := by decide +kernel
theorem dX0_stage_34 : decode cX0_stage 34 = .ok (.iload 4, 2) := by decide +kernel
theorem dX0_stage_36 : decode cX0_stage 36 = .ok (.aload_n 0, 1) := by decide +kernel
theorem dX0_stage_37 : decode cX0_stage 37 = .ok (.getfield 84, 3) := by decide +kernel
theorem dX0_stage_40 : decode cX0_stage 40 = .ok (.if_icmp .ge 69, 3) := by decide +kernel
theorem dX0_stage_43 : decode cX0_stage 43 = .ok (.iconst 0, 1) := by decide +kernel
theorem dX0_stage_44 : decode cX0_stage 44 = .ok (.istore 5, 2) := by decide +kernel
theorem dX0_stage_46 : decode cX0_stage 46 = .ok (.iload 5, 2) := by decide +kernel
theorem dX0_stage_48 : decode cX0_stage 48 = .ok (.iload_n 3, 1) := by decide +kernel
theorem dX0_stage_49 : decode cX0_stage 49 = .ok (.if_icmp .ge 49, 3) := by decide +kernel
theorem dX0_stage_52 : decode cX0_stage 52 = .ok (.aload_n 0, 1) := by decide +kernel
theorem dX0_stage_53 : decode cX0_stage 53 = .ok (.aload_n 0, 1) := by decide +kernel
theorem dX0_stage_54 : decode cX0_stage 54 = .ok (.getfield 35, 3) := by decide +kernel
theorem dX0_stage_57 : decode cX0_stage 57 = .ok (.iload 5, 2) := by decide +kernel
theorem dX0_stage_59 : decode cX0_stage 59 = .ok (.aload_n 0, 1) := by decide +kernel
theorem dX0_stage_60 : decode cX0_stage 60 = .ok (.getfield 84, 3) := by decide +kernel
theorem dX0_stage_63 : decode cX0_stage 63 = .ok (.iload_n 2, 1) := by decide +kernel
theorem dX0_stage_64 : decode cX0_stage 64 = .ok (.iconst 1, 1) := by decide +kernel
theorem dX0_stage_65 : decode cX0_stage 65 = .ok (.iadd, 1) := by decide +kernel
theorem dX0_stage_66 : decode cX0_stage 66 = .ok (.ishr, 1) := by decide +kernel
theorem dX0_stage_67 : decode cX0_stage 67 = .ok (.imul, 1) := by decide +kernel
theorem dX0_stage_68 : decode cX0_stage 68 = .ok (.invokevirtual 55, 3) := by decide +kernel
theorem dX0_stage_71 : decode cX0_stage 71 = .ok (.istore 6, 2) := by decide +kernel
theorem dX0_stage_73 : decode cX0_stage 73 = .ok (.aload_n 0, 1) := by decide +kernel
theorem dX0_stage_74 : decode cX0_stage 74 = .ok (.iload_n 1, 1) := by decide +kernel
theorem dX0_stage_75 : decode cX0_stage 75 = .ok (.iload 4, 2) := by decide +kernel
theorem dX0_stage_77 : decode cX0_stage 77 = .ok (.iload 5, 2) := by decide +kernel
theorem dX0_stage_79 : decode cX0_stage 79 = .ok (.iadd, 1) := by decide +kernel
theorem dX0_stage_80 : decode cX0_stage 80 = .ok (.iload 4, 2) := by decide +kernel
theorem dX0_stage_82 : decode cX0_stage 82 = .ok (.iload 5, 2) := by decide +kernel
theorem dX0_stage_84 : decode cX0_stage 84 = .ok (.iadd, 1) := by decide +kernel
theorem dX0_stage_85 : decode cX0_stage 85 = .ok (.iload_n 3, 1) := by decide +kernel
theorem dX0_stage_86 : decode cX0_stage 86 = .ok (.iadd, 1) := by decide +kernel
theorem dX0_stage_87 : decode cX0_stage 87 = .ok (.iload 6, 2) := by decide +kernel
theorem dX0_stage_89 : decode cX0_stage 89 = .ok (.invokevirtual 98, 3) := by decide +kernel
theorem dX0_stage_92 : decode cX0_stage 92 = .ok (.iinc 5 1, 3) := by decide +kernel
theorem dX0_stage_95 : decode cX0_stage 95 = .ok (.goto (-49), 3) := by decide +kernel
theorem dX0_stage_98 : decode cX0_stage 98 = .ok (.iload 4, 2) := by decide +kernel
theorem dX0_stage_100 : decode cX0_stage 100 = .ok (.iconst 2, 1) := by decide +kernel
theorem dX0_stage_101 : decode cX0_stage 101 = .ok (.iload_n 3, 1) := by decide +kernel
theorem dX0_stage_102 : decode cX0_stage 102 = .ok (.imul, 1) := by decide +kernel
theorem dX0_stage_103 : decode cX0_stage 103 = .ok (.iadd, 1) := by decide +kernel
theorem dX0_stage_104 : decode cX0_stage 104 = .ok (.istore 4, 2) := by decide +kernel
theorem dX0_stage_106 : decode cX0_stage 106 = .ok (.goto (-72), 3) := by decide +kernel
theorem dX0_stage_109 : decode cX0_stage 109 = .ok (.aload_n 0, 1) := by decide +kernel
theorem dX0_stage_110 : decode cX0_stage 110 = .ok (.iload_n 1, 1) := by decide +kernel
theorem dX0_stage_111 : decode cX0_stage 111 = .ok (.iconst 0, 1) := by decide +kernel
theorem dX0_stage_112 : decode cX0_stage 112 = .ok (.invokevirtual 68, 3) := by decide +kernel
theorem dX0_stage_115 : decode cX0_stage 115 = .ok (.ireturn, 1) := by decide +kernel
set_option maxRecDepth 20000 in
theorem ggX0_fold_X0_requireRow : GoodIn wsX0_fold wsX0_requireRow := goodIn_ca (goodIn_r _ [6, 7, 8] (by decide +kernel) (by decide +kernel)) (goodIn_sub (fun _ h => List.mem_cons_of_mem _ (List.mem_append_right _ h)) (by decide +kernel))
set_option maxRecDepth 20000 in
theorem gX0_fold_X0_requireRow : GoodIn wsX0_fold (wsV RX0 59 RX0 yX0_requireRow wsX0_requireRow) := goodIn_app (goodIn_of _ (by decide +kernel)) ggX0_fold_X0_requireRow
set_option maxRecDepth 20000 in
theorem ggX0_fold_X0_foldedAt : GoodIn wsX0_fold wsX0_foldedAt := goodIn_r _ [12, 1, 13, 14, 15, 5, 16, 17, 18, 19, 20, 21, 22, 23, 24, 25, 26, 27, 28, 29, 30, 39, 40, 41, 42, 43, 44, 45] (by decide +kernel) (by decide +kernel)
set_option maxRecDepth 20000 in
theorem gX0_fold_X0_foldedAt : GoodIn wsX0_fold (wsV RX0 102 RX0 yX0_foldedAt wsX0_foldedAt) := goodIn_app (goodIn_of _ (by decide +kernel)) ggX0_fold_X0_foldedAt
set_option maxRecDepth 20000 in
theorem ggX0_fold_X0_write : GoodIn wsX0_fold wsX0_write := goodIn_r _ [34, 17, 39, 40, 41, 42, 43, 44, 45] (by decide +kernel) (by decide +kernel)
set_option maxRecDepth 20000 in
theorem gX0_fold_X0_write : GoodIn wsX0_fold (wsV RX0 71 RX0 yX0_write wsX0_write) := goodIn_app (goodIn_of _ (by decide +kernel)) ggX0_fold_X0_write
set_option maxRecDepth 20000 in
theorem ggX0_fold_X0_copyRow : GoodIn wsX0_fold wsX0_copyRow := goodIn_r _ [38, 1, 13, 14, 15, 5, 16, 17, 31, 32, 33, 34, 39, 40, 41, 42, 43, 44, 45] (by decide +kernel) (by decide +kernel)
set_option maxRecDepth 20000 in
theorem gX0_fold_X0_copyRow : GoodIn wsX0_fold (wsV RX0 75 RX0 yX0_copyRow wsX0_copyRow) := goodIn_app (goodIn_of _ (by decide +kernel)) ggX0_fold_X0_copyRow
set_option maxRecDepth 20000 in
theorem ggX0_fold_X0_read : GoodIn wsX0_fold wsX0_read := goodIn_r _ [16, 17, 39, 40, 41, 42, 43, 44, 45] (by decide +kernel) (by decide +kernel)
set_option maxRecDepth 20000 in
theorem gX0_fold_X0_read : GoodIn wsX0_fold (wsV RX0 68 RX0 yX0_read wsX0_read) := goodIn_app (goodIn_of _ (by decide +kernel)) ggX0_fold_X0_read
theorem dX0_fold_0 : decode cX0_fold 0 = .ok (.aload_n 0, 1) := by decide +kernel
theorem dX0_fold_1 : decode cX0_fold 1 = .ok (.iload_n 1, 1) := by decide +kernel
theorem dX0_fold_2 : decode cX0_fold 2 = .ok (.invokevirtual 59, 3) := by decide +kernel
theorem dX0_fold_5 : decode cX0_fold 5 = .ok (.aload_n 0, 1) := by decide +kernel
theorem dX0_fold_6 : decode cX0_fold 6 = .ok (.iload_n 2, 1) := by decide +kernel
theorem dX0_fold_7 : decode cX0_fold 7 = .ok (.invokevirtual 59, 3) := by decide +kernel
theorem dX0_fold_10 : decode cX0_fold 10 = .ok (.iconst 0, 1) := by decide +kernel
theorem dX0_fold_11 : decode cX0_fold 11 = .ok (.istore_n 3, 1) := by decide +kernel
theorem dX0_fold_12 : decode cX0_fold 12 = .ok (.iload_n 3, 1) := by decide +kernel
theorem dX0_fold_13 : decode cX0_fold 13 = .ok (.aload_n 0, 1) := by decide +kernel
theorem dX0_fold_14 : decode cX0_fold 14 = .ok (.getfield 84, 3) := by decide +kernel
theorem dX0_fold_17 : decode cX0_fold 17 = .ok (.if_icmp .ge 22, 3) := by decide +kernel
theorem dX0_fold_20 : decode cX0_fold 20 = .ok (.aload_n 0, 1) := by decide +kernel
theorem dX0_fold_21 : decode cX0_fold 21 = .ok (.iconst 4, 1) := by decide +kernel
theorem dX0_fold_22 : decode cX0_fold 22 = .ok (.iload_n 3, 1) := by decide +kernel
theorem dX0_fold_23 : decode cX0_fold 23 = .ok (.aload_n 0, 1) := by decide +kernel
theorem dX0_fold_24 : decode cX0_fold 24 = .ok (.iload_n 1, 1) := by decide +kernel
theorem dX0_fold_25 : decode cX0_fold 25 = .ok (.iload_n 2, 1) := by decide +kernel
theorem dX0_fold_26 : decode cX0_fold 26 = .ok (.iload_n 3, 1) := by decide +kernel
theorem dX0_fold_27 : decode cX0_fold 27 = .ok (.invokevirtual 102, 3) := by decide +kernel
theorem dX0_fold_30 : decode cX0_fold 30 = .ok (.invokevirtual 71, 3) := by decide +kernel
theorem dX0_fold_33 : decode cX0_fold 33 = .ok (.iinc 3 1, 3) := by decide +kernel
theorem dX0_fold_36 : decode cX0_fold 36 = .ok (.goto (-24), 3) := by decide +kernel
theorem dX0_fold_39 : decode cX0_fold 39 = .ok (.aload_n 0, 1) := by decide +kernel
theorem dX0_fold_40 : decode cX0_fold 40 = .ok (.iconst 4, 1) := by decide +kernel
theorem dX0_fold_41 : decode cX0_fold 41 = .ok (.iload_n 1, 1) := by decide +kernel
theorem dX0_fold_42 : decode cX0_fold 42 = .ok (.invokevirtual 75, 3) := by decide +kernel
theorem dX0_fold_45 : decode cX0_fold 45 = .ok (.pop, 1) := by decide +kernel
theorem dX0_fold_46 : decode cX0_fold 46 = .ok (.aload_n 0, 1) := by decide +kernel
theorem dX0_fold_47 : decode cX0_fold 47 = .ok (.iload_n 1, 1) := by decide +kernel
theorem dX0_fold_48 : decode cX0_fold 48 = .ok (.iconst 0, 1) := by decide +kernel
theorem dX0_fold_49 : decode cX0_fold 49 = .ok (.invokevirtual 68, 3) := by decide +kernel
theorem dX0_fold_52 : decode cX0_fold 52 = .ok (.ireturn, 1) := by decide +kernel
set_option maxRecDepth 20000 in
theorem ggX0_join_X0_requireRow : GoodIn wsX0_join wsX0_requireRow := goodIn_ca (goodIn_r _ [8, 1, 2] (by decide +kernel) (by decide +kernel)) (goodIn_sub (fun _ h => List.mem_cons_of_mem _ (List.mem_append_right _ h)) (by decide +kernel))
set_option maxRecDepth 20000 in
theorem gX0_join_X0_requireRow : GoodIn wsX0_join (wsV RX0 59 RX0 yX0_requireRow wsX0_requireRow) := goodIn_app (goodIn_of _ (by decide +kernel)) ggX0_join_X0_requireRow
set_option maxRecDepth 20000 in
theorem ggX0_join_X0_read : GoodIn wsX0_join wsX0_read := goodIn_r _ [12, 13, 35, 36, 37, 38, 39, 40, 41] (by decide +kernel) (by decide +kernel)
set_option maxRecDepth 20000 in
theorem gX0_join_X0_read : GoodIn wsX0_join (wsV RX0 68 RX0 yX0_read wsX0_read) := goodIn_app (goodIn_of _ (by decide +kernel)) ggX0_join_X0_read
set_option maxRecDepth 20000 in
theorem ggX0_join_X0_joined : GoodIn wsX0_join wsX0_joined := goodIn_r _ [17, 18, 19, 20, 7, 21, 22, 23, 24, 25, 26, 35, 36, 37, 38, 39, 40, 41] (by decide +kernel) (by decide +kernel)
set_option maxRecDepth 20000 in
theorem gX0_join_X0_joined : GoodIn wsX0_join (wsV RX0 108 RX0 yX0_joined wsX0_joined) := goodIn_app (goodIn_of _ (by decide +kernel)) ggX0_join_X0_joined
set_option maxRecDepth 20000 in
theorem ggX0_join_X0_write : GoodIn wsX0_join wsX0_write := goodIn_r _ [30, 13, 35, 36, 37, 38, 39, 40, 41] (by decide +kernel) (by decide +kernel)
set_option maxRecDepth 20000 in
theorem gX0_join_X0_write : GoodIn wsX0_join (wsV RX0 71 RX0 yX0_write wsX0_write) := goodIn_app (goodIn_of _ (by decide +kernel)) ggX0_join_X0_write
set_option maxRecDepth 20000 in
theorem ggX0_join_X0_nonZeros : GoodIn wsX0_join wsX0_nonZeros := goodIn_r _ [34, 3, 9, 10, 11, 7, 12, 13, 35, 36, 37, 38, 39, 40, 41] (by decide +kernel) (by decide +kernel)
set_option maxRecDepth 20000 in
theorem gX0_join_X0_nonZeros : GoodIn wsX0_join (wsV RX0 111 RX0 yX0_nonZeros wsX0_nonZeros) := goodIn_app (goodIn_of _ (by decide +kernel)) ggX0_join_X0_nonZeros
theorem dX0_join_0 : decode cX0_join 0 = .ok (.aload_n 0, 1) := by decide +kernel
theorem dX0_join_1 : decode cX0_join 1 = .ok (.iload_n 1, 1) := by decide +kernel
theorem dX0_join_2 : decode cX0_join 2 = .ok (.invokevirtual 59, 3) := by decide +kernel
theorem dX0_join_5 : decode cX0_join 5 = .ok (.aload_n 0, 1) := by decide +kernel
theorem dX0_join_6 : decode cX0_join 6 = .ok (.iload_n 2, 1) := by decide +kernel
theorem dX0_join_7 : decode cX0_join 7 = .ok (.invokevirtual 59, 3) := by decide +kernel
theorem dX0_join_10 : decode cX0_join 10 = .ok (.iload_n 3, 1) := by decide +kernel
theorem dX0_join_11 : decode cX0_join 11 = .ok (.ifCond .lt 8, 3) := by decide +kernel
theorem dX0_join_14 : decode cX0_join 14 = .ok (.iload_n 3, 1) := by decide +kernel
theorem dX0_join_15 : decode cX0_join 15 = .ok (.iconst 3, 1) := by decide +kernel
theorem dX0_join_16 : decode cX0_join 16 = .ok (.if_icmp .lt 13, 3) := by decide +kernel
theorem dX0_join_19 : decode cX0_join 19 = .ok (.new 93, 3) := by decide +kernel
theorem dX0_join_22 : decode cX0_join 22 = .ok (.dup, 1) := by decide +kernel
theorem dX0_join_23 : decode cX0_join 23 = .ok (.ldc 106, 2) := by decide +kernel
theorem dX0_join_25 : decode cX0_join 25 = .ok (.invokespecial 97, 3) := by decide +kernel
theorem dX0_join_28 : decode cX0_join 28 = .ok (.athrow, 1) := by decide +kernel
theorem dX0_join_29 : decode cX0_join 29 = .ok (.iconst 0, 1) := by decide +kernel
theorem dX0_join_30 : decode cX0_join 30 = .ok (.istore 4, 2) := by decide +kernel
theorem dX0_join_32 : decode cX0_join 32 = .ok (.iload 4, 2) := by decide +kernel
theorem dX0_join_34 : decode cX0_join 34 = .ok (.aload_n 0, 1) := by decide +kernel
theorem dX0_join_35 : decode cX0_join 35 = .ok (.getfield 84, 3) := by decide +kernel
theorem dX0_join_38 : decode cX0_join 38 = .ok (.if_icmp .ge 35, 3) := by decide +kernel
theorem dX0_join_41 : decode cX0_join 41 = .ok (.aload_n 0, 1) := by decide +kernel
theorem dX0_join_42 : decode cX0_join 42 = .ok (.iload_n 1, 1) := by decide +kernel
theorem dX0_join_43 : decode cX0_join 43 = .ok (.iload 4, 2) := by decide +kernel
theorem dX0_join_45 : decode cX0_join 45 = .ok (.aload_n 0, 1) := by decide +kernel
theorem dX0_join_46 : decode cX0_join 46 = .ok (.aload_n 0, 1) := by decide +kernel
theorem dX0_join_47 : decode cX0_join 47 = .ok (.iload_n 1, 1) := by decide +kernel
theorem dX0_join_48 : decode cX0_join 48 = .ok (.iload 4, 2) := by decide +kernel
theorem dX0_join_50 : decode cX0_join 50 = .ok (.invokevirtual 68, 3) := by decide +kernel
theorem dX0_join_53 : decode cX0_join 53 = .ok (.aload_n 0, 1) := by decide +kernel
theorem dX0_join_54 : decode cX0_join 54 = .ok (.iload_n 2, 1) := by decide +kernel
theorem dX0_join_55 : decode cX0_join 55 = .ok (.iload 4, 2) := by decide +kernel
theorem dX0_join_57 : decode cX0_join 57 = .ok (.invokevirtual 68, 3) := by decide +kernel
theorem dX0_join_60 : decode cX0_join 60 = .ok (.iload_n 3, 1) := by decide +kernel
theorem dX0_join_61 : decode cX0_join 61 = .ok (.invokevirtual 108, 3) := by decide +kernel
theorem dX0_join_64 : decode cX0_join 64 = .ok (.invokevirtual 71, 3) := by decide +kernel
theorem dX0_join_67 : decode cX0_join 67 = .ok (.iinc 4 1, 3) := by decide +kernel
theorem dX0_join_70 : decode cX0_join 70 = .ok (.goto (-38), 3) := by decide +kernel
theorem dX0_join_73 : decode cX0_join 73 = .ok (.aload_n 0, 1) := by decide +kernel
theorem dX0_join_74 : decode cX0_join 74 = .ok (.iload_n 1, 1) := by decide +kernel
theorem dX0_join_75 : decode cX0_join 75 = .ok (.invokevirtual 111, 3) := by decide +kernel
theorem dX0_join_78 : decode cX0_join 78 = .ok (.ireturn, 1) := by decide +kernel
set_option maxRecDepth 20000 in
theorem ggX0_move_X0_requireRow : GoodIn wsX0_move wsX0_requireRow := goodIn_ca (goodIn_r _ [8, 9, 10] (by decide +kernel) (by decide +kernel)) (goodIn_sub (fun _ h => List.mem_cons_of_mem _ (List.mem_append_right _ h)) (by decide +kernel))
set_option maxRecDepth 20000 in
theorem gX0_move_X0_requireRow : GoodIn wsX0_move (wsV RX0 59 RX0 yX0_requireRow wsX0_requireRow) := goodIn_app (goodIn_of _ (by decide +kernel)) ggX0_move_X0_requireRow
set_option maxRecDepth 20000 in
theorem ggX0_move_X0_wrapped : GoodIn wsX0_move wsX0_wrapped := goodIn_r _ [14, 3, 28, 29, 30, 31, 32, 33, 34] (by decide +kernel) (by decide +kernel)
set_option maxRecDepth 20000 in
theorem gX0_move_X0_wrapped : GoodIn wsX0_move (wsV RX0 116 RX0 yX0_wrapped wsX0_wrapped) := goodIn_app (goodIn_of _ (by decide +kernel)) ggX0_move_X0_wrapped
set_option maxRecDepth 20000 in
theorem ggX0_move_X0_read : GoodIn wsX0_move wsX0_read := goodIn_r _ [18, 19, 28, 29, 30, 31, 32, 33, 34] (by decide +kernel) (by decide +kernel)
set_option maxRecDepth 20000 in
theorem gX0_move_X0_read : GoodIn wsX0_move (wsV RX0 68 RX0 yX0_read wsX0_read) := goodIn_app (goodIn_of _ (by decide +kernel)) ggX0_move_X0_read
set_option maxRecDepth 20000 in
theorem ggX0_move_X0_write : GoodIn wsX0_move wsX0_write := goodIn_r _ [23, 19, 28, 29, 30, 31, 32, 33, 34] (by decide +kernel) (by decide +kernel)
set_option maxRecDepth 20000 in
theorem gX0_move_X0_write : GoodIn wsX0_move (wsV RX0 71 RX0 yX0_write wsX0_write) := goodIn_app (goodIn_of _ (by decide +kernel)) ggX0_move_X0_write
set_option maxRecDepth 20000 in
theorem ggX0_move_X0_copyRow : GoodIn wsX0_move wsX0_copyRow := goodIn_r _ [27, 3, 15, 16, 17, 7, 18, 19, 20, 21, 22, 23, 28, 29, 30, 31, 32, 33, 34] (by decide +kernel) (by decide +kernel)
set_option maxRecDepth 20000 in
theorem gX0_move_X0_copyRow : GoodIn wsX0_move (wsV RX0 75 RX0 yX0_copyRow wsX0_copyRow) := goodIn_app (goodIn_of _ (by decide +kernel)) ggX0_move_X0_copyRow
theorem dX0_move_0 : decode cX0_move 0 = .ok (.aload_n 0, 1) := by decide +kernel
theorem dX0_move_1 : decode cX0_move 1 = .ok (.iload_n 1, 1) := by decide +kernel
theorem dX0_move_2 : decode cX0_move 2 = .ok (.invokevirtual 59, 3) := by decide +kernel
theorem dX0_move_5 : decode cX0_move 5 = .ok (.iload_n 2, 1) := by decide +kernel
theorem dX0_move_6 : decode cX0_move 6 = .ok (.ifCond .lt 11, 3) := by decide +kernel
theorem dX0_move_9 : decode cX0_move 9 = .ok (.iload_n 2, 1) := by decide +kernel
theorem dX0_move_10 : decode cX0_move 10 = .ok (.aload_n 0, 1) := by decide +kernel
theorem dX0_move_11 : decode cX0_move 11 = .ok (.getfield 84, 3) := by decide +kernel
theorem dX0_move_14 : decode cX0_move 14 = .ok (.if_icmp .lt 13, 3) := by decide +kernel
theorem dX0_move_17 : decode cX0_move 17 = .ok (.new 28, 3) := by decide +kernel
theorem dX0_move_20 : decode cX0_move 20 = .ok (.dup, 1) := by decide +kernel
theorem dX0_move_21 : decode cX0_move 21 = .ok (.ldc 114, 2) := by decide +kernel
theorem dX0_move_23 : decode cX0_move 23 = .ok (.invokespecial 32, 3) := by decide +kernel
theorem dX0_move_26 : decode cX0_move 26 = .ok (.athrow, 1) := by decide +kernel
theorem dX0_move_27 : decode cX0_move 27 = .ok (.iconst 0, 1) := by decide +kernel
theorem dX0_move_28 : decode cX0_move 28 = .ok (.istore_n 3, 1) := by decide +kernel
theorem dX0_move_29 : decode cX0_move 29 = .ok (.iload_n 3, 1) := by decide +kernel
theorem dX0_move_30 : decode cX0_move 30 = .ok (.aload_n 0, 1) := by decide +kernel
theorem dX0_move_31 : decode cX0_move 31 = .ok (.getfield 84, 3) := by decide +kernel
theorem dX0_move_34 : decode cX0_move 34 = .ok (.if_icmp .ge 27, 3) := by decide +kernel
theorem dX0_move_37 : decode cX0_move 37 = .ok (.aload_n 0, 1) := by decide +kernel
theorem dX0_move_38 : decode cX0_move 38 = .ok (.iconst 4, 1) := by decide +kernel
theorem dX0_move_39 : decode cX0_move 39 = .ok (.aload_n 0, 1) := by decide +kernel
theorem dX0_move_40 : decode cX0_move 40 = .ok (.iload_n 3, 1) := by decide +kernel
theorem dX0_move_41 : decode cX0_move 41 = .ok (.iload_n 2, 1) := by decide +kernel
theorem dX0_move_42 : decode cX0_move 42 = .ok (.iadd, 1) := by decide +kernel
theorem dX0_move_43 : decode cX0_move 43 = .ok (.invokevirtual 116, 3) := by decide +kernel
theorem dX0_move_46 : decode cX0_move 46 = .ok (.aload_n 0, 1) := by decide +kernel
theorem dX0_move_47 : decode cX0_move 47 = .ok (.iload_n 1, 1) := by decide +kernel
theorem dX0_move_48 : decode cX0_move 48 = .ok (.iload_n 3, 1) := by decide +kernel
theorem dX0_move_49 : decode cX0_move 49 = .ok (.invokevirtual 68, 3) := by decide +kernel
theorem dX0_move_52 : decode cX0_move 52 = .ok (.invokevirtual 71, 3) := by decide +kernel
theorem dX0_move_55 : decode cX0_move 55 = .ok (.iinc 3 1, 3) := by decide +kernel
theorem dX0_move_58 : decode cX0_move 58 = .ok (.goto (-29), 3) := by decide +kernel
theorem dX0_move_61 : decode cX0_move 61 = .ok (.aload_n 0, 1) := by decide +kernel
theorem dX0_move_62 : decode cX0_move 62 = .ok (.iconst 4, 1) := by decide +kernel
theorem dX0_move_63 : decode cX0_move 63 = .ok (.iload_n 1, 1) := by decide +kernel
theorem dX0_move_64 : decode cX0_move 64 = .ok (.invokevirtual 75, 3) := by decide +kernel
theorem dX0_move_67 : decode cX0_move 67 = .ok (.pop, 1) := by decide +kernel
theorem dX0_move_68 : decode cX0_move 68 = .ok (.aload_n 0, 1) := by decide +kernel
theorem dX0_move_69 : decode cX0_move 69 = .ok (.iload_n 1, 1) := by decide +kernel
theorem dX0_move_70 : decode cX0_move 70 = .ok (.iconst 0, 1) := by decide +kernel
theorem dX0_move_71 : decode cX0_move 71 = .ok (.invokevirtual 68, 3) := by decide +kernel
theorem dX0_move_74 : decode cX0_move 74 = .ok (.ireturn, 1) := by decide +kernel
set_option maxRecDepth 20000 in
theorem ggX0_times_X0_requireRow : GoodIn wsX0_times wsX0_requireRow := goodIn_ca (goodIn_r _ [6, 7, 8] (by decide +kernel) (by decide +kernel)) (goodIn_sub (fun _ h => List.mem_cons_of_mem _ (List.mem_append_left _ (List.mem_append_right _ h))) (by decide +kernel))
set_option maxRecDepth 20000 in
theorem gX0_times_X0_requireRow : GoodIn wsX0_times (wsV RX0 59 RX0 yX0_requireRow wsX0_requireRow) := goodIn_app (goodIn_of _ (by decide +kernel)) ggX0_times_X0_requireRow
set_option maxRecDepth 20000 in
theorem ggX0_times_X0_requireNumber : GoodIn wsX0_times wsX0_requireNumber := goodIn_ca (goodIn_r _ [12, 13, 14, 15, 37, 38, 39, 40, 41, 42, 43] (by decide +kernel) (by decide +kernel)) (goodIn_sub (fun _ h => List.mem_cons_of_mem _ (List.mem_append_right _ h)) (by decide +kernel))
set_option maxRecDepth 20000 in
theorem gX0_times_X0_requireNumber : GoodIn wsX0_times (wsV RX0 65 RX0 yX0_requireNumber wsX0_requireNumber) := goodIn_app (goodIn_of _ (by decide +kernel)) ggX0_times_X0_requireNumber
set_option maxRecDepth 20000 in
theorem ggX0_times_X0_read : GoodIn wsX0_times wsX0_read := goodIn_r _ [19, 20, 37, 38, 39, 40, 41, 42, 43] (by decide +kernel) (by decide +kernel)
set_option maxRecDepth 20000 in
theorem gX0_times_X0_read : GoodIn wsX0_times (wsV RX0 68 RX0 yX0_read wsX0_read) := goodIn_app (goodIn_of _ (by decide +kernel)) ggX0_times_X0_read
set_option maxRecDepth 20000 in
theorem ggX0_times_X0_reduced : GoodIn wsX0_times wsX0_reduced := goodIn_r _ [24, 15, 25, 26, 27, 28, 37, 38, 39, 40, 41, 42, 43] (by decide +kernel) (by decide +kernel)
set_option maxRecDepth 20000 in
theorem gX0_times_X0_reduced : GoodIn wsX0_times (wsV RX0 46 RX0 yX0_reduced wsX0_reduced) := goodIn_app (goodIn_of _ (by decide +kernel)) ggX0_times_X0_reduced
set_option maxRecDepth 20000 in
theorem ggX0_times_X0_write : GoodIn wsX0_times wsX0_write := goodIn_r _ [32, 20, 37, 38, 39, 40, 41, 42, 43] (by decide +kernel) (by decide +kernel)
set_option maxRecDepth 20000 in
theorem gX0_times_X0_write : GoodIn wsX0_times (wsV RX0 71 RX0 yX0_write wsX0_write) := goodIn_app (goodIn_of _ (by decide +kernel)) ggX0_times_X0_write
set_option maxRecDepth 20000 in
theorem ggX0_times_X0_nonZeros : GoodIn wsX0_times wsX0_nonZeros := goodIn_r _ [36, 1, 16, 17, 18, 5, 19, 20, 37, 38, 39, 40, 41, 42, 43] (by decide +kernel) (by decide +kernel)
set_option maxRecDepth 20000 in
theorem gX0_times_X0_nonZeros : GoodIn wsX0_times (wsV RX0 111 RX0 yX0_nonZeros wsX0_nonZeros) := goodIn_app (goodIn_of _ (by decide +kernel)) ggX0_times_X0_nonZeros
theorem dX0_times_0 : decode cX0_times 0 = .ok (.aload_n 0, 1) := by decide +kernel
theorem dX0_times_1 : decode cX0_times 1 = .ok (.iload_n 1, 1) := by decide +kernel
theorem dX0_times_2 : decode cX0_times 2 = .ok (.invokevirtual 59, 3) := by decide +kernel
theorem dX0_times_5 : decode cX0_times 5 = .ok (.aload_n 0, 1) := by decide +kernel
theorem dX0_times_6 : decode cX0_times 6 = .ok (.iload_n 2, 1) := by decide +kernel
theorem dX0_times_7 : decode cX0_times 7 = .ok (.invokevirtual 65, 3) := by decide +kernel
theorem dX0_times_10 : decode cX0_times 10 = .ok (.iconst 0, 1) := by decide +kernel
theorem dX0_times_11 : decode cX0_times 11 = .ok (.istore_n 3, 1) := by decide +kernel
theorem dX0_times_12 : decode cX0_times 12 = .ok (.iload_n 3, 1) := by decide +kernel
theorem dX0_times_13 : decode cX0_times 13 = .ok (.aload_n 0, 1) := by decide +kernel
theorem dX0_times_14 : decode cX0_times 14 = .ok (.getfield 84, 3) := by decide +kernel
theorem dX0_times_17 : decode cX0_times 17 = .ok (.if_icmp .ge 27, 3) := by decide +kernel
theorem dX0_times_20 : decode cX0_times 20 = .ok (.aload_n 0, 1) := by decide +kernel
theorem dX0_times_21 : decode cX0_times 21 = .ok (.iload_n 1, 1) := by decide +kernel
theorem dX0_times_22 : decode cX0_times 22 = .ok (.iload_n 3, 1) := by decide +kernel
theorem dX0_times_23 : decode cX0_times 23 = .ok (.aload_n 0, 1) := by decide +kernel
theorem dX0_times_24 : decode cX0_times 24 = .ok (.aload_n 0, 1) := by decide +kernel
theorem dX0_times_25 : decode cX0_times 25 = .ok (.iload_n 1, 1) := by decide +kernel
theorem dX0_times_26 : decode cX0_times 26 = .ok (.iload_n 3, 1) := by decide +kernel
theorem dX0_times_27 : decode cX0_times 27 = .ok (.invokevirtual 68, 3) := by decide +kernel
theorem dX0_times_30 : decode cX0_times 30 = .ok (.iload_n 2, 1) := by decide +kernel
theorem dX0_times_31 : decode cX0_times 31 = .ok (.imul, 1) := by decide +kernel
theorem dX0_times_32 : decode cX0_times 32 = .ok (.invokevirtual 46, 3) := by decide +kernel
theorem dX0_times_35 : decode cX0_times 35 = .ok (.invokevirtual 71, 3) := by decide +kernel
theorem dX0_times_38 : decode cX0_times 38 = .ok (.iinc 3 1, 3) := by decide +kernel
theorem dX0_times_41 : decode cX0_times 41 = .ok (.goto (-29), 3) := by decide +kernel
theorem dX0_times_44 : decode cX0_times 44 = .ok (.aload_n 0, 1) := by decide +kernel
theorem dX0_times_45 : decode cX0_times 45 = .ok (.iload_n 1, 1) := by decide +kernel
theorem dX0_times_46 : decode cX0_times 46 = .ok (.invokevirtual 111, 3) := by decide +kernel
theorem dX0_times_49 : decode cX0_times 49 = .ok (.ireturn, 1) := by decide +kernel
set_option maxRecDepth 20000 in
theorem ggX0_at_X0_requireRow : GoodIn wsX0_at wsX0_requireRow := goodIn_ca (goodIn_r _ [5, 6, 7] (by decide +kernel) (by decide +kernel)) (goodIn_sub (fun _ h => List.mem_cons_of_mem _ (List.mem_append_right _ h)) (by decide +kernel))
set_option maxRecDepth 20000 in
theorem gX0_at_X0_requireRow : GoodIn wsX0_at (wsV RX0 59 RX0 yX0_requireRow wsX0_requireRow) := goodIn_app (goodIn_of _ (by decide +kernel)) ggX0_at_X0_requireRow
set_option maxRecDepth 20000 in
theorem ggX0_at_X0_requirePlace : GoodIn wsX0_at wsX0_requirePlace := goodIn_ca (goodIn_r _ [11, 6, 7, 12, 18, 19, 20, 21, 22, 23, 24] (by decide +kernel) (by decide +kernel)) (goodIn_sub (fun _ h => List.mem_cons_of_mem _ (List.mem_append_right _ h)) (by decide +kernel))
set_option maxRecDepth 20000 in
theorem gX0_at_X0_requirePlace : GoodIn wsX0_at (wsV RX0 62 RX0 yX0_requirePlace wsX0_requirePlace) := goodIn_app (goodIn_of _ (by decide +kernel)) ggX0_at_X0_requirePlace
set_option maxRecDepth 20000 in
theorem ggX0_at_X0_read : GoodIn wsX0_at wsX0_read := goodIn_r _ [16, 17, 18, 19, 20, 21, 22, 23, 24] (by decide +kernel) (by decide +kernel)
set_option maxRecDepth 20000 in
theorem gX0_at_X0_read : GoodIn wsX0_at (wsV RX0 68 RX0 yX0_read wsX0_read) := goodIn_app (goodIn_of _ (by decide +kernel)) ggX0_at_X0_read
theorem dX0_at_0 : decode cX0_at 0 = .ok (.aload_n 0, 1) := by decide +kernel
theorem dX0_at_1 : decode cX0_at 1 = .ok (.iload_n 1, 1) := by decide +kernel
theorem dX0_at_2 : decode cX0_at 2 = .ok (.invokevirtual 59, 3) := by decide +kernel
theorem dX0_at_5 : decode cX0_at 5 = .ok (.aload_n 0, 1) := by decide +kernel
theorem dX0_at_6 : decode cX0_at 6 = .ok (.iload_n 2, 1) := by decide +kernel
theorem dX0_at_7 : decode cX0_at 7 = .ok (.invokevirtual 62, 3) := by decide +kernel
theorem dX0_at_10 : decode cX0_at 10 = .ok (.aload_n 0, 1) := by decide +kernel
theorem dX0_at_11 : decode cX0_at 11 = .ok (.iload_n 1, 1) := by decide +kernel
theorem dX0_at_12 : decode cX0_at 12 = .ok (.iload_n 2, 1) := by decide +kernel
theorem dX0_at_13 : decode cX0_at 13 = .ok (.invokevirtual 68, 3) := by decide +kernel
theorem dX0_at_16 : decode cX0_at 16 = .ok (.ireturn, 1) := by decide +kernel
set_option maxRecDepth 20000 in
theorem ggX0_point_X0_requireRow : GoodIn wsX0_point wsX0_requireRow := goodIn_ca (goodIn_r _ [5, 6, 7] (by decide +kernel) (by decide +kernel)) (goodIn_sub (fun _ h => List.mem_cons_of_mem _ (List.mem_append_left _ (List.mem_append_right _ h))) (by decide +kernel))
set_option maxRecDepth 20000 in
theorem gX0_point_X0_requireRow : GoodIn wsX0_point (wsV RX0 59 RX0 yX0_requireRow wsX0_requireRow) := goodIn_app (goodIn_of _ (by decide +kernel)) ggX0_point_X0_requireRow
set_option maxRecDepth 20000 in
theorem ggX0_point_X0_requireNumber : GoodIn wsX0_point wsX0_requireNumber := goodIn_ca (goodIn_r _ [11, 12, 13, 14, 33, 34, 35, 36, 37, 38, 39] (by decide +kernel) (by decide +kernel)) (goodIn_sub (fun _ h => List.mem_cons_of_mem _ (List.mem_append_right _ h)) (by decide +kernel))
set_option maxRecDepth 20000 in
theorem gX0_point_X0_requireNumber : GoodIn wsX0_point (wsV RX0 65 RX0 yX0_requireNumber wsX0_requireNumber) := goodIn_app (goodIn_of _ (by decide +kernel)) ggX0_point_X0_requireNumber
set_option maxRecDepth 20000 in
theorem ggX0_point_X0_valueAt : GoodIn wsX0_point wsX0_valueAt := goodIn_r _ [18, 19, 20, 21, 22, 4, 23, 24, 25, 26, 27, 28, 14, 29, 30, 31, 32, 33, 34, 35, 36, 37, 38, 39] (by decide +kernel) (by decide +kernel)
set_option maxRecDepth 20000 in
theorem gX0_point_X0_valueAt : GoodIn wsX0_point (wsV RX0 119 RX0 yX0_valueAt wsX0_valueAt) := goodIn_app (goodIn_of _ (by decide +kernel)) ggX0_point_X0_valueAt
theorem dX0_point_0 : decode cX0_point 0 = .ok (.aload_n 0, 1) := by decide +kernel
theorem dX0_point_1 : decode cX0_point 1 = .ok (.iload_n 1, 1) := by decide +kernel
theorem dX0_point_2 : decode cX0_point 2 = .ok (.invokevirtual 59, 3) := by decide +kernel
theorem dX0_point_5 : decode cX0_point 5 = .ok (.aload_n 0, 1) := by decide +kernel
theorem dX0_point_6 : decode cX0_point 6 = .ok (.iload_n 2, 1) := by decide +kernel
theorem dX0_point_7 : decode cX0_point 7 = .ok (.invokevirtual 65, 3) := by decide +kernel
theorem dX0_point_10 : decode cX0_point 10 = .ok (.aload_n 0, 1) := by decide +kernel
theorem dX0_point_11 : decode cX0_point 11 = .ok (.iload_n 1, 1) := by decide +kernel
theorem dX0_point_12 : decode cX0_point 12 = .ok (.iload_n 2, 1) := by decide +kernel
theorem dX0_point_13 : decode cX0_point 13 = .ok (.invokevirtual 119, 3) := by decide +kernel
theorem dX0_point_16 : decode cX0_point 16 = .ok (.ireturn, 1) := by decide +kernel
set_option maxRecDepth 20000 in
theorem ggX0_about_X0_requireRow : GoodIn wsX0_about wsX0_requireRow := goodIn_ca (goodIn_r _ [7, 1, 2] (by decide +kernel) (by decide +kernel)) (goodIn_sub (fun _ h => List.mem_cons_of_mem _ (List.mem_append_right _ h)) (by decide +kernel))
set_option maxRecDepth 20000 in
theorem gX0_about_X0_requireRow : GoodIn wsX0_about (wsV RX0 59 RX0 yX0_requireRow wsX0_requireRow) := goodIn_app (goodIn_of _ (by decide +kernel)) ggX0_about_X0_requireRow
set_option maxRecDepth 20000 in
theorem ggX0_about_X0_told : GoodIn wsX0_about wsX0_told := goodIn_r _ [11, 12, 13, 14, 6, 15, 16, 17, 18, 19, 20, 21, 22, 23, 24, 25, 26, 27, 28, 29, 30, 31, 32, 33, 34, 35, 36, 37, 38, 39, 40, 41, 42, 43, 44, 45, 46, 47, 48, 49, 50, 51, 52, 53, 54, 55, 56, 57, 58, 59, 60, 61, 62, 63, 64, 65] (by decide +kernel) (by decide +kernel)
set_option maxRecDepth 20000 in
theorem gX0_about_X0_told : GoodIn wsX0_about (wsV RX0 124 RX0 yX0_told wsX0_told) := goodIn_app (goodIn_of _ (by decide +kernel)) ggX0_about_X0_told
theorem dX0_about_0 : decode cX0_about 0 = .ok (.aload_n 0, 1) := by decide +kernel
theorem dX0_about_1 : decode cX0_about 1 = .ok (.iload_n 1, 1) := by decide +kernel
theorem dX0_about_2 : decode cX0_about 2 = .ok (.invokevirtual 59, 3) := by decide +kernel
theorem dX0_about_5 : decode cX0_about 5 = .ok (.iload_n 2, 1) := by decide +kernel
theorem dX0_about_6 : decode cX0_about 6 = .ok (.ifCond .lt 8, 3) := by decide +kernel
theorem dX0_about_9 : decode cX0_about 9 = .ok (.iload_n 2, 1) := by decide +kernel
theorem dX0_about_10 : decode cX0_about 10 = .ok (.iconst 5, 1) := by decide +kernel
theorem dX0_about_11 : decode cX0_about 11 = .ok (.if_icmp .lt 13, 3) := by decide +kernel
theorem dX0_about_14 : decode cX0_about 14 = .ok (.new 93, 3) := by decide +kernel
theorem dX0_about_17 : decode cX0_about 17 = .ok (.dup, 1) := by decide +kernel
theorem dX0_about_18 : decode cX0_about 18 = .ok (.ldc 122, 2) := by decide +kernel
theorem dX0_about_20 : decode cX0_about 20 = .ok (.invokespecial 97, 3) := by decide +kernel
theorem dX0_about_23 : decode cX0_about 23 = .ok (.athrow, 1) := by decide +kernel
theorem dX0_about_24 : decode cX0_about 24 = .ok (.aload_n 0, 1) := by decide +kernel
theorem dX0_about_25 : decode cX0_about 25 = .ok (.iload_n 1, 1) := by decide +kernel
theorem dX0_about_26 : decode cX0_about 26 = .ok (.iload_n 2, 1) := by decide +kernel
theorem dX0_about_27 : decode cX0_about 27 = .ok (.invokevirtual 124, 3) := by decide +kernel
theorem dX0_about_30 : decode cX0_about 30 = .ok (.ireturn, 1) := by decide +kernel
set_option maxRecDepth 20000 in
theorem ggX0_count_X0_counted : GoodIn wsX0_count wsX0_counted := goodIn_r _ [7, 8, 9, 10, 11, 12, 13, 14, 15, 16, 17, 18, 19, 20] (by decide +kernel) (by decide +kernel)
set_option maxRecDepth 20000 in
theorem gX0_count_X0_counted : GoodIn wsX0_count (wsV RX0 129 RX0 yX0_counted wsX0_counted) := goodIn_app (goodIn_of _ (by decide +kernel)) ggX0_count_X0_counted
theorem dX0_count_0 : decode cX0_count 0 = .ok (.iload_n 1, 1) := by decide +kernel
theorem dX0_count_1 : decode cX0_count 1 = .ok (.ifCond .lt 9, 3) := by decide +kernel
theorem dX0_count_4 : decode cX0_count 4 = .ok (.iload_n 1, 1) := by decide +kernel
theorem dX0_count_5 : decode cX0_count 5 = .ok (.bipush 6, 2) := by decide +kernel
theorem dX0_count_7 : decode cX0_count 7 = .ok (.if_icmp .lt 13, 3) := by decide +kernel
theorem dX0_count_10 : decode cX0_count 10 = .ok (.new 93, 3) := by decide +kernel
theorem dX0_count_13 : decode cX0_count 13 = .ok (.dup, 1) := by decide +kernel
theorem dX0_count_14 : decode cX0_count 14 = .ok (.ldc 127, 2) := by decide +kernel
theorem dX0_count_16 : decode cX0_count 16 = .ok (.invokespecial 97, 3) := by decide +kernel
theorem dX0_count_19 : decode cX0_count 19 = .ok (.athrow, 1) := by decide +kernel
theorem dX0_count_20 : decode cX0_count 20 = .ok (.aload_n 0, 1) := by decide +kernel
theorem dX0_count_21 : decode cX0_count 21 = .ok (.iload_n 1, 1) := by decide +kernel
theorem dX0_count_22 : decode cX0_count 22 = .ok (.invokevirtual 129, 3) := by decide +kernel
theorem dX0_count_25 : decode cX0_count 25 = .ok (.ireturn, 1) := by decide +kernel
set_option maxRecDepth 20000 in
theorem ggX0_would_X0_requireRow : GoodIn wsX0_would wsX0_requireRow := goodIn_ca (goodIn_r _ [5, 6, 7] (by decide +kernel) (by decide +kernel)) (goodIn_sub (fun _ h => List.mem_cons_of_mem _ (List.mem_append_right _ h)) (by decide +kernel))
set_option maxRecDepth 20000 in
theorem gX0_would_X0_requireRow : GoodIn wsX0_would (wsV RX0 59 RX0 yX0_requireRow wsX0_requireRow) := goodIn_app (goodIn_of _ (by decide +kernel)) ggX0_would_X0_requireRow
set_option maxRecDepth 20000 in
theorem ggX0_would_X0_requirePlace : GoodIn wsX0_would wsX0_requirePlace := goodIn_ca (goodIn_r _ [11, 6, 7, 12, 35, 36, 37, 38, 39, 40, 41] (by decide +kernel) (by decide +kernel)) (goodIn_sub (fun _ h => List.mem_cons_of_mem _ (List.mem_append_right _ h)) (by decide +kernel))
set_option maxRecDepth 20000 in
theorem gX0_would_X0_requirePlace : GoodIn wsX0_would (wsV RX0 62 RX0 yX0_requirePlace wsX0_requirePlace) := goodIn_app (goodIn_of _ (by decide +kernel)) ggX0_would_X0_requirePlace
set_option maxRecDepth 20000 in
theorem ggX0_would_X0_foldedAt : GoodIn wsX0_would wsX0_foldedAt := goodIn_r _ [16, 12, 17, 18, 19, 4, 20, 21, 22, 23, 24, 25, 26, 27, 28, 29, 30, 31, 32, 33, 34, 35, 36, 37, 38, 39, 40, 41] (by decide +kernel) (by decide +kernel)
set_option maxRecDepth 20000 in
theorem gX0_would_X0_foldedAt : GoodIn wsX0_would (wsV RX0 102 RX0 yX0_foldedAt wsX0_foldedAt) := goodIn_app (goodIn_of _ (by decide +kernel)) ggX0_would_X0_foldedAt
theorem dX0_would_0 : decode cX0_would 0 = .ok (.aload_n 0, 1) := by decide +kernel
theorem dX0_would_1 : decode cX0_would 1 = .ok (.iload_n 1, 1) := by decide +kernel
theorem dX0_would_2 : decode cX0_would 2 = .ok (.invokevirtual 59, 3) := by decide +kernel
theorem dX0_would_5 : decode cX0_would 5 = .ok (.aload_n 0, 1) := by decide +kernel
theorem dX0_would_6 : decode cX0_would 6 = .ok (.iload_n 2, 1) := by decide +kernel
theorem dX0_would_7 : decode cX0_would 7 = .ok (.invokevirtual 59, 3) := by decide +kernel
theorem dX0_would_10 : decode cX0_would 10 = .ok (.aload_n 0, 1) := by decide +kernel
theorem dX0_would_11 : decode cX0_would 11 = .ok (.iload_n 3, 1) := by decide +kernel
theorem dX0_would_12 : decode cX0_would 12 = .ok (.invokevirtual 62, 3) := by decide +kernel
theorem dX0_would_15 : decode cX0_would 15 = .ok (.aload_n 0, 1) := by decide +kernel
theorem dX0_would_16 : decode cX0_would 16 = .ok (.iload_n 1, 1) := by decide +kernel
theorem dX0_would_17 : decode cX0_would 17 = .ok (.iload_n 2, 1) := by decide +kernel
theorem dX0_would_18 : decode cX0_would 18 = .ok (.iload_n 3, 1) := by decide +kernel
theorem dX0_would_19 : decode cX0_would 19 = .ok (.invokevirtual 102, 3) := by decide +kernel
theorem dX0_would_22 : decode cX0_would 22 = .ok (.ireturn, 1) := by decide +kernel
set_option maxRecDepth 20000 in
theorem ggX0_comes_X0_requireRow : GoodIn wsX0_comes wsX0_requireRow := goodIn_ca (goodIn_r _ [6, 7, 8] (by decide +kernel) (by decide +kernel)) (goodIn_sub (fun _ h => List.mem_cons_of_mem _ (List.mem_append_right _ h)) (by decide +kernel))
set_option maxRecDepth 20000 in
theorem gX0_comes_X0_requireRow : GoodIn wsX0_comes (wsV RX0 59 RX0 yX0_requireRow wsX0_requireRow) := goodIn_app (goodIn_of _ (by decide +kernel)) ggX0_comes_X0_requireRow
set_option maxRecDepth 20000 in
theorem ggX0_comes_X0_isWhenMoved : GoodIn wsX0_comes wsX0_isWhenMoved := goodIn_r _ [12, 1, 13, 14, 15, 5, 16, 17, 18, 19, 20, 21, 22, 23, 24, 25, 26, 27, 28] (by decide +kernel) (by decide +kernel)
set_option maxRecDepth 20000 in
theorem gX0_comes_X0_isWhenMoved : GoodIn wsX0_comes (wsV RX0 132 RX0 yX0_isWhenMoved wsX0_isWhenMoved) := goodIn_app (goodIn_of _ (by decide +kernel)) ggX0_comes_X0_isWhenMoved
theorem dX0_comes_0 : decode cX0_comes 0 = .ok (.aload_n 0, 1) := by decide +kernel
theorem dX0_comes_1 : decode cX0_comes 1 = .ok (.iload_n 1, 1) := by decide +kernel
theorem dX0_comes_2 : decode cX0_comes 2 = .ok (.invokevirtual 59, 3) := by decide +kernel
theorem dX0_comes_5 : decode cX0_comes 5 = .ok (.aload_n 0, 1) := by decide +kernel
theorem dX0_comes_6 : decode cX0_comes 6 = .ok (.iload_n 2, 1) := by decide +kernel
theorem dX0_comes_7 : decode cX0_comes 7 = .ok (.invokevirtual 59, 3) := by decide +kernel
theorem dX0_comes_10 : decode cX0_comes 10 = .ok (.iconst 0, 1) := by decide +kernel
theorem dX0_comes_11 : decode cX0_comes 11 = .ok (.istore_n 3, 1) := by decide +kernel
theorem dX0_comes_12 : decode cX0_comes 12 = .ok (.iload_n 3, 1) := by decide +kernel
theorem dX0_comes_13 : decode cX0_comes 13 = .ok (.aload_n 0, 1) := by decide +kernel
theorem dX0_comes_14 : decode cX0_comes 14 = .ok (.getfield 84, 3) := by decide +kernel
theorem dX0_comes_17 : decode cX0_comes 17 = .ok (.if_icmp .ge 21, 3) := by decide +kernel
theorem dX0_comes_20 : decode cX0_comes 20 = .ok (.aload_n 0, 1) := by decide +kernel
theorem dX0_comes_21 : decode cX0_comes 21 = .ok (.iload_n 1, 1) := by decide +kernel
theorem dX0_comes_22 : decode cX0_comes 22 = .ok (.iload_n 3, 1) := by decide +kernel
theorem dX0_comes_23 : decode cX0_comes 23 = .ok (.iload_n 2, 1) := by decide +kernel
theorem dX0_comes_24 : decode cX0_comes 24 = .ok (.invokevirtual 132, 3) := by decide +kernel
theorem dX0_comes_27 : decode cX0_comes 27 = .ok (.ifCond .eq 5, 3) := by decide +kernel
theorem dX0_comes_30 : decode cX0_comes 30 = .ok (.iload_n 3, 1) := by decide +kernel
theorem dX0_comes_31 : decode cX0_comes 31 = .ok (.ireturn, 1) := by decide +kernel
theorem dX0_comes_32 : decode cX0_comes 32 = .ok (.iinc 3 1, 3) := by decide +kernel
theorem dX0_comes_35 : decode cX0_comes 35 = .ok (.goto (-23), 3) := by decide +kernel
theorem dX0_comes_38 : decode cX0_comes 38 = .ok (.iconst (-1), 1) := by decide +kernel
theorem dX0_comes_39 : decode cX0_comes 39 = .ok (.ireturn, 1) := by decide +kernel
set_option maxRecDepth 20000 in
theorem ggX0_tones_X0_requireRow : GoodIn wsX0_tones wsX0_requireRow := goodIn_ca (goodIn_r _ [5, 6, 7] (by decide +kernel) (by decide +kernel)) (goodIn_sub (fun _ h => List.mem_cons_of_mem _ (List.mem_append_right _ h)) (by decide +kernel))
set_option maxRecDepth 20000 in
theorem gX0_tones_X0_requireRow : GoodIn wsX0_tones (wsV RX0 59 RX0 yX0_requireRow wsX0_requireRow) := goodIn_app (goodIn_of _ (by decide +kernel)) ggX0_tones_X0_requireRow
set_option maxRecDepth 20000 in
theorem ggX0_tones_X0_scratchTones : GoodIn wsX0_tones wsX0_scratchTones := goodIn_r _ [11, 12, 13, 14, 15, 4, 16, 17, 18, 19, 20, 21, 22, 23, 24, 25, 26, 27, 28, 29, 30, 31, 32, 33, 34, 35, 36, 37, 38, 39, 48, 49, 50, 51, 52, 53, 54] (by decide +kernel) (by decide +kernel)
set_option maxRecDepth 20000 in
theorem gX0_tones_X0_scratchTones : GoodIn wsX0_tones (wsV RX0 81 RX0 yX0_scratchTones wsX0_scratchTones) := goodIn_app (goodIn_of _ (by decide +kernel)) ggX0_tones_X0_scratchTones
set_option maxRecDepth 20000 in
theorem ggX0_tones_X0_isWhenMoved : GoodIn wsX0_tones wsX0_isWhenMoved := goodIn_r _ [43, 17, 44, 45, 46, 4, 47, 22, 23, 24, 25, 26, 48, 49, 50, 51, 52, 53, 54] (by decide +kernel) (by decide +kernel)
set_option maxRecDepth 20000 in
theorem gX0_tones_X0_isWhenMoved : GoodIn wsX0_tones (wsV RX0 132 RX0 yX0_isWhenMoved wsX0_isWhenMoved) := goodIn_app (goodIn_of _ (by decide +kernel)) ggX0_tones_X0_isWhenMoved
theorem dX0_tones_0 : decode cX0_tones 0 = .ok (.aload_n 0, 1) := by decide +kernel
theorem dX0_tones_1 : decode cX0_tones 1 = .ok (.iload_n 1, 1) := by decide +kernel
theorem dX0_tones_2 : decode cX0_tones 2 = .ok (.invokevirtual 59, 3) := by decide +kernel
theorem dX0_tones_5 : decode cX0_tones 5 = .ok (.aload_n 0, 1) := by decide +kernel
theorem dX0_tones_6 : decode cX0_tones 6 = .ok (.iload_n 2, 1) := by decide +kernel
theorem dX0_tones_7 : decode cX0_tones 7 = .ok (.invokevirtual 59, 3) := by decide +kernel
theorem dX0_tones_10 : decode cX0_tones 10 = .ok (.aload_n 0, 1) := by decide +kernel
theorem dX0_tones_11 : decode cX0_tones 11 = .ok (.iload_n 1, 1) := by decide +kernel
theorem dX0_tones_12 : decode cX0_tones 12 = .ok (.invokevirtual 81, 3) := by decide +kernel
theorem dX0_tones_15 : decode cX0_tones 15 = .ok (.aload_n 0, 1) := by decide +kernel
theorem dX0_tones_16 : decode cX0_tones 16 = .ok (.iconst 4, 1) := by decide +kernel
theorem dX0_tones_17 : decode cX0_tones 17 = .ok (.iconst 0, 1) := by decide +kernel
theorem dX0_tones_18 : decode cX0_tones 18 = .ok (.iload_n 2, 1) := by decide +kernel
theorem dX0_tones_19 : decode cX0_tones 19 = .ok (.invokevirtual 132, 3) := by decide +kernel
theorem dX0_tones_22 : decode cX0_tones 22 = .ok (.ireturn, 1) := by decide +kernel
set_option maxRecDepth 20000 in
theorem ggX0_mean_X0_requireRow : GoodIn wsX0_mean wsX0_requireRow := goodIn_ca (goodIn_r _ [6, 7, 8] (by decide +kernel) (by decide +kernel)) (goodIn_sub (fun _ h => List.mem_cons_of_mem _ (List.mem_append_right _ h)) (by decide +kernel))
set_option maxRecDepth 20000 in
theorem gX0_mean_X0_requireRow : GoodIn wsX0_mean (wsV RX0 59 RX0 yX0_requireRow wsX0_requireRow) := goodIn_app (goodIn_of _ (by decide +kernel)) ggX0_mean_X0_requireRow
set_option maxRecDepth 20000 in
theorem ggX0_mean_X0_plainSum : GoodIn wsX0_mean wsX0_plainSum := goodIn_r _ [12, 1, 13, 14, 15, 5, 16, 17, 18, 19, 20, 21, 22, 23, 24] (by decide +kernel) (by decide +kernel)
set_option maxRecDepth 20000 in
theorem gX0_mean_X0_plainSum : GoodIn wsX0_mean (wsV RX0 139 RX0 yX0_plainSum wsX0_plainSum) := goodIn_app (goodIn_of _ (by decide +kernel)) ggX0_mean_X0_plainSum
theorem dX0_mean_0 : decode cX0_mean 0 = .ok (.aload_n 0, 1) := by decide +kernel
theorem dX0_mean_1 : decode cX0_mean 1 = .ok (.iload_n 1, 1) := by decide +kernel
theorem dX0_mean_2 : decode cX0_mean 2 = .ok (.invokevirtual 59, 3) := by decide +kernel
theorem dX0_mean_5 : decode cX0_mean 5 = .ok (.aload_n 0, 1) := by decide +kernel
theorem dX0_mean_6 : decode cX0_mean 6 = .ok (.getfield 84, 3) := by decide +kernel
theorem dX0_mean_9 : decode cX0_mean 9 = .ok (.ifCond .le 18, 3) := by decide +kernel
theorem dX0_mean_12 : decode cX0_mean 12 = .ok (.aload_n 0, 1) := by decide +kernel
theorem dX0_mean_13 : decode cX0_mean 13 = .ok (.iload_n 1, 1) := by decide +kernel
theorem dX0_mean_14 : decode cX0_mean 14 = .ok (.invokevirtual 139, 3) := by decide +kernel
theorem dX0_mean_17 : decode cX0_mean 17 = .ok (.i2d, 1) := by decide +kernel
theorem dX0_mean_18 : decode cX0_mean 18 = .ok (.aload_n 0, 1) := by decide +kernel
theorem dX0_mean_19 : decode cX0_mean 19 = .ok (.getfield 84, 3) := by decide +kernel
theorem dX0_mean_22 : decode cX0_mean 22 = .ok (.i2d, 1) := by decide +kernel
theorem dX0_mean_23 : decode cX0_mean 23 = .ok (.ddiv, 1) := by decide +kernel
theorem dX0_mean_24 : decode cX0_mean 24 = .ok (.goto 4, 3) := by decide +kernel
theorem dX0_mean_27 : decode cX0_mean 27 = .ok (.dconst 0, 1) := by decide +kernel
theorem dX0_mean_28 : decode cX0_mean 28 = .ok (.dreturn, 1) := by decide +kernel
set_option maxRecDepth 20000 in
theorem ggX0_digest_X0_counted : GoodIn wsX0_digest wsX0_counted := goodIn_r _ [7, 8, 9, 10, 11, 12, 13, 83, 84, 85, 86, 87, 88, 89] (by decide +kernel) (by decide +kernel)
set_option maxRecDepth 20000 in
theorem gX0_digest_X0_counted : GoodIn wsX0_digest (wsV RX0 129 RX0 yX0_counted wsX0_counted) := goodIn_app (goodIn_of _ (by decide +kernel)) ggX0_digest_X0_counted
set_option maxRecDepth 20000 in
theorem ggX0_digest_X0_digestRow : GoodIn wsX0_digest wsX0_digestRow := goodIn_r _ [17, 8, 2, 18, 19, 20, 6, 21, 22, 83, 84, 85, 86, 87, 88, 89] (by decide +kernel) (by decide +kernel)
set_option maxRecDepth 20000 in
theorem gX0_digest_X0_digestRow : GoodIn wsX0_digest (wsV RX0 146 RX0 yX0_digestRow wsX0_digestRow) := goodIn_app (goodIn_of _ (by decide +kernel)) ggX0_digest_X0_digestRow
set_option maxRecDepth 20000 in
theorem ggX0_digest_X0_told : GoodIn wsX0_digest wsX0_told := goodIn_r _ [26, 27, 28, 29, 6, 30, 8, 18, 19, 20, 21, 22, 31, 32, 33, 34, 9, 35, 36, 37, 38, 39, 40, 41, 42, 43, 44, 45, 46, 47, 48, 49, 50, 51, 52, 53, 54, 55, 56, 57, 58, 59, 60, 61, 62, 63, 64, 65, 66, 83, 84, 85, 86, 87, 88, 89] (by decide +kernel) (by decide +kernel)
set_option maxRecDepth 20000 in
theorem gX0_digest_X0_told : GoodIn wsX0_digest (wsV RX0 124 RX0 yX0_told wsX0_told) := goodIn_app (goodIn_of _ (by decide +kernel)) ggX0_digest_X0_told
set_option maxRecDepth 20000 in
theorem ggX0_digest_X0_scratchTones : GoodIn wsX0_digest wsX0_scratchTones := goodIn_r _ [70, 10, 71, 72, 73, 6, 74, 8, 75, 76, 77, 78, 18, 19, 20, 21, 22, 31, 32, 33, 34, 9, 35, 36, 37, 38, 79, 80, 81, 82, 83, 84, 85, 86, 87, 88, 89] (by decide +kernel) (by decide +kernel)
set_option maxRecDepth 20000 in
theorem gX0_digest_X0_scratchTones : GoodIn wsX0_digest (wsV RX0 81 RX0 yX0_scratchTones wsX0_scratchTones) := goodIn_app (goodIn_of _ (by decide +kernel)) ggX0_digest_X0_scratchTones
theorem dX0_digest_0 : decode cX0_digest 0 = .ok (.ldc2_w 142, 3) := by decide +kernel
theorem dX0_digest_3 : decode cX0_digest 3 = .ok (.lstore_n 1, 1) := by decide +kernel
theorem dX0_digest_4 : decode cX0_digest 4 = .ok (.iconst 0, 1) := by decide +kernel
theorem dX0_digest_5 : decode cX0_digest 5 = .ok (.istore_n 3, 1) := by decide +kernel
theorem dX0_digest_6 : decode cX0_digest 6 = .ok (.iload_n 3, 1) := by decide +kernel
theorem dX0_digest_7 : decode cX0_digest 7 = .ok (.bipush 6, 2) := by decide +kernel
theorem dX0_digest_9 : decode cX0_digest 9 = .ok (.if_icmp .ge 22, 3) := by decide +kernel
theorem dX0_digest_12 : decode cX0_digest 12 = .ok (.lload_n 1, 1) := by decide +kernel
theorem dX0_digest_13 : decode cX0_digest 13 = .ok (.ldc2_w 144, 3) := by decide +kernel
theorem dX0_digest_16 : decode cX0_digest 16 = .ok (.lmul, 1) := by decide +kernel
theorem dX0_digest_17 : decode cX0_digest 17 = .ok (.aload_n 0, 1) := by decide +kernel
theorem dX0_digest_18 : decode cX0_digest 18 = .ok (.iload_n 3, 1) := by decide +kernel
theorem dX0_digest_19 : decode cX0_digest 19 = .ok (.invokevirtual 129, 3) := by decide +kernel
theorem dX0_digest_22 : decode cX0_digest 22 = .ok (.i2l, 1) := by decide +kernel
theorem dX0_digest_23 : decode cX0_digest 23 = .ok (.ladd, 1) := by decide +kernel
theorem dX0_digest_24 : decode cX0_digest 24 = .ok (.lstore_n 1, 1) := by decide +kernel
theorem dX0_digest_25 : decode cX0_digest 25 = .ok (.iinc 3 1, 3) := by decide +kernel
theorem dX0_digest_28 : decode cX0_digest 28 = .ok (.goto (-22), 3) := by decide +kernel
theorem dX0_digest_31 : decode cX0_digest 31 = .ok (.iconst 0, 1) := by decide +kernel
theorem dX0_digest_32 : decode cX0_digest 32 = .ok (.istore_n 3, 1) := by decide +kernel
theorem dX0_digest_33 : decode cX0_digest 33 = .ok (.iload_n 3, 1) := by decide +kernel
theorem dX0_digest_34 : decode cX0_digest 34 = .ok (.iconst 4, 1) := by decide +kernel
theorem dX0_digest_35 : decode cX0_digest 35 = .ok (.if_icmp .ge 58, 3) := by decide +kernel
theorem dX0_digest_38 : decode cX0_digest 38 = .ok (.aload_n 0, 1) := by decide +kernel
theorem dX0_digest_39 : decode cX0_digest 39 = .ok (.lload_n 1, 1) := by decide +kernel
theorem dX0_digest_40 : decode cX0_digest 40 = .ok (.iload_n 3, 1) := by decide +kernel
theorem dX0_digest_41 : decode cX0_digest 41 = .ok (.invokevirtual 146, 3) := by decide +kernel
theorem dX0_digest_44 : decode cX0_digest 44 = .ok (.lstore_n 1, 1) := by decide +kernel
theorem dX0_digest_45 : decode cX0_digest 45 = .ok (.iconst 0, 1) := by decide +kernel
theorem dX0_digest_46 : decode cX0_digest 46 = .ok (.istore 4, 2) := by decide +kernel
theorem dX0_digest_48 : decode cX0_digest 48 = .ok (.iload 4, 2) := by decide +kernel
theorem dX0_digest_50 : decode cX0_digest 50 = .ok (.iconst 5, 1) := by decide +kernel
theorem dX0_digest_51 : decode cX0_digest 51 = .ok (.if_icmp .ge 24, 3) := by decide +kernel
theorem dX0_digest_54 : decode cX0_digest 54 = .ok (.lload_n 1, 1) := by decide +kernel
theorem dX0_digest_55 : decode cX0_digest 55 = .ok (.ldc2_w 144, 3) := by decide +kernel
theorem dX0_digest_58 : decode cX0_digest 58 = .ok (.lmul, 1) := by decide +kernel
theorem dX0_digest_59 : decode cX0_digest 59 = .ok (.aload_n 0, 1) := by decide +kernel
theorem dX0_digest_60 : decode cX0_digest 60 = .ok (.iload_n 3, 1) := by decide +kernel
theorem dX0_digest_61 : decode cX0_digest 61 = .ok (.iload 4, 2) := by decide +kernel
theorem dX0_digest_63 : decode cX0_digest 63 = .ok (.invokevirtual 124, 3) := by decide +kernel
theorem dX0_digest_66 : decode cX0_digest 66 = .ok (.i2l, 1) := by decide +kernel
theorem dX0_digest_67 : decode cX0_digest 67 = .ok (.ladd, 1) := by decide +kernel
theorem dX0_digest_68 : decode cX0_digest 68 = .ok (.lstore_n 1, 1) := by decide +kernel
theorem dX0_digest_69 : decode cX0_digest 69 = .ok (.iinc 4 1, 3) := by decide +kernel
theorem dX0_digest_72 : decode cX0_digest 72 = .ok (.goto (-24), 3) := by decide +kernel
theorem dX0_digest_75 : decode cX0_digest 75 = .ok (.aload_n 0, 1) := by decide +kernel
theorem dX0_digest_76 : decode cX0_digest 76 = .ok (.iload_n 3, 1) := by decide +kernel
theorem dX0_digest_77 : decode cX0_digest 77 = .ok (.invokevirtual 81, 3) := by decide +kernel
theorem dX0_digest_80 : decode cX0_digest 80 = .ok (.aload_n 0, 1) := by decide +kernel
theorem dX0_digest_81 : decode cX0_digest 81 = .ok (.lload_n 1, 1) := by decide +kernel
theorem dX0_digest_82 : decode cX0_digest 82 = .ok (.iconst 4, 1) := by decide +kernel
theorem dX0_digest_83 : decode cX0_digest 83 = .ok (.invokevirtual 146, 3) := by decide +kernel
theorem dX0_digest_86 : decode cX0_digest 86 = .ok (.lstore_n 1, 1) := by decide +kernel
theorem dX0_digest_87 : decode cX0_digest 87 = .ok (.iinc 3 1, 3) := by decide +kernel
theorem dX0_digest_90 : decode cX0_digest 90 = .ok (.goto (-57), 3) := by decide +kernel
theorem dX0_digest_93 : decode cX0_digest 93 = .ok (.lload_n 1, 1) := by decide +kernel
theorem dX0_digest_94 : decode cX0_digest 94 = .ok (.lreturn, 1) := by decide +kernel
theorem dX0_requireRow_0 : decode cX0_requireRow 0 = .ok (.iload_n 1, 1) := by decide +kernel
theorem dX0_requireRow_1 : decode cX0_requireRow 1 = .ok (.ifCond .lt 8, 3) := by decide +kernel
theorem dX0_requireRow_4 : decode cX0_requireRow 4 = .ok (.iload_n 1, 1) := by decide +kernel
theorem dX0_requireRow_5 : decode cX0_requireRow 5 = .ok (.iconst 4, 1) := by decide +kernel
theorem dX0_requireRow_6 : decode cX0_requireRow 6 = .ok (.if_icmp .lt 13, 3) := by decide +kernel
theorem dX0_requireRow_9 : decode cX0_requireRow 9 = .ok (.new 93, 3) := by decide +kernel
theorem dX0_requireRow_12 : decode cX0_requireRow 12 = .ok (.dup, 1) := by decide +kernel
theorem dX0_requireRow_13 : decode cX0_requireRow 13 = .ok (.ldc 150, 2) := by decide +kernel
theorem dX0_requireRow_15 : decode cX0_requireRow 15 = .ok (.invokespecial 97, 3) := by decide +kernel
theorem dX0_requireRow_18 : decode cX0_requireRow 18 = .ok (.athrow, 1) := by decide +kernel
theorem dX0_requireRow_19 : decode cX0_requireRow 19 = .ok (.return_, 1) := by decide +kernel
theorem dX0_requirePlace_0 : decode cX0_requirePlace 0 = .ok (.iload_n 1, 1) := by decide +kernel
theorem dX0_requirePlace_1 : decode cX0_requirePlace 1 = .ok (.ifCond .lt 11, 3) := by decide +kernel
theorem dX0_requirePlace_4 : decode cX0_requirePlace 4 = .ok (.iload_n 1, 1) := by decide +kernel
theorem dX0_requirePlace_5 : decode cX0_requirePlace 5 = .ok (.aload_n 0, 1) := by decide +kernel
theorem dX0_requirePlace_6 : decode cX0_requirePlace 6 = .ok (.getfield 84, 3) := by decide +kernel
theorem dX0_requirePlace_9 : decode cX0_requirePlace 9 = .ok (.if_icmp .lt 13, 3) := by decide +kernel
theorem dX0_requirePlace_12 : decode cX0_requirePlace 12 = .ok (.new 93, 3) := by decide +kernel
theorem dX0_requirePlace_15 : decode cX0_requirePlace 15 = .ok (.dup, 1) := by decide +kernel
theorem dX0_requirePlace_16 : decode cX0_requirePlace 16 = .ok (.ldc 152, 2) := by decide +kernel
theorem dX0_requirePlace_18 : decode cX0_requirePlace 18 = .ok (.invokespecial 97, 3) := by decide +kernel
theorem dX0_requirePlace_21 : decode cX0_requirePlace 21 = .ok (.athrow, 1) := by decide +kernel
theorem dX0_requirePlace_22 : decode cX0_requirePlace 22 = .ok (.return_, 1) := by decide +kernel
theorem dX0_requireNumber_0 : decode cX0_requireNumber 0 = .ok (.iload_n 1, 1) := by decide +kernel
theorem dX0_requireNumber_1 : decode cX0_requireNumber 1 = .ok (.ifCond .lt 11, 3) := by decide +kernel
theorem dX0_requireNumber_4 : decode cX0_requireNumber 4 = .ok (.iload_n 1, 1) := by decide +kernel
theorem dX0_requireNumber_5 : decode cX0_requireNumber 5 = .ok (.aload_n 0, 1) := by decide +kernel
theorem dX0_requireNumber_6 : decode cX0_requireNumber 6 = .ok (.getfield 43, 3) := by decide +kernel
theorem dX0_requireNumber_9 : decode cX0_requireNumber 9 = .ok (.if_icmp .lt 13, 3) := by decide +kernel
theorem dX0_requireNumber_12 : decode cX0_requireNumber 12 = .ok (.new 28, 3) := by decide +kernel
theorem dX0_requireNumber_15 : decode cX0_requireNumber 15 = .ok (.dup, 1) := by decide +kernel
theorem dX0_requireNumber_16 : decode cX0_requireNumber 16 = .ok (.ldc 154, 2) := by decide +kernel
theorem dX0_requireNumber_18 : decode cX0_requireNumber 18 = .ok (.invokespecial 32, 3) := by decide +kernel
theorem dX0_requireNumber_21 : decode cX0_requireNumber 21 = .ok (.athrow, 1) := by decide +kernel
theorem dX0_requireNumber_22 : decode cX0_requireNumber 22 = .ok (.return_, 1) := by decide +kernel
theorem dX0_requireInvertible_0 : decode cX0_requireInvertible 0 = .ok (.iload_n 1, 1) := by decide +kernel
theorem dX0_requireInvertible_1 : decode cX0_requireInvertible 1 = .ok (.iconst 1, 1) := by decide +kernel
theorem dX0_requireInvertible_2 : decode cX0_requireInvertible 2 = .ok (.if_icmp .lt 11, 3) := by decide +kernel
theorem dX0_requireInvertible_5 : decode cX0_requireInvertible 5 = .ok (.iload_n 1, 1) := by decide +kernel
theorem dX0_requireInvertible_6 : decode cX0_requireInvertible 6 = .ok (.aload_n 0, 1) := by decide +kernel
theorem dX0_requireInvertible_7 : decode cX0_requireInvertible 7 = .ok (.getfield 43, 3) := by decide +kernel
theorem dX0_requireInvertible_10 : decode cX0_requireInvertible 10 = .ok (.if_icmp .lt 13, 3) := by decide +kernel
theorem dX0_requireInvertible_13 : decode cX0_requireInvertible 13 = .ok (.new 28, 3) := by decide +kernel
theorem dX0_requireInvertible_16 : decode cX0_requireInvertible 16 = .ok (.dup, 1) := by decide +kernel
theorem dX0_requireInvertible_17 : decode cX0_requireInvertible 17 = .ok (.ldc 156, 2) := by decide +kernel
theorem dX0_requireInvertible_19 : decode cX0_requireInvertible 19 = .ok (.invokespecial 32, 3) := by decide +kernel
theorem dX0_requireInvertible_22 : decode cX0_requireInvertible 22 = .ok (.athrow, 1) := by decide +kernel
theorem dX0_requireInvertible_23 : decode cX0_requireInvertible 23 = .ok (.return_, 1) := by decide +kernel
theorem dX0_isLength_0 : decode cX0_isLength 0 = .ok (.iload_n 0, 1) := by decide +kernel
theorem dX0_isLength_1 : decode cX0_isLength 1 = .ok (.iconst 4, 1) := by decide +kernel
theorem dX0_isLength_2 : decode cX0_isLength 2 = .ok (.if_icmp .eq 15, 3) := by decide +kernel
theorem dX0_isLength_5 : decode cX0_isLength 5 = .ok (.iload_n 0, 1) := by decide +kernel
theorem dX0_isLength_6 : decode cX0_isLength 6 = .ok (.bipush 8, 2) := by decide +kernel
theorem dX0_isLength_8 : decode cX0_isLength 8 = .ok (.if_icmp .eq 9, 3) := by decide +kernel
theorem dX0_isLength_11 : decode cX0_isLength 11 = .ok (.iload_n 0, 1) := by decide +kernel
theorem dX0_isLength_12 : decode cX0_isLength 12 = .ok (.bipush 16, 2) := by decide +kernel
theorem dX0_isLength_14 : decode cX0_isLength 14 = .ok (.if_icmp .ne 7, 3) := by decide +kernel
theorem dX0_isLength_17 : decode cX0_isLength 17 = .ok (.iconst 1, 1) := by decide +kernel
theorem dX0_isLength_18 : decode cX0_isLength 18 = .ok (.goto 4, 3) := by decide +kernel
theorem dX0_isLength_21 : decode cX0_isLength 21 = .ok (.iconst 0, 1) := by decide +kernel
theorem dX0_isLength_22 : decode cX0_isLength 22 = .ok (.ireturn, 1) := by decide +kernel
set_option maxRecDepth 20000 in
theorem ggX0_isPrimeOfRing_X0_divides : GoodIn wsX0_isPrimeOfRing wsX0_divides := goodIn_r _ [4] (by decide +kernel) (by decide +kernel)
set_option maxRecDepth 20000 in
theorem gX0_isPrimeOfRing_X0_divides : GoodIn wsX0_isPrimeOfRing (va_wsS RX0 24 yX0_divides wsX0_divides) := goodIn_app (goodIn_of _ (by decide +kernel)) ggX0_isPrimeOfRing_X0_divides
theorem dX0_isPrimeOfRing_0 : decode cX0_isPrimeOfRing 0 = .ok (.iload_n 0, 1) := by decide +kernel
theorem dX0_isPrimeOfRing_1 : decode cX0_isPrimeOfRing 1 = .ok (.iconst 5, 1) := by decide +kernel
theorem dX0_isPrimeOfRing_2 : decode cX0_isPrimeOfRing 2 = .ok (.if_icmp .lt 10, 3) := by decide +kernel
theorem dX0_isPrimeOfRing_5 : decode cX0_isPrimeOfRing 5 = .ok (.iload_n 0, 1) := by decide +kernel
theorem dX0_isPrimeOfRing_6 : decode cX0_isPrimeOfRing 6 = .ok (.sipush 499, 3) := by decide +kernel
theorem dX0_isPrimeOfRing_9 : decode cX0_isPrimeOfRing 9 = .ok (.if_icmp .le 5, 3) := by decide +kernel
theorem dX0_isPrimeOfRing_12 : decode cX0_isPrimeOfRing 12 = .ok (.iconst 0, 1) := by decide +kernel
theorem dX0_isPrimeOfRing_13 : decode cX0_isPrimeOfRing 13 = .ok (.ireturn, 1) := by decide +kernel
theorem dX0_isPrimeOfRing_14 : decode cX0_isPrimeOfRing 14 = .ok (.iconst 2, 1) := by decide +kernel
theorem dX0_isPrimeOfRing_15 : decode cX0_isPrimeOfRing 15 = .ok (.istore_n 1, 1) := by decide +kernel
theorem dX0_isPrimeOfRing_16 : decode cX0_isPrimeOfRing 16 = .ok (.iload_n 1, 1) := by decide +kernel
theorem dX0_isPrimeOfRing_17 : decode cX0_isPrimeOfRing 17 = .ok (.iload_n 1, 1) := by decide +kernel
theorem dX0_isPrimeOfRing_18 : decode cX0_isPrimeOfRing 18 = .ok (.imul, 1) := by decide +kernel
theorem dX0_isPrimeOfRing_19 : decode cX0_isPrimeOfRing 19 = .ok (.iload_n 0, 1) := by decide +kernel
theorem dX0_isPrimeOfRing_20 : decode cX0_isPrimeOfRing 20 = .ok (.if_icmp .gt 19, 3) := by decide +kernel
theorem dX0_isPrimeOfRing_23 : decode cX0_isPrimeOfRing 23 = .ok (.iload_n 1, 1) := by decide +kernel
theorem dX0_isPrimeOfRing_24 : decode cX0_isPrimeOfRing 24 = .ok (.iload_n 0, 1) := by decide +kernel
theorem dX0_isPrimeOfRing_25 : decode cX0_isPrimeOfRing 25 = .ok (.invokestatic 24, 3) := by decide +kernel
theorem dX0_isPrimeOfRing_28 : decode cX0_isPrimeOfRing 28 = .ok (.ifCond .eq 5, 3) := by decide +kernel
theorem dX0_isPrimeOfRing_31 : decode cX0_isPrimeOfRing 31 = .ok (.iconst 0, 1) := by decide +kernel
theorem dX0_isPrimeOfRing_32 : decode cX0_isPrimeOfRing 32 = .ok (.ireturn, 1) := by decide +kernel
theorem dX0_isPrimeOfRing_33 : decode cX0_isPrimeOfRing 33 = .ok (.iinc 1 1, 3) := by decide +kernel
theorem dX0_isPrimeOfRing_36 : decode cX0_isPrimeOfRing 36 = .ok (.goto (-20), 3) := by decide +kernel
theorem dX0_isPrimeOfRing_39 : decode cX0_isPrimeOfRing 39 = .ok (.iconst 1, 1) := by decide +kernel
theorem dX0_isPrimeOfRing_40 : decode cX0_isPrimeOfRing 40 = .ok (.ireturn, 1) := by decide +kernel
theorem dX0_divides_0 : decode cX0_divides 0 = .ok (.iload_n 0, 1) := by decide +kernel
theorem dX0_divides_1 : decode cX0_divides 1 = .ok (.ifCond .le 13, 3) := by decide +kernel
theorem dX0_divides_4 : decode cX0_divides 4 = .ok (.iload_n 1, 1) := by decide +kernel
theorem dX0_divides_5 : decode cX0_divides 5 = .ok (.iload_n 0, 1) := by decide +kernel
theorem dX0_divides_6 : decode cX0_divides 6 = .ok (.irem, 1) := by decide +kernel
theorem dX0_divides_7 : decode cX0_divides 7 = .ok (.ifCond .ne 7, 3) := by decide +kernel
theorem dX0_divides_10 : decode cX0_divides 10 = .ok (.iconst 1, 1) := by decide +kernel
theorem dX0_divides_11 : decode cX0_divides 11 = .ok (.goto 4, 3) := by decide +kernel
theorem dX0_divides_14 : decode cX0_divides 14 = .ok (.iconst 0, 1) := by decide +kernel
theorem dX0_divides_15 : decode cX0_divides 15 = .ok (.ireturn, 1) := by decide +kernel
set_option maxRecDepth 20000 in
theorem ggX0_takeRing_X0_smallestRoot : GoodIn wsX0_takeRing wsX0_smallestRoot := goodIn_r _ [12, 2, 1, 13, 14, 15, 11, 16, 17, 18, 19, 20, 21, 22, 23, 24, 29, 30, 31, 32, 33, 34, 35] (by decide +kernel) (by decide +kernel)
set_option maxRecDepth 20000 in
theorem gX0_takeRing_X0_smallestRoot : GoodIn wsX0_takeRing (wsV RX0 158 RX0 yX0_smallestRoot wsX0_smallestRoot) := goodIn_app (goodIn_of _ (by decide +kernel)) ggX0_takeRing_X0_smallestRoot
set_option maxRecDepth 20000 in
theorem ggX0_takeRing_X0_inverseOf : GoodIn wsX0_takeRing wsX0_inverseOf := goodIn_r _ [28, 2, 13, 14, 15, 11, 16, 17, 18, 19, 20, 21, 22, 23, 24, 29, 30, 31, 32, 33, 34, 35] (by decide +kernel) (by decide +kernel)
set_option maxRecDepth 20000 in
theorem gX0_takeRing_X0_inverseOf : GoodIn wsX0_takeRing (wsV RX0 50 RX0 yX0_inverseOf wsX0_inverseOf) := goodIn_app (goodIn_of _ (by decide +kernel)) ggX0_takeRing_X0_inverseOf
theorem dX0_takeRing_0 : decode cX0_takeRing 0 = .ok (.aload_n 0, 1) := by decide +kernel
theorem dX0_takeRing_1 : decode cX0_takeRing 1 = .ok (.iload_n 1, 1) := by decide +kernel
theorem dX0_takeRing_2 : decode cX0_takeRing 2 = .ok (.putfield 84, 3) := by decide +kernel
theorem dX0_takeRing_5 : decode cX0_takeRing 5 = .ok (.aload_n 0, 1) := by decide +kernel
theorem dX0_takeRing_6 : decode cX0_takeRing 6 = .ok (.iload_n 2, 1) := by decide +kernel
theorem dX0_takeRing_7 : decode cX0_takeRing 7 = .ok (.putfield 43, 3) := by decide +kernel
theorem dX0_takeRing_10 : decode cX0_takeRing 10 = .ok (.aload_n 0, 1) := by decide +kernel
theorem dX0_takeRing_11 : decode cX0_takeRing 11 = .ok (.iload_n 1, 1) := by decide +kernel
theorem dX0_takeRing_12 : decode cX0_takeRing 12 = .ok (.iconst 4, 1) := by decide +kernel
theorem dX0_takeRing_13 : decode cX0_takeRing 13 = .ok (.if_icmp .ne 7, 3) := by decide +kernel
theorem dX0_takeRing_16 : decode cX0_takeRing 16 = .ok (.iconst 2, 1) := by decide +kernel
theorem dX0_takeRing_17 : decode cX0_takeRing 17 = .ok (.goto 14, 3) := by decide +kernel
theorem dX0_takeRing_20 : decode cX0_takeRing 20 = .ok (.iload_n 1, 1) := by decide +kernel
theorem dX0_takeRing_21 : decode cX0_takeRing 21 = .ok (.bipush 8, 2) := by decide +kernel
theorem dX0_takeRing_23 : decode cX0_takeRing 23 = .ok (.if_icmp .ne 7, 3) := by decide +kernel
theorem dX0_takeRing_26 : decode cX0_takeRing 26 = .ok (.iconst 3, 1) := by decide +kernel
theorem dX0_takeRing_27 : decode cX0_takeRing 27 = .ok (.goto 4, 3) := by decide +kernel
theorem dX0_takeRing_30 : decode cX0_takeRing 30 = .ok (.iconst 4, 1) := by decide +kernel
theorem dX0_takeRing_31 : decode cX0_takeRing 31 = .ok (.putfield 90, 3) := by decide +kernel
theorem dX0_takeRing_34 : decode cX0_takeRing 34 = .ok (.aload_n 0, 1) := by decide +kernel
theorem dX0_takeRing_35 : decode cX0_takeRing 35 = .ok (.aload_n 0, 1) := by decide +kernel
theorem dX0_takeRing_36 : decode cX0_takeRing 36 = .ok (.invokevirtual 158, 3) := by decide +kernel
theorem dX0_takeRing_39 : decode cX0_takeRing 39 = .ok (.putfield 35, 3) := by decide +kernel
theorem dX0_takeRing_42 : decode cX0_takeRing 42 = .ok (.aload_n 0, 1) := by decide +kernel
theorem dX0_takeRing_43 : decode cX0_takeRing 43 = .ok (.aload_n 0, 1) := by decide +kernel
theorem dX0_takeRing_44 : decode cX0_takeRing 44 = .ok (.aload_n 0, 1) := by decide +kernel
theorem dX0_takeRing_45 : decode cX0_takeRing 45 = .ok (.getfield 35, 3) := by decide +kernel
theorem dX0_takeRing_48 : decode cX0_takeRing 48 = .ok (.invokevirtual 50, 3) := by decide +kernel
theorem dX0_takeRing_51 : decode cX0_takeRing 51 = .ok (.putfield 162, 3) := by decide +kernel
theorem dX0_takeRing_54 : decode cX0_takeRing 54 = .ok (.aload_n 0, 1) := by decide +kernel
theorem dX0_takeRing_55 : decode cX0_takeRing 55 = .ok (.aload_n 0, 1) := by decide +kernel
theorem dX0_takeRing_56 : decode cX0_takeRing 56 = .ok (.iload_n 1, 1) := by decide +kernel
theorem dX0_takeRing_57 : decode cX0_takeRing 57 = .ok (.invokevirtual 50, 3) := by decide +kernel
theorem dX0_takeRing_60 : decode cX0_takeRing 60 = .ok (.putfield 165, 3) := by decide +kernel
theorem dX0_takeRing_63 : decode cX0_takeRing 63 = .ok (.iconst 0, 1) := by decide +kernel
theorem dX0_takeRing_64 : decode cX0_takeRing 64 = .ok (.istore_n 3, 1) := by decide +kernel
theorem dX0_takeRing_65 : decode cX0_takeRing 65 = .ok (.iload_n 3, 1) := by decide +kernel
theorem dX0_takeRing_66 : decode cX0_takeRing 66 = .ok (.aload_n 0, 1) := by decide +kernel
theorem dX0_takeRing_67 : decode cX0_takeRing 67 = .ok (.getfield 9, 3) := by decide +kernel
theorem dX0_takeRing_70 : decode cX0_takeRing 70 = .ok (.arraylength, 1) := by decide +kernel
theorem dX0_takeRing_71 : decode cX0_takeRing 71 = .ok (.if_icmp .ge 16, 3) := by decide +kernel
theorem dX0_takeRing_74 : decode cX0_takeRing 74 = .ok (.aload_n 0, 1) := by decide +kernel
theorem dX0_takeRing_75 : decode cX0_takeRing 75 = .ok (.getfield 9, 3) := by decide +kernel
theorem dX0_takeRing_78 : decode cX0_takeRing 78 = .ok (.iload_n 3, 1) := by decide +kernel
theorem dX0_takeRing_79 : decode cX0_takeRing 79 = .ok (.iconst 0, 1) := by decide +kernel
theorem dX0_takeRing_80 : decode cX0_takeRing 80 = .ok (.iastore, 1) := by decide +kernel
theorem dX0_takeRing_81 : decode cX0_takeRing 81 = .ok (.iinc 3 1, 3) := by decide +kernel
theorem dX0_takeRing_84 : decode cX0_takeRing 84 = .ok (.goto (-19), 3) := by decide +kernel
theorem dX0_takeRing_87 : decode cX0_takeRing 87 = .ok (.return_, 1) := by decide +kernel
set_option maxRecDepth 20000 in
theorem ggX0_smallestRoot_X0_powerOf : GoodIn wsX0_smallestRoot wsX0_powerOf := goodIn_r _ [7, 8, 9, 10, 6, 11, 1, 12, 13, 14, 15, 16, 17, 18, 19, 20, 21, 22] (by decide +kernel) (by decide +kernel)
set_option maxRecDepth 20000 in
theorem gX0_smallestRoot_X0_powerOf : GoodIn wsX0_smallestRoot (wsV RX0 55 RX0 yX0_powerOf wsX0_powerOf) := goodIn_app (goodIn_of _ (by decide +kernel)) ggX0_smallestRoot_X0_powerOf
theorem dX0_smallestRoot_0 : decode cX0_smallestRoot 0 = .ok (.iconst 2, 1) := by decide +kernel
theorem dX0_smallestRoot_1 : decode cX0_smallestRoot 1 = .ok (.istore_n 1, 1) := by decide +kernel
theorem dX0_smallestRoot_2 : decode cX0_smallestRoot 2 = .ok (.iload_n 1, 1) := by decide +kernel
theorem dX0_smallestRoot_3 : decode cX0_smallestRoot 3 = .ok (.aload_n 0, 1) := by decide +kernel
theorem dX0_smallestRoot_4 : decode cX0_smallestRoot 4 = .ok (.getfield 43, 3) := by decide +kernel
theorem dX0_smallestRoot_7 : decode cX0_smallestRoot 7 = .ok (.iconst 1, 1) := by decide +kernel
theorem dX0_smallestRoot_8 : decode cX0_smallestRoot 8 = .ok (.isub, 1) := by decide +kernel
theorem dX0_smallestRoot_9 : decode cX0_smallestRoot 9 = .ok (.if_icmp .ge 29, 3) := by decide +kernel
theorem dX0_smallestRoot_12 : decode cX0_smallestRoot 12 = .ok (.aload_n 0, 1) := by decide +kernel
theorem dX0_smallestRoot_13 : decode cX0_smallestRoot 13 = .ok (.iload_n 1, 1) := by decide +kernel
theorem dX0_smallestRoot_14 : decode cX0_smallestRoot 14 = .ok (.aload_n 0, 1) := by decide +kernel
theorem dX0_smallestRoot_15 : decode cX0_smallestRoot 15 = .ok (.getfield 84, 3) := by decide +kernel
theorem dX0_smallestRoot_18 : decode cX0_smallestRoot 18 = .ok (.iconst 1, 1) := by decide +kernel
theorem dX0_smallestRoot_19 : decode cX0_smallestRoot 19 = .ok (.ishr, 1) := by decide +kernel
theorem dX0_smallestRoot_20 : decode cX0_smallestRoot 20 = .ok (.invokevirtual 55, 3) := by decide +kernel
theorem dX0_smallestRoot_23 : decode cX0_smallestRoot 23 = .ok (.aload_n 0, 1) := by decide +kernel
theorem dX0_smallestRoot_24 : decode cX0_smallestRoot 24 = .ok (.getfield 43, 3) := by decide +kernel
theorem dX0_smallestRoot_27 : decode cX0_smallestRoot 27 = .ok (.iconst 1, 1) := by decide +kernel
theorem dX0_smallestRoot_28 : decode cX0_smallestRoot 28 = .ok (.isub, 1) := by decide +kernel
theorem dX0_smallestRoot_29 : decode cX0_smallestRoot 29 = .ok (.if_icmp .eq 9, 3) := by decide +kernel
theorem dX0_smallestRoot_32 : decode cX0_smallestRoot 32 = .ok (.iinc 1 1, 3) := by decide +kernel
theorem dX0_smallestRoot_35 : decode cX0_smallestRoot 35 = .ok (.goto (-33), 3) := by decide +kernel
theorem dX0_smallestRoot_38 : decode cX0_smallestRoot 38 = .ok (.iload_n 1, 1) := by decide +kernel
theorem dX0_smallestRoot_39 : decode cX0_smallestRoot 39 = .ok (.ireturn, 1) := by decide +kernel
set_option maxRecDepth 20000 in
theorem ggX0_reduced_J9_floorMod_7cf53 : GoodIn wsX0_reduced wsJ9_floorMod_7cf53 := goodIn_r _ [5] (by decide +kernel) (by decide +kernel)
set_option maxRecDepth 20000 in
theorem gX0_reduced_J9_floorMod_7cf53 : GoodIn wsX0_reduced (va_wsS RX0 168 yJ9_floorMod_7cf53 wsJ9_floorMod_7cf53) := goodIn_app (goodIn_of _ (by decide +kernel)) ggX0_reduced_J9_floorMod_7cf53
theorem dX0_reduced_0 : decode cX0_reduced 0 = .ok (.aload_n 0, 1) := by decide +kernel
theorem dX0_reduced_1 : decode cX0_reduced 1 = .ok (.getfield 43, 3) := by decide +kernel
theorem dX0_reduced_4 : decode cX0_reduced 4 = .ok (.ifCond .le 14, 3) := by decide +kernel
theorem dX0_reduced_7 : decode cX0_reduced 7 = .ok (.iload_n 1, 1) := by decide +kernel
theorem dX0_reduced_8 : decode cX0_reduced 8 = .ok (.aload_n 0, 1) := by decide +kernel
theorem dX0_reduced_9 : decode cX0_reduced 9 = .ok (.getfield 43, 3) := by decide +kernel
theorem dX0_reduced_12 : decode cX0_reduced 12 = .ok (.invokestatic 168, 3) := by decide +kernel
theorem dX0_reduced_15 : decode cX0_reduced 15 = .ok (.goto 4, 3) := by decide +kernel
theorem dX0_reduced_18 : decode cX0_reduced 18 = .ok (.iconst 0, 1) := by decide +kernel
theorem dX0_reduced_19 : decode cX0_reduced 19 = .ok (.ireturn, 1) := by decide +kernel
set_option maxRecDepth 20000 in
theorem ggX0_powerOf_X0_reduced : GoodIn wsX0_powerOf wsX0_reduced := goodIn_r _ [5, 6, 7, 8, 9, 10, 11, 12, 13, 14, 15, 16, 17] (by decide +kernel) (by decide +kernel)
set_option maxRecDepth 20000 in
theorem gX0_powerOf_X0_reduced : GoodIn wsX0_powerOf (wsV RX0 46 RX0 yX0_reduced wsX0_reduced) := goodIn_app (goodIn_of _ (by decide +kernel)) ggX0_powerOf_X0_reduced
theorem dX0_powerOf_0 : decode cX0_powerOf 0 = .ok (.iconst 1, 1) := by decide +kernel
theorem dX0_powerOf_1 : decode cX0_powerOf 1 = .ok (.istore_n 3, 1) := by decide +kernel
theorem dX0_powerOf_2 : decode cX0_powerOf 2 = .ok (.iload_n 1, 1) := by decide +kernel
theorem dX0_powerOf_3 : decode cX0_powerOf 3 = .ok (.istore 4, 2) := by decide +kernel
theorem dX0_powerOf_5 : decode cX0_powerOf 5 = .ok (.iload_n 2, 1) := by decide +kernel
theorem dX0_powerOf_6 : decode cX0_powerOf 6 = .ok (.istore 5, 2) := by decide +kernel
theorem dX0_powerOf_8 : decode cX0_powerOf 8 = .ok (.iload 5, 2) := by decide +kernel
theorem dX0_powerOf_10 : decode cX0_powerOf 10 = .ok (.ifCond .le 40, 3) := by decide +kernel
theorem dX0_powerOf_13 : decode cX0_powerOf 13 = .ok (.iload 5, 2) := by decide +kernel
theorem dX0_powerOf_15 : decode cX0_powerOf 15 = .ok (.iconst 1, 1) := by decide +kernel
theorem dX0_powerOf_16 : decode cX0_powerOf 16 = .ok (.iand, 1) := by decide +kernel
theorem dX0_powerOf_17 : decode cX0_powerOf 17 = .ok (.iconst 1, 1) := by decide +kernel
theorem dX0_powerOf_18 : decode cX0_powerOf 18 = .ok (.if_icmp .ne 12, 3) := by decide +kernel
theorem dX0_powerOf_21 : decode cX0_powerOf 21 = .ok (.aload_n 0, 1) := by decide +kernel
theorem dX0_powerOf_22 : decode cX0_powerOf 22 = .ok (.iload_n 3, 1) := by decide +kernel
theorem dX0_powerOf_23 : decode cX0_powerOf 23 = .ok (.iload 4, 2) := by decide +kernel
theorem dX0_powerOf_25 : decode cX0_powerOf 25 = .ok (.imul, 1) := by decide +kernel
theorem dX0_powerOf_26 : decode cX0_powerOf 26 = .ok (.invokevirtual 46, 3) := by decide +kernel
theorem dX0_powerOf_29 : decode cX0_powerOf 29 = .ok (.istore_n 3, 1) := by decide +kernel
theorem dX0_powerOf_30 : decode cX0_powerOf 30 = .ok (.aload_n 0, 1) := by decide +kernel
theorem dX0_powerOf_31 : decode cX0_powerOf 31 = .ok (.iload 4, 2) := by decide +kernel
theorem dX0_powerOf_33 : decode cX0_powerOf 33 = .ok (.iload 4, 2) := by decide +kernel
theorem dX0_powerOf_35 : decode cX0_powerOf 35 = .ok (.imul, 1) := by decide +kernel
theorem dX0_powerOf_36 : decode cX0_powerOf 36 = .ok (.invokevirtual 46, 3) := by decide +kernel
theorem dX0_powerOf_39 : decode cX0_powerOf 39 = .ok (.istore 4, 2) := by decide +kernel
theorem dX0_powerOf_41 : decode cX0_powerOf 41 = .ok (.iload 5, 2) := by decide +kernel
theorem dX0_powerOf_43 : decode cX0_powerOf 43 = .ok (.iconst 1, 1) := by decide +kernel
theorem dX0_powerOf_44 : decode cX0_powerOf 44 = .ok (.ishr, 1) := by decide +kernel
theorem dX0_powerOf_45 : decode cX0_powerOf 45 = .ok (.istore 5, 2) := by decide +kernel
theorem dX0_powerOf_47 : decode cX0_powerOf 47 = .ok (.goto (-39), 3) := by decide +kernel
theorem dX0_powerOf_50 : decode cX0_powerOf 50 = .ok (.iload_n 3, 1) := by decide +kernel
theorem dX0_powerOf_51 : decode cX0_powerOf 51 = .ok (.ireturn, 1) := by decide +kernel
set_option maxRecDepth 20000 in
theorem ggX0_inverseOf_X0_powerOf : GoodIn wsX0_inverseOf wsX0_powerOf := goodIn_r _ [6, 7, 8, 9, 5, 10, 1, 11, 12, 13, 14, 15, 16, 17, 18, 19, 20, 21] (by decide +kernel) (by decide +kernel)
set_option maxRecDepth 20000 in
theorem gX0_inverseOf_X0_powerOf : GoodIn wsX0_inverseOf (wsV RX0 55 RX0 yX0_powerOf wsX0_powerOf) := goodIn_app (goodIn_of _ (by decide +kernel)) ggX0_inverseOf_X0_powerOf
theorem dX0_inverseOf_0 : decode cX0_inverseOf 0 = .ok (.aload_n 0, 1) := by decide +kernel
theorem dX0_inverseOf_1 : decode cX0_inverseOf 1 = .ok (.iload_n 1, 1) := by decide +kernel
theorem dX0_inverseOf_2 : decode cX0_inverseOf 2 = .ok (.aload_n 0, 1) := by decide +kernel
theorem dX0_inverseOf_3 : decode cX0_inverseOf 3 = .ok (.getfield 43, 3) := by decide +kernel
theorem dX0_inverseOf_6 : decode cX0_inverseOf 6 = .ok (.iconst 2, 1) := by decide +kernel
theorem dX0_inverseOf_7 : decode cX0_inverseOf 7 = .ok (.isub, 1) := by decide +kernel
theorem dX0_inverseOf_8 : decode cX0_inverseOf 8 = .ok (.invokevirtual 55, 3) := by decide +kernel
theorem dX0_inverseOf_11 : decode cX0_inverseOf 11 = .ok (.ireturn, 1) := by decide +kernel
set_option maxRecDepth 20000 in
theorem ggX0_joined_X0_reduced : GoodIn wsX0_joined wsX0_reduced := goodIn_r _ [5, 6, 7, 8, 9, 10, 11, 12, 13, 14, 15, 16, 17] (by decide +kernel) (by decide +kernel)
set_option maxRecDepth 20000 in
theorem gX0_joined_X0_reduced : GoodIn wsX0_joined (wsV RX0 46 RX0 yX0_reduced wsX0_reduced) := goodIn_app (goodIn_of _ (by decide +kernel)) ggX0_joined_X0_reduced
theorem dX0_joined_0 : decode cX0_joined 0 = .ok (.iload_n 3, 1) := by decide +kernel
theorem dX0_joined_1 : decode cX0_joined 1 = .ok (.ifCond .ne 11, 3) := by decide +kernel
theorem dX0_joined_4 : decode cX0_joined 4 = .ok (.aload_n 0, 1) := by decide +kernel
theorem dX0_joined_5 : decode cX0_joined 5 = .ok (.iload_n 1, 1) := by decide +kernel
theorem dX0_joined_6 : decode cX0_joined 6 = .ok (.iload_n 2, 1) := by decide +kernel
theorem dX0_joined_7 : decode cX0_joined 7 = .ok (.iadd, 1) := by decide +kernel
theorem dX0_joined_8 : decode cX0_joined 8 = .ok (.invokevirtual 46, 3) := by decide +kernel
theorem dX0_joined_11 : decode cX0_joined 11 = .ok (.ireturn, 1) := by decide +kernel
theorem dX0_joined_12 : decode cX0_joined 12 = .ok (.iload_n 3, 1) := by decide +kernel
theorem dX0_joined_13 : decode cX0_joined 13 = .ok (.iconst 1, 1) := by decide +kernel
theorem dX0_joined_14 : decode cX0_joined 14 = .ok (.if_icmp .ne 11, 3) := by decide +kernel
theorem dX0_joined_17 : decode cX0_joined 17 = .ok (.aload_n 0, 1) := by decide +kernel
theorem dX0_joined_18 : decode cX0_joined 18 = .ok (.iload_n 1, 1) := by decide +kernel
theorem dX0_joined_19 : decode cX0_joined 19 = .ok (.iload_n 2, 1) := by decide +kernel
theorem dX0_joined_20 : decode cX0_joined 20 = .ok (.isub, 1) := by decide +kernel
theorem dX0_joined_21 : decode cX0_joined 21 = .ok (.invokevirtual 46, 3) := by decide +kernel
theorem dX0_joined_24 : decode cX0_joined 24 = .ok (.ireturn, 1) := by decide +kernel
theorem dX0_joined_25 : decode cX0_joined 25 = .ok (.aload_n 0, 1) := by decide +kernel
theorem dX0_joined_26 : decode cX0_joined 26 = .ok (.iload_n 1, 1) := by decide +kernel
theorem dX0_joined_27 : decode cX0_joined 27 = .ok (.iload_n 2, 1) := by decide +kernel
theorem dX0_joined_28 : decode cX0_joined 28 = .ok (.imul, 1) := by decide +kernel
theorem dX0_joined_29 : decode cX0_joined 29 = .ok (.invokevirtual 46, 3) := by decide +kernel
theorem dX0_joined_32 : decode cX0_joined 32 = .ok (.ireturn, 1) := by decide +kernel
theorem dX0_wrapped_0 : decode cX0_wrapped 0 = .ok (.iload_n 1, 1) := by decide +kernel
theorem dX0_wrapped_1 : decode cX0_wrapped 1 = .ok (.aload_n 0, 1) := by decide +kernel
theorem dX0_wrapped_2 : decode cX0_wrapped 2 = .ok (.getfield 84, 3) := by decide +kernel
theorem dX0_wrapped_5 : decode cX0_wrapped 5 = .ok (.iconst 1, 1) := by decide +kernel
theorem dX0_wrapped_6 : decode cX0_wrapped 6 = .ok (.isub, 1) := by decide +kernel
theorem dX0_wrapped_7 : decode cX0_wrapped 7 = .ok (.iand, 1) := by decide +kernel
theorem dX0_wrapped_8 : decode cX0_wrapped 8 = .ok (.ireturn, 1) := by decide +kernel
theorem dX0_mirrored_0 : decode cX0_mirrored 0 = .ok (.iconst 0, 1) := by decide +kernel
theorem dX0_mirrored_1 : decode cX0_mirrored 1 = .ok (.istore_n 2, 1) := by decide +kernel
theorem dX0_mirrored_2 : decode cX0_mirrored 2 = .ok (.iconst 0, 1) := by decide +kernel
theorem dX0_mirrored_3 : decode cX0_mirrored 3 = .ok (.istore_n 3, 1) := by decide +kernel
theorem dX0_mirrored_4 : decode cX0_mirrored 4 = .ok (.iload_n 3, 1) := by decide +kernel
theorem dX0_mirrored_5 : decode cX0_mirrored 5 = .ok (.aload_n 0, 1) := by decide +kernel
theorem dX0_mirrored_6 : decode cX0_mirrored 6 = .ok (.getfield 90, 3) := by decide +kernel
theorem dX0_mirrored_9 : decode cX0_mirrored 9 = .ok (.if_icmp .ge 19, 3) := by decide +kernel
theorem dX0_mirrored_12 : decode cX0_mirrored 12 = .ok (.iload_n 2, 1) := by decide +kernel
theorem dX0_mirrored_13 : decode cX0_mirrored 13 = .ok (.iconst 1, 1) := by decide +kernel
theorem dX0_mirrored_14 : decode cX0_mirrored 14 = .ok (.ishl, 1) := by decide +kernel
theorem dX0_mirrored_15 : decode cX0_mirrored 15 = .ok (.iload_n 1, 1) := by decide +kernel
theorem dX0_mirrored_16 : decode cX0_mirrored 16 = .ok (.iload_n 3, 1) := by decide +kernel
theorem dX0_mirrored_17 : decode cX0_mirrored 17 = .ok (.ishr, 1) := by decide +kernel
theorem dX0_mirrored_18 : decode cX0_mirrored 18 = .ok (.iconst 1, 1) := by decide +kernel
theorem dX0_mirrored_19 : decode cX0_mirrored 19 = .ok (.iand, 1) := by decide +kernel
theorem dX0_mirrored_20 : decode cX0_mirrored 20 = .ok (.ior, 1) := by decide +kernel
theorem dX0_mirrored_21 : decode cX0_mirrored 21 = .ok (.istore_n 2, 1) := by decide +kernel
theorem dX0_mirrored_22 : decode cX0_mirrored 22 = .ok (.iinc 3 1, 3) := by decide +kernel
theorem dX0_mirrored_25 : decode cX0_mirrored 25 = .ok (.goto (-21), 3) := by decide +kernel
theorem dX0_mirrored_28 : decode cX0_mirrored 28 = .ok (.iload_n 2, 1) := by decide +kernel
theorem dX0_mirrored_29 : decode cX0_mirrored 29 = .ok (.ireturn, 1) := by decide +kernel
theorem dX0_read_0 : decode cX0_read 0 = .ok (.iload_n 1, 1) := by decide +kernel
theorem dX0_read_1 : decode cX0_read 1 = .ok (.bipush 16, 2) := by decide +kernel
theorem dX0_read_3 : decode cX0_read 3 = .ok (.imul, 1) := by decide +kernel
theorem dX0_read_4 : decode cX0_read 4 = .ok (.iload_n 2, 1) := by decide +kernel
theorem dX0_read_5 : decode cX0_read 5 = .ok (.iadd, 1) := by decide +kernel
theorem dX0_read_6 : decode cX0_read 6 = .ok (.istore_n 3, 1) := by decide +kernel
theorem dX0_read_7 : decode cX0_read 7 = .ok (.iload_n 3, 1) := by decide +kernel
theorem dX0_read_8 : decode cX0_read 8 = .ok (.ifCond .lt 21, 3) := by decide +kernel
theorem dX0_read_11 : decode cX0_read 11 = .ok (.iload_n 3, 1) := by decide +kernel
theorem dX0_read_12 : decode cX0_read 12 = .ok (.aload_n 0, 1) := by decide +kernel
theorem dX0_read_13 : decode cX0_read 13 = .ok (.getfield 9, 3) := by decide +kernel
theorem dX0_read_16 : decode cX0_read 16 = .ok (.arraylength, 1) := by decide +kernel
theorem dX0_read_17 : decode cX0_read 17 = .ok (.if_icmp .ge 12, 3) := by decide +kernel
theorem dX0_read_20 : decode cX0_read 20 = .ok (.aload_n 0, 1) := by decide +kernel
theorem dX0_read_21 : decode cX0_read 21 = .ok (.getfield 9, 3) := by decide +kernel
theorem dX0_read_24 : decode cX0_read 24 = .ok (.iload_n 3, 1) := by decide +kernel
theorem dX0_read_25 : decode cX0_read 25 = .ok (.iaload, 1) := by decide +kernel
theorem dX0_read_26 : decode cX0_read 26 = .ok (.goto 4, 3) := by decide +kernel
theorem dX0_read_29 : decode cX0_read 29 = .ok (.iconst 0, 1) := by decide +kernel
theorem dX0_read_30 : decode cX0_read 30 = .ok (.ireturn, 1) := by decide +kernel
theorem dX0_write_0 : decode cX0_write 0 = .ok (.iload_n 1, 1) := by decide +kernel
theorem dX0_write_1 : decode cX0_write 1 = .ok (.bipush 16, 2) := by decide +kernel
theorem dX0_write_3 : decode cX0_write 3 = .ok (.imul, 1) := by decide +kernel
theorem dX0_write_4 : decode cX0_write 4 = .ok (.iload_n 2, 1) := by decide +kernel
theorem dX0_write_5 : decode cX0_write 5 = .ok (.iadd, 1) := by decide +kernel
theorem dX0_write_6 : decode cX0_write 6 = .ok (.istore 4, 2) := by decide +kernel
theorem dX0_write_8 : decode cX0_write 8 = .ok (.iload 4, 2) := by decide +kernel
theorem dX0_write_10 : decode cX0_write 10 = .ok (.ifCond .lt 21, 3) := by decide +kernel
theorem dX0_write_13 : decode cX0_write 13 = .ok (.iload 4, 2) := by decide +kernel
theorem dX0_write_15 : decode cX0_write 15 = .ok (.aload_n 0, 1) := by decide +kernel
theorem dX0_write_16 : decode cX0_write 16 = .ok (.getfield 9, 3) := by decide +kernel
theorem dX0_write_19 : decode cX0_write 19 = .ok (.arraylength, 1) := by decide +kernel
theorem dX0_write_20 : decode cX0_write 20 = .ok (.if_icmp .ge 11, 3) := by decide +kernel
theorem dX0_write_23 : decode cX0_write 23 = .ok (.aload_n 0, 1) := by decide +kernel
theorem dX0_write_24 : decode cX0_write 24 = .ok (.getfield 9, 3) := by decide +kernel
theorem dX0_write_27 : decode cX0_write 27 = .ok (.iload 4, 2) := by decide +kernel
theorem dX0_write_29 : decode cX0_write 29 = .ok (.iload_n 3, 1) := by decide +kernel
theorem dX0_write_30 : decode cX0_write 30 = .ok (.iastore, 1) := by decide +kernel
theorem dX0_write_31 : decode cX0_write 31 = .ok (.return_, 1) := by decide +kernel
set_option maxRecDepth 20000 in
theorem ggX0_copyRow_X0_read : GoodIn wsX0_copyRow wsX0_read := goodIn_r _ [6, 7, 12, 13, 14, 15, 16, 17, 18] (by decide +kernel) (by decide +kernel)
set_option maxRecDepth 20000 in
theorem gX0_copyRow_X0_read : GoodIn wsX0_copyRow (wsV RX0 68 RX0 yX0_read wsX0_read) := goodIn_app (goodIn_of _ (by decide +kernel)) ggX0_copyRow_X0_read
set_option maxRecDepth 20000 in
theorem ggX0_copyRow_X0_write : GoodIn wsX0_copyRow wsX0_write := goodIn_r _ [11, 7, 12, 13, 14, 15, 16, 17, 18] (by decide +kernel) (by decide +kernel)
set_option maxRecDepth 20000 in
theorem gX0_copyRow_X0_write : GoodIn wsX0_copyRow (wsV RX0 71 RX0 yX0_write wsX0_write) := goodIn_app (goodIn_of _ (by decide +kernel)) ggX0_copyRow_X0_write
theorem dX0_copyRow_0 : decode cX0_copyRow 0 = .ok (.iconst 0, 1) := by decide +kernel
theorem dX0_copyRow_1 : decode cX0_copyRow 1 = .ok (.istore_n 3, 1) := by decide +kernel
theorem dX0_copyRow_2 : decode cX0_copyRow 2 = .ok (.iconst 0, 1) := by decide +kernel
theorem dX0_copyRow_3 : decode cX0_copyRow 3 = .ok (.istore 4, 2) := by decide +kernel
theorem dX0_copyRow_5 : decode cX0_copyRow 5 = .ok (.iload 4, 2) := by decide +kernel
theorem dX0_copyRow_7 : decode cX0_copyRow 7 = .ok (.aload_n 0, 1) := by decide +kernel
theorem dX0_copyRow_8 : decode cX0_copyRow 8 = .ok (.getfield 84, 3) := by decide +kernel
theorem dX0_copyRow_11 : decode cX0_copyRow 11 = .ok (.if_icmp .ge 42, 3) := by decide +kernel
theorem dX0_copyRow_14 : decode cX0_copyRow 14 = .ok (.aload_n 0, 1) := by decide +kernel
theorem dX0_copyRow_15 : decode cX0_copyRow 15 = .ok (.iload_n 1, 1) := by decide +kernel
theorem dX0_copyRow_16 : decode cX0_copyRow 16 = .ok (.iload 4, 2) := by decide +kernel
theorem dX0_copyRow_18 : decode cX0_copyRow 18 = .ok (.invokevirtual 68, 3) := by decide +kernel
theorem dX0_copyRow_21 : decode cX0_copyRow 21 = .ok (.istore 5, 2) := by decide +kernel
theorem dX0_copyRow_23 : decode cX0_copyRow 23 = .ok (.aload_n 0, 1) := by decide +kernel
theorem dX0_copyRow_24 : decode cX0_copyRow 24 = .ok (.iload_n 2, 1) := by decide +kernel
theorem dX0_copyRow_25 : decode cX0_copyRow 25 = .ok (.iload 4, 2) := by decide +kernel
theorem dX0_copyRow_27 : decode cX0_copyRow 27 = .ok (.invokevirtual 68, 3) := by decide +kernel
theorem dX0_copyRow_30 : decode cX0_copyRow 30 = .ok (.iload 5, 2) := by decide +kernel
theorem dX0_copyRow_32 : decode cX0_copyRow 32 = .ok (.if_icmp .eq 6, 3) := by decide +kernel
theorem dX0_copyRow_35 : decode cX0_copyRow 35 = .ok (.iinc 3 1, 3) := by decide +kernel
theorem dX0_copyRow_38 : decode cX0_copyRow 38 = .ok (.aload_n 0, 1) := by decide +kernel
theorem dX0_copyRow_39 : decode cX0_copyRow 39 = .ok (.iload_n 2, 1) := by decide +kernel
theorem dX0_copyRow_40 : decode cX0_copyRow 40 = .ok (.iload 4, 2) := by decide +kernel
theorem dX0_copyRow_42 : decode cX0_copyRow 42 = .ok (.iload 5, 2) := by decide +kernel
theorem dX0_copyRow_44 : decode cX0_copyRow 44 = .ok (.invokevirtual 71, 3) := by decide +kernel
theorem dX0_copyRow_47 : decode cX0_copyRow 47 = .ok (.iinc 4 1, 3) := by decide +kernel
theorem dX0_copyRow_50 : decode cX0_copyRow 50 = .ok (.goto (-45), 3) := by decide +kernel
theorem dX0_copyRow_53 : decode cX0_copyRow 53 = .ok (.iload_n 3, 1) := by decide +kernel
theorem dX0_copyRow_54 : decode cX0_copyRow 54 = .ok (.ireturn, 1) := by decide +kernel
set_option maxRecDepth 20000 in
theorem ggX0_butterfly_X0_read : GoodIn wsX0_butterfly wsX0_read := goodIn_r _ [5, 6, 20, 21, 22, 23, 24, 25, 26] (by decide +kernel) (by decide +kernel)
set_option maxRecDepth 20000 in
theorem gX0_butterfly_X0_read : GoodIn wsX0_butterfly (wsV RX0 68 RX0 yX0_read wsX0_read) := goodIn_app (goodIn_of _ (by decide +kernel)) ggX0_butterfly_X0_read
set_option maxRecDepth 20000 in
theorem ggX0_butterfly_X0_reduced : GoodIn wsX0_butterfly wsX0_reduced := goodIn_r _ [10, 11, 12, 13, 14, 15, 20, 21, 22, 23, 24, 25, 26] (by decide +kernel) (by decide +kernel)
set_option maxRecDepth 20000 in
theorem gX0_butterfly_X0_reduced : GoodIn wsX0_butterfly (wsV RX0 46 RX0 yX0_reduced wsX0_reduced) := goodIn_app (goodIn_of _ (by decide +kernel)) ggX0_butterfly_X0_reduced
set_option maxRecDepth 20000 in
theorem ggX0_butterfly_X0_write : GoodIn wsX0_butterfly wsX0_write := goodIn_r _ [19, 6, 20, 21, 22, 23, 24, 25, 26] (by decide +kernel) (by decide +kernel)
set_option maxRecDepth 20000 in
theorem gX0_butterfly_X0_write : GoodIn wsX0_butterfly (wsV RX0 71 RX0 yX0_write wsX0_write) := goodIn_app (goodIn_of _ (by decide +kernel)) ggX0_butterfly_X0_write
theorem dX0_butterfly_0 : decode cX0_butterfly 0 = .ok (.aload_n 0, 1) := by decide +kernel
theorem dX0_butterfly_1 : decode cX0_butterfly 1 = .ok (.iload_n 1, 1) := by decide +kernel
theorem dX0_butterfly_2 : decode cX0_butterfly 2 = .ok (.iload_n 2, 1) := by decide +kernel
theorem dX0_butterfly_3 : decode cX0_butterfly 3 = .ok (.invokevirtual 68, 3) := by decide +kernel
theorem dX0_butterfly_6 : decode cX0_butterfly 6 = .ok (.istore 5, 2) := by decide +kernel
theorem dX0_butterfly_8 : decode cX0_butterfly 8 = .ok (.aload_n 0, 1) := by decide +kernel
theorem dX0_butterfly_9 : decode cX0_butterfly 9 = .ok (.aload_n 0, 1) := by decide +kernel
theorem dX0_butterfly_10 : decode cX0_butterfly 10 = .ok (.iload_n 1, 1) := by decide +kernel
theorem dX0_butterfly_11 : decode cX0_butterfly 11 = .ok (.iload_n 3, 1) := by decide +kernel
theorem dX0_butterfly_12 : decode cX0_butterfly 12 = .ok (.invokevirtual 68, 3) := by decide +kernel
theorem dX0_butterfly_15 : decode cX0_butterfly 15 = .ok (.iload 4, 2) := by decide +kernel
theorem dX0_butterfly_17 : decode cX0_butterfly 17 = .ok (.imul, 1) := by decide +kernel
theorem dX0_butterfly_18 : decode cX0_butterfly 18 = .ok (.invokevirtual 46, 3) := by decide +kernel
theorem dX0_butterfly_21 : decode cX0_butterfly 21 = .ok (.istore 6, 2) := by decide +kernel
theorem dX0_butterfly_23 : decode cX0_butterfly 23 = .ok (.aload_n 0, 1) := by decide +kernel
theorem dX0_butterfly_24 : decode cX0_butterfly 24 = .ok (.iload_n 1, 1) := by decide +kernel
theorem dX0_butterfly_25 : decode cX0_butterfly 25 = .ok (.iload_n 2, 1) := by decide +kernel
theorem dX0_butterfly_26 : decode cX0_butterfly 26 = .ok (.aload_n 0, 1) := by decide +kernel
theorem dX0_butterfly_27 : decode cX0_butterfly 27 = .ok (.iload 5, 2) := by decide +kernel
theorem dX0_butterfly_29 : decode cX0_butterfly 29 = .ok (.iload 6, 2) := by decide +kernel
theorem dX0_butterfly_31 : decode cX0_butterfly 31 = .ok (.iadd, 1) := by decide +kernel
theorem dX0_butterfly_32 : decode cX0_butterfly 32 = .ok (.invokevirtual 46, 3) := by decide +kernel
theorem dX0_butterfly_35 : decode cX0_butterfly 35 = .ok (.invokevirtual 71, 3) := by decide +kernel
theorem dX0_butterfly_38 : decode cX0_butterfly 38 = .ok (.aload_n 0, 1) := by decide +kernel
theorem dX0_butterfly_39 : decode cX0_butterfly 39 = .ok (.iload_n 1, 1) := by decide +kernel
theorem dX0_butterfly_40 : decode cX0_butterfly 40 = .ok (.iload_n 3, 1) := by decide +kernel
theorem dX0_butterfly_41 : decode cX0_butterfly 41 = .ok (.aload_n 0, 1) := by decide +kernel
theorem dX0_butterfly_42 : decode cX0_butterfly 42 = .ok (.iload 5, 2) := by decide +kernel
theorem dX0_butterfly_44 : decode cX0_butterfly 44 = .ok (.iload 6, 2) := by decide +kernel
theorem dX0_butterfly_46 : decode cX0_butterfly 46 = .ok (.isub, 1) := by decide +kernel
theorem dX0_butterfly_47 : decode cX0_butterfly 47 = .ok (.invokevirtual 46, 3) := by decide +kernel
theorem dX0_butterfly_50 : decode cX0_butterfly 50 = .ok (.invokevirtual 71, 3) := by decide +kernel
theorem dX0_butterfly_53 : decode cX0_butterfly 53 = .ok (.return_, 1) := by decide +kernel
set_option maxRecDepth 20000 in
theorem ggX0_valueAt_X0_read : GoodIn wsX0_valueAt wsX0_read := goodIn_r _ [6, 7, 17, 18, 19, 20, 21, 22, 23] (by decide +kernel) (by decide +kernel)
set_option maxRecDepth 20000 in
theorem gX0_valueAt_X0_read : GoodIn wsX0_valueAt (wsV RX0 68 RX0 yX0_read wsX0_read) := goodIn_app (goodIn_of _ (by decide +kernel)) ggX0_valueAt_X0_read
set_option maxRecDepth 20000 in
theorem ggX0_valueAt_X0_reduced : GoodIn wsX0_valueAt wsX0_reduced := goodIn_r _ [11, 12, 13, 14, 15, 16, 17, 18, 19, 20, 21, 22, 23] (by decide +kernel) (by decide +kernel)
set_option maxRecDepth 20000 in
theorem gX0_valueAt_X0_reduced : GoodIn wsX0_valueAt (wsV RX0 46 RX0 yX0_reduced wsX0_reduced) := goodIn_app (goodIn_of _ (by decide +kernel)) ggX0_valueAt_X0_reduced
theorem dX0_valueAt_0 : decode cX0_valueAt 0 = .ok (.iconst 0, 1) := by decide +kernel
theorem dX0_valueAt_1 : decode cX0_valueAt 1 = .ok (.istore_n 3, 1) := by decide +kernel
theorem dX0_valueAt_2 : decode cX0_valueAt 2 = .ok (.aload_n 0, 1) := by decide +kernel
theorem dX0_valueAt_3 : decode cX0_valueAt 3 = .ok (.getfield 84, 3) := by decide +kernel
theorem dX0_valueAt_6 : decode cX0_valueAt 6 = .ok (.iconst 1, 1) := by decide +kernel
theorem dX0_valueAt_7 : decode cX0_valueAt 7 = .ok (.isub, 1) := by decide +kernel
theorem dX0_valueAt_8 : decode cX0_valueAt 8 = .ok (.istore 4, 2) := by decide +kernel
theorem dX0_valueAt_10 : decode cX0_valueAt 10 = .ok (.iload 4, 2) := by decide +kernel
theorem dX0_valueAt_12 : decode cX0_valueAt 12 = .ok (.ifCond .lt 25, 3) := by decide +kernel
theorem dX0_valueAt_15 : decode cX0_valueAt 15 = .ok (.aload_n 0, 1) := by decide +kernel
theorem dX0_valueAt_16 : decode cX0_valueAt 16 = .ok (.iload_n 3, 1) := by decide +kernel
theorem dX0_valueAt_17 : decode cX0_valueAt 17 = .ok (.iload_n 2, 1) := by decide +kernel
theorem dX0_valueAt_18 : decode cX0_valueAt 18 = .ok (.imul, 1) := by decide +kernel
theorem dX0_valueAt_19 : decode cX0_valueAt 19 = .ok (.aload_n 0, 1) := by decide +kernel
theorem dX0_valueAt_20 : decode cX0_valueAt 20 = .ok (.iload_n 1, 1) := by decide +kernel
theorem dX0_valueAt_21 : decode cX0_valueAt 21 = .ok (.iload 4, 2) := by decide +kernel
theorem dX0_valueAt_23 : decode cX0_valueAt 23 = .ok (.invokevirtual 68, 3) := by decide +kernel
theorem dX0_valueAt_26 : decode cX0_valueAt 26 = .ok (.iadd, 1) := by decide +kernel
theorem dX0_valueAt_27 : decode cX0_valueAt 27 = .ok (.invokevirtual 46, 3) := by decide +kernel
theorem dX0_valueAt_30 : decode cX0_valueAt 30 = .ok (.istore_n 3, 1) := by decide +kernel
theorem dX0_valueAt_31 : decode cX0_valueAt 31 = .ok (.iinc 4 (-1), 3) := by decide +kernel
theorem dX0_valueAt_34 : decode cX0_valueAt 34 = .ok (.goto (-24), 3) := by decide +kernel
theorem dX0_valueAt_37 : decode cX0_valueAt 37 = .ok (.iload_n 3, 1) := by decide +kernel
theorem dX0_valueAt_38 : decode cX0_valueAt 38 = .ok (.ireturn, 1) := by decide +kernel
set_option maxRecDepth 20000 in
theorem ggX0_scratchTones_X0_scratchValues : GoodIn wsX0_scratchTones wsX0_scratchValues := goodIn_r _ [6, 7, 8, 9, 10, 5, 11, 12, 13, 14, 15, 16, 17, 18, 19, 20, 21, 22, 23, 24, 25, 26, 27, 28, 29, 30, 31, 32, 33, 34, 35, 36] (by decide +kernel) (by decide +kernel)
set_option maxRecDepth 20000 in
theorem gX0_scratchTones_X0_scratchValues : GoodIn wsX0_scratchTones (wsV RX0 173 RX0 yX0_scratchValues wsX0_scratchValues) := goodIn_app (goodIn_of _ (by decide +kernel)) ggX0_scratchTones_X0_scratchValues
theorem dX0_scratchTones_0 : decode cX0_scratchTones 0 = .ok (.aload_n 0, 1) := by decide +kernel
theorem dX0_scratchTones_1 : decode cX0_scratchTones 1 = .ok (.iload_n 1, 1) := by decide +kernel
theorem dX0_scratchTones_2 : decode cX0_scratchTones 2 = .ok (.aload_n 0, 1) := by decide +kernel
theorem dX0_scratchTones_3 : decode cX0_scratchTones 3 = .ok (.getfield 35, 3) := by decide +kernel
theorem dX0_scratchTones_6 : decode cX0_scratchTones 6 = .ok (.iconst 1, 1) := by decide +kernel
theorem dX0_scratchTones_7 : decode cX0_scratchTones 7 = .ok (.invokevirtual 173, 3) := by decide +kernel
theorem dX0_scratchTones_10 : decode cX0_scratchTones 10 = .ok (.return_, 1) := by decide +kernel
set_option maxRecDepth 20000 in
theorem ggX0_scratchTurnedBack_X0_scratchValues : GoodIn wsX0_scratchTurnedBack wsX0_scratchValues := goodIn_r _ [7, 8, 9, 10, 11, 6, 12, 13, 14, 15, 16, 17, 18, 19, 20, 21, 22, 23, 24, 25, 26, 27, 28, 29, 30, 31, 32, 33, 34, 35, 36, 37] (by decide +kernel) (by decide +kernel)
set_option maxRecDepth 20000 in
theorem gX0_scratchTurnedBack_X0_scratchValues : GoodIn wsX0_scratchTurnedBack (wsV RX0 173 RX0 yX0_scratchValues wsX0_scratchValues) := goodIn_app (goodIn_of _ (by decide +kernel)) ggX0_scratchTurnedBack_X0_scratchValues
theorem dX0_scratchTurnedBack_0 : decode cX0_scratchTurnedBack 0 = .ok (.aload_n 0, 1) := by decide +kernel
theorem dX0_scratchTurnedBack_1 : decode cX0_scratchTurnedBack 1 = .ok (.iload_n 1, 1) := by decide +kernel
theorem dX0_scratchTurnedBack_2 : decode cX0_scratchTurnedBack 2 = .ok (.aload_n 0, 1) := by decide +kernel
theorem dX0_scratchTurnedBack_3 : decode cX0_scratchTurnedBack 3 = .ok (.getfield 162, 3) := by decide +kernel
theorem dX0_scratchTurnedBack_6 : decode cX0_scratchTurnedBack 6 = .ok (.aload_n 0, 1) := by decide +kernel
theorem dX0_scratchTurnedBack_7 : decode cX0_scratchTurnedBack 7 = .ok (.getfield 165, 3) := by decide +kernel
theorem dX0_scratchTurnedBack_10 : decode cX0_scratchTurnedBack 10 = .ok (.invokevirtual 173, 3) := by decide +kernel
theorem dX0_scratchTurnedBack_13 : decode cX0_scratchTurnedBack 13 = .ok (.return_, 1) := by decide +kernel
set_option maxRecDepth 20000 in
theorem ggX0_scratchValues_X0_valueAt : GoodIn wsX0_scratchValues wsX0_valueAt := goodIn_r _ [6, 1, 7, 8, 9, 5, 10, 11, 12, 13, 14, 15, 16, 17, 18, 19, 20, 25, 26, 27, 28, 29, 30, 31] (by decide +kernel) (by decide +kernel)
set_option maxRecDepth 20000 in
theorem gX0_scratchValues_X0_valueAt : GoodIn wsX0_scratchValues (wsV RX0 119 RX0 yX0_valueAt wsX0_valueAt) := goodIn_app (goodIn_of _ (by decide +kernel)) ggX0_scratchValues_X0_valueAt
set_option maxRecDepth 20000 in
theorem ggX0_scratchValues_X0_reduced : GoodIn wsX0_scratchValues wsX0_reduced := goodIn_r _ [15, 16, 17, 18, 19, 20, 25, 26, 27, 28, 29, 30, 31] (by decide +kernel) (by decide +kernel)
set_option maxRecDepth 20000 in
theorem gX0_scratchValues_X0_reduced : GoodIn wsX0_scratchValues (wsV RX0 46 RX0 yX0_reduced wsX0_reduced) := goodIn_app (goodIn_of _ (by decide +kernel)) ggX0_scratchValues_X0_reduced
set_option maxRecDepth 20000 in
theorem ggX0_scratchValues_X0_write : GoodIn wsX0_scratchValues wsX0_write := goodIn_r _ [24, 11, 25, 26, 27, 28, 29, 30, 31] (by decide +kernel) (by decide +kernel)
set_option maxRecDepth 20000 in
theorem gX0_scratchValues_X0_write : GoodIn wsX0_scratchValues (wsV RX0 71 RX0 yX0_write wsX0_write) := goodIn_app (goodIn_of _ (by decide +kernel)) ggX0_scratchValues_X0_write
theorem dX0_scratchValues_0 : decode cX0_scratchValues 0 = .ok (.iconst 1, 1) := by decide +kernel
theorem dX0_scratchValues_1 : decode cX0_scratchValues 1 = .ok (.istore 4, 2) := by decide +kernel
theorem dX0_scratchValues_3 : decode cX0_scratchValues 3 = .ok (.iconst 0, 1) := by decide +kernel
theorem dX0_scratchValues_4 : decode cX0_scratchValues 4 = .ok (.istore 5, 2) := by decide +kernel
theorem dX0_scratchValues_6 : decode cX0_scratchValues 6 = .ok (.iload 5, 2) := by decide +kernel
theorem dX0_scratchValues_8 : decode cX0_scratchValues 8 = .ok (.aload_n 0, 1) := by decide +kernel
theorem dX0_scratchValues_9 : decode cX0_scratchValues 9 = .ok (.getfield 84, 3) := by decide +kernel
theorem dX0_scratchValues_12 : decode cX0_scratchValues 12 = .ok (.if_icmp .ge 39, 3) := by decide +kernel
theorem dX0_scratchValues_15 : decode cX0_scratchValues 15 = .ok (.aload_n 0, 1) := by decide +kernel
theorem dX0_scratchValues_16 : decode cX0_scratchValues 16 = .ok (.iconst 4, 1) := by decide +kernel
theorem dX0_scratchValues_17 : decode cX0_scratchValues 17 = .ok (.iload 5, 2) := by decide +kernel
theorem dX0_scratchValues_19 : decode cX0_scratchValues 19 = .ok (.aload_n 0, 1) := by decide +kernel
theorem dX0_scratchValues_20 : decode cX0_scratchValues 20 = .ok (.aload_n 0, 1) := by decide +kernel
theorem dX0_scratchValues_21 : decode cX0_scratchValues 21 = .ok (.iload_n 1, 1) := by decide +kernel
theorem dX0_scratchValues_22 : decode cX0_scratchValues 22 = .ok (.iload 4, 2) := by decide +kernel
theorem dX0_scratchValues_24 : decode cX0_scratchValues 24 = .ok (.invokevirtual 119, 3) := by decide +kernel
theorem dX0_scratchValues_27 : decode cX0_scratchValues 27 = .ok (.iload_n 3, 1) := by decide +kernel
theorem dX0_scratchValues_28 : decode cX0_scratchValues 28 = .ok (.imul, 1) := by decide +kernel
theorem dX0_scratchValues_29 : decode cX0_scratchValues 29 = .ok (.invokevirtual 46, 3) := by decide +kernel
theorem dX0_scratchValues_32 : decode cX0_scratchValues 32 = .ok (.invokevirtual 71, 3) := by decide +kernel
theorem dX0_scratchValues_35 : decode cX0_scratchValues 35 = .ok (.aload_n 0, 1) := by decide +kernel
theorem dX0_scratchValues_36 : decode cX0_scratchValues 36 = .ok (.iload 4, 2) := by decide +kernel
theorem dX0_scratchValues_38 : decode cX0_scratchValues 38 = .ok (.iload_n 2, 1) := by decide +kernel
theorem dX0_scratchValues_39 : decode cX0_scratchValues 39 = .ok (.imul, 1) := by decide +kernel
theorem dX0_scratchValues_40 : decode cX0_scratchValues 40 = .ok (.invokevirtual 46, 3) := by decide +kernel
theorem dX0_scratchValues_43 : decode cX0_scratchValues 43 = .ok (.istore 4, 2) := by decide +kernel
theorem dX0_scratchValues_45 : decode cX0_scratchValues 45 = .ok (.iinc 5 1, 3) := by decide +kernel
theorem dX0_scratchValues_48 : decode cX0_scratchValues 48 = .ok (.goto (-42), 3) := by decide +kernel
theorem dX0_scratchValues_51 : decode cX0_scratchValues 51 = .ok (.return_, 1) := by decide +kernel
set_option maxRecDepth 20000 in
theorem ggX0_foldedAt_X0_read : GoodIn wsX0_foldedAt wsX0_read := goodIn_r _ [6, 7, 21, 22, 23, 24, 25, 26, 27] (by decide +kernel) (by decide +kernel)
set_option maxRecDepth 20000 in
theorem gX0_foldedAt_X0_read : GoodIn wsX0_foldedAt (wsV RX0 68 RX0 yX0_read wsX0_read) := goodIn_app (goodIn_of _ (by decide +kernel)) ggX0_foldedAt_X0_read
set_option maxRecDepth 20000 in
theorem ggX0_foldedAt_X0_wrapped : GoodIn wsX0_foldedAt wsX0_wrapped := goodIn_r _ [11, 1, 21, 22, 23, 24, 25, 26, 27] (by decide +kernel) (by decide +kernel)
set_option maxRecDepth 20000 in
theorem gX0_foldedAt_X0_wrapped : GoodIn wsX0_foldedAt (wsV RX0 116 RX0 yX0_wrapped wsX0_wrapped) := goodIn_app (goodIn_of _ (by decide +kernel)) ggX0_foldedAt_X0_wrapped
set_option maxRecDepth 20000 in
theorem ggX0_foldedAt_X0_reduced : GoodIn wsX0_foldedAt wsX0_reduced := goodIn_r _ [15, 16, 17, 18, 19, 20, 21, 22, 23, 24, 25, 26, 27] (by decide +kernel) (by decide +kernel)
set_option maxRecDepth 20000 in
theorem gX0_foldedAt_X0_reduced : GoodIn wsX0_foldedAt (wsV RX0 46 RX0 yX0_reduced wsX0_reduced) := goodIn_app (goodIn_of _ (by decide +kernel)) ggX0_foldedAt_X0_reduced
theorem dX0_foldedAt_0 : decode cX0_foldedAt 0 = .ok (.iconst 0, 1) := by decide +kernel
theorem dX0_foldedAt_1 : decode cX0_foldedAt 1 = .ok (.istore 4, 2) := by decide +kernel
theorem dX0_foldedAt_3 : decode cX0_foldedAt 3 = .ok (.iconst 0, 1) := by decide +kernel
theorem dX0_foldedAt_4 : decode cX0_foldedAt 4 = .ok (.istore 5, 2) := by decide +kernel
theorem dX0_foldedAt_6 : decode cX0_foldedAt 6 = .ok (.iload 5, 2) := by decide +kernel
theorem dX0_foldedAt_8 : decode cX0_foldedAt 8 = .ok (.aload_n 0, 1) := by decide +kernel
theorem dX0_foldedAt_9 : decode cX0_foldedAt 9 = .ok (.getfield 84, 3) := by decide +kernel
theorem dX0_foldedAt_12 : decode cX0_foldedAt 12 = .ok (.if_icmp .ge 39, 3) := by decide +kernel
theorem dX0_foldedAt_15 : decode cX0_foldedAt 15 = .ok (.aload_n 0, 1) := by decide +kernel
theorem dX0_foldedAt_16 : decode cX0_foldedAt 16 = .ok (.iload 4, 2) := by decide +kernel
theorem dX0_foldedAt_18 : decode cX0_foldedAt 18 = .ok (.aload_n 0, 1) := by decide +kernel
theorem dX0_foldedAt_19 : decode cX0_foldedAt 19 = .ok (.iload_n 1, 1) := by decide +kernel
theorem dX0_foldedAt_20 : decode cX0_foldedAt 20 = .ok (.iload 5, 2) := by decide +kernel
theorem dX0_foldedAt_22 : decode cX0_foldedAt 22 = .ok (.invokevirtual 68, 3) := by decide +kernel
theorem dX0_foldedAt_25 : decode cX0_foldedAt 25 = .ok (.aload_n 0, 1) := by decide +kernel
theorem dX0_foldedAt_26 : decode cX0_foldedAt 26 = .ok (.iload_n 2, 1) := by decide +kernel
theorem dX0_foldedAt_27 : decode cX0_foldedAt 27 = .ok (.aload_n 0, 1) := by decide +kernel
theorem dX0_foldedAt_28 : decode cX0_foldedAt 28 = .ok (.iload_n 3, 1) := by decide +kernel
theorem dX0_foldedAt_29 : decode cX0_foldedAt 29 = .ok (.iload 5, 2) := by decide +kernel
theorem dX0_foldedAt_31 : decode cX0_foldedAt 31 = .ok (.isub, 1) := by decide +kernel
theorem dX0_foldedAt_32 : decode cX0_foldedAt 32 = .ok (.invokevirtual 116, 3) := by decide +kernel
theorem dX0_foldedAt_35 : decode cX0_foldedAt 35 = .ok (.invokevirtual 68, 3) := by decide +kernel
theorem dX0_foldedAt_38 : decode cX0_foldedAt 38 = .ok (.imul, 1) := by decide +kernel
theorem dX0_foldedAt_39 : decode cX0_foldedAt 39 = .ok (.iadd, 1) := by decide +kernel
theorem dX0_foldedAt_40 : decode cX0_foldedAt 40 = .ok (.invokevirtual 46, 3) := by decide +kernel
theorem dX0_foldedAt_43 : decode cX0_foldedAt 43 = .ok (.istore 4, 2) := by decide +kernel
theorem dX0_foldedAt_45 : decode cX0_foldedAt 45 = .ok (.iinc 5 1, 3) := by decide +kernel
theorem dX0_foldedAt_48 : decode cX0_foldedAt 48 = .ok (.goto (-42), 3) := by decide +kernel
theorem dX0_foldedAt_51 : decode cX0_foldedAt 51 = .ok (.iload 4, 2) := by decide +kernel
theorem dX0_foldedAt_53 : decode cX0_foldedAt 53 = .ok (.ireturn, 1) := by decide +kernel
set_option maxRecDepth 20000 in
theorem ggX0_isWhenMoved_X0_wrapped : GoodIn wsX0_isWhenMoved wsX0_wrapped := goodIn_r _ [6, 1, 12, 13, 14, 15, 16, 17, 18] (by decide +kernel) (by decide +kernel)
set_option maxRecDepth 20000 in
theorem gX0_isWhenMoved_X0_wrapped : GoodIn wsX0_isWhenMoved (wsV RX0 116 RX0 yX0_wrapped wsX0_wrapped) := goodIn_app (goodIn_of _ (by decide +kernel)) ggX0_isWhenMoved_X0_wrapped
set_option maxRecDepth 20000 in
theorem ggX0_isWhenMoved_X0_read : GoodIn wsX0_isWhenMoved wsX0_read := goodIn_r _ [10, 11, 12, 13, 14, 15, 16, 17, 18] (by decide +kernel) (by decide +kernel)
set_option maxRecDepth 20000 in
theorem gX0_isWhenMoved_X0_read : GoodIn wsX0_isWhenMoved (wsV RX0 68 RX0 yX0_read wsX0_read) := goodIn_app (goodIn_of _ (by decide +kernel)) ggX0_isWhenMoved_X0_read
theorem dX0_isWhenMoved_0 : decode cX0_isWhenMoved 0 = .ok (.iconst 0, 1) := by decide +kernel
theorem dX0_isWhenMoved_1 : decode cX0_isWhenMoved 1 = .ok (.istore 4, 2) := by decide +kernel
theorem dX0_isWhenMoved_3 : decode cX0_isWhenMoved 3 = .ok (.iload 4, 2) := by decide +kernel
theorem dX0_isWhenMoved_5 : decode cX0_isWhenMoved 5 = .ok (.aload_n 0, 1) := by decide +kernel
theorem dX0_isWhenMoved_6 : decode cX0_isWhenMoved 6 = .ok (.getfield 84, 3) := by decide +kernel
theorem dX0_isWhenMoved_9 : decode cX0_isWhenMoved 9 = .ok (.if_icmp .ge 34, 3) := by decide +kernel
theorem dX0_isWhenMoved_12 : decode cX0_isWhenMoved 12 = .ok (.aload_n 0, 1) := by decide +kernel
theorem dX0_isWhenMoved_13 : decode cX0_isWhenMoved 13 = .ok (.iload_n 3, 1) := by decide +kernel
theorem dX0_isWhenMoved_14 : decode cX0_isWhenMoved 14 = .ok (.aload_n 0, 1) := by decide +kernel
theorem dX0_isWhenMoved_15 : decode cX0_isWhenMoved 15 = .ok (.iload 4, 2) := by decide +kernel
theorem dX0_isWhenMoved_17 : decode cX0_isWhenMoved 17 = .ok (.iload_n 2, 1) := by decide +kernel
theorem dX0_isWhenMoved_18 : decode cX0_isWhenMoved 18 = .ok (.iadd, 1) := by decide +kernel
theorem dX0_isWhenMoved_19 : decode cX0_isWhenMoved 19 = .ok (.invokevirtual 116, 3) := by decide +kernel
theorem dX0_isWhenMoved_22 : decode cX0_isWhenMoved 22 = .ok (.invokevirtual 68, 3) := by decide +kernel
theorem dX0_isWhenMoved_25 : decode cX0_isWhenMoved 25 = .ok (.aload_n 0, 1) := by decide +kernel
theorem dX0_isWhenMoved_26 : decode cX0_isWhenMoved 26 = .ok (.iload_n 1, 1) := by decide +kernel
theorem dX0_isWhenMoved_27 : decode cX0_isWhenMoved 27 = .ok (.iload 4, 2) := by decide +kernel
theorem dX0_isWhenMoved_29 : decode cX0_isWhenMoved 29 = .ok (.invokevirtual 68, 3) := by decide +kernel
theorem dX0_isWhenMoved_32 : decode cX0_isWhenMoved 32 = .ok (.if_icmp .eq 5, 3) := by decide +kernel
theorem dX0_isWhenMoved_35 : decode cX0_isWhenMoved 35 = .ok (.iconst 0, 1) := by decide +kernel
theorem dX0_isWhenMoved_36 : decode cX0_isWhenMoved 36 = .ok (.ireturn, 1) := by decide +kernel
theorem dX0_isWhenMoved_37 : decode cX0_isWhenMoved 37 = .ok (.iinc 4 1, 3) := by decide +kernel
theorem dX0_isWhenMoved_40 : decode cX0_isWhenMoved 40 = .ok (.goto (-37), 3) := by decide +kernel
theorem dX0_isWhenMoved_43 : decode cX0_isWhenMoved 43 = .ok (.iconst 1, 1) := by decide +kernel
theorem dX0_isWhenMoved_44 : decode cX0_isWhenMoved 44 = .ok (.ireturn, 1) := by decide +kernel
theorem dX0_counted_0 : decode cX0_counted 0 = .ok (.iload_n 1, 1) := by decide +kernel
theorem dX0_counted_1 : decode cX0_counted 1 = .ok (.tableswitch 60 0 4 #[35, 40, 45, 50, 55], 35) := by decide +kernel
theorem dX0_counted_36 : decode cX0_counted 36 = .ok (.aload_n 0, 1) := by decide +kernel
theorem dX0_counted_37 : decode cX0_counted 37 = .ok (.getfield 84, 3) := by decide +kernel
theorem dX0_counted_40 : decode cX0_counted 40 = .ok (.ireturn, 1) := by decide +kernel
theorem dX0_counted_41 : decode cX0_counted 41 = .ok (.aload_n 0, 1) := by decide +kernel
theorem dX0_counted_42 : decode cX0_counted 42 = .ok (.getfield 43, 3) := by decide +kernel
theorem dX0_counted_45 : decode cX0_counted 45 = .ok (.ireturn, 1) := by decide +kernel
theorem dX0_counted_46 : decode cX0_counted 46 = .ok (.aload_n 0, 1) := by decide +kernel
theorem dX0_counted_47 : decode cX0_counted 47 = .ok (.getfield 35, 3) := by decide +kernel
theorem dX0_counted_50 : decode cX0_counted 50 = .ok (.ireturn, 1) := by decide +kernel
theorem dX0_counted_51 : decode cX0_counted 51 = .ok (.aload_n 0, 1) := by decide +kernel
theorem dX0_counted_52 : decode cX0_counted 52 = .ok (.getfield 162, 3) := by decide +kernel
theorem dX0_counted_55 : decode cX0_counted 55 = .ok (.ireturn, 1) := by decide +kernel
theorem dX0_counted_56 : decode cX0_counted 56 = .ok (.aload_n 0, 1) := by decide +kernel
theorem dX0_counted_57 : decode cX0_counted 57 = .ok (.getfield 165, 3) := by decide +kernel
theorem dX0_counted_60 : decode cX0_counted 60 = .ok (.ireturn, 1) := by decide +kernel
theorem dX0_counted_61 : decode cX0_counted 61 = .ok (.aload_n 0, 1) := by decide +kernel
theorem dX0_counted_62 : decode cX0_counted 62 = .ok (.getfield 90, 3) := by decide +kernel
theorem dX0_counted_65 : decode cX0_counted 65 = .ok (.ireturn, 1) := by decide +kernel
set_option maxRecDepth 20000 in
theorem ggX0_told_X0_plainSum : GoodIn wsX0_told wsX0_plainSum := goodIn_r _ [5, 6, 7, 8, 9, 4, 10, 11, 49, 50, 51, 52, 53, 54, 55] (by decide +kernel) (by decide +kernel)
set_option maxRecDepth 20000 in
theorem gX0_told_X0_plainSum : GoodIn wsX0_told (wsV RX0 139 RX0 yX0_plainSum wsX0_plainSum) := goodIn_app (goodIn_of _ (by decide +kernel)) ggX0_told_X0_plainSum
set_option maxRecDepth 20000 in
theorem ggX0_told_X0_reduced : GoodIn wsX0_told wsX0_reduced := goodIn_r _ [15, 16, 17, 18, 19, 20, 49, 50, 51, 52, 53, 54, 55] (by decide +kernel) (by decide +kernel)
set_option maxRecDepth 20000 in
theorem gX0_told_X0_reduced : GoodIn wsX0_told (wsV RX0 46 RX0 yX0_reduced wsX0_reduced) := goodIn_app (goodIn_of _ (by decide +kernel)) ggX0_told_X0_reduced
set_option maxRecDepth 20000 in
theorem ggX0_told_X0_nonZeros : GoodIn wsX0_told wsX0_nonZeros := goodIn_r _ [24, 6, 7, 8, 9, 4, 10, 11, 49, 50, 51, 52, 53, 54, 55] (by decide +kernel) (by decide +kernel)
set_option maxRecDepth 20000 in
theorem gX0_told_X0_nonZeros : GoodIn wsX0_told (wsV RX0 111 RX0 yX0_nonZeros wsX0_nonZeros) := goodIn_app (goodIn_of _ (by decide +kernel)) ggX0_told_X0_nonZeros
set_option maxRecDepth 20000 in
theorem ggX0_told_X0_lastNonZero : GoodIn wsX0_told wsX0_lastNonZero := goodIn_r _ [28, 6, 7, 8, 9, 4, 10, 11, 49, 50, 51, 52, 53, 54, 55] (by decide +kernel) (by decide +kernel)
set_option maxRecDepth 20000 in
theorem gX0_told_X0_lastNonZero : GoodIn wsX0_told (wsV RX0 176 RX0 yX0_lastNonZero wsX0_lastNonZero) := goodIn_app (goodIn_of _ (by decide +kernel)) ggX0_told_X0_lastNonZero
set_option maxRecDepth 20000 in
theorem ggX0_told_X0_period : GoodIn wsX0_told wsX0_period := goodIn_r _ [32, 6, 33, 34, 35, 4, 36, 37, 38, 39, 40, 7, 8, 9, 10, 11, 49, 50, 51, 52, 53, 54, 55] (by decide +kernel) (by decide +kernel)
set_option maxRecDepth 20000 in
theorem gX0_told_X0_period : GoodIn wsX0_told (wsV RX0 179 RX0 yX0_period wsX0_period) := goodIn_app (goodIn_of _ (by decide +kernel)) ggX0_told_X0_period
set_option maxRecDepth 20000 in
theorem ggX0_told_X0_greatestNumber : GoodIn wsX0_told wsX0_greatestNumber := goodIn_r _ [44, 6, 45, 46, 47, 48, 7, 8, 9, 4, 10, 11, 49, 50, 51, 52, 53, 54, 55] (by decide +kernel) (by decide +kernel)
set_option maxRecDepth 20000 in
theorem gX0_told_X0_greatestNumber : GoodIn wsX0_told (wsV RX0 182 RX0 yX0_greatestNumber wsX0_greatestNumber) := goodIn_app (goodIn_of _ (by decide +kernel)) ggX0_told_X0_greatestNumber
theorem dX0_told_0 : decode cX0_told 0 = .ok (.iload_n 2, 1) := by decide +kernel
theorem dX0_told_1 : decode cX0_told 1 = .ok (.tableswitch 59 0 3 #[31, 41, 47, 53], 31) := by decide +kernel
theorem dX0_told_32 : decode cX0_told 32 = .ok (.aload_n 0, 1) := by decide +kernel
theorem dX0_told_33 : decode cX0_told 33 = .ok (.aload_n 0, 1) := by decide +kernel
theorem dX0_told_34 : decode cX0_told 34 = .ok (.iload_n 1, 1) := by decide +kernel
theorem dX0_told_35 : decode cX0_told 35 = .ok (.invokevirtual 139, 3) := by decide +kernel
theorem dX0_told_38 : decode cX0_told 38 = .ok (.invokevirtual 46, 3) := by decide +kernel
theorem dX0_told_41 : decode cX0_told 41 = .ok (.ireturn, 1) := by decide +kernel
theorem dX0_told_42 : decode cX0_told 42 = .ok (.aload_n 0, 1) := by decide +kernel
theorem dX0_told_43 : decode cX0_told 43 = .ok (.iload_n 1, 1) := by decide +kernel
theorem dX0_told_44 : decode cX0_told 44 = .ok (.invokevirtual 111, 3) := by decide +kernel
theorem dX0_told_47 : decode cX0_told 47 = .ok (.ireturn, 1) := by decide +kernel
theorem dX0_told_48 : decode cX0_told 48 = .ok (.aload_n 0, 1) := by decide +kernel
theorem dX0_told_49 : decode cX0_told 49 = .ok (.iload_n 1, 1) := by decide +kernel
theorem dX0_told_50 : decode cX0_told 50 = .ok (.invokevirtual 176, 3) := by decide +kernel
theorem dX0_told_53 : decode cX0_told 53 = .ok (.ireturn, 1) := by decide +kernel
theorem dX0_told_54 : decode cX0_told 54 = .ok (.aload_n 0, 1) := by decide +kernel
theorem dX0_told_55 : decode cX0_told 55 = .ok (.iload_n 1, 1) := by decide +kernel
theorem dX0_told_56 : decode cX0_told 56 = .ok (.invokevirtual 179, 3) := by decide +kernel
theorem dX0_told_59 : decode cX0_told 59 = .ok (.ireturn, 1) := by decide +kernel
theorem dX0_told_60 : decode cX0_told 60 = .ok (.aload_n 0, 1) := by decide +kernel
theorem dX0_told_61 : decode cX0_told 61 = .ok (.iload_n 1, 1) := by decide +kernel
theorem dX0_told_62 : decode cX0_told 62 = .ok (.invokevirtual 182, 3) := by decide +kernel
theorem dX0_told_65 : decode cX0_told 65 = .ok (.ireturn, 1) := by decide +kernel
set_option maxRecDepth 20000 in
theorem ggX0_plainSum_X0_read : GoodIn wsX0_plainSum wsX0_read := goodIn_r _ [6, 7, 8, 9, 10, 11, 12, 13, 14] (by decide +kernel) (by decide +kernel)
set_option maxRecDepth 20000 in
theorem gX0_plainSum_X0_read : GoodIn wsX0_plainSum (wsV RX0 68 RX0 yX0_read wsX0_read) := goodIn_app (goodIn_of _ (by decide +kernel)) ggX0_plainSum_X0_read
theorem dX0_plainSum_0 : decode cX0_plainSum 0 = .ok (.iconst 0, 1) := by decide +kernel
theorem dX0_plainSum_1 : decode cX0_plainSum 1 = .ok (.istore_n 2, 1) := by decide +kernel
theorem dX0_plainSum_2 : decode cX0_plainSum 2 = .ok (.iconst 0, 1) := by decide +kernel
theorem dX0_plainSum_3 : decode cX0_plainSum 3 = .ok (.istore_n 3, 1) := by decide +kernel
theorem dX0_plainSum_4 : decode cX0_plainSum 4 = .ok (.iload_n 3, 1) := by decide +kernel
theorem dX0_plainSum_5 : decode cX0_plainSum 5 = .ok (.aload_n 0, 1) := by decide +kernel
theorem dX0_plainSum_6 : decode cX0_plainSum 6 = .ok (.getfield 84, 3) := by decide +kernel
theorem dX0_plainSum_9 : decode cX0_plainSum 9 = .ok (.if_icmp .ge 18, 3) := by decide +kernel
theorem dX0_plainSum_12 : decode cX0_plainSum 12 = .ok (.iload_n 2, 1) := by decide +kernel
theorem dX0_plainSum_13 : decode cX0_plainSum 13 = .ok (.aload_n 0, 1) := by decide +kernel
theorem dX0_plainSum_14 : decode cX0_plainSum 14 = .ok (.iload_n 1, 1) := by decide +kernel
theorem dX0_plainSum_15 : decode cX0_plainSum 15 = .ok (.iload_n 3, 1) := by decide +kernel
theorem dX0_plainSum_16 : decode cX0_plainSum 16 = .ok (.invokevirtual 68, 3) := by decide +kernel
theorem dX0_plainSum_19 : decode cX0_plainSum 19 = .ok (.iadd, 1) := by decide +kernel
theorem dX0_plainSum_20 : decode cX0_plainSum 20 = .ok (.istore_n 2, 1) := by decide +kernel
theorem dX0_plainSum_21 : decode cX0_plainSum 21 = .ok (.iinc 3 1, 3) := by decide +kernel
theorem dX0_plainSum_24 : decode cX0_plainSum 24 = .ok (.goto (-20), 3) := by decide +kernel
theorem dX0_plainSum_27 : decode cX0_plainSum 27 = .ok (.iload_n 2, 1) := by decide +kernel
theorem dX0_plainSum_28 : decode cX0_plainSum 28 = .ok (.ireturn, 1) := by decide +kernel
set_option maxRecDepth 20000 in
theorem ggX0_nonZeros_X0_read : GoodIn wsX0_nonZeros wsX0_read := goodIn_r _ [6, 7, 8, 9, 10, 11, 12, 13, 14] (by decide +kernel) (by decide +kernel)
set_option maxRecDepth 20000 in
theorem gX0_nonZeros_X0_read : GoodIn wsX0_nonZeros (wsV RX0 68 RX0 yX0_read wsX0_read) := goodIn_app (goodIn_of _ (by decide +kernel)) ggX0_nonZeros_X0_read
theorem dX0_nonZeros_0 : decode cX0_nonZeros 0 = .ok (.iconst 0, 1) := by decide +kernel
theorem dX0_nonZeros_1 : decode cX0_nonZeros 1 = .ok (.istore_n 2, 1) := by decide +kernel
theorem dX0_nonZeros_2 : decode cX0_nonZeros 2 = .ok (.iconst 0, 1) := by decide +kernel
theorem dX0_nonZeros_3 : decode cX0_nonZeros 3 = .ok (.istore_n 3, 1) := by decide +kernel
theorem dX0_nonZeros_4 : decode cX0_nonZeros 4 = .ok (.iload_n 3, 1) := by decide +kernel
theorem dX0_nonZeros_5 : decode cX0_nonZeros 5 = .ok (.aload_n 0, 1) := by decide +kernel
theorem dX0_nonZeros_6 : decode cX0_nonZeros 6 = .ok (.getfield 84, 3) := by decide +kernel
theorem dX0_nonZeros_9 : decode cX0_nonZeros 9 = .ok (.if_icmp .ge 21, 3) := by decide +kernel
theorem dX0_nonZeros_12 : decode cX0_nonZeros 12 = .ok (.aload_n 0, 1) := by decide +kernel
theorem dX0_nonZeros_13 : decode cX0_nonZeros 13 = .ok (.iload_n 1, 1) := by decide +kernel
theorem dX0_nonZeros_14 : decode cX0_nonZeros 14 = .ok (.iload_n 3, 1) := by decide +kernel
theorem dX0_nonZeros_15 : decode cX0_nonZeros 15 = .ok (.invokevirtual 68, 3) := by decide +kernel
theorem dX0_nonZeros_18 : decode cX0_nonZeros 18 = .ok (.ifCond .eq 6, 3) := by decide +kernel
theorem dX0_nonZeros_21 : decode cX0_nonZeros 21 = .ok (.iinc 2 1, 3) := by decide +kernel
theorem dX0_nonZeros_24 : decode cX0_nonZeros 24 = .ok (.iinc 3 1, 3) := by decide +kernel
theorem dX0_nonZeros_27 : decode cX0_nonZeros 27 = .ok (.goto (-23), 3) := by decide +kernel
theorem dX0_nonZeros_30 : decode cX0_nonZeros 30 = .ok (.iload_n 2, 1) := by decide +kernel
theorem dX0_nonZeros_31 : decode cX0_nonZeros 31 = .ok (.ireturn, 1) := by decide +kernel
set_option maxRecDepth 20000 in
theorem ggX0_lastNonZero_X0_read : GoodIn wsX0_lastNonZero wsX0_read := goodIn_r _ [6, 7, 8, 9, 10, 11, 12, 13, 14] (by decide +kernel) (by decide +kernel)
set_option maxRecDepth 20000 in
theorem gX0_lastNonZero_X0_read : GoodIn wsX0_lastNonZero (wsV RX0 68 RX0 yX0_read wsX0_read) := goodIn_app (goodIn_of _ (by decide +kernel)) ggX0_lastNonZero_X0_read
theorem dX0_lastNonZero_0 : decode cX0_lastNonZero 0 = .ok (.aload_n 0, 1) := by decide +kernel
theorem dX0_lastNonZero_1 : decode cX0_lastNonZero 1 = .ok (.getfield 84, 3) := by decide +kernel
theorem dX0_lastNonZero_4 : decode cX0_lastNonZero 4 = .ok (.iconst 1, 1) := by decide +kernel
theorem dX0_lastNonZero_5 : decode cX0_lastNonZero 5 = .ok (.isub, 1) := by decide +kernel
theorem dX0_lastNonZero_6 : decode cX0_lastNonZero 6 = .ok (.istore_n 2, 1) := by decide +kernel
theorem dX0_lastNonZero_7 : decode cX0_lastNonZero 7 = .ok (.iload_n 2, 1) := by decide +kernel
theorem dX0_lastNonZero_8 : decode cX0_lastNonZero 8 = .ok (.ifCond .lt 20, 3) := by decide +kernel
theorem dX0_lastNonZero_11 : decode cX0_lastNonZero 11 = .ok (.aload_n 0, 1) := by decide +kernel
theorem dX0_lastNonZero_12 : decode cX0_lastNonZero 12 = .ok (.iload_n 1, 1) := by decide +kernel
theorem dX0_lastNonZero_13 : decode cX0_lastNonZero 13 = .ok (.iload_n 2, 1) := by decide +kernel
theorem dX0_lastNonZero_14 : decode cX0_lastNonZero 14 = .ok (.invokevirtual 68, 3) := by decide +kernel
theorem dX0_lastNonZero_17 : decode cX0_lastNonZero 17 = .ok (.ifCond .eq 5, 3) := by decide +kernel
theorem dX0_lastNonZero_20 : decode cX0_lastNonZero 20 = .ok (.iload_n 2, 1) := by decide +kernel
theorem dX0_lastNonZero_21 : decode cX0_lastNonZero 21 = .ok (.ireturn, 1) := by decide +kernel
theorem dX0_lastNonZero_22 : decode cX0_lastNonZero 22 = .ok (.iinc 2 (-1), 3) := by decide +kernel
theorem dX0_lastNonZero_25 : decode cX0_lastNonZero 25 = .ok (.goto (-18), 3) := by decide +kernel
theorem dX0_lastNonZero_28 : decode cX0_lastNonZero 28 = .ok (.iconst (-1), 1) := by decide +kernel
theorem dX0_lastNonZero_29 : decode cX0_lastNonZero 29 = .ok (.ireturn, 1) := by decide +kernel
set_option maxRecDepth 20000 in
theorem ggX0_period_X0_isWhenMoved : GoodIn wsX0_period wsX0_isWhenMoved := goodIn_r _ [6, 1, 7, 8, 9, 5, 10, 11, 12, 13, 14, 15, 16, 17, 18, 19, 20, 21, 22] (by decide +kernel) (by decide +kernel)
set_option maxRecDepth 20000 in
theorem gX0_period_X0_isWhenMoved : GoodIn wsX0_period (wsV RX0 132 RX0 yX0_isWhenMoved wsX0_isWhenMoved) := goodIn_app (goodIn_of _ (by decide +kernel)) ggX0_period_X0_isWhenMoved
theorem dX0_period_0 : decode cX0_period 0 = .ok (.iconst 1, 1) := by decide +kernel
theorem dX0_period_1 : decode cX0_period 1 = .ok (.istore_n 2, 1) := by decide +kernel
theorem dX0_period_2 : decode cX0_period 2 = .ok (.iload_n 2, 1) := by decide +kernel
theorem dX0_period_3 : decode cX0_period 3 = .ok (.aload_n 0, 1) := by decide +kernel
theorem dX0_period_4 : decode cX0_period 4 = .ok (.getfield 84, 3) := by decide +kernel
theorem dX0_period_7 : decode cX0_period 7 = .ok (.if_icmp .ge 21, 3) := by decide +kernel
theorem dX0_period_10 : decode cX0_period 10 = .ok (.aload_n 0, 1) := by decide +kernel
theorem dX0_period_11 : decode cX0_period 11 = .ok (.iload_n 1, 1) := by decide +kernel
theorem dX0_period_12 : decode cX0_period 12 = .ok (.iload_n 2, 1) := by decide +kernel
theorem dX0_period_13 : decode cX0_period 13 = .ok (.iload_n 1, 1) := by decide +kernel
theorem dX0_period_14 : decode cX0_period 14 = .ok (.invokevirtual 132, 3) := by decide +kernel
theorem dX0_period_17 : decode cX0_period 17 = .ok (.ifCond .eq 5, 3) := by decide +kernel
theorem dX0_period_20 : decode cX0_period 20 = .ok (.iload_n 2, 1) := by decide +kernel
theorem dX0_period_21 : decode cX0_period 21 = .ok (.ireturn, 1) := by decide +kernel
theorem dX0_period_22 : decode cX0_period 22 = .ok (.iinc 2 1, 3) := by decide +kernel
theorem dX0_period_25 : decode cX0_period 25 = .ok (.goto (-23), 3) := by decide +kernel
theorem dX0_period_28 : decode cX0_period 28 = .ok (.aload_n 0, 1) := by decide +kernel
theorem dX0_period_29 : decode cX0_period 29 = .ok (.getfield 84, 3) := by decide +kernel
theorem dX0_period_32 : decode cX0_period 32 = .ok (.ireturn, 1) := by decide +kernel
set_option maxRecDepth 20000 in
theorem ggX0_greatestNumber_X0_read : GoodIn wsX0_greatestNumber wsX0_read := goodIn_r _ [10, 11, 12, 13, 14, 15, 16, 17, 18] (by decide +kernel) (by decide +kernel)
set_option maxRecDepth 20000 in
theorem gX0_greatestNumber_X0_read : GoodIn wsX0_greatestNumber (wsV RX0 68 RX0 yX0_read wsX0_read) := goodIn_app (goodIn_of _ (by decide +kernel)) ggX0_greatestNumber_X0_read
theorem dX0_greatestNumber_0 : decode cX0_greatestNumber 0 = .ok (.iconst 0, 1) := by decide +kernel
theorem dX0_greatestNumber_1 : decode cX0_greatestNumber 1 = .ok (.istore_n 2, 1) := by decide +kernel
theorem dX0_greatestNumber_2 : decode cX0_greatestNumber 2 = .ok (.iconst 0, 1) := by decide +kernel
theorem dX0_greatestNumber_3 : decode cX0_greatestNumber 3 = .ok (.istore_n 3, 1) := by decide +kernel
theorem dX0_greatestNumber_4 : decode cX0_greatestNumber 4 = .ok (.iload_n 3, 1) := by decide +kernel
theorem dX0_greatestNumber_5 : decode cX0_greatestNumber 5 = .ok (.aload_n 0, 1) := by decide +kernel
theorem dX0_greatestNumber_6 : decode cX0_greatestNumber 6 = .ok (.getfield 84, 3) := by decide +kernel
theorem dX0_greatestNumber_9 : decode cX0_greatestNumber 9 = .ok (.if_icmp .ge 20, 3) := by decide +kernel
theorem dX0_greatestNumber_12 : decode cX0_greatestNumber 12 = .ok (.iload_n 2, 1) := by decide +kernel
theorem dX0_greatestNumber_13 : decode cX0_greatestNumber 13 = .ok (.aload_n 0, 1) := by decide +kernel
theorem dX0_greatestNumber_14 : decode cX0_greatestNumber 14 = .ok (.iload_n 1, 1) := by decide +kernel
theorem dX0_greatestNumber_15 : decode cX0_greatestNumber 15 = .ok (.iload_n 3, 1) := by decide +kernel
theorem dX0_greatestNumber_16 : decode cX0_greatestNumber 16 = .ok (.invokevirtual 68, 3) := by decide +kernel
theorem dX0_greatestNumber_19 : decode cX0_greatestNumber 19 = .ok (.invokestatic 185, 3) := by decide +kernel
theorem dX0_greatestNumber_22 : decode cX0_greatestNumber 22 = .ok (.istore_n 2, 1) := by decide +kernel
theorem dX0_greatestNumber_23 : decode cX0_greatestNumber 23 = .ok (.iinc 3 1, 3) := by decide +kernel
theorem dX0_greatestNumber_26 : decode cX0_greatestNumber 26 = .ok (.goto (-22), 3) := by decide +kernel
theorem dX0_greatestNumber_29 : decode cX0_greatestNumber 29 = .ok (.iload_n 2, 1) := by decide +kernel
theorem dX0_greatestNumber_30 : decode cX0_greatestNumber 30 = .ok (.ireturn, 1) := by decide +kernel
set_option maxRecDepth 20000 in
theorem ggX0_digestRow_X0_read : GoodIn wsX0_digestRow wsX0_read := goodIn_r _ [7, 8, 9, 10, 11, 12, 13, 14, 15] (by decide +kernel) (by decide +kernel)
set_option maxRecDepth 20000 in
theorem gX0_digestRow_X0_read : GoodIn wsX0_digestRow (wsV RX0 68 RX0 yX0_read wsX0_read) := goodIn_app (goodIn_of _ (by decide +kernel)) ggX0_digestRow_X0_read
theorem dX0_digestRow_0 : decode cX0_digestRow 0 = .ok (.lload_n 1, 1) := by decide +kernel
theorem dX0_digestRow_1 : decode cX0_digestRow 1 = .ok (.lstore 4, 2) := by decide +kernel
theorem dX0_digestRow_3 : decode cX0_digestRow 3 = .ok (.iconst 0, 1) := by decide +kernel
theorem dX0_digestRow_4 : decode cX0_digestRow 4 = .ok (.istore 6, 2) := by decide +kernel
theorem dX0_digestRow_6 : decode cX0_digestRow 6 = .ok (.iload 6, 2) := by decide +kernel
theorem dX0_digestRow_8 : decode cX0_digestRow 8 = .ok (.aload_n 0, 1) := by decide +kernel
theorem dX0_digestRow_9 : decode cX0_digestRow 9 = .ok (.getfield 84, 3) := by decide +kernel
theorem dX0_digestRow_12 : decode cX0_digestRow 12 = .ok (.if_icmp .ge 26, 3) := by decide +kernel
theorem dX0_digestRow_15 : decode cX0_digestRow 15 = .ok (.lload 4, 2) := by decide +kernel
theorem dX0_digestRow_17 : decode cX0_digestRow 17 = .ok (.ldc2_w 144, 3) := by decide +kernel
theorem dX0_digestRow_20 : decode cX0_digestRow 20 = .ok (.lmul, 1) := by decide +kernel
theorem dX0_digestRow_21 : decode cX0_digestRow 21 = .ok (.aload_n 0, 1) := by decide +kernel
theorem dX0_digestRow_22 : decode cX0_digestRow 22 = .ok (.iload_n 3, 1) := by decide +kernel
theorem dX0_digestRow_23 : decode cX0_digestRow 23 = .ok (.iload 6, 2) := by decide +kernel
theorem dX0_digestRow_25 : decode cX0_digestRow 25 = .ok (.invokevirtual 68, 3) := by decide +kernel
theorem dX0_digestRow_28 : decode cX0_digestRow 28 = .ok (.i2l, 1) := by decide +kernel
theorem dX0_digestRow_29 : decode cX0_digestRow 29 = .ok (.ladd, 1) := by decide +kernel
theorem dX0_digestRow_30 : decode cX0_digestRow 30 = .ok (.lstore 4, 2) := by decide +kernel
theorem dX0_digestRow_32 : decode cX0_digestRow 32 = .ok (.iinc 6 1, 3) := by decide +kernel
theorem dX0_digestRow_35 : decode cX0_digestRow 35 = .ok (.goto (-29), 3) := by decide +kernel
theorem dX0_digestRow_38 : decode cX0_digestRow 38 = .ok (.lload 4, 2) := by decide +kernel
theorem dX0_digestRow_40 : decode cX0_digestRow 40 = .ok (.lreturn, 1) := by decide +kernel
theorem dJ9_floorMod_7cf53_0 : decode cJ9_floorMod_7cf53 0 = .ok (.iload_n 0, 1) := by decide +kernel
theorem dJ9_floorMod_7cf53_1 : decode cJ9_floorMod_7cf53 1 = .ok (.iload_n 1, 1) := by decide +kernel
theorem dJ9_floorMod_7cf53_2 : decode cJ9_floorMod_7cf53 2 = .ok (.irem, 1) := by decide +kernel
theorem dJ9_floorMod_7cf53_3 : decode cJ9_floorMod_7cf53 3 = .ok (.istore_n 2, 1) := by decide +kernel
theorem dJ9_floorMod_7cf53_4 : decode cJ9_floorMod_7cf53 4 = .ok (.iload_n 0, 1) := by decide +kernel
theorem dJ9_floorMod_7cf53_5 : decode cJ9_floorMod_7cf53 5 = .ok (.iload_n 1, 1) := by decide +kernel
theorem dJ9_floorMod_7cf53_6 : decode cJ9_floorMod_7cf53 6 = .ok (.ixor, 1) := by decide +kernel
theorem dJ9_floorMod_7cf53_7 : decode cJ9_floorMod_7cf53 7 = .ok (.ifCond .ge 11, 3) := by decide +kernel
theorem dJ9_floorMod_7cf53_10 : decode cJ9_floorMod_7cf53 10 = .ok (.iload_n 2, 1) := by decide +kernel
theorem dJ9_floorMod_7cf53_11 : decode cJ9_floorMod_7cf53 11 = .ok (.ifCond .eq 7, 3) := by decide +kernel
theorem dJ9_floorMod_7cf53_14 : decode cJ9_floorMod_7cf53 14 = .ok (.iload_n 2, 1) := by decide +kernel
theorem dJ9_floorMod_7cf53_15 : decode cJ9_floorMod_7cf53 15 = .ok (.iload_n 1, 1) := by decide +kernel
theorem dJ9_floorMod_7cf53_16 : decode cJ9_floorMod_7cf53 16 = .ok (.iadd, 1) := by decide +kernel
theorem dJ9_floorMod_7cf53_17 : decode cJ9_floorMod_7cf53 17 = .ok (.ireturn, 1) := by decide +kernel
theorem dJ9_floorMod_7cf53_18 : decode cJ9_floorMod_7cf53 18 = .ok (.iload_n 2, 1) := by decide +kernel
theorem dJ9_floorMod_7cf53_19 : decode cJ9_floorMod_7cf53 19 = .ok (.ireturn, 1) := by decide +kernel
theorem dJ9_max_7cf53_0 : decode cJ9_max_7cf53 0 = .ok (.iload_n 0, 1) := by decide +kernel
theorem dJ9_max_7cf53_1 : decode cJ9_max_7cf53 1 = .ok (.iload_n 1, 1) := by decide +kernel
theorem dJ9_max_7cf53_2 : decode cJ9_max_7cf53 2 = .ok (.if_icmp .lt 7, 3) := by decide +kernel
theorem dJ9_max_7cf53_5 : decode cJ9_max_7cf53 5 = .ok (.iload_n 0, 1) := by decide +kernel
theorem dJ9_max_7cf53_6 : decode cJ9_max_7cf53 6 = .ok (.goto 4, 3) := by decide +kernel
theorem dJ9_max_7cf53_9 : decode cJ9_max_7cf53 9 = .ok (.iload_n 1, 1) := by decide +kernel
theorem dJ9_max_7cf53_10 : decode cJ9_max_7cf53 10 = .ok (.ireturn, 1) := by decide +kernel
