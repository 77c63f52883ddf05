theorem dX1_init_0 : decode cX1_init 0 = .ok (.aload_n 0, 1) := by decide +kernel
theorem dX1_init_1 : decode cX1_init 1 = .ok (.invokespecial 1, 3) := by decide +kernel
theorem dX1_init_4 : decode cX1_init 4 = .ok (.aload_n 0, 1) := by decide +kernel
theorem dX1_init_5 : decode cX1_init 5 = .ok (.bipush 8, 2) := by decide +kernel
theorem dX1_init_7 : decode cX1_init 7 = .ok (.putfield 7, 3) := by decide +kernel
theorem dX1_init_10 : decode cX1_init 10 = .ok (.aload_n 0, 1) := by decide +kernel
theorem dX1_init_11 : decode cX1_init 11 = .ok (.bipush 17, 2) := by decide +kernel
theorem dX1_init_13 : decode cX1_init 13 = .ok (.putfield 13, 3) := by decide +kernel
theorem dX1_init_16 : decode cX1_init 16 = .ok (.aload_n 0, 1) := by decide +kernel
theorem dX1_init_17 : decode cX1_init 17 = .ok (.iconst 2, 1) := by decide +kernel
theorem dX1_init_18 : decode cX1_init 18 = .ok (.putfield 16, 3) := by decide +kernel
theorem dX1_init_21 : decode cX1_init 21 = .ok (.aload_n 0, 1) := by decide +kernel
theorem dX1_init_22 : decode cX1_init 22 = .ok (.iconst 4, 1) := by decide +kernel
theorem dX1_init_23 : decode cX1_init 23 = .ok (.bipush 8, 2) := by decide +kernel
theorem dX1_init_25 : decode cX1_init 25 = .ok (.multianewarray 19 2, 4) := by decide +kernel
theorem dX1_init_29 : decode cX1_init 29 = .ok (.putfield 21, 3) := by decide +kernel
theorem dX1_init_32 : decode cX1_init 32 = .ok (.return_, 1) := by decide +kernel
theorem dX1_power_0 : decode cX1_power 0 = .ok (.iconst 1, 1) := by decide +kernel
theorem dX1_power_1 : decode cX1_power 1 = .ok (.istore_n 3, 1) := by decide +kernel
theorem dX1_power_2 : decode cX1_power 2 = .ok (.iconst 0, 1) := by decide +kernel
theorem dX1_power_3 : decode cX1_power 3 = .ok (.istore 4, 2) := by decide +kernel
theorem dX1_power_5 : decode cX1_power 5 = .ok (.iload 4, 2) := by decide +kernel
theorem dX1_power_7 : decode cX1_power 7 = .ok (.iload_n 2, 1) := by decide +kernel
theorem dX1_power_8 : decode cX1_power 8 = .ok (.if_icmp .ge 18, 3) := by decide +kernel
theorem dX1_power_11 : decode cX1_power 11 = .ok (.iload_n 3, 1) := by decide +kernel
theorem dX1_power_12 : decode cX1_power 12 = .ok (.iload_n 1, 1) := by decide +kernel
theorem dX1_power_13 : decode cX1_power 13 = .ok (.imul, 1) := by decide +kernel
theorem dX1_power_14 : decode cX1_power 14 = .ok (.aload_n 0, 1) := by decide +kernel
theorem dX1_power_15 : decode cX1_power 15 = .ok (.getfield 13, 3) := by decide +kernel
theorem dX1_power_18 : decode cX1_power 18 = .ok (.irem, 1) := by decide +kernel
theorem dX1_power_19 : decode cX1_power 19 = .ok (.istore_n 3, 1) := by decide +kernel
theorem dX1_power_20 : decode cX1_power 20 = .ok (.iinc 4 1, 3) := by decide +kernel
theorem dX1_power_23 : decode cX1_power 23 = .ok (.goto (-18), 3) := by decide +kernel
theorem dX1_power_26 : decode cX1_power 26 = .ok (.iload_n 3, 1) := by decide +kernel
theorem dX1_power_27 : decode cX1_power 27 = .ok (.ireturn, 1) := by decide +kernel
theorem dX1_order_0 : decode cX1_order 0 = .ok (.iconst 1, 1) := by decide +kernel
theorem dX1_order_1 : decode cX1_order 1 = .ok (.istore_n 2, 1) := by decide +kernel
theorem dX1_order_2 : decode cX1_order 2 = .ok (.iload_n 1, 1) := by decide +kernel
theorem dX1_order_3 : decode cX1_order 3 = .ok (.istore_n 3, 1) := by decide +kernel
theorem dX1_order_4 : decode cX1_order 4 = .ok (.iload_n 3, 1) := by decide +kernel
theorem dX1_order_5 : decode cX1_order 5 = .ok (.iconst 1, 1) := by decide +kernel
theorem dX1_order_6 : decode cX1_order 6 = .ok (.if_icmp .eq 18, 3) := by decide +kernel
theorem dX1_order_9 : decode cX1_order 9 = .ok (.iinc 2 1, 3) := by decide +kernel
theorem dX1_order_12 : decode cX1_order 12 = .ok (.iload_n 3, 1) := by decide +kernel
theorem dX1_order_13 : decode cX1_order 13 = .ok (.iload_n 1, 1) := by decide +kernel
theorem dX1_order_14 : decode cX1_order 14 = .ok (.imul, 1) := by decide +kernel
theorem dX1_order_15 : decode cX1_order 15 = .ok (.aload_n 0, 1) := by decide +kernel
theorem dX1_order_16 : decode cX1_order 16 = .ok (.getfield 13, 3) := by decide +kernel
theorem dX1_order_19 : decode cX1_order 19 = .ok (.irem, 1) := by decide +kernel
theorem dX1_order_20 : decode cX1_order 20 = .ok (.istore_n 3, 1) := by decide +kernel
theorem dX1_order_21 : decode cX1_order 21 = .ok (.goto (-17), 3) := by decide +kernel
theorem dX1_order_24 : decode cX1_order 24 = .ok (.iload_n 2, 1) := by decide +kernel
theorem dX1_order_25 : decode cX1_order 25 = .ok (.ireturn, 1) := by decide +kernel
theorem dX1_inverse_0 : decode cX1_inverse 0 = .ok (.iconst 1, 1) := by decide +kernel
theorem dX1_inverse_1 : decode cX1_inverse 1 = .ok (.istore_n 2, 1) := by decide +kernel
theorem dX1_inverse_2 : decode cX1_inverse 2 = .ok (.iload_n 2, 1) := by decide +kernel
theorem dX1_inverse_3 : decode cX1_inverse 3 = .ok (.iload_n 1, 1) := by decide +kernel
theorem dX1_inverse_4 : decode cX1_inverse 4 = .ok (.imul, 1) := by decide +kernel
theorem dX1_inverse_5 : decode cX1_inverse 5 = .ok (.aload_n 0, 1) := by decide +kernel
theorem dX1_inverse_6 : decode cX1_inverse 6 = .ok (.getfield 13, 3) := by decide +kernel
theorem dX1_inverse_9 : decode cX1_inverse 9 = .ok (.irem, 1) := by decide +kernel
theorem dX1_inverse_10 : decode cX1_inverse 10 = .ok (.iconst 1, 1) := by decide +kernel
theorem dX1_inverse_11 : decode cX1_inverse 11 = .ok (.if_icmp .eq 9, 3) := by decide +kernel
theorem dX1_inverse_14 : decode cX1_inverse 14 = .ok (.iinc 2 1, 3) := by decide +kernel
theorem dX1_inverse_17 : decode cX1_inverse 17 = .ok (.goto (-15), 3) := by decide +kernel
theorem dX1_inverse_20 : decode cX1_inverse 20 = .ok (.iload_n 2, 1) := by decide +kernel
theorem dX1_inverse_21 : decode cX1_inverse 21 = .ok (.ireturn, 1) := by decide +kernel
set_option maxRecDepth 20000 in
theorem ggX1_ring_X1_order : GoodIn wsX1_ring wsX1_order := goodIn_r _ [11, 2, 12, 13, 14, 15] (by decide +kernel) (by decide +kernel)
set_option maxRecDepth 20000 in
theorem gX1_ring_X1_order : GoodIn wsX1_ring (wsV RX1 24 RX1 yX1_order wsX1_order) := goodIn_app (goodIn_of _ (by decide +kernel)) ggX1_ring_X1_order
theorem dX1_ring_0 : decode cX1_ring 0 = .ok (.aload_n 0, 1) := by decide +kernel
theorem dX1_ring_1 : decode cX1_ring 1 = .ok (.iload_n 1, 1) := by decide +kernel
theorem dX1_ring_2 : decode cX1_ring 2 = .ok (.putfield 7, 3) := by decide +kernel
theorem dX1_ring_5 : decode cX1_ring 5 = .ok (.aload_n 0, 1) := by decide +kernel
theorem dX1_ring_6 : decode cX1_ring 6 = .ok (.iload_n 2, 1) := by decide +kernel
theorem dX1_ring_7 : decode cX1_ring 7 = .ok (.putfield 13, 3) := by decide +kernel
theorem dX1_ring_10 : decode cX1_ring 10 = .ok (.aload_n 0, 1) := by decide +kernel
theorem dX1_ring_11 : decode cX1_ring 11 = .ok (.iconst 2, 1) := by decide +kernel
theorem dX1_ring_12 : decode cX1_ring 12 = .ok (.putfield 16, 3) := by decide +kernel
theorem dX1_ring_15 : decode cX1_ring 15 = .ok (.aload_n 0, 1) := by decide +kernel
theorem dX1_ring_16 : decode cX1_ring 16 = .ok (.aload_n 0, 1) := by decide +kernel
theorem dX1_ring_17 : decode cX1_ring 17 = .ok (.getfield 16, 3) := by decide +kernel
theorem dX1_ring_20 : decode cX1_ring 20 = .ok (.invokevirtual 24, 3) := by decide +kernel
theorem dX1_ring_23 : decode cX1_ring 23 = .ok (.aload_n 0, 1) := by decide +kernel
theorem dX1_ring_24 : decode cX1_ring 24 = .ok (.getfield 7, 3) := by decide +kernel
theorem dX1_ring_27 : decode cX1_ring 27 = .ok (.if_icmp .eq 16, 3) := by decide +kernel
theorem dX1_ring_30 : decode cX1_ring 30 = .ok (.aload_n 0, 1) := by decide +kernel
theorem dX1_ring_31 : decode cX1_ring 31 = .ok (.dup, 1) := by decide +kernel
theorem dX1_ring_32 : decode cX1_ring 32 = .ok (.getfield 16, 3) := by decide +kernel
theorem dX1_ring_35 : decode cX1_ring 35 = .ok (.iconst 1, 1) := by decide +kernel
theorem dX1_ring_36 : decode cX1_ring 36 = .ok (.iadd, 1) := by decide +kernel
theorem dX1_ring_37 : decode cX1_ring 37 = .ok (.putfield 16, 3) := by decide +kernel
theorem dX1_ring_40 : decode cX1_ring 40 = .ok (.goto (-25), 3) := by decide +kernel
theorem dX1_ring_43 : decode cX1_ring 43 = .ok (.aload_n 0, 1) := by decide +kernel
theorem dX1_ring_44 : decode cX1_ring 44 = .ok (.iconst 4, 1) := by decide +kernel
theorem dX1_ring_45 : decode cX1_ring 45 = .ok (.aload_n 0, 1) := by decide +kernel
theorem dX1_ring_46 : decode cX1_ring 46 = .ok (.getfield 7, 3) := by decide +kernel
theorem dX1_ring_49 : decode cX1_ring 49 = .ok (.multianewarray 19 2, 4) := by decide +kernel
theorem dX1_ring_53 : decode cX1_ring 53 = .ok (.putfield 21, 3) := by decide +kernel
theorem dX1_ring_56 : decode cX1_ring 56 = .ok (.aload_n 0, 1) := by decide +kernel
theorem dX1_ring_57 : decode cX1_ring 57 = .ok (.getfield 16, 3) := by decide +kernel
theorem dX1_ring_60 : decode cX1_ring 60 = .ok (.ireturn, 1) := by decide +kernel
set_option maxRecDepth 20000 in
theorem ggX1_tones_X1_power : GoodIn wsX1_tones wsX1_power := goodIn_r _ [9, 4, 10, 11, 12, 13] (by decide +kernel) (by decide +kernel)
set_option maxRecDepth 20000 in
theorem gX1_tones_X1_power : GoodIn wsX1_tones (wsV RX1 28 RX1 yX1_power wsX1_power) := goodIn_app (goodIn_of _ (by decide +kernel)) ggX1_tones_X1_power
theorem dX1_tones_0 : decode cX1_tones 0 = .ok (.aload_n 0, 1) := by decide +kernel
theorem dX1_tones_1 : decode cX1_tones 1 = .ok (.getfield 7, 3) := by decide +kernel
theorem dX1_tones_4 : decode cX1_tones 4 = .ok (.newarray .int, 2) := by decide +kernel
theorem dX1_tones_6 : decode cX1_tones 6 = .ok (.astore_n 2, 1) := by decide +kernel
theorem dX1_tones_7 : decode cX1_tones 7 = .ok (.iconst 0, 1) := by decide +kernel
theorem dX1_tones_8 : decode cX1_tones 8 = .ok (.istore_n 3, 1) := by decide +kernel
theorem dX1_tones_9 : decode cX1_tones 9 = .ok (.iload_n 3, 1) := by decide +kernel
theorem dX1_tones_10 : decode cX1_tones 10 = .ok (.aload_n 0, 1) := by decide +kernel
theorem dX1_tones_11 : decode cX1_tones 11 = .ok (.getfield 7, 3) := by decide +kernel
theorem dX1_tones_14 : decode cX1_tones 14 = .ok (.if_icmp .ge 61, 3) := by decide +kernel
theorem dX1_tones_17 : decode cX1_tones 17 = .ok (.iconst 0, 1) := by decide +kernel
theorem dX1_tones_18 : decode cX1_tones 18 = .ok (.istore 4, 2) := by decide +kernel
theorem dX1_tones_20 : decode cX1_tones 20 = .ok (.iload 4, 2) := by decide +kernel
theorem dX1_tones_22 : decode cX1_tones 22 = .ok (.aload_n 0, 1) := by decide +kernel
theorem dX1_tones_23 : decode cX1_tones 23 = .ok (.getfield 7, 3) := by decide +kernel
theorem dX1_tones_26 : decode cX1_tones 26 = .ok (.if_icmp .ge 43, 3) := by decide +kernel
theorem dX1_tones_29 : decode cX1_tones 29 = .ok (.aload_n 2, 1) := by decide +kernel
theorem dX1_tones_30 : decode cX1_tones 30 = .ok (.iload_n 3, 1) := by decide +kernel
theorem dX1_tones_31 : decode cX1_tones 31 = .ok (.aload_n 2, 1) := by decide +kernel
theorem dX1_tones_32 : decode cX1_tones 32 = .ok (.iload_n 3, 1) := by decide +kernel
theorem dX1_tones_33 : decode cX1_tones 33 = .ok (.iaload, 1) := by decide +kernel
theorem dX1_tones_34 : decode cX1_tones 34 = .ok (.aload_n 1, 1) := by decide +kernel
theorem dX1_tones_35 : decode cX1_tones 35 = .ok (.iload 4, 2) := by decide +kernel
theorem dX1_tones_37 : decode cX1_tones 37 = .ok (.iaload, 1) := by decide +kernel
theorem dX1_tones_38 : decode cX1_tones 38 = .ok (.aload_n 0, 1) := by decide +kernel
theorem dX1_tones_39 : decode cX1_tones 39 = .ok (.aload_n 0, 1) := by decide +kernel
theorem dX1_tones_40 : decode cX1_tones 40 = .ok (.getfield 16, 3) := by decide +kernel
theorem dX1_tones_43 : decode cX1_tones 43 = .ok (.iload 4, 2) := by decide +kernel
theorem dX1_tones_45 : decode cX1_tones 45 = .ok (.iload_n 3, 1) := by decide +kernel
theorem dX1_tones_46 : decode cX1_tones 46 = .ok (.imul, 1) := by decide +kernel
theorem dX1_tones_47 : decode cX1_tones 47 = .ok (.aload_n 0, 1) := by decide +kernel
theorem dX1_tones_48 : decode cX1_tones 48 = .ok (.getfield 7, 3) := by decide +kernel
theorem dX1_tones_51 : decode cX1_tones 51 = .ok (.irem, 1) := by decide +kernel
theorem dX1_tones_52 : decode cX1_tones 52 = .ok (.invokevirtual 28, 3) := by decide +kernel
theorem dX1_tones_55 : decode cX1_tones 55 = .ok (.imul, 1) := by decide +kernel
theorem dX1_tones_56 : decode cX1_tones 56 = .ok (.iadd, 1) := by decide +kernel
theorem dX1_tones_57 : decode cX1_tones 57 = .ok (.aload_n 0, 1) := by decide +kernel
theorem dX1_tones_58 : decode cX1_tones 58 = .ok (.getfield 13, 3) := by decide +kernel
theorem dX1_tones_61 : decode cX1_tones 61 = .ok (.irem, 1) := by decide +kernel
theorem dX1_tones_62 : decode cX1_tones 62 = .ok (.iastore, 1) := by decide +kernel
theorem dX1_tones_63 : decode cX1_tones 63 = .ok (.iinc 4 1, 3) := by decide +kernel
theorem dX1_tones_66 : decode cX1_tones 66 = .ok (.goto (-46), 3) := by decide +kernel
theorem dX1_tones_69 : decode cX1_tones 69 = .ok (.iinc 3 1, 3) := by decide +kernel
theorem dX1_tones_72 : decode cX1_tones 72 = .ok (.goto (-63), 3) := by decide +kernel
theorem dX1_tones_75 : decode cX1_tones 75 = .ok (.aload_n 2, 1) := by decide +kernel
theorem dX1_tones_76 : decode cX1_tones 76 = .ok (.areturn, 1) := by decide +kernel
set_option maxRecDepth 20000 in
theorem ggX1_back_X1_power : GoodIn wsX1_back wsX1_power := goodIn_r _ [9, 4, 14, 15, 16, 17] (by decide +kernel) (by decide +kernel)
set_option maxRecDepth 20000 in
theorem gX1_back_X1_power : GoodIn wsX1_back (wsV RX1 28 RX1 yX1_power wsX1_power) := goodIn_app (goodIn_of _ (by decide +kernel)) ggX1_back_X1_power
set_option maxRecDepth 20000 in
theorem ggX1_back_X1_inverse : GoodIn wsX1_back wsX1_inverse := goodIn_r _ [13, 4, 14, 15, 16, 17] (by decide +kernel) (by decide +kernel)
set_option maxRecDepth 20000 in
theorem gX1_back_X1_inverse : GoodIn wsX1_back (wsV RX1 32 RX1 yX1_inverse wsX1_inverse) := goodIn_app (goodIn_of _ (by decide +kernel)) ggX1_back_X1_inverse
theorem dX1_back_0 : decode cX1_back 0 = .ok (.aload_n 0, 1) := by decide +kernel
theorem dX1_back_1 : decode cX1_back 1 = .ok (.getfield 7, 3) := by decide +kernel
theorem dX1_back_4 : decode cX1_back 4 = .ok (.newarray .int, 2) := by decide +kernel
theorem dX1_back_6 : decode cX1_back 6 = .ok (.astore_n 2, 1) := by decide +kernel
theorem dX1_back_7 : decode cX1_back 7 = .ok (.iconst 0, 1) := by decide +kernel
theorem dX1_back_8 : decode cX1_back 8 = .ok (.istore_n 3, 1) := by decide +kernel
theorem dX1_back_9 : decode cX1_back 9 = .ok (.iload_n 3, 1) := by decide +kernel
theorem dX1_back_10 : decode cX1_back 10 = .ok (.aload_n 0, 1) := by decide +kernel
theorem dX1_back_11 : decode cX1_back 11 = .ok (.getfield 7, 3) := by decide +kernel
theorem dX1_back_14 : decode cX1_back 14 = .ok (.if_icmp .ge 91, 3) := by decide +kernel
theorem dX1_back_17 : decode cX1_back 17 = .ok (.iconst 0, 1) := by decide +kernel
theorem dX1_back_18 : decode cX1_back 18 = .ok (.istore 4, 2) := by decide +kernel
theorem dX1_back_20 : decode cX1_back 20 = .ok (.iload 4, 2) := by decide +kernel
theorem dX1_back_22 : decode cX1_back 22 = .ok (.aload_n 0, 1) := by decide +kernel
theorem dX1_back_23 : decode cX1_back 23 = .ok (.getfield 7, 3) := by decide +kernel
theorem dX1_back_26 : decode cX1_back 26 = .ok (.if_icmp .ge 53, 3) := by decide +kernel
theorem dX1_back_29 : decode cX1_back 29 = .ok (.aload_n 2, 1) := by decide +kernel
theorem dX1_back_30 : decode cX1_back 30 = .ok (.iload_n 3, 1) := by decide +kernel
theorem dX1_back_31 : decode cX1_back 31 = .ok (.aload_n 2, 1) := by decide +kernel
theorem dX1_back_32 : decode cX1_back 32 = .ok (.iload_n 3, 1) := by decide +kernel
theorem dX1_back_33 : decode cX1_back 33 = .ok (.iaload, 1) := by decide +kernel
theorem dX1_back_34 : decode cX1_back 34 = .ok (.aload_n 1, 1) := by decide +kernel
theorem dX1_back_35 : decode cX1_back 35 = .ok (.iload 4, 2) := by decide +kernel
theorem dX1_back_37 : decode cX1_back 37 = .ok (.iaload, 1) := by decide +kernel
theorem dX1_back_38 : decode cX1_back 38 = .ok (.aload_n 0, 1) := by decide +kernel
theorem dX1_back_39 : decode cX1_back 39 = .ok (.aload_n 0, 1) := by decide +kernel
theorem dX1_back_40 : decode cX1_back 40 = .ok (.getfield 16, 3) := by decide +kernel
theorem dX1_back_43 : decode cX1_back 43 = .ok (.aload_n 0, 1) := by decide +kernel
theorem dX1_back_44 : decode cX1_back 44 = .ok (.getfield 7, 3) := by decide +kernel
theorem dX1_back_47 : decode cX1_back 47 = .ok (.iload_n 3, 1) := by decide +kernel
theorem dX1_back_48 : decode cX1_back 48 = .ok (.iload 4, 2) := by decide +kernel
theorem dX1_back_50 : decode cX1_back 50 = .ok (.imul, 1) := by decide +kernel
theorem dX1_back_51 : decode cX1_back 51 = .ok (.aload_n 0, 1) := by decide +kernel
theorem dX1_back_52 : decode cX1_back 52 = .ok (.getfield 7, 3) := by decide +kernel
theorem dX1_back_55 : decode cX1_back 55 = .ok (.irem, 1) := by decide +kernel
theorem dX1_back_56 : decode cX1_back 56 = .ok (.isub, 1) := by decide +kernel
theorem dX1_back_57 : decode cX1_back 57 = .ok (.aload_n 0, 1) := by decide +kernel
theorem dX1_back_58 : decode cX1_back 58 = .ok (.getfield 7, 3) := by decide +kernel
theorem dX1_back_61 : decode cX1_back 61 = .ok (.irem, 1) := by decide +kernel
theorem dX1_back_62 : decode cX1_back 62 = .ok (.invokevirtual 28, 3) := by decide +kernel
theorem dX1_back_65 : decode cX1_back 65 = .ok (.imul, 1) := by decide +kernel
theorem dX1_back_66 : decode cX1_back 66 = .ok (.iadd, 1) := by decide +kernel
theorem dX1_back_67 : decode cX1_back 67 = .ok (.aload_n 0, 1) := by decide +kernel
theorem dX1_back_68 : decode cX1_back 68 = .ok (.getfield 13, 3) := by decide +kernel
theorem dX1_back_71 : decode cX1_back 71 = .ok (.irem, 1) := by decide +kernel
theorem dX1_back_72 : decode cX1_back 72 = .ok (.iastore, 1) := by decide +kernel
theorem dX1_back_73 : decode cX1_back 73 = .ok (.iinc 4 1, 3) := by decide +kernel
theorem dX1_back_76 : decode cX1_back 76 = .ok (.goto (-56), 3) := by decide +kernel
theorem dX1_back_79 : decode cX1_back 79 = .ok (.aload_n 2, 1) := by decide +kernel
theorem dX1_back_80 : decode cX1_back 80 = .ok (.iload_n 3, 1) := by decide +kernel
theorem dX1_back_81 : decode cX1_back 81 = .ok (.aload_n 2, 1) := by decide +kernel
theorem dX1_back_82 : decode cX1_back 82 = .ok (.iload_n 3, 1) := by decide +kernel
theorem dX1_back_83 : decode cX1_back 83 = .ok (.iaload, 1) := by decide +kernel
theorem dX1_back_84 : decode cX1_back 84 = .ok (.aload_n 0, 1) := by decide +kernel
theorem dX1_back_85 : decode cX1_back 85 = .ok (.aload_n 0, 1) := by decide +kernel
theorem dX1_back_86 : decode cX1_back 86 = .ok (.getfield 7, 3) := by decide +kernel
theorem dX1_back_89 : decode cX1_back 89 = .ok (.invokevirtual 32, 3) := by decide +kernel
theorem dX1_back_92 : decode cX1_back 92 = .ok (.imul, 1) := by decide +kernel
theorem dX1_back_93 : decode cX1_back 93 = .ok (.aload_n 0, 1) := by decide +kernel
theorem dX1_back_94 : decode cX1_back 94 = .ok (.getfield 13, 3) := by decide +kernel
theorem dX1_back_97 : decode cX1_back 97 = .ok (.irem, 1) := by decide +kernel
theorem dX1_back_98 : decode cX1_back 98 = .ok (.iastore, 1) := by decide +kernel
theorem dX1_back_99 : decode cX1_back 99 = .ok (.iinc 3 1, 3) := by decide +kernel
theorem dX1_back_102 : decode cX1_back 102 = .ok (.goto (-93), 3) := by decide +kernel
theorem dX1_back_105 : decode cX1_back 105 = .ok (.aload_n 2, 1) := by decide +kernel
theorem dX1_back_106 : decode cX1_back 106 = .ok (.areturn, 1) := by decide +kernel
theorem dX1_mirrored_0 : decode cX1_mirrored 0 = .ok (.aload_n 0, 1) := by decide +kernel
theorem dX1_mirrored_1 : decode cX1_mirrored 1 = .ok (.getfield 7, 3) := by decide +kernel
theorem dX1_mirrored_4 : decode cX1_mirrored 4 = .ok (.newarray .int, 2) := by decide +kernel
theorem dX1_mirrored_6 : decode cX1_mirrored 6 = .ok (.astore_n 2, 1) := by decide +kernel
theorem dX1_mirrored_7 : decode cX1_mirrored 7 = .ok (.iconst 0, 1) := by decide +kernel
theorem dX1_mirrored_8 : decode cX1_mirrored 8 = .ok (.istore_n 3, 1) := by decide +kernel
theorem dX1_mirrored_9 : decode cX1_mirrored 9 = .ok (.iload_n 3, 1) := by decide +kernel
theorem dX1_mirrored_10 : decode cX1_mirrored 10 = .ok (.aload_n 0, 1) := by decide +kernel
theorem dX1_mirrored_11 : decode cX1_mirrored 11 = .ok (.getfield 7, 3) := by decide +kernel
theorem dX1_mirrored_14 : decode cX1_mirrored 14 = .ok (.if_icmp .ge 68, 3) := by decide +kernel
theorem dX1_mirrored_17 : decode cX1_mirrored 17 = .ok (.iconst 0, 1) := by decide +kernel
theorem dX1_mirrored_18 : decode cX1_mirrored 18 = .ok (.istore 4, 2) := by decide +kernel
theorem dX1_mirrored_20 : decode cX1_mirrored 20 = .ok (.iconst 1, 1) := by decide +kernel
theorem dX1_mirrored_21 : decode cX1_mirrored 21 = .ok (.istore 5, 2) := by decide +kernel
theorem dX1_mirrored_23 : decode cX1_mirrored 23 = .ok (.aload_n 0, 1) := by decide +kernel
theorem dX1_mirrored_24 : decode cX1_mirrored 24 = .ok (.getfield 7, 3) := by decide +kernel
theorem dX1_mirrored_27 : decode cX1_mirrored 27 = .ok (.iconst 2, 1) := by decide +kernel
theorem dX1_mirrored_28 : decode cX1_mirrored 28 = .ok (.idiv, 1) := by decide +kernel
theorem dX1_mirrored_29 : decode cX1_mirrored 29 = .ok (.istore 6, 2) := by decide +kernel
theorem dX1_mirrored_31 : decode cX1_mirrored 31 = .ok (.iload 5, 2) := by decide +kernel
theorem dX1_mirrored_33 : decode cX1_mirrored 33 = .ok (.aload_n 0, 1) := by decide +kernel
theorem dX1_mirrored_34 : decode cX1_mirrored 34 = .ok (.getfield 7, 3) := by decide +kernel
theorem dX1_mirrored_37 : decode cX1_mirrored 37 = .ok (.if_icmp .ge 32, 3) := by decide +kernel
theorem dX1_mirrored_40 : decode cX1_mirrored 40 = .ok (.iload 4, 2) := by decide +kernel
theorem dX1_mirrored_42 : decode cX1_mirrored 42 = .ok (.iload_n 3, 1) := by decide +kernel
theorem dX1_mirrored_43 : decode cX1_mirrored 43 = .ok (.iload 5, 2) := by decide +kernel
theorem dX1_mirrored_45 : decode cX1_mirrored 45 = .ok (.idiv, 1) := by decide +kernel
theorem dX1_mirrored_46 : decode cX1_mirrored 46 = .ok (.iconst 2, 1) := by decide +kernel
theorem dX1_mirrored_47 : decode cX1_mirrored 47 = .ok (.irem, 1) := by decide +kernel
theorem dX1_mirrored_48 : decode cX1_mirrored 48 = .ok (.iload 6, 2) := by decide +kernel
theorem dX1_mirrored_50 : decode cX1_mirrored 50 = .ok (.imul, 1) := by decide +kernel
theorem dX1_mirrored_51 : decode cX1_mirrored 51 = .ok (.iadd, 1) := by decide +kernel
theorem dX1_mirrored_52 : decode cX1_mirrored 52 = .ok (.istore 4, 2) := by decide +kernel
theorem dX1_mirrored_54 : decode cX1_mirrored 54 = .ok (.iload 5, 2) := by decide +kernel
theorem dX1_mirrored_56 : decode cX1_mirrored 56 = .ok (.iconst 2, 1) := by decide +kernel
theorem dX1_mirrored_57 : decode cX1_mirrored 57 = .ok (.imul, 1) := by decide +kernel
theorem dX1_mirrored_58 : decode cX1_mirrored 58 = .ok (.istore 5, 2) := by decide +kernel
theorem dX1_mirrored_60 : decode cX1_mirrored 60 = .ok (.iload 6, 2) := by decide +kernel
theorem dX1_mirrored_62 : decode cX1_mirrored 62 = .ok (.iconst 2, 1) := by decide +kernel
theorem dX1_mirrored_63 : decode cX1_mirrored 63 = .ok (.idiv, 1) := by decide +kernel
theorem dX1_mirrored_64 : decode cX1_mirrored 64 = .ok (.istore 6, 2) := by decide +kernel
theorem dX1_mirrored_66 : decode cX1_mirrored 66 = .ok (.goto (-35), 3) := by decide +kernel
theorem dX1_mirrored_69 : decode cX1_mirrored 69 = .ok (.aload_n 2, 1) := by decide +kernel
theorem dX1_mirrored_70 : decode cX1_mirrored 70 = .ok (.iload 4, 2) := by decide +kernel
theorem dX1_mirrored_72 : decode cX1_mirrored 72 = .ok (.aload_n 1, 1) := by decide +kernel
theorem dX1_mirrored_73 : decode cX1_mirrored 73 = .ok (.iload_n 3, 1) := by decide +kernel
theorem dX1_mirrored_74 : decode cX1_mirrored 74 = .ok (.iaload, 1) := by decide +kernel
theorem dX1_mirrored_75 : decode cX1_mirrored 75 = .ok (.iastore, 1) := by decide +kernel
theorem dX1_mirrored_76 : decode cX1_mirrored 76 = .ok (.iinc 3 1, 3) := by decide +kernel
theorem dX1_mirrored_79 : decode cX1_mirrored 79 = .ok (.goto (-70), 3) := by decide +kernel
theorem dX1_mirrored_82 : decode cX1_mirrored 82 = .ok (.aload_n 2, 1) := by decide +kernel
theorem dX1_mirrored_83 : decode cX1_mirrored 83 = .ok (.areturn, 1) := by decide +kernel
set_option maxRecDepth 20000 in
theorem ggX1_staged_X1_power : GoodIn wsX1_staged wsX1_power := goodIn_r _ [9, 4, 10, 11, 12, 13] (by decide +kernel) (by decide +kernel)
set_option maxRecDepth 20000 in
theorem gX1_staged_X1_power : GoodIn wsX1_staged (wsV RX1 28 RX1 yX1_power wsX1_power) := goodIn_app (goodIn_of _ (by decide +kernel)) ggX1_staged_X1_power
theorem dX1_staged_0 : decode cX1_staged 0 = .ok (.iconst 1, 1) := by decide +kernel
theorem dX1_staged_1 : decode cX1_staged 1 = .ok (.istore_n 3, 1) := by decide +kernel
theorem dX1_staged_2 : decode cX1_staged 2 = .ok (.iconst 0, 1) := by decide +kernel
theorem dX1_staged_3 : decode cX1_staged 3 = .ok (.istore 4, 2) := by decide +kernel
theorem dX1_staged_5 : decode cX1_staged 5 = .ok (.iload 4, 2) := by decide +kernel
theorem dX1_staged_7 : decode cX1_staged 7 = .ok (.iload_n 2, 1) := by decide +kernel
theorem dX1_staged_8 : decode cX1_staged 8 = .ok (.if_icmp .ge 13, 3) := by decide +kernel
theorem dX1_staged_11 : decode cX1_staged 11 = .ok (.iload_n 3, 1) := by decide +kernel
theorem dX1_staged_12 : decode cX1_staged 12 = .ok (.iconst 2, 1) := by decide +kernel
theorem dX1_staged_13 : decode cX1_staged 13 = .ok (.imul, 1) := by decide +kernel
theorem dX1_staged_14 : decode cX1_staged 14 = .ok (.istore_n 3, 1) := by decide +kernel
theorem dX1_staged_15 : decode cX1_staged 15 = .ok (.iinc 4 1, 3) := by decide +kernel
theorem dX1_staged_18 : decode cX1_staged 18 = .ok (.goto (-13), 3) := by decide +kernel
theorem dX1_staged_21 : decode cX1_staged 21 = .ok (.aload_n 0, 1) := by decide +kernel
theorem dX1_staged_22 : decode cX1_staged 22 = .ok (.getfield 7, 3) := by decide +kernel
theorem dX1_staged_25 : decode cX1_staged 25 = .ok (.newarray .int, 2) := by decide +kernel
theorem dX1_staged_27 : decode cX1_staged 27 = .ok (.astore 4, 2) := by decide +kernel
theorem dX1_staged_29 : decode cX1_staged 29 = .ok (.iconst 0, 1) := by decide +kernel
theorem dX1_staged_30 : decode cX1_staged 30 = .ok (.istore 5, 2) := by decide +kernel
theorem dX1_staged_32 : decode cX1_staged 32 = .ok (.iload 5, 2) := by decide +kernel
theorem dX1_staged_34 : decode cX1_staged 34 = .ok (.aload_n 0, 1) := by decide +kernel
theorem dX1_staged_35 : decode cX1_staged 35 = .ok (.getfield 7, 3) := by decide +kernel
theorem dX1_staged_38 : decode cX1_staged 38 = .ok (.if_icmp .ge 118, 3) := by decide +kernel
theorem dX1_staged_41 : decode cX1_staged 41 = .ok (.iconst 0, 1) := by decide +kernel
theorem dX1_staged_42 : decode cX1_staged 42 = .ok (.istore 6, 2) := by decide +kernel
theorem dX1_staged_44 : decode cX1_staged 44 = .ok (.iload 6, 2) := by decide +kernel
theorem dX1_staged_46 : decode cX1_staged 46 = .ok (.iload_n 3, 1) := by decide +kernel
theorem dX1_staged_47 : decode cX1_staged 47 = .ok (.if_icmp .ge 98, 3) := by decide +kernel
theorem dX1_staged_50 : decode cX1_staged 50 = .ok (.aload_n 1, 1) := by decide +kernel
theorem dX1_staged_51 : decode cX1_staged 51 = .ok (.iload 5, 2) := by decide +kernel
theorem dX1_staged_53 : decode cX1_staged 53 = .ok (.iload 6, 2) := by decide +kernel
theorem dX1_staged_55 : decode cX1_staged 55 = .ok (.iadd, 1) := by decide +kernel
theorem dX1_staged_56 : decode cX1_staged 56 = .ok (.iload_n 3, 1) := by decide +kernel
theorem dX1_staged_57 : decode cX1_staged 57 = .ok (.iadd, 1) := by decide +kernel
theorem dX1_staged_58 : decode cX1_staged 58 = .ok (.iaload, 1) := by decide +kernel
theorem dX1_staged_59 : decode cX1_staged 59 = .ok (.aload_n 0, 1) := by decide +kernel
theorem dX1_staged_60 : decode cX1_staged 60 = .ok (.aload_n 0, 1) := by decide +kernel
theorem dX1_staged_61 : decode cX1_staged 61 = .ok (.getfield 16, 3) := by decide +kernel
theorem dX1_staged_64 : decode cX1_staged 64 = .ok (.iload 6, 2) := by decide +kernel
theorem dX1_staged_66 : decode cX1_staged 66 = .ok (.aload_n 0, 1) := by decide +kernel
theorem dX1_staged_67 : decode cX1_staged 67 = .ok (.getfield 7, 3) := by decide +kernel
theorem dX1_staged_70 : decode cX1_staged 70 = .ok (.imul, 1) := by decide +kernel
theorem dX1_staged_71 : decode cX1_staged 71 = .ok (.iconst 2, 1) := by decide +kernel
theorem dX1_staged_72 : decode cX1_staged 72 = .ok (.iload_n 3, 1) := by decide +kernel
theorem dX1_staged_73 : decode cX1_staged 73 = .ok (.imul, 1) := by decide +kernel
theorem dX1_staged_74 : decode cX1_staged 74 = .ok (.idiv, 1) := by decide +kernel
theorem dX1_staged_75 : decode cX1_staged 75 = .ok (.invokevirtual 28, 3) := by decide +kernel
theorem dX1_staged_78 : decode cX1_staged 78 = .ok (.imul, 1) := by decide +kernel
theorem dX1_staged_79 : decode cX1_staged 79 = .ok (.aload_n 0, 1) := by decide +kernel
theorem dX1_staged_80 : decode cX1_staged 80 = .ok (.getfield 13, 3) := by decide +kernel
theorem dX1_staged_83 : decode cX1_staged 83 = .ok (.irem, 1) := by decide +kernel
theorem dX1_staged_84 : decode cX1_staged 84 = .ok (.istore 7, 2) := by decide +kernel
theorem dX1_staged_86 : decode cX1_staged 86 = .ok (.aload 4, 2) := by decide +kernel
theorem dX1_staged_88 : decode cX1_staged 88 = .ok (.iload 5, 2) := by decide +kernel
theorem dX1_staged_90 : decode cX1_staged 90 = .ok (.iload 6, 2) := by decide +kernel
theorem dX1_staged_92 : decode cX1_staged 92 = .ok (.iadd, 1) := by decide +kernel
theorem dX1_staged_93 : decode cX1_staged 93 = .ok (.aload_n 1, 1) := by decide +kernel
theorem dX1_staged_94 : decode cX1_staged 94 = .ok (.iload 5, 2) := by decide +kernel
theorem dX1_staged_96 : decode cX1_staged 96 = .ok (.iload 6, 2) := by decide +kernel
theorem dX1_staged_98 : decode cX1_staged 98 = .ok (.iadd, 1) := by decide +kernel
theorem dX1_staged_99 : decode cX1_staged 99 = .ok (.iaload, 1) := by decide +kernel
theorem dX1_staged_100 : decode cX1_staged 100 = .ok (.iload 7, 2) := by decide +kernel
theorem dX1_staged_102 : decode cX1_staged 102 = .ok (.iadd, 1) := by decide +kernel
theorem dX1_staged_103 : decode cX1_staged 103 = .ok (.aload_n 0, 1) := by decide +kernel
theorem dX1_staged_104 : decode cX1_staged 104 = .ok (.getfield 13, 3) := by decide +kernel
theorem dX1_staged_107 : decode cX1_staged 107 = .ok (.irem, 1) := by decide +kernel
theorem dX1_staged_108 : decode cX1_staged 108 = .ok (.iastore, 1) := by decide +kernel
theorem dX1_staged_109 : decode cX1_staged 109 = .ok (.aload 4, 2) := by decide +kernel
theorem dX1_staged_111 : decode cX1_staged 111 = .ok (.iload 5, 2) := by decide +kernel
theorem dX1_staged_113 : decode cX1_staged 113 = .ok (.iload 6, 2) := by decide +kernel
theorem dX1_staged_115 : decode cX1_staged 115 = .ok (.iadd, 1) := by decide +kernel
theorem dX1_staged_116 : decode cX1_staged 116 = .ok (.iload_n 3, 1) := by decide +kernel
theorem dX1_staged_117 : decode cX1_staged 117 = .ok (.iadd, 1) := by decide +kernel
theorem dX1_staged_118 : decode cX1_staged 118 = .ok (.aload_n 1, 1) := by decide +kernel
theorem dX1_staged_119 : decode cX1_staged 119 = .ok (.iload 5, 2) := by decide +kernel
theorem dX1_staged_121 : decode cX1_staged 121 = .ok (.iload 6, 2) := by decide +kernel
theorem dX1_staged_123 : decode cX1_staged 123 = .ok (.iadd, 1) := by decide +kernel
theorem dX1_staged_124 : decode cX1_staged 124 = .ok (.iaload, 1) := by decide +kernel
theorem dX1_staged_125 : decode cX1_staged 125 = .ok (.aload_n 0, 1) := by decide +kernel
theorem dX1_staged_126 : decode cX1_staged 126 = .ok (.getfield 13, 3) := by decide +kernel
theorem dX1_staged_129 : decode cX1_staged 129 = .ok (.iadd, 1) := by decide +kernel
theorem dX1_staged_130 : decode cX1_staged 130 = .ok (.iload 7, 2) := by decide +kernel
theorem dX1_staged_132 : decode cX1_staged 132 = .ok (.isub, 1) := by decide +kernel
theorem dX1_staged_133 : decode cX1_staged 133 = .ok (.aload_n 0, 1) := by decide +kernel
theorem dX1_staged_134 : decode cX1_staged 134 = .ok (.getfield 13, 3) := by decide +kernel
theorem dX1_staged_137 : decode cX1_staged 137 = .ok (.irem, 1) := by decide +kernel
theorem dX1_staged_138 : decode cX1_staged 138 = .ok (.iastore, 1) := by decide +kernel
theorem dX1_staged_139 : decode cX1_staged 139 = .ok (.iinc 6 1, 3) := by decide +kernel
theorem dX1_staged_142 : decode cX1_staged 142 = .ok (.goto (-98), 3) := by decide +kernel
theorem dX1_staged_145 : decode cX1_staged 145 = .ok (.iload 5, 2) := by decide +kernel
theorem dX1_staged_147 : decode cX1_staged 147 = .ok (.iconst 2, 1) := by decide +kernel
theorem dX1_staged_148 : decode cX1_staged 148 = .ok (.iload_n 3, 1) := by decide +kernel
theorem dX1_staged_149 : decode cX1_staged 149 = .ok (.imul, 1) := by decide +kernel
theorem dX1_staged_150 : decode cX1_staged 150 = .ok (.iadd, 1) := by decide +kernel
theorem dX1_staged_151 : decode cX1_staged 151 = .ok (.istore 5, 2) := by decide +kernel
theorem dX1_staged_153 : decode cX1_staged 153 = .ok (.goto (-121), 3) := by decide +kernel
theorem dX1_staged_156 : decode cX1_staged 156 = .ok (.aload 4, 2) := by decide +kernel
theorem dX1_staged_158 : decode cX1_staged 158 = .ok (.areturn, 1) := by decide +kernel
theorem dX1_folded_0 : decode cX1_folded 0 = .ok (.aload_n 0, 1) := by decide +kernel
theorem dX1_folded_1 : decode cX1_folded 1 = .ok (.getfield 7, 3) := by decide +kernel
theorem dX1_folded_4 : decode cX1_folded 4 = .ok (.newarray .int, 2) := by decide +kernel
theorem dX1_folded_6 : decode cX1_folded 6 = .ok (.astore_n 3, 1) := by decide +kernel
theorem dX1_folded_7 : decode cX1_folded 7 = .ok (.iconst 0, 1) := by decide +kernel
theorem dX1_folded_8 : decode cX1_folded 8 = .ok (.istore 4, 2) := by decide +kernel
theorem dX1_folded_10 : decode cX1_folded 10 = .ok (.iload 4, 2) := by decide +kernel
theorem dX1_folded_12 : decode cX1_folded 12 = .ok (.aload_n 0, 1) := by decide +kernel
theorem dX1_folded_13 : decode cX1_folded 13 = .ok (.getfield 7, 3) := by decide +kernel
theorem dX1_folded_16 : decode cX1_folded 16 = .ok (.if_icmp .ge 66, 3) := by decide +kernel
theorem dX1_folded_19 : decode cX1_folded 19 = .ok (.iconst 0, 1) := by decide +kernel
theorem dX1_folded_20 : decode cX1_folded 20 = .ok (.istore 5, 2) := by decide +kernel
theorem dX1_folded_22 : decode cX1_folded 22 = .ok (.iload 5, 2) := by decide +kernel
theorem dX1_folded_24 : decode cX1_folded 24 = .ok (.aload_n 0, 1) := by decide +kernel
theorem dX1_folded_25 : decode cX1_folded 25 = .ok (.getfield 7, 3) := by decide +kernel
theorem dX1_folded_28 : decode cX1_folded 28 = .ok (.if_icmp .ge 48, 3) := by decide +kernel
theorem dX1_folded_31 : decode cX1_folded 31 = .ok (.aload_n 3, 1) := by decide +kernel
theorem dX1_folded_32 : decode cX1_folded 32 = .ok (.iload 4, 2) := by decide +kernel
theorem dX1_folded_34 : decode cX1_folded 34 = .ok (.iload 5, 2) := by decide +kernel
theorem dX1_folded_36 : decode cX1_folded 36 = .ok (.iadd, 1) := by decide +kernel
theorem dX1_folded_37 : decode cX1_folded 37 = .ok (.aload_n 0, 1) := by decide +kernel
theorem dX1_folded_38 : decode cX1_folded 38 = .ok (.getfield 7, 3) := by decide +kernel
theorem dX1_folded_41 : decode cX1_folded 41 = .ok (.irem, 1) := by decide +kernel
theorem dX1_folded_42 : decode cX1_folded 42 = .ok (.aload_n 3, 1) := by decide +kernel
theorem dX1_folded_43 : decode cX1_folded 43 = .ok (.iload 4, 2) := by decide +kernel
theorem dX1_folded_45 : decode cX1_folded 45 = .ok (.iload 5, 2) := by decide +kernel
theorem dX1_folded_47 : decode cX1_folded 47 = .ok (.iadd, 1) := by decide +kernel
theorem dX1_folded_48 : decode cX1_folded 48 = .ok (.aload_n 0, 1) := by decide +kernel
theorem dX1_folded_49 : decode cX1_folded 49 = .ok (.getfield 7, 3) := by decide +kernel
theorem dX1_folded_52 : decode cX1_folded 52 = .ok (.irem, 1) := by decide +kernel
theorem dX1_folded_53 : decode cX1_folded 53 = .ok (.iaload, 1) := by decide +kernel
theorem dX1_folded_54 : decode cX1_folded 54 = .ok (.aload_n 1, 1) := by decide +kernel
theorem dX1_folded_55 : decode cX1_folded 55 = .ok (.iload 4, 2) := by decide +kernel
theorem dX1_folded_57 : decode cX1_folded 57 = .ok (.iaload, 1) := by decide +kernel
theorem dX1_folded_58 : decode cX1_folded 58 = .ok (.aload_n 2, 1) := by decide +kernel
theorem dX1_folded_59 : decode cX1_folded 59 = .ok (.iload 5, 2) := by decide +kernel
theorem dX1_folded_61 : decode cX1_folded 61 = .ok (.iaload, 1) := by decide +kernel
theorem dX1_folded_62 : decode cX1_folded 62 = .ok (.imul, 1) := by decide +kernel
theorem dX1_folded_63 : decode cX1_folded 63 = .ok (.iadd, 1) := by decide +kernel
theorem dX1_folded_64 : decode cX1_folded 64 = .ok (.aload_n 0, 1) := by decide +kernel
theorem dX1_folded_65 : decode cX1_folded 65 = .ok (.getfield 13, 3) := by decide +kernel
theorem dX1_folded_68 : decode cX1_folded 68 = .ok (.irem, 1) := by decide +kernel
theorem dX1_folded_69 : decode cX1_folded 69 = .ok (.iastore, 1) := by decide +kernel
theorem dX1_folded_70 : decode cX1_folded 70 = .ok (.iinc 5 1, 3) := by decide +kernel
theorem dX1_folded_73 : decode cX1_folded 73 = .ok (.goto (-51), 3) := by decide +kernel
theorem dX1_folded_76 : decode cX1_folded 76 = .ok (.iinc 4 1, 3) := by decide +kernel
theorem dX1_folded_79 : decode cX1_folded 79 = .ok (.goto (-69), 3) := by decide +kernel
theorem dX1_folded_82 : decode cX1_folded 82 = .ok (.aload_n 3, 1) := by decide +kernel
theorem dX1_folded_83 : decode cX1_folded 83 = .ok (.areturn, 1) := by decide +kernel
theorem dX1_moved_0 : decode cX1_moved 0 = .ok (.aload_n 0, 1) := by decide +kernel
theorem dX1_moved_1 : decode cX1_moved 1 = .ok (.getfield 7, 3) := by decide +kernel
theorem dX1_moved_4 : decode cX1_moved 4 = .ok (.newarray .int, 2) := by decide +kernel
theorem dX1_moved_6 : decode cX1_moved 6 = .ok (.astore_n 3, 1) := by decide +kernel
theorem dX1_moved_7 : decode cX1_moved 7 = .ok (.iconst 0, 1) := by decide +kernel
theorem dX1_moved_8 : decode cX1_moved 8 = .ok (.istore 4, 2) := by decide +kernel
theorem dX1_moved_10 : decode cX1_moved 10 = .ok (.iload 4, 2) := by decide +kernel
theorem dX1_moved_12 : decode cX1_moved 12 = .ok (.aload_n 0, 1) := by decide +kernel
theorem dX1_moved_13 : decode cX1_moved 13 = .ok (.getfield 7, 3) := by decide +kernel
theorem dX1_moved_16 : decode cX1_moved 16 = .ok (.if_icmp .ge 24, 3) := by decide +kernel
theorem dX1_moved_19 : decode cX1_moved 19 = .ok (.aload_n 3, 1) := by decide +kernel
theorem dX1_moved_20 : decode cX1_moved 20 = .ok (.iload 4, 2) := by decide +kernel
theorem dX1_moved_22 : decode cX1_moved 22 = .ok (.iload_n 2, 1) := by decide +kernel
theorem dX1_moved_23 : decode cX1_moved 23 = .ok (.iadd, 1) := by decide +kernel
theorem dX1_moved_24 : decode cX1_moved 24 = .ok (.aload_n 0, 1) := by decide +kernel
theorem dX1_moved_25 : decode cX1_moved 25 = .ok (.getfield 7, 3) := by decide +kernel
theorem dX1_moved_28 : decode cX1_moved 28 = .ok (.irem, 1) := by decide +kernel
theorem dX1_moved_29 : decode cX1_moved 29 = .ok (.aload_n 1, 1) := by decide +kernel
theorem dX1_moved_30 : decode cX1_moved 30 = .ok (.iload 4, 2) := by decide +kernel
theorem dX1_moved_32 : decode cX1_moved 32 = .ok (.iaload, 1) := by decide +kernel
theorem dX1_moved_33 : decode cX1_moved 33 = .ok (.iastore, 1) := by decide +kernel
theorem dX1_moved_34 : decode cX1_moved 34 = .ok (.iinc 4 1, 3) := by decide +kernel
theorem dX1_moved_37 : decode cX1_moved 37 = .ok (.goto (-27), 3) := by decide +kernel
theorem dX1_moved_40 : decode cX1_moved 40 = .ok (.aload_n 3, 1) := by decide +kernel
theorem dX1_moved_41 : decode cX1_moved 41 = .ok (.areturn, 1) := by decide +kernel
theorem dX1_others_0 : decode cX1_others 0 = .ok (.iconst 0, 1) := by decide +kernel
theorem dX1_others_1 : decode cX1_others 1 = .ok (.istore_n 1, 1) := by decide +kernel
theorem dX1_others_2 : decode cX1_others 2 = .ok (.aload_n 0, 1) := by decide +kernel
theorem dX1_others_3 : decode cX1_others 3 = .ok (.astore_n 2, 1) := by decide +kernel
theorem dX1_others_4 : decode cX1_others 4 = .ok (.aload_n 2, 1) := by decide +kernel
theorem dX1_others_5 : decode cX1_others 5 = .ok (.arraylength, 1) := by decide +kernel
theorem dX1_others_6 : decode cX1_others 6 = .ok (.istore_n 3, 1) := by decide +kernel
theorem dX1_others_7 : decode cX1_others 7 = .ok (.iconst 0, 1) := by decide +kernel
theorem dX1_others_8 : decode cX1_others 8 = .ok (.istore 4, 2) := by decide +kernel
theorem dX1_others_10 : decode cX1_others 10 = .ok (.iload 4, 2) := by decide +kernel
theorem dX1_others_12 : decode cX1_others 12 = .ok (.iload_n 3, 1) := by decide +kernel
theorem dX1_others_13 : decode cX1_others 13 = .ok (.if_icmp .ge 28, 3) := by decide +kernel
theorem dX1_others_16 : decode cX1_others 16 = .ok (.aload_n 2, 1) := by decide +kernel
theorem dX1_others_17 : decode cX1_others 17 = .ok (.iload 4, 2) := by decide +kernel
theorem dX1_others_19 : decode cX1_others 19 = .ok (.iaload, 1) := by decide +kernel
theorem dX1_others_20 : decode cX1_others 20 = .ok (.istore 5, 2) := by decide +kernel
theorem dX1_others_22 : decode cX1_others 22 = .ok (.iload_n 1, 1) := by decide +kernel
theorem dX1_others_23 : decode cX1_others 23 = .ok (.iload 5, 2) := by decide +kernel
theorem dX1_others_25 : decode cX1_others 25 = .ok (.ifCond .ne 7, 3) := by decide +kernel
theorem dX1_others_28 : decode cX1_others 28 = .ok (.iconst 0, 1) := by decide +kernel
theorem dX1_others_29 : decode cX1_others 29 = .ok (.goto 4, 3) := by decide +kernel
theorem dX1_others_32 : decode cX1_others 32 = .ok (.iconst 1, 1) := by decide +kernel
theorem dX1_others_33 : decode cX1_others 33 = .ok (.iadd, 1) := by decide +kernel
theorem dX1_others_34 : decode cX1_others 34 = .ok (.istore_n 1, 1) := by decide +kernel
theorem dX1_others_35 : decode cX1_others 35 = .ok (.iinc 4 1, 3) := by decide +kernel
theorem dX1_others_38 : decode cX1_others 38 = .ok (.goto (-28), 3) := by decide +kernel
theorem dX1_others_41 : decode cX1_others 41 = .ok (.iload_n 1, 1) := by decide +kernel
theorem dX1_others_42 : decode cX1_others 42 = .ok (.ireturn, 1) := by decide +kernel
theorem dX1_unlike_0 : decode cX1_unlike 0 = .ok (.iconst 0, 1) := by decide +kernel
theorem dX1_unlike_1 : decode cX1_unlike 1 = .ok (.istore_n 2, 1) := by decide +kernel
theorem dX1_unlike_2 : decode cX1_unlike 2 = .ok (.iconst 0, 1) := by decide +kernel
theorem dX1_unlike_3 : decode cX1_unlike 3 = .ok (.istore_n 3, 1) := by decide +kernel
theorem dX1_unlike_4 : decode cX1_unlike 4 = .ok (.iload_n 3, 1) := by decide +kernel
theorem dX1_unlike_5 : decode cX1_unlike 5 = .ok (.aload_n 0, 1) := by decide +kernel
theorem dX1_unlike_6 : decode cX1_unlike 6 = .ok (.arraylength, 1) := by decide +kernel
theorem dX1_unlike_7 : decode cX1_unlike 7 = .ok (.if_icmp .ge 26, 3) := by decide +kernel
theorem dX1_unlike_10 : decode cX1_unlike 10 = .ok (.iload_n 2, 1) := by decide +kernel
theorem dX1_unlike_11 : decode cX1_unlike 11 = .ok (.aload_n 0, 1) := by decide +kernel
theorem dX1_unlike_12 : decode cX1_unlike 12 = .ok (.iload_n 3, 1) := by decide +kernel
theorem dX1_unlike_13 : decode cX1_unlike 13 = .ok (.iaload, 1) := by decide +kernel
theorem dX1_unlike_14 : decode cX1_unlike 14 = .ok (.aload_n 1, 1) := by decide +kernel
theorem dX1_unlike_15 : decode cX1_unlike 15 = .ok (.iload_n 3, 1) := by decide +kernel
theorem dX1_unlike_16 : decode cX1_unlike 16 = .ok (.iaload, 1) := by decide +kernel
theorem dX1_unlike_17 : decode cX1_unlike 17 = .ok (.if_icmp .ne 7, 3) := by decide +kernel
theorem dX1_unlike_20 : decode cX1_unlike 20 = .ok (.iconst 0, 1) := by decide +kernel
theorem dX1_unlike_21 : decode cX1_unlike 21 = .ok (.goto 4, 3) := by decide +kernel
theorem dX1_unlike_24 : decode cX1_unlike 24 = .ok (.iconst 1, 1) := by decide +kernel
theorem dX1_unlike_25 : decode cX1_unlike 25 = .ok (.iadd, 1) := by decide +kernel
theorem dX1_unlike_26 : decode cX1_unlike 26 = .ok (.istore_n 2, 1) := by decide +kernel
theorem dX1_unlike_27 : decode cX1_unlike 27 = .ok (.iinc 3 1, 3) := by decide +kernel
theorem dX1_unlike_30 : decode cX1_unlike 30 = .ok (.goto (-26), 3) := by decide +kernel
theorem dX1_unlike_33 : decode cX1_unlike 33 = .ok (.iload_n 2, 1) := by decide +kernel
theorem dX1_unlike_34 : decode cX1_unlike 34 = .ok (.ireturn, 1) := by decide +kernel
set_option maxRecDepth 20000 in
theorem ggX1_about_X1_moved : GoodIn wsX1_about wsX1_moved := goodIn_r _ [12, 1, 6, 19, 20, 21, 22] (by decide +kernel) (by decide +kernel)
set_option maxRecDepth 20000 in
theorem gX1_about_X1_moved : GoodIn wsX1_about (wsV RX1 40 RX1 yX1_moved wsX1_moved) := goodIn_app (goodIn_of _ (by decide +kernel)) ggX1_about_X1_moved
set_option maxRecDepth 20000 in
theorem ggX1_about_X1_unlike : GoodIn wsX1_about wsX1_unlike := goodIn_r _ [15] (by decide +kernel) (by decide +kernel)
set_option maxRecDepth 20000 in
theorem gX1_about_X1_unlike : GoodIn wsX1_about (va_wsS RX1 44 yX1_unlike wsX1_unlike) := goodIn_app (goodIn_of _ (by decide +kernel)) ggX1_about_X1_unlike
set_option maxRecDepth 20000 in
theorem ggX1_about_X1_others : GoodIn wsX1_about wsX1_others := goodIn_r _ [18] (by decide +kernel) (by decide +kernel)
set_option maxRecDepth 20000 in
theorem gX1_about_X1_others : GoodIn wsX1_about (va_wsS RX1 48 yX1_others wsX1_others) := goodIn_app (goodIn_of _ (by decide +kernel)) ggX1_about_X1_others
theorem dX1_about_0 : decode cX1_about 0 = .ok (.iconst 0, 1) := by decide +kernel
theorem dX1_about_1 : decode cX1_about 1 = .ok (.istore_n 2, 1) := by decide +kernel
theorem dX1_about_2 : decode cX1_about 2 = .ok (.iconst (-1), 1) := by decide +kernel
theorem dX1_about_3 : decode cX1_about 3 = .ok (.istore_n 3, 1) := by decide +kernel
theorem dX1_about_4 : decode cX1_about 4 = .ok (.iconst 0, 1) := by decide +kernel
theorem dX1_about_5 : decode cX1_about 5 = .ok (.istore 4, 2) := by decide +kernel
theorem dX1_about_7 : decode cX1_about 7 = .ok (.iconst 0, 1) := by decide +kernel
theorem dX1_about_8 : decode cX1_about 8 = .ok (.istore 5, 2) := by decide +kernel
theorem dX1_about_10 : decode cX1_about 10 = .ok (.iload 5, 2) := by decide +kernel
theorem dX1_about_12 : decode cX1_about 12 = .ok (.aload_n 0, 1) := by decide +kernel
theorem dX1_about_13 : decode cX1_about 13 = .ok (.getfield 7, 3) := by decide +kernel
theorem dX1_about_16 : decode cX1_about 16 = .ok (.if_icmp .ge 37, 3) := by decide +kernel
theorem dX1_about_19 : decode cX1_about 19 = .ok (.iload_n 2, 1) := by decide +kernel
theorem dX1_about_20 : decode cX1_about 20 = .ok (.aload_n 1, 1) := by decide +kernel
theorem dX1_about_21 : decode cX1_about 21 = .ok (.iload 5, 2) := by decide +kernel
theorem dX1_about_23 : decode cX1_about 23 = .ok (.iaload, 1) := by decide +kernel
theorem dX1_about_24 : decode cX1_about 24 = .ok (.iadd, 1) := by decide +kernel
theorem dX1_about_25 : decode cX1_about 25 = .ok (.istore_n 2, 1) := by decide +kernel
theorem dX1_about_26 : decode cX1_about 26 = .ok (.aload_n 1, 1) := by decide +kernel
theorem dX1_about_27 : decode cX1_about 27 = .ok (.iload 5, 2) := by decide +kernel
theorem dX1_about_29 : decode cX1_about 29 = .ok (.iaload, 1) := by decide +kernel
theorem dX1_about_30 : decode cX1_about 30 = .ok (.ifCond .le 6, 3) := by decide +kernel
theorem dX1_about_33 : decode cX1_about 33 = .ok (.iload 5, 2) := by decide +kernel
theorem dX1_about_35 : decode cX1_about 35 = .ok (.istore_n 3, 1) := by decide +kernel
theorem dX1_about_36 : decode cX1_about 36 = .ok (.iload 4, 2) := by decide +kernel
theorem dX1_about_38 : decode cX1_about 38 = .ok (.aload_n 1, 1) := by decide +kernel
theorem dX1_about_39 : decode cX1_about 39 = .ok (.iload 5, 2) := by decide +kernel
theorem dX1_about_41 : decode cX1_about 41 = .ok (.iaload, 1) := by decide +kernel
theorem dX1_about_42 : decode cX1_about 42 = .ok (.invokestatic 35, 3) := by decide +kernel
theorem dX1_about_45 : decode cX1_about 45 = .ok (.istore 4, 2) := by decide +kernel
theorem dX1_about_47 : decode cX1_about 47 = .ok (.iinc 5 1, 3) := by decide +kernel
theorem dX1_about_50 : decode cX1_about 50 = .ok (.goto (-40), 3) := by decide +kernel
theorem dX1_about_53 : decode cX1_about 53 = .ok (.iconst 1, 1) := by decide +kernel
theorem dX1_about_54 : decode cX1_about 54 = .ok (.istore 5, 2) := by decide +kernel
theorem dX1_about_56 : decode cX1_about 56 = .ok (.aload_n 0, 1) := by decide +kernel
theorem dX1_about_57 : decode cX1_about 57 = .ok (.aload_n 1, 1) := by decide +kernel
theorem dX1_about_58 : decode cX1_about 58 = .ok (.iload 5, 2) := by decide +kernel
theorem dX1_about_60 : decode cX1_about 60 = .ok (.invokevirtual 40, 3) := by decide +kernel
theorem dX1_about_63 : decode cX1_about 63 = .ok (.aload_n 1, 1) := by decide +kernel
theorem dX1_about_64 : decode cX1_about 64 = .ok (.invokestatic 44, 3) := by decide +kernel
theorem dX1_about_67 : decode cX1_about 67 = .ok (.ifCond .le 9, 3) := by decide +kernel
theorem dX1_about_70 : decode cX1_about 70 = .ok (.iinc 5 1, 3) := by decide +kernel
theorem dX1_about_73 : decode cX1_about 73 = .ok (.goto (-17), 3) := by decide +kernel
theorem dX1_about_76 : decode cX1_about 76 = .ok (.bipush 6, 2) := by decide +kernel
theorem dX1_about_78 : decode cX1_about 78 = .ok (.newarray .int, 2) := by decide +kernel
theorem dX1_about_80 : decode cX1_about 80 = .ok (.dup, 1) := by decide +kernel
theorem dX1_about_81 : decode cX1_about 81 = .ok (.iconst 0, 1) := by decide +kernel
theorem dX1_about_82 : decode cX1_about 82 = .ok (.iload_n 2, 1) := by decide +kernel
theorem dX1_about_83 : decode cX1_about 83 = .ok (.aload_n 0, 1) := by decide +kernel
theorem dX1_about_84 : decode cX1_about 84 = .ok (.getfield 13, 3) := by decide +kernel
theorem dX1_about_87 : decode cX1_about 87 = .ok (.irem, 1) := by decide +kernel
theorem dX1_about_88 : decode cX1_about 88 = .ok (.iastore, 1) := by decide +kernel
theorem dX1_about_89 : decode cX1_about 89 = .ok (.dup, 1) := by decide +kernel
theorem dX1_about_90 : decode cX1_about 90 = .ok (.iconst 1, 1) := by decide +kernel
theorem dX1_about_91 : decode cX1_about 91 = .ok (.aload_n 1, 1) := by decide +kernel
theorem dX1_about_92 : decode cX1_about 92 = .ok (.invokestatic 48, 3) := by decide +kernel
theorem dX1_about_95 : decode cX1_about 95 = .ok (.iastore, 1) := by decide +kernel
theorem dX1_about_96 : decode cX1_about 96 = .ok (.dup, 1) := by decide +kernel
theorem dX1_about_97 : decode cX1_about 97 = .ok (.iconst 2, 1) := by decide +kernel
theorem dX1_about_98 : decode cX1_about 98 = .ok (.iload_n 3, 1) := by decide +kernel
theorem dX1_about_99 : decode cX1_about 99 = .ok (.iastore, 1) := by decide +kernel
theorem dX1_about_100 : decode cX1_about 100 = .ok (.dup, 1) := by decide +kernel
theorem dX1_about_101 : decode cX1_about 101 = .ok (.iconst 3, 1) := by decide +kernel
theorem dX1_about_102 : decode cX1_about 102 = .ok (.iload 5, 2) := by decide +kernel
theorem dX1_about_104 : decode cX1_about 104 = .ok (.iastore, 1) := by decide +kernel
theorem dX1_about_105 : decode cX1_about 105 = .ok (.dup, 1) := by decide +kernel
theorem dX1_about_106 : decode cX1_about 106 = .ok (.iconst 4, 1) := by decide +kernel
theorem dX1_about_107 : decode cX1_about 107 = .ok (.iload 4, 2) := by decide +kernel
theorem dX1_about_109 : decode cX1_about 109 = .ok (.iastore, 1) := by decide +kernel
theorem dX1_about_110 : decode cX1_about 110 = .ok (.dup, 1) := by decide +kernel
theorem dX1_about_111 : decode cX1_about 111 = .ok (.iconst 5, 1) := by decide +kernel
theorem dX1_about_112 : decode cX1_about 112 = .ok (.iload_n 2, 1) := by decide +kernel
theorem dX1_about_113 : decode cX1_about 113 = .ok (.iastore, 1) := by decide +kernel
theorem dX1_about_114 : decode cX1_about 114 = .ok (.areturn, 1) := by decide +kernel
set_option maxRecDepth 20000 in
theorem ggX1_isSame_X1_inverse : GoodIn wsX1_isSame wsX1_inverse := goodIn_r _ [10, 3, 112, 113, 114, 115] (by decide +kernel) (by decide +kernel)
set_option maxRecDepth 20000 in
theorem gX1_isSame_X1_inverse : GoodIn wsX1_isSame (wsV RX1 32 RX1 yX1_inverse wsX1_inverse) := goodIn_app (goodIn_of _ (by decide +kernel)) ggX1_isSame_X1_inverse
set_option maxRecDepth 20000 in
theorem ggX1_isSame_X0_count : GoodIn wsX1_isSame wsX0_count := goodIn_ca (goodIn_r _ [15, 16, 17, 18, 19, 20, 14, 21, 22, 23, 24, 25, 26, 27, 116, 117, 118, 119, 120, 121, 122] (by decide +kernel) (by decide +kernel)) (goodIn_sub (fun _ h => List.mem_cons_of_mem _ (List.mem_append_right _ h)) (by decide +kernel))
set_option maxRecDepth 20000 in
theorem gX1_isSame_X0_count : GoodIn wsX1_isSame (wsV RX1 52 RX0 yX0_count wsX0_count) := goodIn_app (goodIn_of _ (by decide +kernel)) ggX1_isSame_X0_count
set_option maxRecDepth 20000 in
theorem ggX1_isSame_X0_at : GoodIn wsX1_isSame wsX0_at := goodIn_ca (goodIn_r _ [31, 32, 33, 34, 14, 35, 16, 17, 36, 37, 38, 39, 22, 40, 41, 42, 43, 44, 116, 117, 118, 119, 120, 121, 122] (by decide +kernel) (by decide +kernel)) (goodIn_sub (fun _ h => List.mem_cons_of_mem _ (List.mem_append_right _ h)) (by decide +kernel))
set_option maxRecDepth 20000 in
theorem gX1_isSame_X0_at : GoodIn wsX1_isSame (wsV RX1 57 RX0 yX0_at wsX0_at) := goodIn_app (goodIn_of _ (by decide +kernel)) ggX1_isSame_X0_at
set_option maxRecDepth 20000 in
theorem ggX1_isSame_X1_about : GoodIn wsX1_isSame wsX1_about := goodIn_r _ [48, 1, 49, 50, 51, 52, 2, 3, 53, 54, 55, 9, 56, 57, 58, 59, 60, 61, 62, 112, 113, 114, 115] (by decide +kernel) (by decide +kernel)
set_option maxRecDepth 20000 in
theorem gX1_isSame_X1_about : GoodIn wsX1_isSame (wsV RX1 60 RX1 yX1_about wsX1_about) := goodIn_app (goodIn_of _ (by decide +kernel)) ggX1_isSame_X1_about
set_option maxRecDepth 20000 in
theorem ggX1_isSame_X0_about : GoodIn wsX1_isSame wsX0_about := goodIn_ca (goodIn_r _ [66, 16, 17, 32, 33, 34, 14, 35, 67, 68, 69, 70, 71, 72, 73, 74, 22, 40, 41, 42, 43, 44, 75, 76, 77, 78, 23, 79, 80, 81, 82, 83, 84, 85, 86, 87, 88, 89, 90, 91, 92, 93, 94, 95, 96, 97, 98, 99, 100, 101, 102, 103, 104, 105, 106, 107, 50, 51, 52, 116, 117, 118, 119, 120, 121, 122] (by decide +kernel) (by decide +kernel)) (goodIn_sub (fun _ h => List.mem_cons_of_mem _ (List.mem_append_right _ h)) (by decide +kernel))
set_option maxRecDepth 20000 in
theorem gX1_isSame_X0_about : GoodIn wsX1_isSame (wsV RX1 64 RX0 yX0_about wsX0_about) := goodIn_app (goodIn_of _ (by decide +kernel)) ggX1_isSame_X0_about
set_option maxRecDepth 20000 in
theorem ggX1_isSame_X0_mean : GoodIn wsX1_isSame wsX0_mean := goodIn_ca (goodIn_r _ [111, 22, 32, 33, 34, 14, 35, 16, 17, 71, 72, 73, 74, 40, 41, 42, 43, 44, 116, 117, 118, 119, 120, 121, 122] (by decide +kernel) (by decide +kernel)) (goodIn_sub (fun _ h => List.mem_cons_of_mem _ (List.mem_append_right _ h)) (by decide +kernel))
set_option maxRecDepth 20000 in
theorem gX1_isSame_X0_mean : GoodIn wsX1_isSame (wsV RX1 66 RX0 yX0_mean wsX0_mean) := goodIn_app (goodIn_of _ (by decide +kernel)) ggX1_isSame_X0_mean
theorem dX1_isSame_0 : decode cX1_isSame 0 = .ok (.aload_n 0, 1) := by decide +kernel
theorem dX1_isSame_1 : decode cX1_isSame 1 = .ok (.getfield 7, 3) := by decide +kernel
theorem dX1_isSame_4 : decode cX1_isSame 4 = .ok (.iconst 4, 1) := by decide +kernel
theorem dX1_isSame_5 : decode cX1_isSame 5 = .ok (.if_icmp .ne 7, 3) := by decide +kernel
theorem dX1_isSame_8 : decode cX1_isSame 8 = .ok (.iconst 2, 1) := by decide +kernel
theorem dX1_isSame_9 : decode cX1_isSame 9 = .ok (.goto 17, 3) := by decide +kernel
theorem dX1_isSame_12 : decode cX1_isSame 12 = .ok (.aload_n 0, 1) := by decide +kernel
theorem dX1_isSame_13 : decode cX1_isSame 13 = .ok (.getfield 7, 3) := by decide +kernel
theorem dX1_isSame_16 : decode cX1_isSame 16 = .ok (.bipush 8, 2) := by decide +kernel
theorem dX1_isSame_18 : decode cX1_isSame 18 = .ok (.if_icmp .ne 7, 3) := by decide +kernel
theorem dX1_isSame_21 : decode cX1_isSame 21 = .ok (.iconst 3, 1) := by decide +kernel
theorem dX1_isSame_22 : decode cX1_isSame 22 = .ok (.goto 4, 3) := by decide +kernel
theorem dX1_isSame_25 : decode cX1_isSame 25 = .ok (.iconst 4, 1) := by decide +kernel
theorem dX1_isSame_26 : decode cX1_isSame 26 = .ok (.istore_n 2, 1) := by decide +kernel
theorem dX1_isSame_27 : decode cX1_isSame 27 = .ok (.bipush 6, 2) := by decide +kernel
theorem dX1_isSame_29 : decode cX1_isSame 29 = .ok (.newarray .int, 2) := by decide +kernel
theorem dX1_isSame_31 : decode cX1_isSame 31 = .ok (.dup, 1) := by decide +kernel
theorem dX1_isSame_32 : decode cX1_isSame 32 = .ok (.iconst 0, 1) := by decide +kernel
theorem dX1_isSame_33 : decode cX1_isSame 33 = .ok (.aload_n 0, 1) := by decide +kernel
theorem dX1_isSame_34 : decode cX1_isSame 34 = .ok (.getfield 7, 3) := by decide +kernel
theorem dX1_isSame_37 : decode cX1_isSame 37 = .ok (.iastore, 1) := by decide +kernel
theorem dX1_isSame_38 : decode cX1_isSame 38 = .ok (.dup, 1) := by decide +kernel
theorem dX1_isSame_39 : decode cX1_isSame 39 = .ok (.iconst 1, 1) := by decide +kernel
theorem dX1_isSame_40 : decode cX1_isSame 40 = .ok (.aload_n 0, 1) := by decide +kernel
theorem dX1_isSame_41 : decode cX1_isSame 41 = .ok (.getfield 13, 3) := by decide +kernel
theorem dX1_isSame_44 : decode cX1_isSame 44 = .ok (.iastore, 1) := by decide +kernel
theorem dX1_isSame_45 : decode cX1_isSame 45 = .ok (.dup, 1) := by decide +kernel
theorem dX1_isSame_46 : decode cX1_isSame 46 = .ok (.iconst 2, 1) := by decide +kernel
theorem dX1_isSame_47 : decode cX1_isSame 47 = .ok (.aload_n 0, 1) := by decide +kernel
theorem dX1_isSame_48 : decode cX1_isSame 48 = .ok (.getfield 16, 3) := by decide +kernel
theorem dX1_isSame_51 : decode cX1_isSame 51 = .ok (.iastore, 1) := by decide +kernel
theorem dX1_isSame_52 : decode cX1_isSame 52 = .ok (.dup, 1) := by decide +kernel
theorem dX1_isSame_53 : decode cX1_isSame 53 = .ok (.iconst 3, 1) := by decide +kernel
theorem dX1_isSame_54 : decode cX1_isSame 54 = .ok (.aload_n 0, 1) := by decide +kernel
theorem dX1_isSame_55 : decode cX1_isSame 55 = .ok (.aload_n 0, 1) := by decide +kernel
theorem dX1_isSame_56 : decode cX1_isSame 56 = .ok (.getfield 16, 3) := by decide +kernel
theorem dX1_isSame_59 : decode cX1_isSame 59 = .ok (.invokevirtual 32, 3) := by decide +kernel
theorem dX1_isSame_62 : decode cX1_isSame 62 = .ok (.iastore, 1) := by decide +kernel
theorem dX1_isSame_63 : decode cX1_isSame 63 = .ok (.dup, 1) := by decide +kernel
theorem dX1_isSame_64 : decode cX1_isSame 64 = .ok (.iconst 4, 1) := by decide +kernel
theorem dX1_isSame_65 : decode cX1_isSame 65 = .ok (.aload_n 0, 1) := by decide +kernel
theorem dX1_isSame_66 : decode cX1_isSame 66 = .ok (.aload_n 0, 1) := by decide +kernel
theorem dX1_isSame_67 : decode cX1_isSame 67 = .ok (.getfield 7, 3) := by decide +kernel
theorem dX1_isSame_70 : decode cX1_isSame 70 = .ok (.invokevirtual 32, 3) := by decide +kernel
theorem dX1_isSame_73 : decode cX1_isSame 73 = .ok (.iastore, 1) := by decide +kernel
theorem dX1_isSame_74 : decode cX1_isSame 74 = .ok (.dup, 1) := by decide +kernel
theorem dX1_isSame_75 : decode cX1_isSame 75 = .ok (.iconst 5, 1) := by decide +kernel
theorem dX1_isSame_76 : decode cX1_isSame 76 = .ok (.iload_n 2, 1) := by decide +kernel
theorem dX1_isSame_77 : decode cX1_isSame 77 = .ok (.iastore, 1) := by decide +kernel
theorem dX1_isSame_78 : decode cX1_isSame 78 = .ok (.astore_n 3, 1) := by decide +kernel
theorem dX1_isSame_79 : decode cX1_isSame 79 = .ok (.iconst 0, 1) := by decide +kernel
theorem dX1_isSame_80 : decode cX1_isSame 80 = .ok (.istore 4, 2) := by decide +kernel
theorem dX1_isSame_82 : decode cX1_isSame 82 = .ok (.iload 4, 2) := by decide +kernel
theorem dX1_isSame_84 : decode cX1_isSame 84 = .ok (.bipush 6, 2) := by decide +kernel
theorem dX1_isSame_86 : decode cX1_isSame 86 = .ok (.if_icmp .ge 24, 3) := by decide +kernel
theorem dX1_isSame_89 : decode cX1_isSame 89 = .ok (.aload_n 1, 1) := by decide +kernel
theorem dX1_isSame_90 : decode cX1_isSame 90 = .ok (.iload 4, 2) := by decide +kernel
theorem dX1_isSame_92 : decode cX1_isSame 92 = .ok (.invokevirtual 52, 3) := by decide +kernel
theorem dX1_isSame_95 : decode cX1_isSame 95 = .ok (.aload_n 3, 1) := by decide +kernel
theorem dX1_isSame_96 : decode cX1_isSame 96 = .ok (.iload 4, 2) := by decide +kernel
theorem dX1_isSame_98 : decode cX1_isSame 98 = .ok (.iaload, 1) := by decide +kernel
theorem dX1_isSame_99 : decode cX1_isSame 99 = .ok (.if_icmp .eq 5, 3) := by decide +kernel
theorem dX1_isSame_102 : decode cX1_isSame 102 = .ok (.iconst 0, 1) := by decide +kernel
theorem dX1_isSame_103 : decode cX1_isSame 103 = .ok (.ireturn, 1) := by decide +kernel
theorem dX1_isSame_104 : decode cX1_isSame 104 = .ok (.iinc 4 1, 3) := by decide +kernel
theorem dX1_isSame_107 : decode cX1_isSame 107 = .ok (.goto (-25), 3) := by decide +kernel
theorem dX1_isSame_110 : decode cX1_isSame 110 = .ok (.iconst 0, 1) := by decide +kernel
theorem dX1_isSame_111 : decode cX1_isSame 111 = .ok (.istore 4, 2) := by decide +kernel
theorem dX1_isSame_113 : decode cX1_isSame 113 = .ok (.iload 4, 2) := by decide +kernel
theorem dX1_isSame_115 : decode cX1_isSame 115 = .ok (.iconst 4, 1) := by decide +kernel
theorem dX1_isSame_116 : decode cX1_isSame 116 = .ok (.if_icmp .ge 119, 3) := by decide +kernel
theorem dX1_isSame_119 : decode cX1_isSame 119 = .ok (.iconst 0, 1) := by decide +kernel
theorem dX1_isSame_120 : decode cX1_isSame 120 = .ok (.istore 5, 2) := by decide +kernel
theorem dX1_isSame_122 : decode cX1_isSame 122 = .ok (.iload 5, 2) := by decide +kernel
theorem dX1_isSame_124 : decode cX1_isSame 124 = .ok (.aload_n 0, 1) := by decide +kernel
theorem dX1_isSame_125 : decode cX1_isSame 125 = .ok (.getfield 7, 3) := by decide +kernel
theorem dX1_isSame_128 : decode cX1_isSame 128 = .ok (.if_icmp .ge 32, 3) := by decide +kernel
theorem dX1_isSame_131 : decode cX1_isSame 131 = .ok (.aload_n 1, 1) := by decide +kernel
theorem dX1_isSame_132 : decode cX1_isSame 132 = .ok (.iload 4, 2) := by decide +kernel
theorem dX1_isSame_134 : decode cX1_isSame 134 = .ok (.iload 5, 2) := by decide +kernel
theorem dX1_isSame_136 : decode cX1_isSame 136 = .ok (.invokevirtual 57, 3) := by decide +kernel
theorem dX1_isSame_139 : decode cX1_isSame 139 = .ok (.aload_n 0, 1) := by decide +kernel
theorem dX1_isSame_140 : decode cX1_isSame 140 = .ok (.getfield 21, 3) := by decide +kernel
theorem dX1_isSame_143 : decode cX1_isSame 143 = .ok (.iload 4, 2) := by decide +kernel
theorem dX1_isSame_145 : decode cX1_isSame 145 = .ok (.aaload, 1) := by decide +kernel
theorem dX1_isSame_146 : decode cX1_isSame 146 = .ok (.iload 5, 2) := by decide +kernel
theorem dX1_isSame_148 : decode cX1_isSame 148 = .ok (.iaload, 1) := by decide +kernel
theorem dX1_isSame_149 : decode cX1_isSame 149 = .ok (.if_icmp .eq 5, 3) := by decide +kernel
theorem dX1_isSame_152 : decode cX1_isSame 152 = .ok (.iconst 0, 1) := by decide +kernel
theorem dX1_isSame_153 : decode cX1_isSame 153 = .ok (.ireturn, 1) := by decide +kernel
theorem dX1_isSame_154 : decode cX1_isSame 154 = .ok (.iinc 5 1, 3) := by decide +kernel
theorem dX1_isSame_157 : decode cX1_isSame 157 = .ok (.goto (-35), 3) := by decide +kernel
theorem dX1_isSame_160 : decode cX1_isSame 160 = .ok (.aload_n 0, 1) := by decide +kernel
theorem dX1_isSame_161 : decode cX1_isSame 161 = .ok (.aload_n 0, 1) := by decide +kernel
theorem dX1_isSame_162 : decode cX1_isSame 162 = .ok (.getfield 21, 3) := by decide +kernel
theorem dX1_isSame_165 : decode cX1_isSame 165 = .ok (.iload 4, 2) := by decide +kernel
theorem dX1_isSame_167 : decode cX1_isSame 167 = .ok (.aaload, 1) := by decide +kernel
theorem dX1_isSame_168 : decode cX1_isSame 168 = .ok (.invokevirtual 60, 3) := by decide +kernel
theorem dX1_isSame_171 : decode cX1_isSame 171 = .ok (.astore 5, 2) := by decide +kernel
theorem dX1_isSame_173 : decode cX1_isSame 173 = .ok (.iconst 0, 1) := by decide +kernel
theorem dX1_isSame_174 : decode cX1_isSame 174 = .ok (.istore 6, 2) := by decide +kernel
theorem dX1_isSame_176 : decode cX1_isSame 176 = .ok (.iload 6, 2) := by decide +kernel
theorem dX1_isSame_178 : decode cX1_isSame 178 = .ok (.iconst 5, 1) := by decide +kernel
theorem dX1_isSame_179 : decode cX1_isSame 179 = .ok (.if_icmp .ge 27, 3) := by decide +kernel
theorem dX1_isSame_182 : decode cX1_isSame 182 = .ok (.aload_n 1, 1) := by decide +kernel
theorem dX1_isSame_183 : decode cX1_isSame 183 = .ok (.iload 4, 2) := by decide +kernel
theorem dX1_isSame_185 : decode cX1_isSame 185 = .ok (.iload 6, 2) := by decide +kernel
theorem dX1_isSame_187 : decode cX1_isSame 187 = .ok (.invokevirtual 64, 3) := by decide +kernel
theorem dX1_isSame_190 : decode cX1_isSame 190 = .ok (.aload 5, 2) := by decide +kernel
theorem dX1_isSame_192 : decode cX1_isSame 192 = .ok (.iload 6, 2) := by decide +kernel
theorem dX1_isSame_194 : decode cX1_isSame 194 = .ok (.iaload, 1) := by decide +kernel
theorem dX1_isSame_195 : decode cX1_isSame 195 = .ok (.if_icmp .eq 5, 3) := by decide +kernel
theorem dX1_isSame_198 : decode cX1_isSame 198 = .ok (.iconst 0, 1) := by decide +kernel
theorem dX1_isSame_199 : decode cX1_isSame 199 = .ok (.ireturn, 1) := by decide +kernel
theorem dX1_isSame_200 : decode cX1_isSame 200 = .ok (.iinc 6 1, 3) := by decide +kernel
theorem dX1_isSame_203 : decode cX1_isSame 203 = .ok (.goto (-27), 3) := by decide +kernel
theorem dX1_isSame_206 : decode cX1_isSame 206 = .ok (.aload_n 1, 1) := by decide +kernel
theorem dX1_isSame_207 : decode cX1_isSame 207 = .ok (.iload 4, 2) := by decide +kernel
theorem dX1_isSame_209 : decode cX1_isSame 209 = .ok (.invokevirtual 66, 3) := by decide +kernel
theorem dX1_isSame_212 : decode cX1_isSame 212 = .ok (.aload 5, 2) := by decide +kernel
theorem dX1_isSame_214 : decode cX1_isSame 214 = .ok (.iconst 5, 1) := by decide +kernel
theorem dX1_isSame_215 : decode cX1_isSame 215 = .ok (.iaload, 1) := by decide +kernel
theorem dX1_isSame_216 : decode cX1_isSame 216 = .ok (.i2d, 1) := by decide +kernel
theorem dX1_isSame_217 : decode cX1_isSame 217 = .ok (.aload_n 0, 1) := by decide +kernel
theorem dX1_isSame_218 : decode cX1_isSame 218 = .ok (.getfield 7, 3) := by decide +kernel
theorem dX1_isSame_221 : decode cX1_isSame 221 = .ok (.i2d, 1) := by decide +kernel
theorem dX1_isSame_222 : decode cX1_isSame 222 = .ok (.ddiv, 1) := by decide +kernel
theorem dX1_isSame_223 : decode cX1_isSame 223 = .ok (.dcmp .l, 1) := by decide +kernel
theorem dX1_isSame_224 : decode cX1_isSame 224 = .ok (.ifCond .eq 5, 3) := by decide +kernel
theorem dX1_isSame_227 : decode cX1_isSame 227 = .ok (.iconst 0, 1) := by decide +kernel
theorem dX1_isSame_228 : decode cX1_isSame 228 = .ok (.ireturn, 1) := by decide +kernel
theorem dX1_isSame_229 : decode cX1_isSame 229 = .ok (.iinc 4 1, 3) := by decide +kernel
theorem dX1_isSame_232 : decode cX1_isSame 232 = .ok (.goto (-119), 3) := by decide +kernel
theorem dX1_isSame_235 : decode cX1_isSame 235 = .ok (.iconst 1, 1) := by decide +kernel
theorem dX1_isSame_236 : decode cX1_isSame 236 = .ok (.ireturn, 1) := by decide +kernel
