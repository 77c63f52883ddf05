theorem dX1_init_0 : decode cX1_init 0 = .ok (.aload_n 0, 1) := by decide +kernel
theorem dX1_init_1 : decode cX1_init 1 = .ok (.invokespecial 1, 3) := by decide +kernel
theorem dX1_init_4 : decode cX1_init 4 = .ok (.aload_n 0, 1) := by decide +kernel
theorem dX1_init_5 : decode cX1_init 5 = .ok (.bipush 8, 2) := by decide +kernel
theorem dX1_init_7 : decode cX1_init 7 = .ok (.putfield 7, 3) := by decide +kernel
theorem dX1_init_10 : decode cX1_init 10 = .ok (.aload_n 0, 1) := by decide +kernel
theorem dX1_init_11 : decode cX1_init 11 = .ok (.bipush 17, 2) := by decide +kernel
theorem dX1_init_13 : decode cX1_init 13 = .ok (.putfield 13, 3) := by decide +kernel
theorem dX1_init_16 : decode cX1_init 16 = .ok (.aload_n 0, 1) := by decide +kernel
theorem dX1_init_17 : decode cX1_init 17 = .ok (.iconst 2, 1) := by decide +kernel
theorem dX1_init_18 : decode cX1_init 18 = .ok (.putfield 16, 3) := by decide +kernel
theorem dX1_init_21 : decode cX1_init 21 = .ok (.aload_n 0, 1) := by decide +kernel
theorem dX1_init_22 : decode cX1_init 22 = .ok (.iconst 3, 1) := by decide +kernel
theorem dX1_init_23 : decode cX1_init 23 = .ok (.putfield 19, 3) := by decide +kernel
theorem dX1_init_26 : decode cX1_init 26 = .ok (.aload_n 0, 1) := by decide +kernel
theorem dX1_init_27 : decode cX1_init 27 = .ok (.bipush 64, 2) := by decide +kernel
theorem dX1_init_29 : decode cX1_init 29 = .ok (.newarray .int, 2) := by decide +kernel
theorem dX1_init_31 : decode cX1_init 31 = .ok (.putfield 22, 3) := by decide +kernel
theorem dX1_init_34 : decode cX1_init 34 = .ok (.aload_n 0, 1) := by decide +kernel
theorem dX1_init_35 : decode cX1_init 35 = .ok (.bipush 16, 2) := by decide +kernel
theorem dX1_init_37 : decode cX1_init 37 = .ok (.newarray .int, 2) := by decide +kernel
theorem dX1_init_39 : decode cX1_init 39 = .ok (.putfield 26, 3) := by decide +kernel
theorem dX1_init_42 : decode cX1_init 42 = .ok (.return_, 1) := by decide +kernel
theorem dX1_thrown_0 : decode cX1_thrown 0 = .ok (.aload_n 0, 1) := by decide +kernel
theorem dX1_thrown_1 : decode cX1_thrown 1 = .ok (.getfield 29, 3) := by decide +kernel
theorem dX1_thrown_4 : decode cX1_thrown 4 = .ok (.ireturn, 1) := by decide +kernel
theorem dX1_no_0 : decode cX1_no 0 = .ok (.aload_n 0, 1) := by decide +kernel
theorem dX1_no_1 : decode cX1_no 1 = .ok (.iload_n 1, 1) := by decide +kernel
theorem dX1_no_2 : decode cX1_no 2 = .ok (.putfield 29, 3) := by decide +kernel
theorem dX1_no_5 : decode cX1_no 5 = .ok (.iconst 0, 1) := by decide +kernel
theorem dX1_no_6 : decode cX1_no 6 = .ok (.ireturn, 1) := by decide +kernel
theorem dX1_isIn_0 : decode cX1_isIn 0 = .ok (.iload_n 0, 1) := by decide +kernel
theorem dX1_isIn_1 : decode cX1_isIn 1 = .ok (.iload_n 1, 1) := by decide +kernel
theorem dX1_isIn_2 : decode cX1_isIn 2 = .ok (.if_icmp .lt 12, 3) := by decide +kernel
theorem dX1_isIn_5 : decode cX1_isIn 5 = .ok (.iload_n 0, 1) := by decide +kernel
theorem dX1_isIn_6 : decode cX1_isIn 6 = .ok (.iload_n 2, 1) := by decide +kernel
theorem dX1_isIn_7 : decode cX1_isIn 7 = .ok (.if_icmp .gt 7, 3) := by decide +kernel
theorem dX1_isIn_10 : decode cX1_isIn 10 = .ok (.iconst 1, 1) := by decide +kernel
theorem dX1_isIn_11 : decode cX1_isIn 11 = .ok (.goto 4, 3) := by decide +kernel
theorem dX1_isIn_14 : decode cX1_isIn 14 = .ok (.iconst 0, 1) := by decide +kernel
theorem dX1_isIn_15 : decode cX1_isIn 15 = .ok (.ireturn, 1) := by decide +kernel
set_option maxRecDepth 20000 in
theorem ggX1_isRow_X1_isIn : GoodIn wsX1_isRow wsX1_isIn := goodIn_r _ [4] (by decide +kernel) (by decide +kernel)
set_option maxRecDepth 20000 in
theorem gX1_isRow_X1_isIn : GoodIn wsX1_isRow (va_wsS RX1 32 yX1_isIn wsX1_isIn) := goodIn_app (goodIn_of _ (by decide +kernel)) ggX1_isRow_X1_isIn
theorem dX1_isRow_0 : decode cX1_isRow 0 = .ok (.iload_n 0, 1) := by decide +kernel
theorem dX1_isRow_1 : decode cX1_isRow 1 = .ok (.iconst 0, 1) := by decide +kernel
theorem dX1_isRow_2 : decode cX1_isRow 2 = .ok (.iconst 3, 1) := by decide +kernel
theorem dX1_isRow_3 : decode cX1_isRow 3 = .ok (.invokestatic 32, 3) := by decide +kernel
theorem dX1_isRow_6 : decode cX1_isRow 6 = .ok (.ireturn, 1) := by decide +kernel
set_option maxRecDepth 20000 in
theorem ggX1_isPlace_X1_isIn : GoodIn wsX1_isPlace wsX1_isIn := goodIn_r _ [5] (by decide +kernel) (by decide +kernel)
set_option maxRecDepth 20000 in
theorem gX1_isPlace_X1_isIn : GoodIn wsX1_isPlace (va_wsS RX1 32 yX1_isIn wsX1_isIn) := goodIn_app (goodIn_of _ (by decide +kernel)) ggX1_isPlace_X1_isIn
theorem dX1_isPlace_0 : decode cX1_isPlace 0 = .ok (.iload_n 1, 1) := by decide +kernel
theorem dX1_isPlace_1 : decode cX1_isPlace 1 = .ok (.iconst 0, 1) := by decide +kernel
theorem dX1_isPlace_2 : decode cX1_isPlace 2 = .ok (.aload_n 0, 1) := by decide +kernel
theorem dX1_isPlace_3 : decode cX1_isPlace 3 = .ok (.getfield 7, 3) := by decide +kernel
theorem dX1_isPlace_6 : decode cX1_isPlace 6 = .ok (.iconst 1, 1) := by decide +kernel
theorem dX1_isPlace_7 : decode cX1_isPlace 7 = .ok (.isub, 1) := by decide +kernel
theorem dX1_isPlace_8 : decode cX1_isPlace 8 = .ok (.invokestatic 32, 3) := by decide +kernel
theorem dX1_isPlace_11 : decode cX1_isPlace 11 = .ok (.ireturn, 1) := by decide +kernel
theorem dX1_its_0 : decode cX1_its 0 = .ok (.aload_n 0, 1) := by decide +kernel
theorem dX1_its_1 : decode cX1_its 1 = .ok (.getfield 22, 3) := by decide +kernel
theorem dX1_its_4 : decode cX1_its 4 = .ok (.bipush 16, 2) := by decide +kernel
theorem dX1_its_6 : decode cX1_its 6 = .ok (.iload_n 1, 1) := by decide +kernel
theorem dX1_its_7 : decode cX1_its 7 = .ok (.imul, 1) := by decide +kernel
theorem dX1_its_8 : decode cX1_its 8 = .ok (.iload_n 2, 1) := by decide +kernel
theorem dX1_its_9 : decode cX1_its 9 = .ok (.iadd, 1) := by decide +kernel
theorem dX1_its_10 : decode cX1_its 10 = .ok (.iaload, 1) := by decide +kernel
theorem dX1_its_11 : decode cX1_its 11 = .ok (.ireturn, 1) := by decide +kernel
theorem dX1_plus_0 : decode cX1_plus 0 = .ok (.iload_n 1, 1) := by decide +kernel
theorem dX1_plus_1 : decode cX1_plus 1 = .ok (.iload_n 2, 1) := by decide +kernel
theorem dX1_plus_2 : decode cX1_plus 2 = .ok (.iadd, 1) := by decide +kernel
theorem dX1_plus_3 : decode cX1_plus 3 = .ok (.aload_n 0, 1) := by decide +kernel
theorem dX1_plus_4 : decode cX1_plus 4 = .ok (.getfield 13, 3) := by decide +kernel
theorem dX1_plus_7 : decode cX1_plus 7 = .ok (.irem, 1) := by decide +kernel
theorem dX1_plus_8 : decode cX1_plus 8 = .ok (.ireturn, 1) := by decide +kernel
theorem dX1_minus_0 : decode cX1_minus 0 = .ok (.iload_n 1, 1) := by decide +kernel
theorem dX1_minus_1 : decode cX1_minus 1 = .ok (.iload_n 2, 1) := by decide +kernel
theorem dX1_minus_2 : decode cX1_minus 2 = .ok (.isub, 1) := by decide +kernel
theorem dX1_minus_3 : decode cX1_minus 3 = .ok (.aload_n 0, 1) := by decide +kernel
theorem dX1_minus_4 : decode cX1_minus 4 = .ok (.getfield 13, 3) := by decide +kernel
theorem dX1_minus_7 : decode cX1_minus 7 = .ok (.iadd, 1) := by decide +kernel
theorem dX1_minus_8 : decode cX1_minus 8 = .ok (.aload_n 0, 1) := by decide +kernel
theorem dX1_minus_9 : decode cX1_minus 9 = .ok (.getfield 13, 3) := by decide +kernel
theorem dX1_minus_12 : decode cX1_minus 12 = .ok (.irem, 1) := by decide +kernel
theorem dX1_minus_13 : decode cX1_minus 13 = .ok (.ireturn, 1) := by decide +kernel
theorem dX1_by_0 : decode cX1_by 0 = .ok (.iload_n 1, 1) := by decide +kernel
theorem dX1_by_1 : decode cX1_by 1 = .ok (.iload_n 2, 1) := by decide +kernel
theorem dX1_by_2 : decode cX1_by 2 = .ok (.imul, 1) := by decide +kernel
theorem dX1_by_3 : decode cX1_by 3 = .ok (.aload_n 0, 1) := by decide +kernel
theorem dX1_by_4 : decode cX1_by 4 = .ok (.getfield 13, 3) := by decide +kernel
theorem dX1_by_7 : decode cX1_by 7 = .ok (.irem, 1) := by decide +kernel
theorem dX1_by_8 : decode cX1_by 8 = .ok (.ireturn, 1) := by decide +kernel
set_option maxRecDepth 20000 in
theorem ggX1_power_X1_by : GoodIn wsX1_power wsX1_by := goodIn_r _ [5, 6, 7, 8, 9, 10, 11, 12, 13] (by decide +kernel) (by decide +kernel)
set_option maxRecDepth 20000 in
theorem gX1_power_X1_by : GoodIn wsX1_power (wsV RX1 36 RX1 yX1_by wsX1_by) := goodIn_app (goodIn_of _ (by decide +kernel)) ggX1_power_X1_by
theorem dX1_power_0 : decode cX1_power 0 = .ok (.iconst 1, 1) := by decide +kernel
theorem dX1_power_1 : decode cX1_power 1 = .ok (.istore_n 3, 1) := by decide +kernel
theorem dX1_power_2 : decode cX1_power 2 = .ok (.iload_n 1, 1) := by decide +kernel
theorem dX1_power_3 : decode cX1_power 3 = .ok (.istore 4, 2) := by decide +kernel
theorem dX1_power_5 : decode cX1_power 5 = .ok (.iload_n 2, 1) := by decide +kernel
theorem dX1_power_6 : decode cX1_power 6 = .ok (.istore 5, 2) := by decide +kernel
theorem dX1_power_8 : decode cX1_power 8 = .ok (.iload 5, 2) := by decide +kernel
theorem dX1_power_10 : decode cX1_power 10 = .ok (.ifCond .le 38, 3) := by decide +kernel
theorem dX1_power_13 : decode cX1_power 13 = .ok (.iload 5, 2) := by decide +kernel
theorem dX1_power_15 : decode cX1_power 15 = .ok (.iconst 2, 1) := by decide +kernel
theorem dX1_power_16 : decode cX1_power 16 = .ok (.irem, 1) := by decide +kernel
theorem dX1_power_17 : decode cX1_power 17 = .ok (.iconst 1, 1) := by decide +kernel
theorem dX1_power_18 : decode cX1_power 18 = .ok (.if_icmp .ne 11, 3) := by decide +kernel
theorem dX1_power_21 : decode cX1_power 21 = .ok (.aload_n 0, 1) := by decide +kernel
theorem dX1_power_22 : decode cX1_power 22 = .ok (.iload_n 3, 1) := by decide +kernel
theorem dX1_power_23 : decode cX1_power 23 = .ok (.iload 4, 2) := by decide +kernel
theorem dX1_power_25 : decode cX1_power 25 = .ok (.invokevirtual 36, 3) := by decide +kernel
theorem dX1_power_28 : decode cX1_power 28 = .ok (.istore_n 3, 1) := by decide +kernel
theorem dX1_power_29 : decode cX1_power 29 = .ok (.aload_n 0, 1) := by decide +kernel
theorem dX1_power_30 : decode cX1_power 30 = .ok (.iload 4, 2) := by decide +kernel
theorem dX1_power_32 : decode cX1_power 32 = .ok (.iload 4, 2) := by decide +kernel
theorem dX1_power_34 : decode cX1_power 34 = .ok (.invokevirtual 36, 3) := by decide +kernel
theorem dX1_power_37 : decode cX1_power 37 = .ok (.istore 4, 2) := by decide +kernel
theorem dX1_power_39 : decode cX1_power 39 = .ok (.iload 5, 2) := by decide +kernel
theorem dX1_power_41 : decode cX1_power 41 = .ok (.iconst 2, 1) := by decide +kernel
theorem dX1_power_42 : decode cX1_power 42 = .ok (.idiv, 1) := by decide +kernel
theorem dX1_power_43 : decode cX1_power 43 = .ok (.istore 5, 2) := by decide +kernel
theorem dX1_power_45 : decode cX1_power 45 = .ok (.goto (-37), 3) := by decide +kernel
theorem dX1_power_48 : decode cX1_power 48 = .ok (.iload_n 3, 1) := by decide +kernel
theorem dX1_power_49 : decode cX1_power 49 = .ok (.ireturn, 1) := by decide +kernel
theorem dX1_inverseOf_0 : decode cX1_inverseOf 0 = .ok (.aload_n 0, 1) := by decide +kernel
theorem dX1_inverseOf_1 : decode cX1_inverseOf 1 = .ok (.getfield 13, 3) := by decide +kernel
theorem dX1_inverseOf_4 : decode cX1_inverseOf 4 = .ok (.istore_n 2, 1) := by decide +kernel
theorem dX1_inverseOf_5 : decode cX1_inverseOf 5 = .ok (.iload_n 1, 1) := by decide +kernel
theorem dX1_inverseOf_6 : decode cX1_inverseOf 6 = .ok (.istore_n 3, 1) := by decide +kernel
theorem dX1_inverseOf_7 : decode cX1_inverseOf 7 = .ok (.iconst 0, 1) := by decide +kernel
theorem dX1_inverseOf_8 : decode cX1_inverseOf 8 = .ok (.istore 4, 2) := by decide +kernel
theorem dX1_inverseOf_10 : decode cX1_inverseOf 10 = .ok (.iconst 1, 1) := by decide +kernel
theorem dX1_inverseOf_11 : decode cX1_inverseOf 11 = .ok (.istore 5, 2) := by decide +kernel
theorem dX1_inverseOf_13 : decode cX1_inverseOf 13 = .ok (.iload_n 3, 1) := by decide +kernel
theorem dX1_inverseOf_14 : decode cX1_inverseOf 14 = .ok (.ifCond .le 42, 3) := by decide +kernel
theorem dX1_inverseOf_17 : decode cX1_inverseOf 17 = .ok (.iload_n 2, 1) := by decide +kernel
theorem dX1_inverseOf_18 : decode cX1_inverseOf 18 = .ok (.iload_n 3, 1) := by decide +kernel
theorem dX1_inverseOf_19 : decode cX1_inverseOf 19 = .ok (.idiv, 1) := by decide +kernel
theorem dX1_inverseOf_20 : decode cX1_inverseOf 20 = .ok (.istore 6, 2) := by decide +kernel
theorem dX1_inverseOf_22 : decode cX1_inverseOf 22 = .ok (.iload_n 2, 1) := by decide +kernel
theorem dX1_inverseOf_23 : decode cX1_inverseOf 23 = .ok (.iload 6, 2) := by decide +kernel
theorem dX1_inverseOf_25 : decode cX1_inverseOf 25 = .ok (.iload_n 3, 1) := by decide +kernel
theorem dX1_inverseOf_26 : decode cX1_inverseOf 26 = .ok (.imul, 1) := by decide +kernel
theorem dX1_inverseOf_27 : decode cX1_inverseOf 27 = .ok (.isub, 1) := by decide +kernel
theorem dX1_inverseOf_28 : decode cX1_inverseOf 28 = .ok (.istore 7, 2) := by decide +kernel
theorem dX1_inverseOf_30 : decode cX1_inverseOf 30 = .ok (.iload 4, 2) := by decide +kernel
theorem dX1_inverseOf_32 : decode cX1_inverseOf 32 = .ok (.iload 6, 2) := by decide +kernel
theorem dX1_inverseOf_34 : decode cX1_inverseOf 34 = .ok (.iload 5, 2) := by decide +kernel
theorem dX1_inverseOf_36 : decode cX1_inverseOf 36 = .ok (.imul, 1) := by decide +kernel
theorem dX1_inverseOf_37 : decode cX1_inverseOf 37 = .ok (.isub, 1) := by decide +kernel
theorem dX1_inverseOf_38 : decode cX1_inverseOf 38 = .ok (.istore 8, 2) := by decide +kernel
theorem dX1_inverseOf_40 : decode cX1_inverseOf 40 = .ok (.iload_n 3, 1) := by decide +kernel
theorem dX1_inverseOf_41 : decode cX1_inverseOf 41 = .ok (.istore_n 2, 1) := by decide +kernel
theorem dX1_inverseOf_42 : decode cX1_inverseOf 42 = .ok (.iload 7, 2) := by decide +kernel
theorem dX1_inverseOf_44 : decode cX1_inverseOf 44 = .ok (.istore_n 3, 1) := by decide +kernel
theorem dX1_inverseOf_45 : decode cX1_inverseOf 45 = .ok (.iload 5, 2) := by decide +kernel
theorem dX1_inverseOf_47 : decode cX1_inverseOf 47 = .ok (.istore 4, 2) := by decide +kernel
theorem dX1_inverseOf_49 : decode cX1_inverseOf 49 = .ok (.iload 8, 2) := by decide +kernel
theorem dX1_inverseOf_51 : decode cX1_inverseOf 51 = .ok (.istore 5, 2) := by decide +kernel
theorem dX1_inverseOf_53 : decode cX1_inverseOf 53 = .ok (.goto (-40), 3) := by decide +kernel
theorem dX1_inverseOf_56 : decode cX1_inverseOf 56 = .ok (.iload 4, 2) := by decide +kernel
theorem dX1_inverseOf_58 : decode cX1_inverseOf 58 = .ok (.aload_n 0, 1) := by decide +kernel
theorem dX1_inverseOf_59 : decode cX1_inverseOf 59 = .ok (.getfield 13, 3) := by decide +kernel
theorem dX1_inverseOf_62 : decode cX1_inverseOf 62 = .ok (.irem, 1) := by decide +kernel
theorem dX1_inverseOf_63 : decode cX1_inverseOf 63 = .ok (.aload_n 0, 1) := by decide +kernel
theorem dX1_inverseOf_64 : decode cX1_inverseOf 64 = .ok (.getfield 13, 3) := by decide +kernel
theorem dX1_inverseOf_67 : decode cX1_inverseOf 67 = .ok (.iadd, 1) := by decide +kernel
theorem dX1_inverseOf_68 : decode cX1_inverseOf 68 = .ok (.aload_n 0, 1) := by decide +kernel
theorem dX1_inverseOf_69 : decode cX1_inverseOf 69 = .ok (.getfield 13, 3) := by decide +kernel
theorem dX1_inverseOf_72 : decode cX1_inverseOf 72 = .ok (.irem, 1) := by decide +kernel
theorem dX1_inverseOf_73 : decode cX1_inverseOf 73 = .ok (.ireturn, 1) := by decide +kernel
set_option maxRecDepth 20000 in
theorem ggX1_orderOf_X1_by : GoodIn wsX1_orderOf wsX1_by := goodIn_r _ [5, 6, 7, 8, 9, 10, 11, 12, 13] (by decide +kernel) (by decide +kernel)
set_option maxRecDepth 20000 in
theorem gX1_orderOf_X1_by : GoodIn wsX1_orderOf (wsV RX1 36 RX1 yX1_by wsX1_by) := goodIn_app (goodIn_of _ (by decide +kernel)) ggX1_orderOf_X1_by
theorem dX1_orderOf_0 : decode cX1_orderOf 0 = .ok (.iconst 1, 1) := by decide +kernel
theorem dX1_orderOf_1 : decode cX1_orderOf 1 = .ok (.istore_n 2, 1) := by decide +kernel
theorem dX1_orderOf_2 : decode cX1_orderOf 2 = .ok (.iload_n 1, 1) := by decide +kernel
theorem dX1_orderOf_3 : decode cX1_orderOf 3 = .ok (.istore_n 3, 1) := by decide +kernel
theorem dX1_orderOf_4 : decode cX1_orderOf 4 = .ok (.iload_n 3, 1) := by decide +kernel
theorem dX1_orderOf_5 : decode cX1_orderOf 5 = .ok (.iconst 1, 1) := by decide +kernel
theorem dX1_orderOf_6 : decode cX1_orderOf 6 = .ok (.if_icmp .eq 16, 3) := by decide +kernel
theorem dX1_orderOf_9 : decode cX1_orderOf 9 = .ok (.iinc 2 1, 3) := by decide +kernel
theorem dX1_orderOf_12 : decode cX1_orderOf 12 = .ok (.aload_n 0, 1) := by decide +kernel
theorem dX1_orderOf_13 : decode cX1_orderOf 13 = .ok (.iload_n 3, 1) := by decide +kernel
theorem dX1_orderOf_14 : decode cX1_orderOf 14 = .ok (.iload_n 1, 1) := by decide +kernel
theorem dX1_orderOf_15 : decode cX1_orderOf 15 = .ok (.invokevirtual 36, 3) := by decide +kernel
theorem dX1_orderOf_18 : decode cX1_orderOf 18 = .ok (.istore_n 3, 1) := by decide +kernel
theorem dX1_orderOf_19 : decode cX1_orderOf 19 = .ok (.goto (-15), 3) := by decide +kernel
theorem dX1_orderOf_22 : decode cX1_orderOf 22 = .ok (.iload_n 2, 1) := by decide +kernel
theorem dX1_orderOf_23 : decode cX1_orderOf 23 = .ok (.ireturn, 1) := by decide +kernel
theorem dX1_isPrime_0 : decode cX1_isPrime 0 = .ok (.iconst 2, 1) := by decide +kernel
theorem dX1_isPrime_1 : decode cX1_isPrime 1 = .ok (.istore_n 1, 1) := by decide +kernel
theorem dX1_isPrime_2 : decode cX1_isPrime 2 = .ok (.iload_n 1, 1) := by decide +kernel
theorem dX1_isPrime_3 : decode cX1_isPrime 3 = .ok (.iload_n 1, 1) := by decide +kernel
theorem dX1_isPrime_4 : decode cX1_isPrime 4 = .ok (.imul, 1) := by decide +kernel
theorem dX1_isPrime_5 : decode cX1_isPrime 5 = .ok (.iload_n 0, 1) := by decide +kernel
theorem dX1_isPrime_6 : decode cX1_isPrime 6 = .ok (.if_icmp .gt 17, 3) := by decide +kernel
theorem dX1_isPrime_9 : decode cX1_isPrime 9 = .ok (.iload_n 0, 1) := by decide +kernel
theorem dX1_isPrime_10 : decode cX1_isPrime 10 = .ok (.iload_n 1, 1) := by decide +kernel
theorem dX1_isPrime_11 : decode cX1_isPrime 11 = .ok (.irem, 1) := by decide +kernel
theorem dX1_isPrime_12 : decode cX1_isPrime 12 = .ok (.ifCond .ne 5, 3) := by decide +kernel
theorem dX1_isPrime_15 : decode cX1_isPrime 15 = .ok (.iconst 0, 1) := by decide +kernel
theorem dX1_isPrime_16 : decode cX1_isPrime 16 = .ok (.ireturn, 1) := by decide +kernel
theorem dX1_isPrime_17 : decode cX1_isPrime 17 = .ok (.iinc 1 1, 3) := by decide +kernel
theorem dX1_isPrime_20 : decode cX1_isPrime 20 = .ok (.goto (-18), 3) := by decide +kernel
theorem dX1_isPrime_23 : decode cX1_isPrime 23 = .ok (.iconst 1, 1) := by decide +kernel
theorem dX1_isPrime_24 : decode cX1_isPrime 24 = .ok (.ireturn, 1) := by decide +kernel
set_option maxRecDepth 20000 in
theorem ggX1_rootOf_X1_orderOf : GoodIn wsX1_rootOf wsX1_orderOf := goodIn_r _ [6, 7, 8, 9, 5, 10, 11, 12, 13, 14, 15, 16, 17, 18] (by decide +kernel) (by decide +kernel)
set_option maxRecDepth 20000 in
theorem gX1_rootOf_X1_orderOf : GoodIn wsX1_rootOf (wsV RX1 40 RX1 yX1_orderOf wsX1_orderOf) := goodIn_app (goodIn_of _ (by decide +kernel)) ggX1_rootOf_X1_orderOf
theorem dX1_rootOf_0 : decode cX1_rootOf 0 = .ok (.iconst 1, 1) := by decide +kernel
theorem dX1_rootOf_1 : decode cX1_rootOf 1 = .ok (.istore_n 1, 1) := by decide +kernel
theorem dX1_rootOf_2 : decode cX1_rootOf 2 = .ok (.aload_n 0, 1) := by decide +kernel
theorem dX1_rootOf_3 : decode cX1_rootOf 3 = .ok (.iload_n 1, 1) := by decide +kernel
theorem dX1_rootOf_4 : decode cX1_rootOf 4 = .ok (.invokevirtual 40, 3) := by decide +kernel
theorem dX1_rootOf_7 : decode cX1_rootOf 7 = .ok (.aload_n 0, 1) := by decide +kernel
theorem dX1_rootOf_8 : decode cX1_rootOf 8 = .ok (.getfield 7, 3) := by decide +kernel
theorem dX1_rootOf_11 : decode cX1_rootOf 11 = .ok (.if_icmp .eq 9, 3) := by decide +kernel
theorem dX1_rootOf_14 : decode cX1_rootOf 14 = .ok (.iinc 1 1, 3) := by decide +kernel
theorem dX1_rootOf_17 : decode cX1_rootOf 17 = .ok (.goto (-15), 3) := by decide +kernel
theorem dX1_rootOf_20 : decode cX1_rootOf 20 = .ok (.iload_n 1, 1) := by decide +kernel
theorem dX1_rootOf_21 : decode cX1_rootOf 21 = .ok (.ireturn, 1) := by decide +kernel
set_option maxRecDepth 20000 in
theorem ggX1_ring_X1_isIn : GoodIn wsX1_ring wsX1_isIn := goodIn_r _ [10] (by decide +kernel) (by decide +kernel)
set_option maxRecDepth 20000 in
theorem gX1_ring_X1_isIn : GoodIn wsX1_ring (va_wsS RX1 32 yX1_isIn wsX1_isIn) := goodIn_app (goodIn_of _ (by decide +kernel)) ggX1_ring_X1_isIn
set_option maxRecDepth 20000 in
theorem ggX1_ring_X1_isPrime : GoodIn wsX1_ring wsX1_isPrime := goodIn_r _ [13] (by decide +kernel) (by decide +kernel)
set_option maxRecDepth 20000 in
theorem gX1_ring_X1_isPrime : GoodIn wsX1_ring (va_wsS RX1 44 yX1_isPrime wsX1_isPrime) := goodIn_app (goodIn_of _ (by decide +kernel)) ggX1_ring_X1_isPrime
set_option maxRecDepth 20000 in
theorem ggX1_ring_X1_no : GoodIn wsX1_ring wsX1_no := goodIn_r _ [17, 1, 30, 31, 32, 33, 34, 35, 36] (by decide +kernel) (by decide +kernel)
set_option maxRecDepth 20000 in
theorem gX1_ring_X1_no : GoodIn wsX1_ring (wsV RX1 48 RX1 yX1_no wsX1_no) := goodIn_app (goodIn_of _ (by decide +kernel)) ggX1_ring_X1_no
set_option maxRecDepth 20000 in
theorem ggX1_ring_X1_rootOf : GoodIn wsX1_ring wsX1_rootOf := goodIn_r _ [21, 2, 22, 23, 24, 9, 25, 26, 27, 28, 29, 3, 30, 31, 32, 33, 34, 35, 36] (by decide +kernel) (by decide +kernel)
set_option maxRecDepth 20000 in
theorem gX1_ring_X1_rootOf : GoodIn wsX1_ring (wsV RX1 51 RX1 yX1_rootOf wsX1_rootOf) := goodIn_app (goodIn_of _ (by decide +kernel)) ggX1_ring_X1_rootOf
theorem dX1_ring_0 : decode cX1_ring 0 = .ok (.aload_n 0, 1) := by decide +kernel
theorem dX1_ring_1 : decode cX1_ring 1 = .ok (.iconst 0, 1) := by decide +kernel
theorem dX1_ring_2 : decode cX1_ring 2 = .ok (.putfield 29, 3) := by decide +kernel
theorem dX1_ring_5 : decode cX1_ring 5 = .ok (.iload_n 1, 1) := by decide +kernel
theorem dX1_ring_6 : decode cX1_ring 6 = .ok (.iconst 4, 1) := by decide +kernel
theorem dX1_ring_7 : decode cX1_ring 7 = .ok (.if_icmp .eq 15, 3) := by decide +kernel
theorem dX1_ring_10 : decode cX1_ring 10 = .ok (.iload_n 1, 1) := by decide +kernel
theorem dX1_ring_11 : decode cX1_ring 11 = .ok (.bipush 8, 2) := by decide +kernel
theorem dX1_ring_13 : decode cX1_ring 13 = .ok (.if_icmp .eq 9, 3) := by decide +kernel
theorem dX1_ring_16 : decode cX1_ring 16 = .ok (.iload_n 1, 1) := by decide +kernel
theorem dX1_ring_17 : decode cX1_ring 17 = .ok (.bipush 16, 2) := by decide +kernel
theorem dX1_ring_19 : decode cX1_ring 19 = .ok (.if_icmp .ne 29, 3) := by decide +kernel
theorem dX1_ring_22 : decode cX1_ring 22 = .ok (.iload_n 2, 1) := by decide +kernel
theorem dX1_ring_23 : decode cX1_ring 23 = .ok (.iconst 5, 1) := by decide +kernel
theorem dX1_ring_24 : decode cX1_ring 24 = .ok (.sipush 499, 3) := by decide +kernel
theorem dX1_ring_27 : decode cX1_ring 27 = .ok (.invokestatic 32, 3) := by decide +kernel
theorem dX1_ring_30 : decode cX1_ring 30 = .ok (.ifCond .eq 18, 3) := by decide +kernel
theorem dX1_ring_33 : decode cX1_ring 33 = .ok (.iload_n 2, 1) := by decide +kernel
theorem dX1_ring_34 : decode cX1_ring 34 = .ok (.invokestatic 44, 3) := by decide +kernel
theorem dX1_ring_37 : decode cX1_ring 37 = .ok (.ifCond .eq 11, 3) := by decide +kernel
theorem dX1_ring_40 : decode cX1_ring 40 = .ok (.iload_n 2, 1) := by decide +kernel
theorem dX1_ring_41 : decode cX1_ring 41 = .ok (.iconst 1, 1) := by decide +kernel
theorem dX1_ring_42 : decode cX1_ring 42 = .ok (.isub, 1) := by decide +kernel
theorem dX1_ring_43 : decode cX1_ring 43 = .ok (.iload_n 1, 1) := by decide +kernel
theorem dX1_ring_44 : decode cX1_ring 44 = .ok (.irem, 1) := by decide +kernel
theorem dX1_ring_45 : decode cX1_ring 45 = .ok (.ifCond .le 9, 3) := by decide +kernel
theorem dX1_ring_48 : decode cX1_ring 48 = .ok (.aload_n 0, 1) := by decide +kernel
theorem dX1_ring_49 : decode cX1_ring 49 = .ok (.iconst 1, 1) := by decide +kernel
theorem dX1_ring_50 : decode cX1_ring 50 = .ok (.invokevirtual 48, 3) := by decide +kernel
theorem dX1_ring_53 : decode cX1_ring 53 = .ok (.ireturn, 1) := by decide +kernel
theorem dX1_ring_54 : decode cX1_ring 54 = .ok (.aload_n 0, 1) := by decide +kernel
theorem dX1_ring_55 : decode cX1_ring 55 = .ok (.iload_n 1, 1) := by decide +kernel
theorem dX1_ring_56 : decode cX1_ring 56 = .ok (.putfield 7, 3) := by decide +kernel
theorem dX1_ring_59 : decode cX1_ring 59 = .ok (.aload_n 0, 1) := by decide +kernel
theorem dX1_ring_60 : decode cX1_ring 60 = .ok (.iload_n 2, 1) := by decide +kernel
theorem dX1_ring_61 : decode cX1_ring 61 = .ok (.putfield 13, 3) := by decide +kernel
theorem dX1_ring_64 : decode cX1_ring 64 = .ok (.aload_n 0, 1) := by decide +kernel
theorem dX1_ring_65 : decode cX1_ring 65 = .ok (.aload_n 0, 1) := by decide +kernel
theorem dX1_ring_66 : decode cX1_ring 66 = .ok (.invokevirtual 51, 3) := by decide +kernel
theorem dX1_ring_69 : decode cX1_ring 69 = .ok (.putfield 16, 3) := by decide +kernel
theorem dX1_ring_72 : decode cX1_ring 72 = .ok (.aload_n 0, 1) := by decide +kernel
theorem dX1_ring_73 : decode cX1_ring 73 = .ok (.aload_n 0, 1) := by decide +kernel
theorem dX1_ring_74 : decode cX1_ring 74 = .ok (.getfield 7, 3) := by decide +kernel
theorem dX1_ring_77 : decode cX1_ring 77 = .ok (.iconst 4, 1) := by decide +kernel
theorem dX1_ring_78 : decode cX1_ring 78 = .ok (.if_icmp .ne 7, 3) := by decide +kernel
theorem dX1_ring_81 : decode cX1_ring 81 = .ok (.iconst 2, 1) := by decide +kernel
theorem dX1_ring_82 : decode cX1_ring 82 = .ok (.goto 17, 3) := by decide +kernel
theorem dX1_ring_85 : decode cX1_ring 85 = .ok (.aload_n 0, 1) := by decide +kernel
theorem dX1_ring_86 : decode cX1_ring 86 = .ok (.getfield 7, 3) := by decide +kernel
theorem dX1_ring_89 : decode cX1_ring 89 = .ok (.bipush 8, 2) := by decide +kernel
theorem dX1_ring_91 : decode cX1_ring 91 = .ok (.if_icmp .ne 7, 3) := by decide +kernel
theorem dX1_ring_94 : decode cX1_ring 94 = .ok (.iconst 3, 1) := by decide +kernel
theorem dX1_ring_95 : decode cX1_ring 95 = .ok (.goto 4, 3) := by decide +kernel
theorem dX1_ring_98 : decode cX1_ring 98 = .ok (.iconst 4, 1) := by decide +kernel
theorem dX1_ring_99 : decode cX1_ring 99 = .ok (.putfield 19, 3) := by decide +kernel
theorem dX1_ring_102 : decode cX1_ring 102 = .ok (.iconst 0, 1) := by decide +kernel
theorem dX1_ring_103 : decode cX1_ring 103 = .ok (.istore_n 3, 1) := by decide +kernel
theorem dX1_ring_104 : decode cX1_ring 104 = .ok (.iload_n 3, 1) := by decide +kernel
theorem dX1_ring_105 : decode cX1_ring 105 = .ok (.aload_n 0, 1) := by decide +kernel
theorem dX1_ring_106 : decode cX1_ring 106 = .ok (.getfield 22, 3) := by decide +kernel
theorem dX1_ring_109 : decode cX1_ring 109 = .ok (.arraylength, 1) := by decide +kernel
theorem dX1_ring_110 : decode cX1_ring 110 = .ok (.if_icmp .ge 16, 3) := by decide +kernel
theorem dX1_ring_113 : decode cX1_ring 113 = .ok (.aload_n 0, 1) := by decide +kernel
theorem dX1_ring_114 : decode cX1_ring 114 = .ok (.getfield 22, 3) := by decide +kernel
theorem dX1_ring_117 : decode cX1_ring 117 = .ok (.iload_n 3, 1) := by decide +kernel
theorem dX1_ring_118 : decode cX1_ring 118 = .ok (.iconst 0, 1) := by decide +kernel
theorem dX1_ring_119 : decode cX1_ring 119 = .ok (.iastore, 1) := by decide +kernel
theorem dX1_ring_120 : decode cX1_ring 120 = .ok (.iinc 3 1, 3) := by decide +kernel
theorem dX1_ring_123 : decode cX1_ring 123 = .ok (.goto (-19), 3) := by decide +kernel
theorem dX1_ring_126 : decode cX1_ring 126 = .ok (.aload_n 0, 1) := by decide +kernel
theorem dX1_ring_127 : decode cX1_ring 127 = .ok (.getfield 16, 3) := by decide +kernel
theorem dX1_ring_130 : decode cX1_ring 130 = .ok (.ireturn, 1) := by decide +kernel
set_option maxRecDepth 20000 in
theorem ggX1_isUnit_X1_isIn : GoodIn wsX1_isUnit wsX1_isIn := goodIn_r _ [5] (by decide +kernel) (by decide +kernel)
set_option maxRecDepth 20000 in
theorem gX1_isUnit_X1_isIn : GoodIn wsX1_isUnit (va_wsS RX1 32 yX1_isIn wsX1_isIn) := goodIn_app (goodIn_of _ (by decide +kernel)) ggX1_isUnit_X1_isIn
theorem dX1_isUnit_0 : decode cX1_isUnit 0 = .ok (.iload_n 1, 1) := by decide +kernel
theorem dX1_isUnit_1 : decode cX1_isUnit 1 = .ok (.iconst 1, 1) := by decide +kernel
theorem dX1_isUnit_2 : decode cX1_isUnit 2 = .ok (.aload_n 0, 1) := by decide +kernel
theorem dX1_isUnit_3 : decode cX1_isUnit 3 = .ok (.getfield 13, 3) := by decide +kernel
theorem dX1_isUnit_6 : decode cX1_isUnit 6 = .ok (.iconst 1, 1) := by decide +kernel
theorem dX1_isUnit_7 : decode cX1_isUnit 7 = .ok (.isub, 1) := by decide +kernel
theorem dX1_isUnit_8 : decode cX1_isUnit 8 = .ok (.invokestatic 32, 3) := by decide +kernel
theorem dX1_isUnit_11 : decode cX1_isUnit 11 = .ok (.ireturn, 1) := by decide +kernel
set_option maxRecDepth 20000 in
theorem ggX1_order_X1_isUnit : GoodIn wsX1_order wsX1_isUnit := goodIn_r _ [6, 7, 8, 9, 5, 10, 23, 24, 25, 26, 27, 28, 29] (by decide +kernel) (by decide +kernel)
set_option maxRecDepth 20000 in
theorem gX1_order_X1_isUnit : GoodIn wsX1_order (wsV RX1 55 RX1 yX1_isUnit wsX1_isUnit) := goodIn_app (goodIn_of _ (by decide +kernel)) ggX1_order_X1_isUnit
set_option maxRecDepth 20000 in
theorem ggX1_order_X1_orderOf : GoodIn wsX1_order wsX1_orderOf := goodIn_r _ [14, 15, 16, 17, 5, 18, 7, 23, 24, 25, 26, 27, 28, 29] (by decide +kernel) (by decide +kernel)
set_option maxRecDepth 20000 in
theorem gX1_order_X1_orderOf : GoodIn wsX1_order (wsV RX1 40 RX1 yX1_orderOf wsX1_orderOf) := goodIn_app (goodIn_of _ (by decide +kernel)) ggX1_order_X1_orderOf
set_option maxRecDepth 20000 in
theorem ggX1_order_X1_no : GoodIn wsX1_order wsX1_no := goodIn_r _ [22, 1, 23, 24, 25, 26, 27, 28, 29] (by decide +kernel) (by decide +kernel)
set_option maxRecDepth 20000 in
theorem gX1_order_X1_no : GoodIn wsX1_order (wsV RX1 48 RX1 yX1_no wsX1_no) := goodIn_app (goodIn_of _ (by decide +kernel)) ggX1_order_X1_no
theorem dX1_order_0 : decode cX1_order 0 = .ok (.aload_n 0, 1) := by decide +kernel
theorem dX1_order_1 : decode cX1_order 1 = .ok (.iconst 0, 1) := by decide +kernel
theorem dX1_order_2 : decode cX1_order 2 = .ok (.putfield 29, 3) := by decide +kernel
theorem dX1_order_5 : decode cX1_order 5 = .ok (.aload_n 0, 1) := by decide +kernel
theorem dX1_order_6 : decode cX1_order 6 = .ok (.iload_n 1, 1) := by decide +kernel
theorem dX1_order_7 : decode cX1_order 7 = .ok (.invokevirtual 55, 3) := by decide +kernel
theorem dX1_order_10 : decode cX1_order 10 = .ok (.ifCond .eq 11, 3) := by decide +kernel
theorem dX1_order_13 : decode cX1_order 13 = .ok (.aload_n 0, 1) := by decide +kernel
theorem dX1_order_14 : decode cX1_order 14 = .ok (.iload_n 1, 1) := by decide +kernel
theorem dX1_order_15 : decode cX1_order 15 = .ok (.invokevirtual 40, 3) := by decide +kernel
theorem dX1_order_18 : decode cX1_order 18 = .ok (.goto 8, 3) := by decide +kernel
theorem dX1_order_21 : decode cX1_order 21 = .ok (.aload_n 0, 1) := by decide +kernel
theorem dX1_order_22 : decode cX1_order 22 = .ok (.iconst 1, 1) := by decide +kernel
theorem dX1_order_23 : decode cX1_order 23 = .ok (.invokevirtual 48, 3) := by decide +kernel
theorem dX1_order_26 : decode cX1_order 26 = .ok (.ireturn, 1) := by decide +kernel
set_option maxRecDepth 20000 in
theorem ggX1_inverse_X1_isUnit : GoodIn wsX1_inverse wsX1_isUnit := goodIn_r _ [6, 7, 8, 9, 5, 10, 19, 20, 21, 22, 23, 24, 25] (by decide +kernel) (by decide +kernel)
set_option maxRecDepth 20000 in
theorem gX1_inverse_X1_isUnit : GoodIn wsX1_inverse (wsV RX1 55 RX1 yX1_isUnit wsX1_isUnit) := goodIn_app (goodIn_of _ (by decide +kernel)) ggX1_inverse_X1_isUnit
set_option maxRecDepth 20000 in
theorem ggX1_inverse_X1_inverseOf : GoodIn wsX1_inverse wsX1_inverseOf := goodIn_r _ [14, 7, 19, 20, 21, 22, 23, 24, 25] (by decide +kernel) (by decide +kernel)
set_option maxRecDepth 20000 in
theorem gX1_inverse_X1_inverseOf : GoodIn wsX1_inverse (wsV RX1 58 RX1 yX1_inverseOf wsX1_inverseOf) := goodIn_app (goodIn_of _ (by decide +kernel)) ggX1_inverse_X1_inverseOf
set_option maxRecDepth 20000 in
theorem ggX1_inverse_X1_no : GoodIn wsX1_inverse wsX1_no := goodIn_r _ [18, 1, 19, 20, 21, 22, 23, 24, 25] (by decide +kernel) (by decide +kernel)
set_option maxRecDepth 20000 in
theorem gX1_inverse_X1_no : GoodIn wsX1_inverse (wsV RX1 48 RX1 yX1_no wsX1_no) := goodIn_app (goodIn_of _ (by decide +kernel)) ggX1_inverse_X1_no
theorem dX1_inverse_0 : decode cX1_inverse 0 = .ok (.aload_n 0, 1) := by decide +kernel
theorem dX1_inverse_1 : decode cX1_inverse 1 = .ok (.iconst 0, 1) := by decide +kernel
theorem dX1_inverse_2 : decode cX1_inverse 2 = .ok (.putfield 29, 3) := by decide +kernel
theorem dX1_inverse_5 : decode cX1_inverse 5 = .ok (.aload_n 0, 1) := by decide +kernel
theorem dX1_inverse_6 : decode cX1_inverse 6 = .ok (.iload_n 1, 1) := by decide +kernel
theorem dX1_inverse_7 : decode cX1_inverse 7 = .ok (.invokevirtual 55, 3) := by decide +kernel
theorem dX1_inverse_10 : decode cX1_inverse 10 = .ok (.ifCond .eq 11, 3) := by decide +kernel
theorem dX1_inverse_13 : decode cX1_inverse 13 = .ok (.aload_n 0, 1) := by decide +kernel
theorem dX1_inverse_14 : decode cX1_inverse 14 = .ok (.iload_n 1, 1) := by decide +kernel
theorem dX1_inverse_15 : decode cX1_inverse 15 = .ok (.invokevirtual 58, 3) := by decide +kernel
theorem dX1_inverse_18 : decode cX1_inverse 18 = .ok (.goto 8, 3) := by decide +kernel
theorem dX1_inverse_21 : decode cX1_inverse 21 = .ok (.aload_n 0, 1) := by decide +kernel
theorem dX1_inverse_22 : decode cX1_inverse 22 = .ok (.iconst 1, 1) := by decide +kernel
theorem dX1_inverse_23 : decode cX1_inverse 23 = .ok (.invokevirtual 48, 3) := by decide +kernel
theorem dX1_inverse_26 : decode cX1_inverse 26 = .ok (.ireturn, 1) := by decide +kernel
set_option maxRecDepth 20000 in
theorem ggX1_root_X1_isIn : GoodIn wsX1_root wsX1_isIn := goodIn_r _ [6] (by decide +kernel) (by decide +kernel)
set_option maxRecDepth 20000 in
theorem gX1_root_X1_isIn : GoodIn wsX1_root (va_wsS RX1 32 yX1_isIn wsX1_isIn) := goodIn_app (goodIn_of _ (by decide +kernel)) ggX1_root_X1_isIn
set_option maxRecDepth 20000 in
theorem ggX1_root_X1_power : GoodIn wsX1_root wsX1_power := goodIn_r _ [10, 11, 12, 13, 5, 14, 15, 20, 21, 22, 23, 24, 25, 26] (by decide +kernel) (by decide +kernel)
set_option maxRecDepth 20000 in
theorem gX1_root_X1_power : GoodIn wsX1_root (wsV RX1 61 RX1 yX1_power wsX1_power) := goodIn_app (goodIn_of _ (by decide +kernel)) ggX1_root_X1_power
set_option maxRecDepth 20000 in
theorem ggX1_root_X1_no : GoodIn wsX1_root wsX1_no := goodIn_r _ [19, 1, 20, 21, 22, 23, 24, 25, 26] (by decide +kernel) (by decide +kernel)
set_option maxRecDepth 20000 in
theorem gX1_root_X1_no : GoodIn wsX1_root (wsV RX1 48 RX1 yX1_no wsX1_no) := goodIn_app (goodIn_of _ (by decide +kernel)) ggX1_root_X1_no
theorem dX1_root_0 : decode cX1_root 0 = .ok (.aload_n 0, 1) := by decide +kernel
theorem dX1_root_1 : decode cX1_root 1 = .ok (.iconst 0, 1) := by decide +kernel
theorem dX1_root_2 : decode cX1_root 2 = .ok (.putfield 29, 3) := by decide +kernel
theorem dX1_root_5 : decode cX1_root 5 = .ok (.iload_n 1, 1) := by decide +kernel
theorem dX1_root_6 : decode cX1_root 6 = .ok (.iconst 0, 1) := by decide +kernel
theorem dX1_root_7 : decode cX1_root 7 = .ok (.sipush 9999, 3) := by decide +kernel
theorem dX1_root_10 : decode cX1_root 10 = .ok (.invokestatic 32, 3) := by decide +kernel
theorem dX1_root_13 : decode cX1_root 13 = .ok (.ifCond .eq 15, 3) := by decide +kernel
theorem dX1_root_16 : decode cX1_root 16 = .ok (.aload_n 0, 1) := by decide +kernel
theorem dX1_root_17 : decode cX1_root 17 = .ok (.aload_n 0, 1) := by decide +kernel
theorem dX1_root_18 : decode cX1_root 18 = .ok (.getfield 16, 3) := by decide +kernel
theorem dX1_root_21 : decode cX1_root 21 = .ok (.iload_n 1, 1) := by decide +kernel
theorem dX1_root_22 : decode cX1_root 22 = .ok (.invokevirtual 61, 3) := by decide +kernel
theorem dX1_root_25 : decode cX1_root 25 = .ok (.goto 8, 3) := by decide +kernel
theorem dX1_root_28 : decode cX1_root 28 = .ok (.aload_n 0, 1) := by decide +kernel
theorem dX1_root_29 : decode cX1_root 29 = .ok (.iconst 1, 1) := by decide +kernel
theorem dX1_root_30 : decode cX1_root 30 = .ok (.invokevirtual 48, 3) := by decide +kernel
theorem dX1_root_33 : decode cX1_root 33 = .ok (.ireturn, 1) := by decide +kernel
theorem dX1_lay_0 : decode cX1_lay 0 = .ok (.aload_n 0, 1) := by decide +kernel
theorem dX1_lay_1 : decode cX1_lay 1 = .ok (.getfield 26, 3) := by decide +kernel
theorem dX1_lay_4 : decode cX1_lay 4 = .ok (.iconst 0, 1) := by decide +kernel
theorem dX1_lay_5 : decode cX1_lay 5 = .ok (.aload_n 0, 1) := by decide +kernel
theorem dX1_lay_6 : decode cX1_lay 6 = .ok (.getfield 22, 3) := by decide +kernel
theorem dX1_lay_9 : decode cX1_lay 9 = .ok (.bipush 16, 2) := by decide +kernel
theorem dX1_lay_11 : decode cX1_lay 11 = .ok (.iload_n 1, 1) := by decide +kernel
theorem dX1_lay_12 : decode cX1_lay 12 = .ok (.imul, 1) := by decide +kernel
theorem dX1_lay_13 : decode cX1_lay 13 = .ok (.aload_n 0, 1) := by decide +kernel
theorem dX1_lay_14 : decode cX1_lay 14 = .ok (.getfield 7, 3) := by decide +kernel
theorem dX1_lay_17 : decode cX1_lay 17 = .ok (.invokestatic 64, 3) := by decide +kernel
theorem dX1_lay_20 : decode cX1_lay 20 = .ok (.return_, 1) := by decide +kernel
set_option maxRecDepth 20000 in
theorem ggX1_changes_X1_its : GoodIn wsX1_changes wsX1_its := goodIn_r _ [7, 8, 9, 10, 11, 12, 13, 14, 15] (by decide +kernel) (by decide +kernel)
set_option maxRecDepth 20000 in
theorem gX1_changes_X1_its : GoodIn wsX1_changes (wsV RX1 70 RX1 yX1_its wsX1_its) := goodIn_app (goodIn_of _ (by decide +kernel)) ggX1_changes_X1_its
theorem dX1_changes_0 : decode cX1_changes 0 = .ok (.iconst 0, 1) := by decide +kernel
theorem dX1_changes_1 : decode cX1_changes 1 = .ok (.istore_n 2, 1) := by decide +kernel
theorem dX1_changes_2 : decode cX1_changes 2 = .ok (.iconst 0, 1) := by decide +kernel
theorem dX1_changes_3 : decode cX1_changes 3 = .ok (.istore_n 3, 1) := by decide +kernel
theorem dX1_changes_4 : decode cX1_changes 4 = .ok (.iload_n 3, 1) := by decide +kernel
theorem dX1_changes_5 : decode cX1_changes 5 = .ok (.aload_n 0, 1) := by decide +kernel
theorem dX1_changes_6 : decode cX1_changes 6 = .ok (.getfield 7, 3) := by decide +kernel
theorem dX1_changes_9 : decode cX1_changes 9 = .ok (.if_icmp .ge 32, 3) := by decide +kernel
theorem dX1_changes_12 : decode cX1_changes 12 = .ok (.iload_n 2, 1) := by decide +kernel
theorem dX1_changes_13 : decode cX1_changes 13 = .ok (.aload_n 0, 1) := by decide +kernel
theorem dX1_changes_14 : decode cX1_changes 14 = .ok (.iload_n 1, 1) := by decide +kernel
theorem dX1_changes_15 : decode cX1_changes 15 = .ok (.iload_n 3, 1) := by decide +kernel
theorem dX1_changes_16 : decode cX1_changes 16 = .ok (.invokevirtual 70, 3) := by decide +kernel
theorem dX1_changes_19 : decode cX1_changes 19 = .ok (.aload_n 0, 1) := by decide +kernel
theorem dX1_changes_20 : decode cX1_changes 20 = .ok (.getfield 26, 3) := by decide +kernel
theorem dX1_changes_23 : decode cX1_changes 23 = .ok (.iload_n 3, 1) := by decide +kernel
theorem dX1_changes_24 : decode cX1_changes 24 = .ok (.iaload, 1) := by decide +kernel
theorem dX1_changes_25 : decode cX1_changes 25 = .ok (.if_icmp .eq 7, 3) := by decide +kernel
theorem dX1_changes_28 : decode cX1_changes 28 = .ok (.iconst 1, 1) := by decide +kernel
theorem dX1_changes_29 : decode cX1_changes 29 = .ok (.goto 4, 3) := by decide +kernel
theorem dX1_changes_32 : decode cX1_changes 32 = .ok (.iconst 0, 1) := by decide +kernel
theorem dX1_changes_33 : decode cX1_changes 33 = .ok (.iadd, 1) := by decide +kernel
theorem dX1_changes_34 : decode cX1_changes 34 = .ok (.istore_n 2, 1) := by decide +kernel
theorem dX1_changes_35 : decode cX1_changes 35 = .ok (.iinc 3 1, 3) := by decide +kernel
theorem dX1_changes_38 : decode cX1_changes 38 = .ok (.goto (-34), 3) := by decide +kernel
theorem dX1_changes_41 : decode cX1_changes 41 = .ok (.iload_n 2, 1) := by decide +kernel
theorem dX1_changes_42 : decode cX1_changes 42 = .ok (.ireturn, 1) := by decide +kernel
set_option maxRecDepth 20000 in
theorem ggX1_others_X1_its : GoodIn wsX1_others wsX1_its := goodIn_r _ [6, 7, 8, 9, 10, 11, 12, 13, 14] (by decide +kernel) (by decide +kernel)
set_option maxRecDepth 20000 in
theorem gX1_others_X1_its : GoodIn wsX1_others (wsV RX1 70 RX1 yX1_its wsX1_its) := goodIn_app (goodIn_of _ (by decide +kernel)) ggX1_others_X1_its
theorem dX1_others_0 : decode cX1_others 0 = .ok (.iconst 0, 1) := by decide +kernel
theorem dX1_others_1 : decode cX1_others 1 = .ok (.istore_n 2, 1) := by decide +kernel
theorem dX1_others_2 : decode cX1_others 2 = .ok (.iconst 0, 1) := by decide +kernel
theorem dX1_others_3 : decode cX1_others 3 = .ok (.istore_n 3, 1) := by decide +kernel
theorem dX1_others_4 : decode cX1_others 4 = .ok (.iload_n 3, 1) := by decide +kernel
theorem dX1_others_5 : decode cX1_others 5 = .ok (.aload_n 0, 1) := by decide +kernel
theorem dX1_others_6 : decode cX1_others 6 = .ok (.getfield 7, 3) := by decide +kernel
theorem dX1_others_9 : decode cX1_others 9 = .ok (.if_icmp .ge 26, 3) := by decide +kernel
theorem dX1_others_12 : decode cX1_others 12 = .ok (.iload_n 2, 1) := by decide +kernel
theorem dX1_others_13 : decode cX1_others 13 = .ok (.aload_n 0, 1) := by decide +kernel
theorem dX1_others_14 : decode cX1_others 14 = .ok (.iload_n 1, 1) := by decide +kernel
theorem dX1_others_15 : decode cX1_others 15 = .ok (.iload_n 3, 1) := by decide +kernel
theorem dX1_others_16 : decode cX1_others 16 = .ok (.invokevirtual 70, 3) := by decide +kernel
theorem dX1_others_19 : decode cX1_others 19 = .ok (.ifCond .eq 7, 3) := by decide +kernel
theorem dX1_others_22 : decode cX1_others 22 = .ok (.iconst 1, 1) := by decide +kernel
theorem dX1_others_23 : decode cX1_others 23 = .ok (.goto 4, 3) := by decide +kernel
theorem dX1_others_26 : decode cX1_others 26 = .ok (.iconst 0, 1) := by decide +kernel
theorem dX1_others_27 : decode cX1_others 27 = .ok (.iadd, 1) := by decide +kernel
theorem dX1_others_28 : decode cX1_others 28 = .ok (.istore_n 2, 1) := by decide +kernel
theorem dX1_others_29 : decode cX1_others 29 = .ok (.iinc 3 1, 3) := by decide +kernel
theorem dX1_others_32 : decode cX1_others 32 = .ok (.goto (-28), 3) := by decide +kernel
theorem dX1_others_35 : decode cX1_others 35 = .ok (.iload_n 2, 1) := by decide +kernel
theorem dX1_others_36 : decode cX1_others 36 = .ok (.ireturn, 1) := by decide +kernel
set_option maxRecDepth 20000 in
theorem ggX1_pointOf_X1_by : GoodIn wsX1_pointOf wsX1_by := goodIn_r _ [6, 7, 17, 18, 19, 20, 21, 22, 23] (by decide +kernel) (by decide +kernel)
set_option maxRecDepth 20000 in
theorem gX1_pointOf_X1_by : GoodIn wsX1_pointOf (wsV RX1 36 RX1 yX1_by wsX1_by) := goodIn_app (goodIn_of _ (by decide +kernel)) ggX1_pointOf_X1_by
set_option maxRecDepth 20000 in
theorem ggX1_pointOf_X1_its : GoodIn wsX1_pointOf wsX1_its := goodIn_r _ [11, 12, 17, 18, 19, 20, 21, 22, 23] (by decide +kernel) (by decide +kernel)
set_option maxRecDepth 20000 in
theorem gX1_pointOf_X1_its : GoodIn wsX1_pointOf (wsV RX1 70 RX1 yX1_its wsX1_its) := goodIn_app (goodIn_of _ (by decide +kernel)) ggX1_pointOf_X1_its
set_option maxRecDepth 20000 in
theorem ggX1_pointOf_X1_plus : GoodIn wsX1_pointOf wsX1_plus := goodIn_r _ [16, 7, 17, 18, 19, 20, 21, 22, 23] (by decide +kernel) (by decide +kernel)
set_option maxRecDepth 20000 in
theorem gX1_pointOf_X1_plus : GoodIn wsX1_pointOf (wsV RX1 73 RX1 yX1_plus wsX1_plus) := goodIn_app (goodIn_of _ (by decide +kernel)) ggX1_pointOf_X1_plus
theorem dX1_pointOf_0 : decode cX1_pointOf 0 = .ok (.iconst 0, 1) := by decide +kernel
theorem dX1_pointOf_1 : decode cX1_pointOf 1 = .ok (.istore_n 3, 1) := by decide +kernel
theorem dX1_pointOf_2 : decode cX1_pointOf 2 = .ok (.aload_n 0, 1) := by decide +kernel
theorem dX1_pointOf_3 : decode cX1_pointOf 3 = .ok (.getfield 7, 3) := by decide +kernel
theorem dX1_pointOf_6 : decode cX1_pointOf 6 = .ok (.iconst 1, 1) := by decide +kernel
theorem dX1_pointOf_7 : decode cX1_pointOf 7 = .ok (.isub, 1) := by decide +kernel
theorem dX1_pointOf_8 : decode cX1_pointOf 8 = .ok (.istore 4, 2) := by decide +kernel
theorem dX1_pointOf_10 : decode cX1_pointOf 10 = .ok (.iload 4, 2) := by decide +kernel
theorem dX1_pointOf_12 : decode cX1_pointOf 12 = .ok (.ifCond .lt 27, 3) := by decide +kernel
theorem dX1_pointOf_15 : decode cX1_pointOf 15 = .ok (.aload_n 0, 1) := by decide +kernel
theorem dX1_pointOf_16 : decode cX1_pointOf 16 = .ok (.aload_n 0, 1) := by decide +kernel
theorem dX1_pointOf_17 : decode cX1_pointOf 17 = .ok (.iload_n 3, 1) := by decide +kernel
theorem dX1_pointOf_18 : decode cX1_pointOf 18 = .ok (.iload_n 2, 1) := by decide +kernel
theorem dX1_pointOf_19 : decode cX1_pointOf 19 = .ok (.invokevirtual 36, 3) := by decide +kernel
theorem dX1_pointOf_22 : decode cX1_pointOf 22 = .ok (.aload_n 0, 1) := by decide +kernel
theorem dX1_pointOf_23 : decode cX1_pointOf 23 = .ok (.iload_n 1, 1) := by decide +kernel
theorem dX1_pointOf_24 : decode cX1_pointOf 24 = .ok (.iload 4, 2) := by decide +kernel
theorem dX1_pointOf_26 : decode cX1_pointOf 26 = .ok (.invokevirtual 70, 3) := by decide +kernel
theorem dX1_pointOf_29 : decode cX1_pointOf 29 = .ok (.invokevirtual 73, 3) := by decide +kernel
theorem dX1_pointOf_32 : decode cX1_pointOf 32 = .ok (.istore_n 3, 1) := by decide +kernel
theorem dX1_pointOf_33 : decode cX1_pointOf 33 = .ok (.iinc 4 (-1), 3) := by decide +kernel
theorem dX1_pointOf_36 : decode cX1_pointOf 36 = .ok (.goto (-26), 3) := by decide +kernel
theorem dX1_pointOf_39 : decode cX1_pointOf 39 = .ok (.iload_n 3, 1) := by decide +kernel
theorem dX1_pointOf_40 : decode cX1_pointOf 40 = .ok (.ireturn, 1) := by decide +kernel
set_option maxRecDepth 20000 in
theorem ggX1_makeTones_X1_pointOf : GoodIn wsX1_makeTones wsX1_pointOf := goodIn_r _ [7, 1, 8, 9, 10, 6, 11, 12, 13, 14, 15, 16, 17, 18, 19, 20, 21, 22, 23, 24, 25, 26, 27, 28] (by decide +kernel) (by decide +kernel)
set_option maxRecDepth 20000 in
theorem gX1_makeTones_X1_pointOf : GoodIn wsX1_makeTones (wsV RX1 76 RX1 yX1_pointOf wsX1_pointOf) := goodIn_app (goodIn_of _ (by decide +kernel)) ggX1_makeTones_X1_pointOf
set_option maxRecDepth 20000 in
theorem ggX1_makeTones_X1_by : GoodIn wsX1_makeTones wsX1_by := goodIn_r _ [11, 12, 22, 23, 24, 25, 26, 27, 28] (by decide +kernel) (by decide +kernel)
set_option maxRecDepth 20000 in
theorem gX1_makeTones_X1_by : GoodIn wsX1_makeTones (wsV RX1 36 RX1 yX1_by wsX1_by) := goodIn_app (goodIn_of _ (by decide +kernel)) ggX1_makeTones_X1_by
theorem dX1_makeTones_0 : decode cX1_makeTones 0 = .ok (.iconst 1, 1) := by decide +kernel
theorem dX1_makeTones_1 : decode cX1_makeTones 1 = .ok (.istore 4, 2) := by decide +kernel
theorem dX1_makeTones_3 : decode cX1_makeTones 3 = .ok (.iconst 0, 1) := by decide +kernel
theorem dX1_makeTones_4 : decode cX1_makeTones 4 = .ok (.istore 5, 2) := by decide +kernel
theorem dX1_makeTones_6 : decode cX1_makeTones 6 = .ok (.iload 5, 2) := by decide +kernel
theorem dX1_makeTones_8 : decode cX1_makeTones 8 = .ok (.aload_n 0, 1) := by decide +kernel
theorem dX1_makeTones_9 : decode cX1_makeTones 9 = .ok (.getfield 7, 3) := by decide +kernel
theorem dX1_makeTones_12 : decode cX1_makeTones 12 = .ok (.if_icmp .ge 37, 3) := by decide +kernel
theorem dX1_makeTones_15 : decode cX1_makeTones 15 = .ok (.aload_n 0, 1) := by decide +kernel
theorem dX1_makeTones_16 : decode cX1_makeTones 16 = .ok (.getfield 26, 3) := by decide +kernel
theorem dX1_makeTones_19 : decode cX1_makeTones 19 = .ok (.iload 5, 2) := by decide +kernel
theorem dX1_makeTones_21 : decode cX1_makeTones 21 = .ok (.aload_n 0, 1) := by decide +kernel
theorem dX1_makeTones_22 : decode cX1_makeTones 22 = .ok (.aload_n 0, 1) := by decide +kernel
theorem dX1_makeTones_23 : decode cX1_makeTones 23 = .ok (.iload_n 1, 1) := by decide +kernel
theorem dX1_makeTones_24 : decode cX1_makeTones 24 = .ok (.iload 4, 2) := by decide +kernel
theorem dX1_makeTones_26 : decode cX1_makeTones 26 = .ok (.invokevirtual 76, 3) := by decide +kernel
theorem dX1_makeTones_29 : decode cX1_makeTones 29 = .ok (.iload_n 3, 1) := by decide +kernel
theorem dX1_makeTones_30 : decode cX1_makeTones 30 = .ok (.invokevirtual 36, 3) := by decide +kernel
theorem dX1_makeTones_33 : decode cX1_makeTones 33 = .ok (.iastore, 1) := by decide +kernel
theorem dX1_makeTones_34 : decode cX1_makeTones 34 = .ok (.aload_n 0, 1) := by decide +kernel
theorem dX1_makeTones_35 : decode cX1_makeTones 35 = .ok (.iload 4, 2) := by decide +kernel
theorem dX1_makeTones_37 : decode cX1_makeTones 37 = .ok (.iload_n 2, 1) := by decide +kernel
theorem dX1_makeTones_38 : decode cX1_makeTones 38 = .ok (.invokevirtual 36, 3) := by decide +kernel
theorem dX1_makeTones_41 : decode cX1_makeTones 41 = .ok (.istore 4, 2) := by decide +kernel
theorem dX1_makeTones_43 : decode cX1_makeTones 43 = .ok (.iinc 5 1, 3) := by decide +kernel
theorem dX1_makeTones_46 : decode cX1_makeTones 46 = .ok (.goto (-40), 3) := by decide +kernel
theorem dX1_makeTones_49 : decode cX1_makeTones 49 = .ok (.return_, 1) := by decide +kernel
set_option maxRecDepth 20000 in
theorem ggX1_folded_X1_its : GoodIn wsX1_folded wsX1_its := goodIn_r _ [6, 7, 17, 18, 19, 20, 21, 22, 23] (by decide +kernel) (by decide +kernel)
set_option maxRecDepth 20000 in
theorem gX1_folded_X1_its : GoodIn wsX1_folded (wsV RX1 70 RX1 yX1_its wsX1_its) := goodIn_app (goodIn_of _ (by decide +kernel)) ggX1_folded_X1_its
set_option maxRecDepth 20000 in
theorem ggX1_folded_X1_by : GoodIn wsX1_folded wsX1_by := goodIn_r _ [11, 12, 17, 18, 19, 20, 21, 22, 23] (by decide +kernel) (by decide +kernel)
set_option maxRecDepth 20000 in
theorem gX1_folded_X1_by : GoodIn wsX1_folded (wsV RX1 36 RX1 yX1_by wsX1_by) := goodIn_app (goodIn_of _ (by decide +kernel)) ggX1_folded_X1_by
set_option maxRecDepth 20000 in
theorem ggX1_folded_X1_plus : GoodIn wsX1_folded wsX1_plus := goodIn_r _ [16, 12, 17, 18, 19, 20, 21, 22, 23] (by decide +kernel) (by decide +kernel)
set_option maxRecDepth 20000 in
theorem gX1_folded_X1_plus : GoodIn wsX1_folded (wsV RX1 73 RX1 yX1_plus wsX1_plus) := goodIn_app (goodIn_of _ (by decide +kernel)) ggX1_folded_X1_plus
theorem dX1_folded_0 : decode cX1_folded 0 = .ok (.iconst 0, 1) := by decide +kernel
theorem dX1_folded_1 : decode cX1_folded 1 = .ok (.istore 4, 2) := by decide +kernel
theorem dX1_folded_3 : decode cX1_folded 3 = .ok (.iconst 0, 1) := by decide +kernel
theorem dX1_folded_4 : decode cX1_folded 4 = .ok (.istore 5, 2) := by decide +kernel
theorem dX1_folded_6 : decode cX1_folded 6 = .ok (.iload 5, 2) := by decide +kernel
theorem dX1_folded_8 : decode cX1_folded 8 = .ok (.aload_n 0, 1) := by decide +kernel
theorem dX1_folded_9 : decode cX1_folded 9 = .ok (.getfield 7, 3) := by decide +kernel
theorem dX1_folded_12 : decode cX1_folded 12 = .ok (.if_icmp .ge 47, 3) := by decide +kernel
theorem dX1_folded_15 : decode cX1_folded 15 = .ok (.aload_n 0, 1) := by decide +kernel
theorem dX1_folded_16 : decode cX1_folded 16 = .ok (.iload 4, 2) := by decide +kernel
theorem dX1_folded_18 : decode cX1_folded 18 = .ok (.aload_n 0, 1) := by decide +kernel
theorem dX1_folded_19 : decode cX1_folded 19 = .ok (.aload_n 0, 1) := by decide +kernel
theorem dX1_folded_20 : decode cX1_folded 20 = .ok (.iload_n 1, 1) := by decide +kernel
theorem dX1_folded_21 : decode cX1_folded 21 = .ok (.iload 5, 2) := by decide +kernel
theorem dX1_folded_23 : decode cX1_folded 23 = .ok (.invokevirtual 70, 3) := by decide +kernel
theorem dX1_folded_26 : decode cX1_folded 26 = .ok (.aload_n 0, 1) := by decide +kernel
theorem dX1_folded_27 : decode cX1_folded 27 = .ok (.iload_n 2, 1) := by decide +kernel
theorem dX1_folded_28 : decode cX1_folded 28 = .ok (.iload_n 3, 1) := by decide +kernel
theorem dX1_folded_29 : decode cX1_folded 29 = .ok (.iload 5, 2) := by decide +kernel
theorem dX1_folded_31 : decode cX1_folded 31 = .ok (.isub, 1) := by decide +kernel
theorem dX1_folded_32 : decode cX1_folded 32 = .ok (.aload_n 0, 1) := by decide +kernel
theorem dX1_folded_33 : decode cX1_folded 33 = .ok (.getfield 7, 3) := by decide +kernel
theorem dX1_folded_36 : decode cX1_folded 36 = .ok (.iadd, 1) := by decide +kernel
theorem dX1_folded_37 : decode cX1_folded 37 = .ok (.aload_n 0, 1) := by decide +kernel
theorem dX1_folded_38 : decode cX1_folded 38 = .ok (.getfield 7, 3) := by decide +kernel
theorem dX1_folded_41 : decode cX1_folded 41 = .ok (.irem, 1) := by decide +kernel
theorem dX1_folded_42 : decode cX1_folded 42 = .ok (.invokevirtual 70, 3) := by decide +kernel
theorem dX1_folded_45 : decode cX1_folded 45 = .ok (.invokevirtual 36, 3) := by decide +kernel
theorem dX1_folded_48 : decode cX1_folded 48 = .ok (.invokevirtual 73, 3) := by decide +kernel
theorem dX1_folded_51 : decode cX1_folded 51 = .ok (.istore 4, 2) := by decide +kernel
theorem dX1_folded_53 : decode cX1_folded 53 = .ok (.iinc 5 1, 3) := by decide +kernel
theorem dX1_folded_56 : decode cX1_folded 56 = .ok (.goto (-50), 3) := by decide +kernel
theorem dX1_folded_59 : decode cX1_folded 59 = .ok (.iload 4, 2) := by decide +kernel
theorem dX1_folded_61 : decode cX1_folded 61 = .ok (.ireturn, 1) := by decide +kernel
theorem dX1_mirrored_0 : decode cX1_mirrored 0 = .ok (.iconst 0, 1) := by decide +kernel
theorem dX1_mirrored_1 : decode cX1_mirrored 1 = .ok (.istore_n 2, 1) := by decide +kernel
theorem dX1_mirrored_2 : decode cX1_mirrored 2 = .ok (.iconst 0, 1) := by decide +kernel
theorem dX1_mirrored_3 : decode cX1_mirrored 3 = .ok (.istore_n 3, 1) := by decide +kernel
theorem dX1_mirrored_4 : decode cX1_mirrored 4 = .ok (.iload_n 3, 1) := by decide +kernel
theorem dX1_mirrored_5 : decode cX1_mirrored 5 = .ok (.aload_n 0, 1) := by decide +kernel
theorem dX1_mirrored_6 : decode cX1_mirrored 6 = .ok (.getfield 19, 3) := by decide +kernel
theorem dX1_mirrored_9 : decode cX1_mirrored 9 = .ok (.if_icmp .ge 26, 3) := by decide +kernel
theorem dX1_mirrored_12 : decode cX1_mirrored 12 = .ok (.iload_n 2, 1) := by decide +kernel
theorem dX1_mirrored_13 : decode cX1_mirrored 13 = .ok (.iload_n 1, 1) := by decide +kernel
theorem dX1_mirrored_14 : decode cX1_mirrored 14 = .ok (.iload_n 3, 1) := by decide +kernel
theorem dX1_mirrored_15 : decode cX1_mirrored 15 = .ok (.ishr, 1) := by decide +kernel
theorem dX1_mirrored_16 : decode cX1_mirrored 16 = .ok (.iconst 1, 1) := by decide +kernel
theorem dX1_mirrored_17 : decode cX1_mirrored 17 = .ok (.iand, 1) := by decide +kernel
theorem dX1_mirrored_18 : decode cX1_mirrored 18 = .ok (.aload_n 0, 1) := by decide +kernel
theorem dX1_mirrored_19 : decode cX1_mirrored 19 = .ok (.getfield 19, 3) := by decide +kernel
theorem dX1_mirrored_22 : decode cX1_mirrored 22 = .ok (.iconst 1, 1) := by decide +kernel
theorem dX1_mirrored_23 : decode cX1_mirrored 23 = .ok (.isub, 1) := by decide +kernel
theorem dX1_mirrored_24 : decode cX1_mirrored 24 = .ok (.iload_n 3, 1) := by decide +kernel
theorem dX1_mirrored_25 : decode cX1_mirrored 25 = .ok (.isub, 1) := by decide +kernel
theorem dX1_mirrored_26 : decode cX1_mirrored 26 = .ok (.ishl, 1) := by decide +kernel
theorem dX1_mirrored_27 : decode cX1_mirrored 27 = .ok (.ior, 1) := by decide +kernel
theorem dX1_mirrored_28 : decode cX1_mirrored 28 = .ok (.istore_n 2, 1) := by decide +kernel
theorem dX1_mirrored_29 : decode cX1_mirrored 29 = .ok (.iinc 3 1, 3) := by decide +kernel
theorem dX1_mirrored_32 : decode cX1_mirrored 32 = .ok (.goto (-28), 3) := by decide +kernel
theorem dX1_mirrored_35 : decode cX1_mirrored 35 = .ok (.iload_n 2, 1) := by decide +kernel
theorem dX1_mirrored_36 : decode cX1_mirrored 36 = .ok (.ireturn, 1) := by decide +kernel
set_option maxRecDepth 20000 in
theorem ggX1_set_X1_isRow : GoodIn wsX1_set wsX1_isRow := goodIn_r _ [7, 8, 9, 6, 10] (by decide +kernel) (by decide +kernel)
set_option maxRecDepth 20000 in
theorem gX1_set_X1_isRow : GoodIn wsX1_set (va_wsS RX1 79 yX1_isRow wsX1_isRow) := goodIn_app (goodIn_of _ (by decide +kernel)) ggX1_set_X1_isRow
set_option maxRecDepth 20000 in
theorem ggX1_set_X1_isPlace : GoodIn wsX1_set wsX1_isPlace := goodIn_r _ [14, 15, 8, 9, 6, 10, 24, 25, 26, 27, 28, 29, 30] (by decide +kernel) (by decide +kernel)
set_option maxRecDepth 20000 in
theorem gX1_set_X1_isPlace : GoodIn wsX1_set (wsV RX1 82 RX1 yX1_isPlace wsX1_isPlace) := goodIn_app (goodIn_of _ (by decide +kernel)) ggX1_set_X1_isPlace
set_option maxRecDepth 20000 in
theorem ggX1_set_X1_no : GoodIn wsX1_set wsX1_no := goodIn_r _ [19, 1, 24, 25, 26, 27, 28, 29, 30] (by decide +kernel) (by decide +kernel)
set_option maxRecDepth 20000 in
theorem gX1_set_X1_no : GoodIn wsX1_set (wsV RX1 48 RX1 yX1_no wsX1_no) := goodIn_app (goodIn_of _ (by decide +kernel)) ggX1_set_X1_no
set_option maxRecDepth 20000 in
theorem ggX1_set_X1_isIn : GoodIn wsX1_set wsX1_isIn := goodIn_r _ [10] (by decide +kernel) (by decide +kernel)
set_option maxRecDepth 20000 in
theorem gX1_set_X1_isIn : GoodIn wsX1_set (va_wsS RX1 32 yX1_isIn wsX1_isIn) := goodIn_app (goodIn_of _ (by decide +kernel)) ggX1_set_X1_isIn
set_option maxRecDepth 20000 in
theorem ggX1_set_X1_its : GoodIn wsX1_set wsX1_its := goodIn_r _ [23, 3, 24, 25, 26, 27, 28, 29, 30] (by decide +kernel) (by decide +kernel)
set_option maxRecDepth 20000 in
theorem gX1_set_X1_its : GoodIn wsX1_set (wsV RX1 70 RX1 yX1_its wsX1_its) := goodIn_app (goodIn_of _ (by decide +kernel)) ggX1_set_X1_its
theorem dX1_set_0 : decode cX1_set 0 = .ok (.aload_n 0, 1) := by decide +kernel
theorem dX1_set_1 : decode cX1_set 1 = .ok (.iconst 0, 1) := by decide +kernel
theorem dX1_set_2 : decode cX1_set 2 = .ok (.putfield 29, 3) := by decide +kernel
theorem dX1_set_5 : decode cX1_set 5 = .ok (.iload_n 1, 1) := by decide +kernel
theorem dX1_set_6 : decode cX1_set 6 = .ok (.invokestatic 79, 3) := by decide +kernel
theorem dX1_set_9 : decode cX1_set 9 = .ok (.ifCond .eq 11, 3) := by decide +kernel
theorem dX1_set_12 : decode cX1_set 12 = .ok (.aload_n 0, 1) := by decide +kernel
theorem dX1_set_13 : decode cX1_set 13 = .ok (.iload_n 2, 1) := by decide +kernel
theorem dX1_set_14 : decode cX1_set 14 = .ok (.invokevirtual 82, 3) := by decide +kernel
theorem dX1_set_17 : decode cX1_set 17 = .ok (.ifCond .ne 9, 3) := by decide +kernel
theorem dX1_set_20 : decode cX1_set 20 = .ok (.aload_n 0, 1) := by decide +kernel
theorem dX1_set_21 : decode cX1_set 21 = .ok (.iconst 1, 1) := by decide +kernel
theorem dX1_set_22 : decode cX1_set 22 = .ok (.invokevirtual 48, 3) := by decide +kernel
theorem dX1_set_25 : decode cX1_set 25 = .ok (.ireturn, 1) := by decide +kernel
theorem dX1_set_26 : decode cX1_set 26 = .ok (.iload_n 3, 1) := by decide +kernel
theorem dX1_set_27 : decode cX1_set 27 = .ok (.iconst 0, 1) := by decide +kernel
theorem dX1_set_28 : decode cX1_set 28 = .ok (.aload_n 0, 1) := by decide +kernel
theorem dX1_set_29 : decode cX1_set 29 = .ok (.getfield 13, 3) := by decide +kernel
theorem dX1_set_32 : decode cX1_set 32 = .ok (.iconst 1, 1) := by decide +kernel
theorem dX1_set_33 : decode cX1_set 33 = .ok (.isub, 1) := by decide +kernel
theorem dX1_set_34 : decode cX1_set 34 = .ok (.invokestatic 32, 3) := by decide +kernel
theorem dX1_set_37 : decode cX1_set 37 = .ok (.ifCond .ne 9, 3) := by decide +kernel
theorem dX1_set_40 : decode cX1_set 40 = .ok (.aload_n 0, 1) := by decide +kernel
theorem dX1_set_41 : decode cX1_set 41 = .ok (.iconst 2, 1) := by decide +kernel
theorem dX1_set_42 : decode cX1_set 42 = .ok (.invokevirtual 48, 3) := by decide +kernel
theorem dX1_set_45 : decode cX1_set 45 = .ok (.ireturn, 1) := by decide +kernel
theorem dX1_set_46 : decode cX1_set 46 = .ok (.aload_n 0, 1) := by decide +kernel
theorem dX1_set_47 : decode cX1_set 47 = .ok (.iload_n 1, 1) := by decide +kernel
theorem dX1_set_48 : decode cX1_set 48 = .ok (.iload_n 2, 1) := by decide +kernel
theorem dX1_set_49 : decode cX1_set 49 = .ok (.invokevirtual 70, 3) := by decide +kernel
theorem dX1_set_52 : decode cX1_set 52 = .ok (.istore 4, 2) := by decide +kernel
theorem dX1_set_54 : decode cX1_set 54 = .ok (.aload_n 0, 1) := by decide +kernel
theorem dX1_set_55 : decode cX1_set 55 = .ok (.getfield 22, 3) := by decide +kernel
theorem dX1_set_58 : decode cX1_set 58 = .ok (.bipush 16, 2) := by decide +kernel
theorem dX1_set_60 : decode cX1_set 60 = .ok (.iload_n 1, 1) := by decide +kernel
theorem dX1_set_61 : decode cX1_set 61 = .ok (.imul, 1) := by decide +kernel
theorem dX1_set_62 : decode cX1_set 62 = .ok (.iload_n 2, 1) := by decide +kernel
theorem dX1_set_63 : decode cX1_set 63 = .ok (.iadd, 1) := by decide +kernel
theorem dX1_set_64 : decode cX1_set 64 = .ok (.iload_n 3, 1) := by decide +kernel
theorem dX1_set_65 : decode cX1_set 65 = .ok (.iastore, 1) := by decide +kernel
theorem dX1_set_66 : decode cX1_set 66 = .ok (.iload 4, 2) := by decide +kernel
theorem dX1_set_68 : decode cX1_set 68 = .ok (.ireturn, 1) := by decide +kernel
set_option maxRecDepth 20000 in
theorem ggX1_copy_X1_isRow : GoodIn wsX1_copy wsX1_isRow := goodIn_r _ [12, 13, 14, 11, 15] (by decide +kernel) (by decide +kernel)
set_option maxRecDepth 20000 in
theorem gX1_copy_X1_isRow : GoodIn wsX1_copy (va_wsS RX1 79 yX1_isRow wsX1_isRow) := goodIn_app (goodIn_of _ (by decide +kernel)) ggX1_copy_X1_isRow
set_option maxRecDepth 20000 in
theorem ggX1_copy_X1_no : GoodIn wsX1_copy wsX1_no := goodIn_r _ [19, 1, 32, 33, 34, 35, 36, 37, 38] (by decide +kernel) (by decide +kernel)
set_option maxRecDepth 20000 in
theorem gX1_copy_X1_no : GoodIn wsX1_copy (wsV RX1 48 RX1 yX1_no wsX1_no) := goodIn_app (goodIn_of _ (by decide +kernel)) ggX1_copy_X1_no
set_option maxRecDepth 20000 in
theorem ggX1_copy_X1_changes : GoodIn wsX1_copy wsX1_changes := goodIn_r _ [23, 4, 3, 24, 25, 26, 11, 27, 2, 32, 33, 34, 35, 36, 37, 38] (by decide +kernel) (by decide +kernel)
set_option maxRecDepth 20000 in
theorem gX1_copy_X1_changes : GoodIn wsX1_copy (wsV RX1 85 RX1 yX1_changes wsX1_changes) := goodIn_app (goodIn_of _ (by decide +kernel)) ggX1_copy_X1_changes
set_option maxRecDepth 20000 in
theorem ggX1_copy_X1_lay : GoodIn wsX1_copy wsX1_lay := goodIn_r _ [31, 3, 2, 4, 5, 6, 7, 8, 32, 33, 34, 35, 36, 37, 38] (by decide +kernel) (by decide +kernel)
set_option maxRecDepth 20000 in
theorem gX1_copy_X1_lay : GoodIn wsX1_copy (wsV RX1 88 RX1 yX1_lay wsX1_lay) := goodIn_app (goodIn_of _ (by decide +kernel)) ggX1_copy_X1_lay
theorem dX1_copy_0 : decode cX1_copy 0 = .ok (.aload_n 0, 1) := by decide +kernel
theorem dX1_copy_1 : decode cX1_copy 1 = .ok (.iconst 0, 1) := by decide +kernel
theorem dX1_copy_2 : decode cX1_copy 2 = .ok (.putfield 29, 3) := by decide +kernel
theorem dX1_copy_5 : decode cX1_copy 5 = .ok (.iload_n 1, 1) := by decide +kernel
theorem dX1_copy_6 : decode cX1_copy 6 = .ok (.invokestatic 79, 3) := by decide +kernel
theorem dX1_copy_9 : decode cX1_copy 9 = .ok (.ifCond .eq 10, 3) := by decide +kernel
theorem dX1_copy_12 : decode cX1_copy 12 = .ok (.iload_n 2, 1) := by decide +kernel
theorem dX1_copy_13 : decode cX1_copy 13 = .ok (.invokestatic 79, 3) := by decide +kernel
theorem dX1_copy_16 : decode cX1_copy 16 = .ok (.ifCond .ne 9, 3) := by decide +kernel
theorem dX1_copy_19 : decode cX1_copy 19 = .ok (.aload_n 0, 1) := by decide +kernel
theorem dX1_copy_20 : decode cX1_copy 20 = .ok (.iconst 1, 1) := by decide +kernel
theorem dX1_copy_21 : decode cX1_copy 21 = .ok (.invokevirtual 48, 3) := by decide +kernel
theorem dX1_copy_24 : decode cX1_copy 24 = .ok (.ireturn, 1) := by decide +kernel
theorem dX1_copy_25 : decode cX1_copy 25 = .ok (.aload_n 0, 1) := by decide +kernel
theorem dX1_copy_26 : decode cX1_copy 26 = .ok (.getfield 22, 3) := by decide +kernel
theorem dX1_copy_29 : decode cX1_copy 29 = .ok (.bipush 16, 2) := by decide +kernel
theorem dX1_copy_31 : decode cX1_copy 31 = .ok (.iload_n 1, 1) := by decide +kernel
theorem dX1_copy_32 : decode cX1_copy 32 = .ok (.imul, 1) := by decide +kernel
theorem dX1_copy_33 : decode cX1_copy 33 = .ok (.aload_n 0, 1) := by decide +kernel
theorem dX1_copy_34 : decode cX1_copy 34 = .ok (.getfield 26, 3) := by decide +kernel
theorem dX1_copy_37 : decode cX1_copy 37 = .ok (.iconst 0, 1) := by decide +kernel
theorem dX1_copy_38 : decode cX1_copy 38 = .ok (.aload_n 0, 1) := by decide +kernel
theorem dX1_copy_39 : decode cX1_copy 39 = .ok (.getfield 7, 3) := by decide +kernel
theorem dX1_copy_42 : decode cX1_copy 42 = .ok (.invokestatic 64, 3) := by decide +kernel
theorem dX1_copy_45 : decode cX1_copy 45 = .ok (.aload_n 0, 1) := by decide +kernel
theorem dX1_copy_46 : decode cX1_copy 46 = .ok (.iload_n 2, 1) := by decide +kernel
theorem dX1_copy_47 : decode cX1_copy 47 = .ok (.invokevirtual 85, 3) := by decide +kernel
theorem dX1_copy_50 : decode cX1_copy 50 = .ok (.istore_n 3, 1) := by decide +kernel
theorem dX1_copy_51 : decode cX1_copy 51 = .ok (.aload_n 0, 1) := by decide +kernel
theorem dX1_copy_52 : decode cX1_copy 52 = .ok (.iload_n 2, 1) := by decide +kernel
theorem dX1_copy_53 : decode cX1_copy 53 = .ok (.invokevirtual 88, 3) := by decide +kernel
theorem dX1_copy_56 : decode cX1_copy 56 = .ok (.iload_n 3, 1) := by decide +kernel
theorem dX1_copy_57 : decode cX1_copy 57 = .ok (.ireturn, 1) := by decide +kernel
set_option maxRecDepth 20000 in
theorem ggX1_turn_X1_isRow : GoodIn wsX1_turn wsX1_isRow := goodIn_r _ [8, 9, 10, 7, 11] (by decide +kernel) (by decide +kernel)
set_option maxRecDepth 20000 in
theorem gX1_turn_X1_isRow : GoodIn wsX1_turn (va_wsS RX1 79 yX1_isRow wsX1_isRow) := goodIn_app (goodIn_of _ (by decide +kernel)) ggX1_turn_X1_isRow
set_option maxRecDepth 20000 in
theorem ggX1_turn_X1_no : GoodIn wsX1_turn wsX1_no := goodIn_r _ [15, 1, 50, 51, 52, 53, 54, 55, 56] (by decide +kernel) (by decide +kernel)
set_option maxRecDepth 20000 in
theorem gX1_turn_X1_no : GoodIn wsX1_turn (wsV RX1 48 RX1 yX1_no wsX1_no) := goodIn_app (goodIn_of _ (by decide +kernel)) ggX1_turn_X1_no
set_option maxRecDepth 20000 in
theorem ggX1_turn_X1_inverseOf : GoodIn wsX1_turn wsX1_inverseOf := goodIn_r _ [19, 20, 50, 51, 52, 53, 54, 55, 56] (by decide +kernel) (by decide +kernel)
set_option maxRecDepth 20000 in
theorem gX1_turn_X1_inverseOf : GoodIn wsX1_turn (wsV RX1 58 RX1 yX1_inverseOf wsX1_inverseOf) := goodIn_app (goodIn_of _ (by decide +kernel)) ggX1_turn_X1_inverseOf
set_option maxRecDepth 20000 in
theorem ggX1_turn_X1_makeTones : GoodIn wsX1_turn wsX1_makeTones := goodIn_r _ [24, 3, 4, 25, 26, 27, 7, 28, 29, 30, 31, 32, 20, 33, 34, 35, 36, 37, 38, 39, 40, 41, 50, 51, 52, 53, 54, 55, 56] (by decide +kernel) (by decide +kernel)
set_option maxRecDepth 20000 in
theorem gX1_turn_X1_makeTones : GoodIn wsX1_turn (wsV RX1 92 RX1 yX1_makeTones wsX1_makeTones) := goodIn_app (goodIn_of _ (by decide +kernel)) ggX1_turn_X1_makeTones
set_option maxRecDepth 20000 in
theorem ggX1_turn_X1_lay : GoodIn wsX1_turn wsX1_lay := goodIn_r _ [45, 4, 37, 3, 46, 47, 48, 49, 50, 51, 52, 53, 54, 55, 56] (by decide +kernel) (by decide +kernel)
set_option maxRecDepth 20000 in
theorem gX1_turn_X1_lay : GoodIn wsX1_turn (wsV RX1 88 RX1 yX1_lay wsX1_lay) := goodIn_app (goodIn_of _ (by decide +kernel)) ggX1_turn_X1_lay
theorem dX1_turn_0 : decode cX1_turn 0 = .ok (.aload_n 0, 1) := by decide +kernel
theorem dX1_turn_1 : decode cX1_turn 1 = .ok (.iconst 0, 1) := by decide +kernel
theorem dX1_turn_2 : decode cX1_turn 2 = .ok (.putfield 29, 3) := by decide +kernel
theorem dX1_turn_5 : decode cX1_turn 5 = .ok (.iload_n 1, 1) := by decide +kernel
theorem dX1_turn_6 : decode cX1_turn 6 = .ok (.invokestatic 79, 3) := by decide +kernel
theorem dX1_turn_9 : decode cX1_turn 9 = .ok (.ifCond .ne 9, 3) := by decide +kernel
theorem dX1_turn_12 : decode cX1_turn 12 = .ok (.aload_n 0, 1) := by decide +kernel
theorem dX1_turn_13 : decode cX1_turn 13 = .ok (.iconst 1, 1) := by decide +kernel
theorem dX1_turn_14 : decode cX1_turn 14 = .ok (.invokevirtual 48, 3) := by decide +kernel
theorem dX1_turn_17 : decode cX1_turn 17 = .ok (.ireturn, 1) := by decide +kernel
theorem dX1_turn_18 : decode cX1_turn 18 = .ok (.aload_n 0, 1) := by decide +kernel
theorem dX1_turn_19 : decode cX1_turn 19 = .ok (.iload_n 1, 1) := by decide +kernel
theorem dX1_turn_20 : decode cX1_turn 20 = .ok (.iload_n 2, 1) := by decide +kernel
theorem dX1_turn_21 : decode cX1_turn 21 = .ok (.ifCond .eq 14, 3) := by decide +kernel
theorem dX1_turn_24 : decode cX1_turn 24 = .ok (.aload_n 0, 1) := by decide +kernel
theorem dX1_turn_25 : decode cX1_turn 25 = .ok (.aload_n 0, 1) := by decide +kernel
theorem dX1_turn_26 : decode cX1_turn 26 = .ok (.getfield 16, 3) := by decide +kernel
theorem dX1_turn_29 : decode cX1_turn 29 = .ok (.invokevirtual 58, 3) := by decide +kernel
theorem dX1_turn_32 : decode cX1_turn 32 = .ok (.goto 7, 3) := by decide +kernel
theorem dX1_turn_35 : decode cX1_turn 35 = .ok (.aload_n 0, 1) := by decide +kernel
theorem dX1_turn_36 : decode cX1_turn 36 = .ok (.getfield 16, 3) := by decide +kernel
theorem dX1_turn_39 : decode cX1_turn 39 = .ok (.iload_n 2, 1) := by decide +kernel
theorem dX1_turn_40 : decode cX1_turn 40 = .ok (.ifCond .eq 14, 3) := by decide +kernel
theorem dX1_turn_43 : decode cX1_turn 43 = .ok (.aload_n 0, 1) := by decide +kernel
theorem dX1_turn_44 : decode cX1_turn 44 = .ok (.aload_n 0, 1) := by decide +kernel
theorem dX1_turn_45 : decode cX1_turn 45 = .ok (.getfield 7, 3) := by decide +kernel
theorem dX1_turn_48 : decode cX1_turn 48 = .ok (.invokevirtual 58, 3) := by decide +kernel
theorem dX1_turn_51 : decode cX1_turn 51 = .ok (.goto 4, 3) := by decide +kernel
theorem dX1_turn_54 : decode cX1_turn 54 = .ok (.iconst 1, 1) := by decide +kernel
theorem dX1_turn_55 : decode cX1_turn 55 = .ok (.invokevirtual 92, 3) := by decide +kernel
theorem dX1_turn_58 : decode cX1_turn 58 = .ok (.aload_n 0, 1) := by decide +kernel
theorem dX1_turn_59 : decode cX1_turn 59 = .ok (.iload_n 1, 1) := by decide +kernel
theorem dX1_turn_60 : decode cX1_turn 60 = .ok (.invokevirtual 88, 3) := by decide +kernel
theorem dX1_turn_63 : decode cX1_turn 63 = .ok (.aload_n 0, 1) := by decide +kernel
theorem dX1_turn_64 : decode cX1_turn 64 = .ok (.getfield 26, 3) := by decide +kernel
theorem dX1_turn_67 : decode cX1_turn 67 = .ok (.iconst 0, 1) := by decide +kernel
theorem dX1_turn_68 : decode cX1_turn 68 = .ok (.iaload, 1) := by decide +kernel
theorem dX1_turn_69 : decode cX1_turn 69 = .ok (.ireturn, 1) := by decide +kernel
set_option maxRecDepth 20000 in
theorem ggX1_mirror_X1_isRow : GoodIn wsX1_mirror wsX1_isRow := goodIn_r _ [7, 8, 9, 6, 10] (by decide +kernel) (by decide +kernel)
set_option maxRecDepth 20000 in
theorem gX1_mirror_X1_isRow : GoodIn wsX1_mirror (va_wsS RX1 79 yX1_isRow wsX1_isRow) := goodIn_app (goodIn_of _ (by decide +kernel)) ggX1_mirror_X1_isRow
set_option maxRecDepth 20000 in
theorem ggX1_mirror_X1_no : GoodIn wsX1_mirror wsX1_no := goodIn_r _ [14, 1, 37, 38, 39, 40, 41, 42, 43] (by decide +kernel) (by decide +kernel)
set_option maxRecDepth 20000 in
theorem gX1_mirror_X1_no : GoodIn wsX1_mirror (wsV RX1 48 RX1 yX1_no wsX1_no) := goodIn_app (goodIn_of _ (by decide +kernel)) ggX1_mirror_X1_no
set_option maxRecDepth 20000 in
theorem ggX1_mirror_X1_mirrored : GoodIn wsX1_mirror wsX1_mirrored := goodIn_r _ [18, 19, 37, 38, 39, 40, 41, 42, 43] (by decide +kernel) (by decide +kernel)
set_option maxRecDepth 20000 in
theorem gX1_mirror_X1_mirrored : GoodIn wsX1_mirror (wsV RX1 96 RX1 yX1_mirrored wsX1_mirrored) := goodIn_app (goodIn_of _ (by decide +kernel)) ggX1_mirror_X1_mirrored
set_option maxRecDepth 20000 in
theorem ggX1_mirror_X1_its : GoodIn wsX1_mirror wsX1_its := goodIn_r _ [23, 24, 37, 38, 39, 40, 41, 42, 43] (by decide +kernel) (by decide +kernel)
set_option maxRecDepth 20000 in
theorem gX1_mirror_X1_its : GoodIn wsX1_mirror (wsV RX1 70 RX1 yX1_its wsX1_its) := goodIn_app (goodIn_of _ (by decide +kernel)) ggX1_mirror_X1_its
set_option maxRecDepth 20000 in
theorem ggX1_mirror_X1_changes : GoodIn wsX1_mirror wsX1_changes := goodIn_r _ [28, 2, 3, 20, 21, 22, 6, 23, 24, 37, 38, 39, 40, 41, 42, 43] (by decide +kernel) (by decide +kernel)
set_option maxRecDepth 20000 in
theorem gX1_mirror_X1_changes : GoodIn wsX1_mirror (wsV RX1 85 RX1 yX1_changes wsX1_changes) := goodIn_app (goodIn_of _ (by decide +kernel)) ggX1_mirror_X1_changes
set_option maxRecDepth 20000 in
theorem ggX1_mirror_X1_lay : GoodIn wsX1_mirror wsX1_lay := goodIn_r _ [32, 3, 24, 2, 33, 34, 35, 36, 37, 38, 39, 40, 41, 42, 43] (by decide +kernel) (by decide +kernel)
set_option maxRecDepth 20000 in
theorem gX1_mirror_X1_lay : GoodIn wsX1_mirror (wsV RX1 88 RX1 yX1_lay wsX1_lay) := goodIn_app (goodIn_of _ (by decide +kernel)) ggX1_mirror_X1_lay
theorem dX1_mirror_0 : decode cX1_mirror 0 = .ok (.aload_n 0, 1) := by decide +kernel
theorem dX1_mirror_1 : decode cX1_mirror 1 = .ok (.iconst 0, 1) := by decide +kernel
theorem dX1_mirror_2 : decode cX1_mirror 2 = .ok (.putfield 29, 3) := by decide +kernel
theorem dX1_mirror_5 : decode cX1_mirror 5 = .ok (.iload_n 1, 1) := by decide +kernel
theorem dX1_mirror_6 : decode cX1_mirror 6 = .ok (.invokestatic 79, 3) := by decide +kernel
theorem dX1_mirror_9 : decode cX1_mirror 9 = .ok (.ifCond .ne 9, 3) := by decide +kernel
theorem dX1_mirror_12 : decode cX1_mirror 12 = .ok (.aload_n 0, 1) := by decide +kernel
theorem dX1_mirror_13 : decode cX1_mirror 13 = .ok (.iconst 1, 1) := by decide +kernel
theorem dX1_mirror_14 : decode cX1_mirror 14 = .ok (.invokevirtual 48, 3) := by decide +kernel
theorem dX1_mirror_17 : decode cX1_mirror 17 = .ok (.ireturn, 1) := by decide +kernel
theorem dX1_mirror_18 : decode cX1_mirror 18 = .ok (.iconst 0, 1) := by decide +kernel
theorem dX1_mirror_19 : decode cX1_mirror 19 = .ok (.istore_n 2, 1) := by decide +kernel
theorem dX1_mirror_20 : decode cX1_mirror 20 = .ok (.iload_n 2, 1) := by decide +kernel
theorem dX1_mirror_21 : decode cX1_mirror 21 = .ok (.aload_n 0, 1) := by decide +kernel
theorem dX1_mirror_22 : decode cX1_mirror 22 = .ok (.getfield 7, 3) := by decide +kernel
theorem dX1_mirror_25 : decode cX1_mirror 25 = .ok (.if_icmp .ge 25, 3) := by decide +kernel
theorem dX1_mirror_28 : decode cX1_mirror 28 = .ok (.aload_n 0, 1) := by decide +kernel
theorem dX1_mirror_29 : decode cX1_mirror 29 = .ok (.getfield 26, 3) := by decide +kernel
theorem dX1_mirror_32 : decode cX1_mirror 32 = .ok (.aload_n 0, 1) := by decide +kernel
theorem dX1_mirror_33 : decode cX1_mirror 33 = .ok (.iload_n 2, 1) := by decide +kernel
theorem dX1_mirror_34 : decode cX1_mirror 34 = .ok (.invokevirtual 96, 3) := by decide +kernel
theorem dX1_mirror_37 : decode cX1_mirror 37 = .ok (.aload_n 0, 1) := by decide +kernel
theorem dX1_mirror_38 : decode cX1_mirror 38 = .ok (.iload_n 1, 1) := by decide +kernel
theorem dX1_mirror_39 : decode cX1_mirror 39 = .ok (.iload_n 2, 1) := by decide +kernel
theorem dX1_mirror_40 : decode cX1_mirror 40 = .ok (.invokevirtual 70, 3) := by decide +kernel
theorem dX1_mirror_43 : decode cX1_mirror 43 = .ok (.iastore, 1) := by decide +kernel
theorem dX1_mirror_44 : decode cX1_mirror 44 = .ok (.iinc 2 1, 3) := by decide +kernel
theorem dX1_mirror_47 : decode cX1_mirror 47 = .ok (.goto (-27), 3) := by decide +kernel
theorem dX1_mirror_50 : decode cX1_mirror 50 = .ok (.aload_n 0, 1) := by decide +kernel
theorem dX1_mirror_51 : decode cX1_mirror 51 = .ok (.iload_n 1, 1) := by decide +kernel
theorem dX1_mirror_52 : decode cX1_mirror 52 = .ok (.invokevirtual 85, 3) := by decide +kernel
theorem dX1_mirror_55 : decode cX1_mirror 55 = .ok (.istore_n 2, 1) := by decide +kernel
theorem dX1_mirror_56 : decode cX1_mirror 56 = .ok (.aload_n 0, 1) := by decide +kernel
theorem dX1_mirror_57 : decode cX1_mirror 57 = .ok (.iload_n 1, 1) := by decide +kernel
theorem dX1_mirror_58 : decode cX1_mirror 58 = .ok (.invokevirtual 88, 3) := by decide +kernel
theorem dX1_mirror_61 : decode cX1_mirror 61 = .ok (.iload_n 2, 1) := by decide +kernel
theorem dX1_mirror_62 : decode cX1_mirror 62 = .ok (.ireturn, 1) := by decide +kernel
set_option maxRecDepth 20000 in
theorem ggX1_stage_X1_isRow : GoodIn wsX1_stage wsX1_isRow := goodIn_r _ [9, 10, 11, 8, 12] (by decide +kernel) (by decide +kernel)
set_option maxRecDepth 20000 in
theorem gX1_stage_X1_isRow : GoodIn wsX1_stage (va_wsS RX1 79 yX1_isRow wsX1_isRow) := goodIn_app (goodIn_of _ (by decide +kernel)) ggX1_stage_X1_isRow
set_option maxRecDepth 20000 in
theorem ggX1_stage_X1_isIn : GoodIn wsX1_stage wsX1_isIn := goodIn_r _ [12] (by decide +kernel) (by decide +kernel)
set_option maxRecDepth 20000 in
theorem gX1_stage_X1_isIn : GoodIn wsX1_stage (va_wsS RX1 32 yX1_isIn wsX1_isIn) := goodIn_app (goodIn_of _ (by decide +kernel)) ggX1_stage_X1_isIn
set_option maxRecDepth 20000 in
theorem ggX1_stage_X1_no : GoodIn wsX1_stage wsX1_no := goodIn_r _ [16, 1, 47, 48, 49, 50, 51, 52, 53] (by decide +kernel) (by decide +kernel)
set_option maxRecDepth 20000 in
theorem gX1_stage_X1_no : GoodIn wsX1_stage (wsV RX1 48 RX1 yX1_no wsX1_no) := goodIn_app (goodIn_of _ (by decide +kernel)) ggX1_stage_X1_no
set_option maxRecDepth 20000 in
theorem ggX1_stage_X1_its : GoodIn wsX1_stage wsX1_its := goodIn_r _ [20, 21, 47, 48, 49, 50, 51, 52, 53] (by decide +kernel) (by decide +kernel)
set_option maxRecDepth 20000 in
theorem gX1_stage_X1_its : GoodIn wsX1_stage (wsV RX1 70 RX1 yX1_its wsX1_its) := goodIn_app (goodIn_of _ (by decide +kernel)) ggX1_stage_X1_its
set_option maxRecDepth 20000 in
theorem ggX1_stage_X1_power : GoodIn wsX1_stage wsX1_power := goodIn_r _ [25, 26, 27, 28, 8, 29, 30, 47, 48, 49, 50, 51, 52, 53] (by decide +kernel) (by decide +kernel)
set_option maxRecDepth 20000 in
theorem gX1_stage_X1_power : GoodIn wsX1_stage (wsV RX1 61 RX1 yX1_power wsX1_power) := goodIn_app (goodIn_of _ (by decide +kernel)) ggX1_stage_X1_power
set_option maxRecDepth 20000 in
theorem ggX1_stage_X1_by : GoodIn wsX1_stage wsX1_by := goodIn_r _ [29, 30, 47, 48, 49, 50, 51, 52, 53] (by decide +kernel) (by decide +kernel)
set_option maxRecDepth 20000 in
theorem gX1_stage_X1_by : GoodIn wsX1_stage (wsV RX1 36 RX1 yX1_by wsX1_by) := goodIn_app (goodIn_of _ (by decide +kernel)) ggX1_stage_X1_by
set_option maxRecDepth 20000 in
theorem ggX1_stage_X1_plus : GoodIn wsX1_stage wsX1_plus := goodIn_r _ [34, 30, 47, 48, 49, 50, 51, 52, 53] (by decide +kernel) (by decide +kernel)
set_option maxRecDepth 20000 in
theorem gX1_stage_X1_plus : GoodIn wsX1_stage (wsV RX1 73 RX1 yX1_plus wsX1_plus) := goodIn_app (goodIn_of _ (by decide +kernel)) ggX1_stage_X1_plus
set_option maxRecDepth 20000 in
theorem ggX1_stage_X1_minus : GoodIn wsX1_stage wsX1_minus := goodIn_r _ [38, 30, 47, 48, 49, 50, 51, 52, 53] (by decide +kernel) (by decide +kernel)
set_option maxRecDepth 20000 in
theorem gX1_stage_X1_minus : GoodIn wsX1_stage (wsV RX1 99 RX1 yX1_minus wsX1_minus) := goodIn_app (goodIn_of _ (by decide +kernel)) ggX1_stage_X1_minus
set_option maxRecDepth 20000 in
theorem ggX1_stage_X1_lay : GoodIn wsX1_stage wsX1_lay := goodIn_r _ [42, 5, 21, 3, 43, 44, 45, 46, 47, 48, 49, 50, 51, 52, 53] (by decide +kernel) (by decide +kernel)
set_option maxRecDepth 20000 in
theorem gX1_stage_X1_lay : GoodIn wsX1_stage (wsV RX1 88 RX1 yX1_lay wsX1_lay) := goodIn_app (goodIn_of _ (by decide +kernel)) ggX1_stage_X1_lay
theorem dX1_stage_0 : decode cX1_stage 0 = .ok (.aload_n 0, 1) := by decide +kernel
theorem dX1_stage_1 : decode cX1_stage 1 = .ok (.iconst 0, 1) := by decide +kernel
theorem dX1_stage_2 : decode cX1_stage 2 = .ok (.putfield 29, 3) := by decide +kernel
theorem dX1_stage_5 : decode cX1_stage 5 = .ok (.iload_n 1, 1) := by decide +kernel
theorem dX1_stage_6 : decode cX1_stage 6 = .ok (.invokestatic 79, 3) := by decide +kernel
theorem dX1_stage_9 : decode cX1_stage 9 = .ok (.ifCond .eq 17, 3) := by decide +kernel
theorem dX1_stage_12 : decode cX1_stage 12 = .ok (.iload_n 2, 1) := by decide +kernel
theorem dX1_stage_13 : decode cX1_stage 13 = .ok (.iconst 0, 1) := by decide +kernel
theorem dX1_stage_14 : decode cX1_stage 14 = .ok (.aload_n 0, 1) := by decide +kernel
theorem dX1_stage_15 : decode cX1_stage 15 = .ok (.getfield 19, 3) := by decide +kernel
theorem dX1_stage_18 : decode cX1_stage 18 = .ok (.iconst 1, 1) := by decide +kernel
theorem dX1_stage_19 : decode cX1_stage 19 = .ok (.isub, 1) := by decide +kernel
theorem dX1_stage_20 : decode cX1_stage 20 = .ok (.invokestatic 32, 3) := by decide +kernel
theorem dX1_stage_23 : decode cX1_stage 23 = .ok (.ifCond .ne 9, 3) := by decide +kernel
theorem dX1_stage_26 : decode cX1_stage 26 = .ok (.aload_n 0, 1) := by decide +kernel
theorem dX1_stage_27 : decode cX1_stage 27 = .ok (.iconst 1, 1) := by decide +kernel
theorem dX1_stage_28 : decode cX1_stage 28 = .ok (.invokevirtual 48, 3) := by decide +kernel
theorem dX1_stage_31 : decode cX1_stage 31 = .ok (.ireturn, 1) := by decide +kernel
theorem dX1_stage_32 : decode cX1_stage 32 = .ok (.iconst 1, 1) := by decide +kernel
theorem dX1_stage_33 : decode cX1_stage 33 = .ok (.iload_n 2, 1) := by decide +kernel
theorem dX1_stage_34 : decode cX1_stage 34 = .ok (.ishl, 1) := by decide +kernel
theorem dX1_stage_35 : decode cX1_stage 35 = .ok (.istore_n 3, 1) := by decide +kernel
theorem dX1_stage_36 : decode cX1_stage 36 = .ok (.iconst 0, 1) := by decide +kernel
theorem dX1_stage_37 : decode cX1_stage 37 = .ok (.istore 4, 2) := by decide +kernel
theorem dX1_stage_39 : decode cX1_stage 39 = .ok (.iload 4, 2) := by decide +kernel
theorem dX1_stage_41 : decode cX1_stage 41 = .ok (.aload_n 0, 1) := by decide +kernel
theorem dX1_stage_42 : decode cX1_stage 42 = .ok (.getfield 7, 3) := by decide +kernel
theorem dX1_stage_45 : decode cX1_stage 45 = .ok (.if_icmp .ge 127, 3) := by decide +kernel
theorem dX1_stage_48 : decode cX1_stage 48 = .ok (.iload 4, 2) := by decide +kernel
theorem dX1_stage_50 : decode cX1_stage 50 = .ok (.iload_n 3, 1) := by decide +kernel
theorem dX1_stage_51 : decode cX1_stage 51 = .ok (.irem, 1) := by decide +kernel
theorem dX1_stage_52 : decode cX1_stage 52 = .ok (.istore 5, 2) := by decide +kernel
theorem dX1_stage_54 : decode cX1_stage 54 = .ok (.iload 4, 2) := by decide +kernel
theorem dX1_stage_56 : decode cX1_stage 56 = .ok (.iload_n 3, 1) := by decide +kernel
theorem dX1_stage_57 : decode cX1_stage 57 = .ok (.idiv, 1) := by decide +kernel
theorem dX1_stage_58 : decode cX1_stage 58 = .ok (.iconst 2, 1) := by decide +kernel
theorem dX1_stage_59 : decode cX1_stage 59 = .ok (.irem, 1) := by decide +kernel
theorem dX1_stage_60 : decode cX1_stage 60 = .ok (.ifCond .ne 7, 3) := by decide +kernel
theorem dX1_stage_63 : decode cX1_stage 63 = .ok (.iconst 1, 1) := by decide +kernel
theorem dX1_stage_64 : decode cX1_stage 64 = .ok (.goto 4, 3) := by decide +kernel
theorem dX1_stage_67 : decode cX1_stage 67 = .ok (.iconst 0, 1) := by decide +kernel
theorem dX1_stage_68 : decode cX1_stage 68 = .ok (.istore 6, 2) := by decide +kernel
theorem dX1_stage_70 : decode cX1_stage 70 = .ok (.aload_n 0, 1) := by decide +kernel
theorem dX1_stage_71 : decode cX1_stage 71 = .ok (.iload_n 1, 1) := by decide +kernel
theorem dX1_stage_72 : decode cX1_stage 72 = .ok (.iload 6, 2) := by decide +kernel
theorem dX1_stage_74 : decode cX1_stage 74 = .ok (.ifCond .eq 8, 3) := by decide +kernel
theorem dX1_stage_77 : decode cX1_stage 77 = .ok (.iload 4, 2) := by decide +kernel
theorem dX1_stage_79 : decode cX1_stage 79 = .ok (.goto 7, 3) := by decide +kernel
theorem dX1_stage_82 : decode cX1_stage 82 = .ok (.iload 4, 2) := by decide +kernel
theorem dX1_stage_84 : decode cX1_stage 84 = .ok (.iload_n 3, 1) := by decide +kernel
theorem dX1_stage_85 : decode cX1_stage 85 = .ok (.isub, 1) := by decide +kernel
theorem dX1_stage_86 : decode cX1_stage 86 = .ok (.invokevirtual 70, 3) := by decide +kernel
theorem dX1_stage_89 : decode cX1_stage 89 = .ok (.istore 7, 2) := by decide +kernel
theorem dX1_stage_91 : decode cX1_stage 91 = .ok (.aload_n 0, 1) := by decide +kernel
theorem dX1_stage_92 : decode cX1_stage 92 = .ok (.aload_n 0, 1) := by decide +kernel
theorem dX1_stage_93 : decode cX1_stage 93 = .ok (.iload_n 1, 1) := by decide +kernel
theorem dX1_stage_94 : decode cX1_stage 94 = .ok (.iload 6, 2) := by decide +kernel
theorem dX1_stage_96 : decode cX1_stage 96 = .ok (.ifCond .eq 10, 3) := by decide +kernel
theorem dX1_stage_99 : decode cX1_stage 99 = .ok (.iload 4, 2) := by decide +kernel
theorem dX1_stage_101 : decode cX1_stage 101 = .ok (.iload_n 3, 1) := by decide +kernel
theorem dX1_stage_102 : decode cX1_stage 102 = .ok (.iadd, 1) := by decide +kernel
theorem dX1_stage_103 : decode cX1_stage 103 = .ok (.goto 5, 3) := by decide +kernel
theorem dX1_stage_106 : decode cX1_stage 106 = .ok (.iload 4, 2) := by decide +kernel
theorem dX1_stage_108 : decode cX1_stage 108 = .ok (.invokevirtual 70, 3) := by decide +kernel
theorem dX1_stage_111 : decode cX1_stage 111 = .ok (.aload_n 0, 1) := by decide +kernel
theorem dX1_stage_112 : decode cX1_stage 112 = .ok (.aload_n 0, 1) := by decide +kernel
theorem dX1_stage_113 : decode cX1_stage 113 = .ok (.getfield 16, 3) := by decide +kernel
theorem dX1_stage_116 : decode cX1_stage 116 = .ok (.iload 5, 2) := by decide +kernel
theorem dX1_stage_118 : decode cX1_stage 118 = .ok (.aload_n 0, 1) := by decide +kernel
theorem dX1_stage_119 : decode cX1_stage 119 = .ok (.getfield 7, 3) := by decide +kernel
theorem dX1_stage_122 : decode cX1_stage 122 = .ok (.imul, 1) := by decide +kernel
theorem dX1_stage_123 : decode cX1_stage 123 = .ok (.iconst 2, 1) := by decide +kernel
theorem dX1_stage_124 : decode cX1_stage 124 = .ok (.iload_n 3, 1) := by decide +kernel
theorem dX1_stage_125 : decode cX1_stage 125 = .ok (.imul, 1) := by decide +kernel
theorem dX1_stage_126 : decode cX1_stage 126 = .ok (.idiv, 1) := by decide +kernel
theorem dX1_stage_127 : decode cX1_stage 127 = .ok (.invokevirtual 61, 3) := by decide +kernel
theorem dX1_stage_130 : decode cX1_stage 130 = .ok (.invokevirtual 36, 3) := by decide +kernel
theorem dX1_stage_133 : decode cX1_stage 133 = .ok (.istore 8, 2) := by decide +kernel
theorem dX1_stage_135 : decode cX1_stage 135 = .ok (.aload_n 0, 1) := by decide +kernel
theorem dX1_stage_136 : decode cX1_stage 136 = .ok (.getfield 26, 3) := by decide +kernel
theorem dX1_stage_139 : decode cX1_stage 139 = .ok (.iload 4, 2) := by decide +kernel
theorem dX1_stage_141 : decode cX1_stage 141 = .ok (.iload 6, 2) := by decide +kernel
theorem dX1_stage_143 : decode cX1_stage 143 = .ok (.ifCond .eq 14, 3) := by decide +kernel
theorem dX1_stage_146 : decode cX1_stage 146 = .ok (.aload_n 0, 1) := by decide +kernel
theorem dX1_stage_147 : decode cX1_stage 147 = .ok (.iload 7, 2) := by decide +kernel
theorem dX1_stage_149 : decode cX1_stage 149 = .ok (.iload 8, 2) := by decide +kernel
theorem dX1_stage_151 : decode cX1_stage 151 = .ok (.invokevirtual 73, 3) := by decide +kernel
theorem dX1_stage_154 : decode cX1_stage 154 = .ok (.goto 11, 3) := by decide +kernel
theorem dX1_stage_157 : decode cX1_stage 157 = .ok (.aload_n 0, 1) := by decide +kernel
theorem dX1_stage_158 : decode cX1_stage 158 = .ok (.iload 7, 2) := by decide +kernel
theorem dX1_stage_160 : decode cX1_stage 160 = .ok (.iload 8, 2) := by decide +kernel
theorem dX1_stage_162 : decode cX1_stage 162 = .ok (.invokevirtual 99, 3) := by decide +kernel
theorem dX1_stage_165 : decode cX1_stage 165 = .ok (.iastore, 1) := by decide +kernel
theorem dX1_stage_166 : decode cX1_stage 166 = .ok (.iinc 4 1, 3) := by decide +kernel
theorem dX1_stage_169 : decode cX1_stage 169 = .ok (.goto (-130), 3) := by decide +kernel
theorem dX1_stage_172 : decode cX1_stage 172 = .ok (.aload_n 0, 1) := by decide +kernel
theorem dX1_stage_173 : decode cX1_stage 173 = .ok (.iload_n 1, 1) := by decide +kernel
theorem dX1_stage_174 : decode cX1_stage 174 = .ok (.invokevirtual 88, 3) := by decide +kernel
theorem dX1_stage_177 : decode cX1_stage 177 = .ok (.aload_n 0, 1) := by decide +kernel
theorem dX1_stage_178 : decode cX1_stage 178 = .ok (.getfield 26, 3) := by decide +kernel
theorem dX1_stage_181 : decode cX1_stage 181 = .ok (.iconst 0, 1) := by decide +kernel
theorem dX1_stage_182 : decode cX1_stage 182 = .ok (.iaload, 1) := by decide +kernel
theorem dX1_stage_183 : decode cX1_stage 183 = .ok (.ireturn, 1) := by decide +kernel
set_option maxRecDepth 20000 in
theorem ggX1_fold_X1_isRow : GoodIn wsX1_fold wsX1_isRow := goodIn_r _ [7, 8, 9, 6, 10] (by decide +kernel) (by decide +kernel)
set_option maxRecDepth 20000 in
theorem gX1_fold_X1_isRow : GoodIn wsX1_fold (va_wsS RX1 79 yX1_isRow wsX1_isRow) := goodIn_app (goodIn_of _ (by decide +kernel)) ggX1_fold_X1_isRow
set_option maxRecDepth 20000 in
theorem ggX1_fold_X1_no : GoodIn wsX1_fold wsX1_no := goodIn_r _ [14, 1, 41, 42, 43, 44, 45, 46, 47] (by decide +kernel) (by decide +kernel)
set_option maxRecDepth 20000 in
theorem gX1_fold_X1_no : GoodIn wsX1_fold (wsV RX1 48 RX1 yX1_no wsX1_no) := goodIn_app (goodIn_of _ (by decide +kernel)) ggX1_fold_X1_no
set_option maxRecDepth 20000 in
theorem ggX1_fold_X1_folded : GoodIn wsX1_fold wsX1_folded := goodIn_r _ [18, 2, 19, 20, 21, 6, 22, 23, 24, 25, 26, 27, 28, 29, 30, 31, 32, 41, 42, 43, 44, 45, 46, 47] (by decide +kernel) (by decide +kernel)
set_option maxRecDepth 20000 in
theorem gX1_fold_X1_folded : GoodIn wsX1_fold (wsV RX1 102 RX1 yX1_folded wsX1_folded) := goodIn_app (goodIn_of _ (by decide +kernel)) ggX1_fold_X1_folded
set_option maxRecDepth 20000 in
theorem ggX1_fold_X1_lay : GoodIn wsX1_fold wsX1_lay := goodIn_r _ [36, 3, 23, 2, 37, 38, 39, 40, 41, 42, 43, 44, 45, 46, 47] (by decide +kernel) (by decide +kernel)
set_option maxRecDepth 20000 in
theorem gX1_fold_X1_lay : GoodIn wsX1_fold (wsV RX1 88 RX1 yX1_lay wsX1_lay) := goodIn_app (goodIn_of _ (by decide +kernel)) ggX1_fold_X1_lay
theorem dX1_fold_0 : decode cX1_fold 0 = .ok (.aload_n 0, 1) := by decide +kernel
theorem dX1_fold_1 : decode cX1_fold 1 = .ok (.iconst 0, 1) := by decide +kernel
theorem dX1_fold_2 : decode cX1_fold 2 = .ok (.putfield 29, 3) := by decide +kernel
theorem dX1_fold_5 : decode cX1_fold 5 = .ok (.iload_n 1, 1) := by decide +kernel
theorem dX1_fold_6 : decode cX1_fold 6 = .ok (.invokestatic 79, 3) := by decide +kernel
theorem dX1_fold_9 : decode cX1_fold 9 = .ok (.ifCond .eq 10, 3) := by decide +kernel
theorem dX1_fold_12 : decode cX1_fold 12 = .ok (.iload_n 2, 1) := by decide +kernel
theorem dX1_fold_13 : decode cX1_fold 13 = .ok (.invokestatic 79, 3) := by decide +kernel
theorem dX1_fold_16 : decode cX1_fold 16 = .ok (.ifCond .ne 9, 3) := by decide +kernel
theorem dX1_fold_19 : decode cX1_fold 19 = .ok (.aload_n 0, 1) := by decide +kernel
theorem dX1_fold_20 : decode cX1_fold 20 = .ok (.iconst 1, 1) := by decide +kernel
theorem dX1_fold_21 : decode cX1_fold 21 = .ok (.invokevirtual 48, 3) := by decide +kernel
theorem dX1_fold_24 : decode cX1_fold 24 = .ok (.ireturn, 1) := by decide +kernel
theorem dX1_fold_25 : decode cX1_fold 25 = .ok (.iconst 0, 1) := by decide +kernel
theorem dX1_fold_26 : decode cX1_fold 26 = .ok (.istore_n 3, 1) := by decide +kernel
theorem dX1_fold_27 : decode cX1_fold 27 = .ok (.iload_n 3, 1) := by decide +kernel
theorem dX1_fold_28 : decode cX1_fold 28 = .ok (.aload_n 0, 1) := by decide +kernel
theorem dX1_fold_29 : decode cX1_fold 29 = .ok (.getfield 7, 3) := by decide +kernel
theorem dX1_fold_32 : decode cX1_fold 32 = .ok (.if_icmp .ge 22, 3) := by decide +kernel
theorem dX1_fold_35 : decode cX1_fold 35 = .ok (.aload_n 0, 1) := by decide +kernel
theorem dX1_fold_36 : decode cX1_fold 36 = .ok (.getfield 26, 3) := by decide +kernel
theorem dX1_fold_39 : decode cX1_fold 39 = .ok (.iload_n 3, 1) := by decide +kernel
theorem dX1_fold_40 : decode cX1_fold 40 = .ok (.aload_n 0, 1) := by decide +kernel
theorem dX1_fold_41 : decode cX1_fold 41 = .ok (.iload_n 1, 1) := by decide +kernel
theorem dX1_fold_42 : decode cX1_fold 42 = .ok (.iload_n 2, 1) := by decide +kernel
theorem dX1_fold_43 : decode cX1_fold 43 = .ok (.iload_n 3, 1) := by decide +kernel
theorem dX1_fold_44 : decode cX1_fold 44 = .ok (.invokevirtual 102, 3) := by decide +kernel
theorem dX1_fold_47 : decode cX1_fold 47 = .ok (.iastore, 1) := by decide +kernel
theorem dX1_fold_48 : decode cX1_fold 48 = .ok (.iinc 3 1, 3) := by decide +kernel
theorem dX1_fold_51 : decode cX1_fold 51 = .ok (.goto (-24), 3) := by decide +kernel
theorem dX1_fold_54 : decode cX1_fold 54 = .ok (.aload_n 0, 1) := by decide +kernel
theorem dX1_fold_55 : decode cX1_fold 55 = .ok (.iload_n 1, 1) := by decide +kernel
theorem dX1_fold_56 : decode cX1_fold 56 = .ok (.invokevirtual 88, 3) := by decide +kernel
theorem dX1_fold_59 : decode cX1_fold 59 = .ok (.aload_n 0, 1) := by decide +kernel
theorem dX1_fold_60 : decode cX1_fold 60 = .ok (.getfield 26, 3) := by decide +kernel
theorem dX1_fold_63 : decode cX1_fold 63 = .ok (.iconst 0, 1) := by decide +kernel
theorem dX1_fold_64 : decode cX1_fold 64 = .ok (.iaload, 1) := by decide +kernel
theorem dX1_fold_65 : decode cX1_fold 65 = .ok (.ireturn, 1) := by decide +kernel
set_option maxRecDepth 20000 in
theorem ggX1_join_X1_isRow : GoodIn wsX1_join wsX1_isRow := goodIn_r _ [7, 8, 9, 6, 10] (by decide +kernel) (by decide +kernel)
set_option maxRecDepth 20000 in
theorem gX1_join_X1_isRow : GoodIn wsX1_join (va_wsS RX1 79 yX1_isRow wsX1_isRow) := goodIn_app (goodIn_of _ (by decide +kernel)) ggX1_join_X1_isRow
set_option maxRecDepth 20000 in
theorem ggX1_join_X1_isIn : GoodIn wsX1_join wsX1_isIn := goodIn_r _ [10] (by decide +kernel) (by decide +kernel)
set_option maxRecDepth 20000 in
theorem gX1_join_X1_isIn : GoodIn wsX1_join (va_wsS RX1 32 yX1_isIn wsX1_isIn) := goodIn_app (goodIn_of _ (by decide +kernel)) ggX1_join_X1_isIn
set_option maxRecDepth 20000 in
theorem ggX1_join_X1_no : GoodIn wsX1_join wsX1_no := goodIn_r _ [14, 1, 45, 46, 47, 48, 49, 50, 51] (by decide +kernel) (by decide +kernel)
set_option maxRecDepth 20000 in
theorem gX1_join_X1_no : GoodIn wsX1_join (wsV RX1 48 RX1 yX1_no wsX1_no) := goodIn_app (goodIn_of _ (by decide +kernel)) ggX1_join_X1_no
set_option maxRecDepth 20000 in
theorem ggX1_join_X1_its : GoodIn wsX1_join wsX1_its := goodIn_r _ [18, 19, 45, 46, 47, 48, 49, 50, 51] (by decide +kernel) (by decide +kernel)
set_option maxRecDepth 20000 in
theorem gX1_join_X1_its : GoodIn wsX1_join (wsV RX1 70 RX1 yX1_its wsX1_its) := goodIn_app (goodIn_of _ (by decide +kernel)) ggX1_join_X1_its
set_option maxRecDepth 20000 in
theorem ggX1_join_X1_plus : GoodIn wsX1_join wsX1_plus := goodIn_r _ [23, 24, 45, 46, 47, 48, 49, 50, 51] (by decide +kernel) (by decide +kernel)
set_option maxRecDepth 20000 in
theorem gX1_join_X1_plus : GoodIn wsX1_join (wsV RX1 73 RX1 yX1_plus wsX1_plus) := goodIn_app (goodIn_of _ (by decide +kernel)) ggX1_join_X1_plus
set_option maxRecDepth 20000 in
theorem ggX1_join_X1_minus : GoodIn wsX1_join wsX1_minus := goodIn_r _ [28, 24, 45, 46, 47, 48, 49, 50, 51] (by decide +kernel) (by decide +kernel)
set_option maxRecDepth 20000 in
theorem gX1_join_X1_minus : GoodIn wsX1_join (wsV RX1 99 RX1 yX1_minus wsX1_minus) := goodIn_app (goodIn_of _ (by decide +kernel)) ggX1_join_X1_minus
set_option maxRecDepth 20000 in
theorem ggX1_join_X1_by : GoodIn wsX1_join wsX1_by := goodIn_r _ [32, 24, 45, 46, 47, 48, 49, 50, 51] (by decide +kernel) (by decide +kernel)
set_option maxRecDepth 20000 in
theorem gX1_join_X1_by : GoodIn wsX1_join (wsV RX1 36 RX1 yX1_by wsX1_by) := goodIn_app (goodIn_of _ (by decide +kernel)) ggX1_join_X1_by
set_option maxRecDepth 20000 in
theorem ggX1_join_X1_lay : GoodIn wsX1_join wsX1_lay := goodIn_r _ [36, 3, 19, 2, 37, 38, 39, 40, 45, 46, 47, 48, 49, 50, 51] (by decide +kernel) (by decide +kernel)
set_option maxRecDepth 20000 in
theorem gX1_join_X1_lay : GoodIn wsX1_join (wsV RX1 88 RX1 yX1_lay wsX1_lay) := goodIn_app (goodIn_of _ (by decide +kernel)) ggX1_join_X1_lay
set_option maxRecDepth 20000 in
theorem ggX1_join_X1_others : GoodIn wsX1_join wsX1_others := goodIn_r _ [44, 2, 15, 16, 17, 6, 18, 19, 45, 46, 47, 48, 49, 50, 51] (by decide +kernel) (by decide +kernel)
set_option maxRecDepth 20000 in
theorem gX1_join_X1_others : GoodIn wsX1_join (wsV RX1 106 RX1 yX1_others wsX1_others) := goodIn_app (goodIn_of _ (by decide +kernel)) ggX1_join_X1_others
theorem dX1_join_0 : decode cX1_join 0 = .ok (.aload_n 0, 1) := by decide +kernel
theorem dX1_join_1 : decode cX1_join 1 = .ok (.iconst 0, 1) := by decide +kernel
theorem dX1_join_2 : decode cX1_join 2 = .ok (.putfield 29, 3) := by decide +kernel
theorem dX1_join_5 : decode cX1_join 5 = .ok (.iload_n 1, 1) := by decide +kernel
theorem dX1_join_6 : decode cX1_join 6 = .ok (.invokestatic 79, 3) := by decide +kernel
theorem dX1_join_9 : decode cX1_join 9 = .ok (.ifCond .eq 19, 3) := by decide +kernel
theorem dX1_join_12 : decode cX1_join 12 = .ok (.iload_n 2, 1) := by decide +kernel
theorem dX1_join_13 : decode cX1_join 13 = .ok (.invokestatic 79, 3) := by decide +kernel
theorem dX1_join_16 : decode cX1_join 16 = .ok (.ifCond .eq 12, 3) := by decide +kernel
theorem dX1_join_19 : decode cX1_join 19 = .ok (.iload_n 3, 1) := by decide +kernel
theorem dX1_join_20 : decode cX1_join 20 = .ok (.iconst 0, 1) := by decide +kernel
theorem dX1_join_21 : decode cX1_join 21 = .ok (.iconst 2, 1) := by decide +kernel
theorem dX1_join_22 : decode cX1_join 22 = .ok (.invokestatic 32, 3) := by decide +kernel
theorem dX1_join_25 : decode cX1_join 25 = .ok (.ifCond .ne 9, 3) := by decide +kernel
theorem dX1_join_28 : decode cX1_join 28 = .ok (.aload_n 0, 1) := by decide +kernel
theorem dX1_join_29 : decode cX1_join 29 = .ok (.iconst 1, 1) := by decide +kernel
theorem dX1_join_30 : decode cX1_join 30 = .ok (.invokevirtual 48, 3) := by decide +kernel
theorem dX1_join_33 : decode cX1_join 33 = .ok (.ireturn, 1) := by decide +kernel
theorem dX1_join_34 : decode cX1_join 34 = .ok (.iconst 0, 1) := by decide +kernel
theorem dX1_join_35 : decode cX1_join 35 = .ok (.istore 4, 2) := by decide +kernel
theorem dX1_join_37 : decode cX1_join 37 = .ok (.iload 4, 2) := by decide +kernel
theorem dX1_join_39 : decode cX1_join 39 = .ok (.aload_n 0, 1) := by decide +kernel
theorem dX1_join_40 : decode cX1_join 40 = .ok (.getfield 7, 3) := by decide +kernel
theorem dX1_join_43 : decode cX1_join 43 = .ok (.if_icmp .ge 85, 3) := by decide +kernel
theorem dX1_join_46 : decode cX1_join 46 = .ok (.aload_n 0, 1) := by decide +kernel
theorem dX1_join_47 : decode cX1_join 47 = .ok (.getfield 26, 3) := by decide +kernel
theorem dX1_join_50 : decode cX1_join 50 = .ok (.iload 4, 2) := by decide +kernel
theorem dX1_join_52 : decode cX1_join 52 = .ok (.iload_n 3, 1) := by decide +kernel
theorem dX1_join_53 : decode cX1_join 53 = .ok (.ifCond .ne 24, 3) := by decide +kernel
theorem dX1_join_56 : decode cX1_join 56 = .ok (.aload_n 0, 1) := by decide +kernel
theorem dX1_join_57 : decode cX1_join 57 = .ok (.aload_n 0, 1) := by decide +kernel
theorem dX1_join_58 : decode cX1_join 58 = .ok (.iload_n 1, 1) := by decide +kernel
theorem dX1_join_59 : decode cX1_join 59 = .ok (.iload 4, 2) := by decide +kernel
theorem dX1_join_61 : decode cX1_join 61 = .ok (.invokevirtual 70, 3) := by decide +kernel
theorem dX1_join_64 : decode cX1_join 64 = .ok (.aload_n 0, 1) := by decide +kernel
theorem dX1_join_65 : decode cX1_join 65 = .ok (.iload_n 2, 1) := by decide +kernel
theorem dX1_join_66 : decode cX1_join 66 = .ok (.iload 4, 2) := by decide +kernel
theorem dX1_join_68 : decode cX1_join 68 = .ok (.invokevirtual 70, 3) := by decide +kernel
theorem dX1_join_71 : decode cX1_join 71 = .ok (.invokevirtual 73, 3) := by decide +kernel
theorem dX1_join_74 : decode cX1_join 74 = .ok (.goto 47, 3) := by decide +kernel
theorem dX1_join_77 : decode cX1_join 77 = .ok (.iload_n 3, 1) := by decide +kernel
theorem dX1_join_78 : decode cX1_join 78 = .ok (.iconst 1, 1) := by decide +kernel
theorem dX1_join_79 : decode cX1_join 79 = .ok (.if_icmp .ne 24, 3) := by decide +kernel
theorem dX1_join_82 : decode cX1_join 82 = .ok (.aload_n 0, 1) := by decide +kernel
theorem dX1_join_83 : decode cX1_join 83 = .ok (.aload_n 0, 1) := by decide +kernel
theorem dX1_join_84 : decode cX1_join 84 = .ok (.iload_n 1, 1) := by decide +kernel
theorem dX1_join_85 : decode cX1_join 85 = .ok (.iload 4, 2) := by decide +kernel
theorem dX1_join_87 : decode cX1_join 87 = .ok (.invokevirtual 70, 3) := by decide +kernel
theorem dX1_join_90 : decode cX1_join 90 = .ok (.aload_n 0, 1) := by decide +kernel
theorem dX1_join_91 : decode cX1_join 91 = .ok (.iload_n 2, 1) := by decide +kernel
theorem dX1_join_92 : decode cX1_join 92 = .ok (.iload 4, 2) := by decide +kernel
theorem dX1_join_94 : decode cX1_join 94 = .ok (.invokevirtual 70, 3) := by decide +kernel
theorem dX1_join_97 : decode cX1_join 97 = .ok (.invokevirtual 99, 3) := by decide +kernel
theorem dX1_join_100 : decode cX1_join 100 = .ok (.goto 21, 3) := by decide +kernel
theorem dX1_join_103 : decode cX1_join 103 = .ok (.aload_n 0, 1) := by decide +kernel
theorem dX1_join_104 : decode cX1_join 104 = .ok (.aload_n 0, 1) := by decide +kernel
theorem dX1_join_105 : decode cX1_join 105 = .ok (.iload_n 1, 1) := by decide +kernel
theorem dX1_join_106 : decode cX1_join 106 = .ok (.iload 4, 2) := by decide +kernel
theorem dX1_join_108 : decode cX1_join 108 = .ok (.invokevirtual 70, 3) := by decide +kernel
theorem dX1_join_111 : decode cX1_join 111 = .ok (.aload_n 0, 1) := by decide +kernel
theorem dX1_join_112 : decode cX1_join 112 = .ok (.iload_n 2, 1) := by decide +kernel
theorem dX1_join_113 : decode cX1_join 113 = .ok (.iload 4, 2) := by decide +kernel
theorem dX1_join_115 : decode cX1_join 115 = .ok (.invokevirtual 70, 3) := by decide +kernel
theorem dX1_join_118 : decode cX1_join 118 = .ok (.invokevirtual 36, 3) := by decide +kernel
theorem dX1_join_121 : decode cX1_join 121 = .ok (.iastore, 1) := by decide +kernel
theorem dX1_join_122 : decode cX1_join 122 = .ok (.iinc 4 1, 3) := by decide +kernel
theorem dX1_join_125 : decode cX1_join 125 = .ok (.goto (-88), 3) := by decide +kernel
theorem dX1_join_128 : decode cX1_join 128 = .ok (.aload_n 0, 1) := by decide +kernel
theorem dX1_join_129 : decode cX1_join 129 = .ok (.iload_n 1, 1) := by decide +kernel
theorem dX1_join_130 : decode cX1_join 130 = .ok (.invokevirtual 88, 3) := by decide +kernel
theorem dX1_join_133 : decode cX1_join 133 = .ok (.aload_n 0, 1) := by decide +kernel
theorem dX1_join_134 : decode cX1_join 134 = .ok (.iload_n 1, 1) := by decide +kernel
theorem dX1_join_135 : decode cX1_join 135 = .ok (.invokevirtual 106, 3) := by decide +kernel
theorem dX1_join_138 : decode cX1_join 138 = .ok (.ireturn, 1) := by decide +kernel
set_option maxRecDepth 20000 in
theorem ggX1_move_X1_isRow : GoodIn wsX1_move wsX1_isRow := goodIn_r _ [7, 8, 9, 6, 10] (by decide +kernel) (by decide +kernel)
set_option maxRecDepth 20000 in
theorem gX1_move_X1_isRow : GoodIn wsX1_move (va_wsS RX1 79 yX1_isRow wsX1_isRow) := goodIn_app (goodIn_of _ (by decide +kernel)) ggX1_move_X1_isRow
set_option maxRecDepth 20000 in
theorem ggX1_move_X1_no : GoodIn wsX1_move wsX1_no := goodIn_r _ [14, 1, 32, 33, 34, 35, 36, 37, 38] (by decide +kernel) (by decide +kernel)
set_option maxRecDepth 20000 in
theorem gX1_move_X1_no : GoodIn wsX1_move (wsV RX1 48 RX1 yX1_no wsX1_no) := goodIn_app (goodIn_of _ (by decide +kernel)) ggX1_move_X1_no
set_option maxRecDepth 20000 in
theorem ggX1_move_X1_isPlace : GoodIn wsX1_move wsX1_isPlace := goodIn_r _ [18, 2, 8, 9, 6, 10, 32, 33, 34, 35, 36, 37, 38] (by decide +kernel) (by decide +kernel)
set_option maxRecDepth 20000 in
theorem gX1_move_X1_isPlace : GoodIn wsX1_move (wsV RX1 82 RX1 yX1_isPlace wsX1_isPlace) := goodIn_app (goodIn_of _ (by decide +kernel)) ggX1_move_X1_isPlace
set_option maxRecDepth 20000 in
theorem ggX1_move_X1_its : GoodIn wsX1_move wsX1_its := goodIn_r _ [22, 23, 32, 33, 34, 35, 36, 37, 38] (by decide +kernel) (by decide +kernel)
set_option maxRecDepth 20000 in
theorem gX1_move_X1_its : GoodIn wsX1_move (wsV RX1 70 RX1 yX1_its wsX1_its) := goodIn_app (goodIn_of _ (by decide +kernel)) ggX1_move_X1_its
set_option maxRecDepth 20000 in
theorem ggX1_move_X1_lay : GoodIn wsX1_move wsX1_lay := goodIn_r _ [27, 3, 23, 2, 28, 29, 30, 31, 32, 33, 34, 35, 36, 37, 38] (by decide +kernel) (by decide +kernel)
set_option maxRecDepth 20000 in
theorem gX1_move_X1_lay : GoodIn wsX1_move (wsV RX1 88 RX1 yX1_lay wsX1_lay) := goodIn_app (goodIn_of _ (by decide +kernel)) ggX1_move_X1_lay
theorem dX1_move_0 : decode cX1_move 0 = .ok (.aload_n 0, 1) := by decide +kernel
theorem dX1_move_1 : decode cX1_move 1 = .ok (.iconst 0, 1) := by decide +kernel
theorem dX1_move_2 : decode cX1_move 2 = .ok (.putfield 29, 3) := by decide +kernel
theorem dX1_move_5 : decode cX1_move 5 = .ok (.iload_n 1, 1) := by decide +kernel
theorem dX1_move_6 : decode cX1_move 6 = .ok (.invokestatic 79, 3) := by decide +kernel
theorem dX1_move_9 : decode cX1_move 9 = .ok (.ifCond .ne 9, 3) := by decide +kernel
theorem dX1_move_12 : decode cX1_move 12 = .ok (.aload_n 0, 1) := by decide +kernel
theorem dX1_move_13 : decode cX1_move 13 = .ok (.iconst 1, 1) := by decide +kernel
theorem dX1_move_14 : decode cX1_move 14 = .ok (.invokevirtual 48, 3) := by decide +kernel
theorem dX1_move_17 : decode cX1_move 17 = .ok (.ireturn, 1) := by decide +kernel
theorem dX1_move_18 : decode cX1_move 18 = .ok (.aload_n 0, 1) := by decide +kernel
theorem dX1_move_19 : decode cX1_move 19 = .ok (.iload_n 2, 1) := by decide +kernel
theorem dX1_move_20 : decode cX1_move 20 = .ok (.invokevirtual 82, 3) := by decide +kernel
theorem dX1_move_23 : decode cX1_move 23 = .ok (.ifCond .ne 9, 3) := by decide +kernel
theorem dX1_move_26 : decode cX1_move 26 = .ok (.aload_n 0, 1) := by decide +kernel
theorem dX1_move_27 : decode cX1_move 27 = .ok (.iconst 2, 1) := by decide +kernel
theorem dX1_move_28 : decode cX1_move 28 = .ok (.invokevirtual 48, 3) := by decide +kernel
theorem dX1_move_31 : decode cX1_move 31 = .ok (.ireturn, 1) := by decide +kernel
theorem dX1_move_32 : decode cX1_move 32 = .ok (.iconst 0, 1) := by decide +kernel
theorem dX1_move_33 : decode cX1_move 33 = .ok (.istore_n 3, 1) := by decide +kernel
theorem dX1_move_34 : decode cX1_move 34 = .ok (.iload_n 3, 1) := by decide +kernel
theorem dX1_move_35 : decode cX1_move 35 = .ok (.aload_n 0, 1) := by decide +kernel
theorem dX1_move_36 : decode cX1_move 36 = .ok (.getfield 7, 3) := by decide +kernel
theorem dX1_move_39 : decode cX1_move 39 = .ok (.if_icmp .ge 28, 3) := by decide +kernel
theorem dX1_move_42 : decode cX1_move 42 = .ok (.aload_n 0, 1) := by decide +kernel
theorem dX1_move_43 : decode cX1_move 43 = .ok (.getfield 26, 3) := by decide +kernel
theorem dX1_move_46 : decode cX1_move 46 = .ok (.iload_n 3, 1) := by decide +kernel
theorem dX1_move_47 : decode cX1_move 47 = .ok (.iload_n 2, 1) := by decide +kernel
theorem dX1_move_48 : decode cX1_move 48 = .ok (.iadd, 1) := by decide +kernel
theorem dX1_move_49 : decode cX1_move 49 = .ok (.aload_n 0, 1) := by decide +kernel
theorem dX1_move_50 : decode cX1_move 50 = .ok (.getfield 7, 3) := by decide +kernel
theorem dX1_move_53 : decode cX1_move 53 = .ok (.irem, 1) := by decide +kernel
theorem dX1_move_54 : decode cX1_move 54 = .ok (.aload_n 0, 1) := by decide +kernel
theorem dX1_move_55 : decode cX1_move 55 = .ok (.iload_n 1, 1) := by decide +kernel
theorem dX1_move_56 : decode cX1_move 56 = .ok (.iload_n 3, 1) := by decide +kernel
theorem dX1_move_57 : decode cX1_move 57 = .ok (.invokevirtual 70, 3) := by decide +kernel
theorem dX1_move_60 : decode cX1_move 60 = .ok (.iastore, 1) := by decide +kernel
theorem dX1_move_61 : decode cX1_move 61 = .ok (.iinc 3 1, 3) := by decide +kernel
theorem dX1_move_64 : decode cX1_move 64 = .ok (.goto (-30), 3) := by decide +kernel
theorem dX1_move_67 : decode cX1_move 67 = .ok (.aload_n 0, 1) := by decide +kernel
theorem dX1_move_68 : decode cX1_move 68 = .ok (.iload_n 1, 1) := by decide +kernel
theorem dX1_move_69 : decode cX1_move 69 = .ok (.invokevirtual 88, 3) := by decide +kernel
theorem dX1_move_72 : decode cX1_move 72 = .ok (.aload_n 0, 1) := by decide +kernel
theorem dX1_move_73 : decode cX1_move 73 = .ok (.getfield 26, 3) := by decide +kernel
theorem dX1_move_76 : decode cX1_move 76 = .ok (.iconst 0, 1) := by decide +kernel
theorem dX1_move_77 : decode cX1_move 77 = .ok (.iaload, 1) := by decide +kernel
theorem dX1_move_78 : decode cX1_move 78 = .ok (.ireturn, 1) := by decide +kernel
set_option maxRecDepth 20000 in
theorem ggX1_times_X1_isRow : GoodIn wsX1_times wsX1_isRow := goodIn_r _ [8, 9, 10, 7, 11] (by decide +kernel) (by decide +kernel)
set_option maxRecDepth 20000 in
theorem gX1_times_X1_isRow : GoodIn wsX1_times (va_wsS RX1 79 yX1_isRow wsX1_isRow) := goodIn_app (goodIn_of _ (by decide +kernel)) ggX1_times_X1_isRow
set_option maxRecDepth 20000 in
theorem ggX1_times_X1_no : GoodIn wsX1_times wsX1_no := goodIn_r _ [15, 1, 37, 38, 39, 40, 41, 42, 43] (by decide +kernel) (by decide +kernel)
set_option maxRecDepth 20000 in
theorem gX1_times_X1_no : GoodIn wsX1_times (wsV RX1 48 RX1 yX1_no wsX1_no) := goodIn_app (goodIn_of _ (by decide +kernel)) ggX1_times_X1_no
set_option maxRecDepth 20000 in
theorem ggX1_times_X1_isIn : GoodIn wsX1_times wsX1_isIn := goodIn_r _ [11] (by decide +kernel) (by decide +kernel)
set_option maxRecDepth 20000 in
theorem gX1_times_X1_isIn : GoodIn wsX1_times (va_wsS RX1 32 yX1_isIn wsX1_isIn) := goodIn_app (goodIn_of _ (by decide +kernel)) ggX1_times_X1_isIn
set_option maxRecDepth 20000 in
theorem ggX1_times_X1_its : GoodIn wsX1_times wsX1_its := goodIn_r _ [19, 20, 37, 38, 39, 40, 41, 42, 43] (by decide +kernel) (by decide +kernel)
set_option maxRecDepth 20000 in
theorem gX1_times_X1_its : GoodIn wsX1_times (wsV RX1 70 RX1 yX1_its wsX1_its) := goodIn_app (goodIn_of _ (by decide +kernel)) ggX1_times_X1_its
set_option maxRecDepth 20000 in
theorem ggX1_times_X1_by : GoodIn wsX1_times wsX1_by := goodIn_r _ [24, 2, 37, 38, 39, 40, 41, 42, 43] (by decide +kernel) (by decide +kernel)
set_option maxRecDepth 20000 in
theorem gX1_times_X1_by : GoodIn wsX1_times (wsV RX1 36 RX1 yX1_by wsX1_by) := goodIn_app (goodIn_of _ (by decide +kernel)) ggX1_times_X1_by
set_option maxRecDepth 20000 in
theorem ggX1_times_X1_lay : GoodIn wsX1_times wsX1_lay := goodIn_r _ [28, 4, 20, 3, 29, 30, 31, 32, 37, 38, 39, 40, 41, 42, 43] (by decide +kernel) (by decide +kernel)
set_option maxRecDepth 20000 in
theorem gX1_times_X1_lay : GoodIn wsX1_times (wsV RX1 88 RX1 yX1_lay wsX1_lay) := goodIn_app (goodIn_of _ (by decide +kernel)) ggX1_times_X1_lay
set_option maxRecDepth 20000 in
theorem ggX1_times_X1_others : GoodIn wsX1_times wsX1_others := goodIn_r _ [36, 3, 16, 17, 18, 7, 19, 20, 37, 38, 39, 40, 41, 42, 43] (by decide +kernel) (by decide +kernel)
set_option maxRecDepth 20000 in
theorem gX1_times_X1_others : GoodIn wsX1_times (wsV RX1 106 RX1 yX1_others wsX1_others) := goodIn_app (goodIn_of _ (by decide +kernel)) ggX1_times_X1_others
theorem dX1_times_0 : decode cX1_times 0 = .ok (.aload_n 0, 1) := by decide +kernel
theorem dX1_times_1 : decode cX1_times 1 = .ok (.iconst 0, 1) := by decide +kernel
theorem dX1_times_2 : decode cX1_times 2 = .ok (.putfield 29, 3) := by decide +kernel
theorem dX1_times_5 : decode cX1_times 5 = .ok (.iload_n 1, 1) := by decide +kernel
theorem dX1_times_6 : decode cX1_times 6 = .ok (.invokestatic 79, 3) := by decide +kernel
theorem dX1_times_9 : decode cX1_times 9 = .ok (.ifCond .ne 9, 3) := by decide +kernel
theorem dX1_times_12 : decode cX1_times 12 = .ok (.aload_n 0, 1) := by decide +kernel
theorem dX1_times_13 : decode cX1_times 13 = .ok (.iconst 1, 1) := by decide +kernel
theorem dX1_times_14 : decode cX1_times 14 = .ok (.invokevirtual 48, 3) := by decide +kernel
theorem dX1_times_17 : decode cX1_times 17 = .ok (.ireturn, 1) := by decide +kernel
theorem dX1_times_18 : decode cX1_times 18 = .ok (.iload_n 2, 1) := by decide +kernel
theorem dX1_times_19 : decode cX1_times 19 = .ok (.iconst 0, 1) := by decide +kernel
theorem dX1_times_20 : decode cX1_times 20 = .ok (.aload_n 0, 1) := by decide +kernel
theorem dX1_times_21 : decode cX1_times 21 = .ok (.getfield 13, 3) := by decide +kernel
theorem dX1_times_24 : decode cX1_times 24 = .ok (.iconst 1, 1) := by decide +kernel
theorem dX1_times_25 : decode cX1_times 25 = .ok (.isub, 1) := by decide +kernel
theorem dX1_times_26 : decode cX1_times 26 = .ok (.invokestatic 32, 3) := by decide +kernel
theorem dX1_times_29 : decode cX1_times 29 = .ok (.ifCond .ne 9, 3) := by decide +kernel
theorem dX1_times_32 : decode cX1_times 32 = .ok (.aload_n 0, 1) := by decide +kernel
theorem dX1_times_33 : decode cX1_times 33 = .ok (.iconst 2, 1) := by decide +kernel
theorem dX1_times_34 : decode cX1_times 34 = .ok (.invokevirtual 48, 3) := by decide +kernel
theorem dX1_times_37 : decode cX1_times 37 = .ok (.ireturn, 1) := by decide +kernel
theorem dX1_times_38 : decode cX1_times 38 = .ok (.iconst 0, 1) := by decide +kernel
theorem dX1_times_39 : decode cX1_times 39 = .ok (.istore_n 3, 1) := by decide +kernel
theorem dX1_times_40 : decode cX1_times 40 = .ok (.iload_n 3, 1) := by decide +kernel
theorem dX1_times_41 : decode cX1_times 41 = .ok (.aload_n 0, 1) := by decide +kernel
theorem dX1_times_42 : decode cX1_times 42 = .ok (.getfield 7, 3) := by decide +kernel
theorem dX1_times_45 : decode cX1_times 45 = .ok (.if_icmp .ge 26, 3) := by decide +kernel
theorem dX1_times_48 : decode cX1_times 48 = .ok (.aload_n 0, 1) := by decide +kernel
theorem dX1_times_49 : decode cX1_times 49 = .ok (.getfield 26, 3) := by decide +kernel
theorem dX1_times_52 : decode cX1_times 52 = .ok (.iload_n 3, 1) := by decide +kernel
theorem dX1_times_53 : decode cX1_times 53 = .ok (.aload_n 0, 1) := by decide +kernel
theorem dX1_times_54 : decode cX1_times 54 = .ok (.aload_n 0, 1) := by decide +kernel
theorem dX1_times_55 : decode cX1_times 55 = .ok (.iload_n 1, 1) := by decide +kernel
theorem dX1_times_56 : decode cX1_times 56 = .ok (.iload_n 3, 1) := by decide +kernel
theorem dX1_times_57 : decode cX1_times 57 = .ok (.invokevirtual 70, 3) := by decide +kernel
theorem dX1_times_60 : decode cX1_times 60 = .ok (.iload_n 2, 1) := by decide +kernel
theorem dX1_times_61 : decode cX1_times 61 = .ok (.invokevirtual 36, 3) := by decide +kernel
theorem dX1_times_64 : decode cX1_times 64 = .ok (.iastore, 1) := by decide +kernel
theorem dX1_times_65 : decode cX1_times 65 = .ok (.iinc 3 1, 3) := by decide +kernel
theorem dX1_times_68 : decode cX1_times 68 = .ok (.goto (-28), 3) := by decide +kernel
theorem dX1_times_71 : decode cX1_times 71 = .ok (.aload_n 0, 1) := by decide +kernel
theorem dX1_times_72 : decode cX1_times 72 = .ok (.iload_n 1, 1) := by decide +kernel
theorem dX1_times_73 : decode cX1_times 73 = .ok (.invokevirtual 88, 3) := by decide +kernel
theorem dX1_times_76 : decode cX1_times 76 = .ok (.aload_n 0, 1) := by decide +kernel
theorem dX1_times_77 : decode cX1_times 77 = .ok (.iload_n 1, 1) := by decide +kernel
theorem dX1_times_78 : decode cX1_times 78 = .ok (.invokevirtual 106, 3) := by decide +kernel
theorem dX1_times_81 : decode cX1_times 81 = .ok (.ireturn, 1) := by decide +kernel
set_option maxRecDepth 20000 in
theorem ggX1_at_X1_isRow : GoodIn wsX1_at wsX1_isRow := goodIn_r _ [5, 6, 7, 4, 8] (by decide +kernel) (by decide +kernel)
set_option maxRecDepth 20000 in
theorem gX1_at_X1_isRow : GoodIn wsX1_at (va_wsS RX1 79 yX1_isRow wsX1_isRow) := goodIn_app (goodIn_of _ (by decide +kernel)) ggX1_at_X1_isRow
set_option maxRecDepth 20000 in
theorem ggX1_at_X1_isPlace : GoodIn wsX1_at wsX1_isPlace := goodIn_r _ [12, 13, 6, 7, 4, 8, 23, 24, 25, 26, 27, 28, 29] (by decide +kernel) (by decide +kernel)
set_option maxRecDepth 20000 in
theorem gX1_at_X1_isPlace : GoodIn wsX1_at (wsV RX1 82 RX1 yX1_isPlace wsX1_isPlace) := goodIn_app (goodIn_of _ (by decide +kernel)) ggX1_at_X1_isPlace
set_option maxRecDepth 20000 in
theorem ggX1_at_X1_its : GoodIn wsX1_at wsX1_its := goodIn_r _ [17, 18, 23, 24, 25, 26, 27, 28, 29] (by decide +kernel) (by decide +kernel)
set_option maxRecDepth 20000 in
theorem gX1_at_X1_its : GoodIn wsX1_at (wsV RX1 70 RX1 yX1_its wsX1_its) := goodIn_app (goodIn_of _ (by decide +kernel)) ggX1_at_X1_its
set_option maxRecDepth 20000 in
theorem ggX1_at_X1_no : GoodIn wsX1_at wsX1_no := goodIn_r _ [22, 1, 23, 24, 25, 26, 27, 28, 29] (by decide +kernel) (by decide +kernel)
set_option maxRecDepth 20000 in
theorem gX1_at_X1_no : GoodIn wsX1_at (wsV RX1 48 RX1 yX1_no wsX1_no) := goodIn_app (goodIn_of _ (by decide +kernel)) ggX1_at_X1_no
theorem dX1_at_0 : decode cX1_at 0 = .ok (.aload_n 0, 1) := by decide +kernel
theorem dX1_at_1 : decode cX1_at 1 = .ok (.iconst 0, 1) := by decide +kernel
theorem dX1_at_2 : decode cX1_at 2 = .ok (.putfield 29, 3) := by decide +kernel
theorem dX1_at_5 : decode cX1_at 5 = .ok (.iload_n 1, 1) := by decide +kernel
theorem dX1_at_6 : decode cX1_at 6 = .ok (.invokestatic 79, 3) := by decide +kernel
theorem dX1_at_9 : decode cX1_at 9 = .ok (.ifCond .eq 20, 3) := by decide +kernel
theorem dX1_at_12 : decode cX1_at 12 = .ok (.aload_n 0, 1) := by decide +kernel
theorem dX1_at_13 : decode cX1_at 13 = .ok (.iload_n 2, 1) := by decide +kernel
theorem dX1_at_14 : decode cX1_at 14 = .ok (.invokevirtual 82, 3) := by decide +kernel
theorem dX1_at_17 : decode cX1_at 17 = .ok (.ifCond .eq 12, 3) := by decide +kernel
theorem dX1_at_20 : decode cX1_at 20 = .ok (.aload_n 0, 1) := by decide +kernel
theorem dX1_at_21 : decode cX1_at 21 = .ok (.iload_n 1, 1) := by decide +kernel
theorem dX1_at_22 : decode cX1_at 22 = .ok (.iload_n 2, 1) := by decide +kernel
theorem dX1_at_23 : decode cX1_at 23 = .ok (.invokevirtual 70, 3) := by decide +kernel
theorem dX1_at_26 : decode cX1_at 26 = .ok (.goto 8, 3) := by decide +kernel
theorem dX1_at_29 : decode cX1_at 29 = .ok (.aload_n 0, 1) := by decide +kernel
theorem dX1_at_30 : decode cX1_at 30 = .ok (.iconst 1, 1) := by decide +kernel
theorem dX1_at_31 : decode cX1_at 31 = .ok (.invokevirtual 48, 3) := by decide +kernel
theorem dX1_at_34 : decode cX1_at 34 = .ok (.ireturn, 1) := by decide +kernel
set_option maxRecDepth 20000 in
theorem ggX1_point_X1_isRow : GoodIn wsX1_point wsX1_isRow := goodIn_r _ [6, 7, 8, 5, 9] (by decide +kernel) (by decide +kernel)
set_option maxRecDepth 20000 in
theorem gX1_point_X1_isRow : GoodIn wsX1_point (va_wsS RX1 79 yX1_isRow wsX1_isRow) := goodIn_app (goodIn_of _ (by decide +kernel)) ggX1_point_X1_isRow
set_option maxRecDepth 20000 in
theorem ggX1_point_X1_no : GoodIn wsX1_point wsX1_no := goodIn_r _ [13, 1, 32, 33, 34, 35, 36, 37, 38] (by decide +kernel) (by decide +kernel)
set_option maxRecDepth 20000 in
theorem gX1_point_X1_no : GoodIn wsX1_point (wsV RX1 48 RX1 yX1_no wsX1_no) := goodIn_app (goodIn_of _ (by decide +kernel)) ggX1_point_X1_no
set_option maxRecDepth 20000 in
theorem ggX1_point_X1_isIn : GoodIn wsX1_point wsX1_isIn := goodIn_r _ [9] (by decide +kernel) (by decide +kernel)
set_option maxRecDepth 20000 in
theorem gX1_point_X1_isIn : GoodIn wsX1_point (va_wsS RX1 32 yX1_isIn wsX1_isIn) := goodIn_app (goodIn_of _ (by decide +kernel)) ggX1_point_X1_isIn
set_option maxRecDepth 20000 in
theorem ggX1_point_X1_pointOf : GoodIn wsX1_point wsX1_pointOf := goodIn_r _ [17, 18, 19, 20, 21, 5, 22, 2, 23, 24, 25, 26, 27, 28, 29, 30, 31, 32, 33, 34, 35, 36, 37, 38] (by decide +kernel) (by decide +kernel)
set_option maxRecDepth 20000 in
theorem gX1_point_X1_pointOf : GoodIn wsX1_point (wsV RX1 76 RX1 yX1_pointOf wsX1_pointOf) := goodIn_app (goodIn_of _ (by decide +kernel)) ggX1_point_X1_pointOf
theorem dX1_point_0 : decode cX1_point 0 = .ok (.aload_n 0, 1) := by decide +kernel
theorem dX1_point_1 : decode cX1_point 1 = .ok (.iconst 0, 1) := by decide +kernel
theorem dX1_point_2 : decode cX1_point 2 = .ok (.putfield 29, 3) := by decide +kernel
theorem dX1_point_5 : decode cX1_point 5 = .ok (.iload_n 1, 1) := by decide +kernel
theorem dX1_point_6 : decode cX1_point 6 = .ok (.invokestatic 79, 3) := by decide +kernel
theorem dX1_point_9 : decode cX1_point 9 = .ok (.ifCond .ne 9, 3) := by decide +kernel
theorem dX1_point_12 : decode cX1_point 12 = .ok (.aload_n 0, 1) := by decide +kernel
theorem dX1_point_13 : decode cX1_point 13 = .ok (.iconst 1, 1) := by decide +kernel
theorem dX1_point_14 : decode cX1_point 14 = .ok (.invokevirtual 48, 3) := by decide +kernel
theorem dX1_point_17 : decode cX1_point 17 = .ok (.ireturn, 1) := by decide +kernel
theorem dX1_point_18 : decode cX1_point 18 = .ok (.iload_n 2, 1) := by decide +kernel
theorem dX1_point_19 : decode cX1_point 19 = .ok (.iconst 0, 1) := by decide +kernel
theorem dX1_point_20 : decode cX1_point 20 = .ok (.aload_n 0, 1) := by decide +kernel
theorem dX1_point_21 : decode cX1_point 21 = .ok (.getfield 13, 3) := by decide +kernel
theorem dX1_point_24 : decode cX1_point 24 = .ok (.iconst 1, 1) := by decide +kernel
theorem dX1_point_25 : decode cX1_point 25 = .ok (.isub, 1) := by decide +kernel
theorem dX1_point_26 : decode cX1_point 26 = .ok (.invokestatic 32, 3) := by decide +kernel
theorem dX1_point_29 : decode cX1_point 29 = .ok (.ifCond .eq 12, 3) := by decide +kernel
theorem dX1_point_32 : decode cX1_point 32 = .ok (.aload_n 0, 1) := by decide +kernel
theorem dX1_point_33 : decode cX1_point 33 = .ok (.iload_n 1, 1) := by decide +kernel
theorem dX1_point_34 : decode cX1_point 34 = .ok (.iload_n 2, 1) := by decide +kernel
theorem dX1_point_35 : decode cX1_point 35 = .ok (.invokevirtual 76, 3) := by decide +kernel
theorem dX1_point_38 : decode cX1_point 38 = .ok (.goto 8, 3) := by decide +kernel
theorem dX1_point_41 : decode cX1_point 41 = .ok (.aload_n 0, 1) := by decide +kernel
theorem dX1_point_42 : decode cX1_point 42 = .ok (.iconst 2, 1) := by decide +kernel
theorem dX1_point_43 : decode cX1_point 43 = .ok (.invokevirtual 48, 3) := by decide +kernel
theorem dX1_point_46 : decode cX1_point 46 = .ok (.ireturn, 1) := by decide +kernel
set_option maxRecDepth 20000 in
theorem ggX1_isMoved_X1_its : GoodIn wsX1_isMoved wsX1_its := goodIn_r _ [6, 7, 8, 9, 10, 11, 12, 13, 14] (by decide +kernel) (by decide +kernel)
set_option maxRecDepth 20000 in
theorem gX1_isMoved_X1_its : GoodIn wsX1_isMoved (wsV RX1 70 RX1 yX1_its wsX1_its) := goodIn_app (goodIn_of _ (by decide +kernel)) ggX1_isMoved_X1_its
theorem dX1_isMoved_0 : decode cX1_isMoved 0 = .ok (.iconst 0, 1) := by decide +kernel
theorem dX1_isMoved_1 : decode cX1_isMoved 1 = .ok (.istore 4, 2) := by decide +kernel
theorem dX1_isMoved_3 : decode cX1_isMoved 3 = .ok (.iload 4, 2) := by decide +kernel
theorem dX1_isMoved_5 : decode cX1_isMoved 5 = .ok (.aload_n 0, 1) := by decide +kernel
theorem dX1_isMoved_6 : decode cX1_isMoved 6 = .ok (.getfield 7, 3) := by decide +kernel
theorem dX1_isMoved_9 : decode cX1_isMoved 9 = .ok (.if_icmp .ge 35, 3) := by decide +kernel
theorem dX1_isMoved_12 : decode cX1_isMoved 12 = .ok (.aload_n 0, 1) := by decide +kernel
theorem dX1_isMoved_13 : decode cX1_isMoved 13 = .ok (.iload_n 1, 1) := by decide +kernel
theorem dX1_isMoved_14 : decode cX1_isMoved 14 = .ok (.iload 4, 2) := by decide +kernel
theorem dX1_isMoved_16 : decode cX1_isMoved 16 = .ok (.invokevirtual 70, 3) := by decide +kernel
theorem dX1_isMoved_19 : decode cX1_isMoved 19 = .ok (.aload_n 0, 1) := by decide +kernel
theorem dX1_isMoved_20 : decode cX1_isMoved 20 = .ok (.iload_n 2, 1) := by decide +kernel
theorem dX1_isMoved_21 : decode cX1_isMoved 21 = .ok (.iload 4, 2) := by decide +kernel
theorem dX1_isMoved_23 : decode cX1_isMoved 23 = .ok (.iload_n 3, 1) := by decide +kernel
theorem dX1_isMoved_24 : decode cX1_isMoved 24 = .ok (.iadd, 1) := by decide +kernel
theorem dX1_isMoved_25 : decode cX1_isMoved 25 = .ok (.aload_n 0, 1) := by decide +kernel
theorem dX1_isMoved_26 : decode cX1_isMoved 26 = .ok (.getfield 7, 3) := by decide +kernel
theorem dX1_isMoved_29 : decode cX1_isMoved 29 = .ok (.irem, 1) := by decide +kernel
theorem dX1_isMoved_30 : decode cX1_isMoved 30 = .ok (.invokevirtual 70, 3) := by decide +kernel
theorem dX1_isMoved_33 : decode cX1_isMoved 33 = .ok (.if_icmp .eq 5, 3) := by decide +kernel
theorem dX1_isMoved_36 : decode cX1_isMoved 36 = .ok (.iconst 0, 1) := by decide +kernel
theorem dX1_isMoved_37 : decode cX1_isMoved 37 = .ok (.ireturn, 1) := by decide +kernel
theorem dX1_isMoved_38 : decode cX1_isMoved 38 = .ok (.iinc 4 1, 3) := by decide +kernel
theorem dX1_isMoved_41 : decode cX1_isMoved 41 = .ok (.goto (-38), 3) := by decide +kernel
theorem dX1_isMoved_44 : decode cX1_isMoved 44 = .ok (.iconst 1, 1) := by decide +kernel
theorem dX1_isMoved_45 : decode cX1_isMoved 45 = .ok (.ireturn, 1) := by decide +kernel
set_option maxRecDepth 20000 in
theorem ggX1_aboutTold_X1_pointOf : GoodIn wsX1_aboutTold wsX1_pointOf := goodIn_r _ [10, 1, 11, 12, 13, 9, 14, 15, 16, 17, 18, 19, 20, 21, 22, 23, 24, 33, 34, 35, 36, 37, 38, 39] (by decide +kernel) (by decide +kernel)
set_option maxRecDepth 20000 in
theorem gX1_aboutTold_X1_pointOf : GoodIn wsX1_aboutTold (wsV RX1 76 RX1 yX1_pointOf wsX1_pointOf) := goodIn_app (goodIn_of _ (by decide +kernel)) ggX1_aboutTold_X1_pointOf
set_option maxRecDepth 20000 in
theorem ggX1_aboutTold_X1_others : GoodIn wsX1_aboutTold wsX1_others := goodIn_r _ [28, 1, 16, 17, 18, 9, 19, 20, 33, 34, 35, 36, 37, 38, 39] (by decide +kernel) (by decide +kernel)
set_option maxRecDepth 20000 in
theorem gX1_aboutTold_X1_others : GoodIn wsX1_aboutTold (wsV RX1 106 RX1 yX1_others wsX1_others) := goodIn_app (goodIn_of _ (by decide +kernel)) ggX1_aboutTold_X1_others
set_option maxRecDepth 20000 in
theorem ggX1_aboutTold_X1_its : GoodIn wsX1_aboutTold wsX1_its := goodIn_r _ [19, 20, 33, 34, 35, 36, 37, 38, 39] (by decide +kernel) (by decide +kernel)
set_option maxRecDepth 20000 in
theorem gX1_aboutTold_X1_its : GoodIn wsX1_aboutTold (wsV RX1 70 RX1 yX1_its wsX1_its) := goodIn_app (goodIn_of _ (by decide +kernel)) ggX1_aboutTold_X1_its
set_option maxRecDepth 20000 in
theorem ggX1_aboutTold_X1_isMoved : GoodIn wsX1_aboutTold wsX1_isMoved := goodIn_r _ [32, 1, 16, 17, 18, 9, 19, 20, 33, 34, 35, 36, 37, 38, 39] (by decide +kernel) (by decide +kernel)
set_option maxRecDepth 20000 in
theorem gX1_aboutTold_X1_isMoved : GoodIn wsX1_aboutTold (wsV RX1 109 RX1 yX1_isMoved wsX1_isMoved) := goodIn_app (goodIn_of _ (by decide +kernel)) ggX1_aboutTold_X1_isMoved
theorem dX1_aboutTold_0 : decode cX1_aboutTold 0 = .ok (.iload_n 2, 1) := by decide +kernel
theorem dX1_aboutTold_1 : decode cX1_aboutTold 1 = .ok (.tableswitch 92 0 3 #[31, 38, 44, 72], 31) := by decide +kernel
theorem dX1_aboutTold_32 : decode cX1_aboutTold 32 = .ok (.aload_n 0, 1) := by decide +kernel
theorem dX1_aboutTold_33 : decode cX1_aboutTold 33 = .ok (.iload_n 1, 1) := by decide +kernel
theorem dX1_aboutTold_34 : decode cX1_aboutTold 34 = .ok (.iconst 1, 1) := by decide +kernel
theorem dX1_aboutTold_35 : decode cX1_aboutTold 35 = .ok (.invokevirtual 76, 3) := by decide +kernel
theorem dX1_aboutTold_38 : decode cX1_aboutTold 38 = .ok (.ireturn, 1) := by decide +kernel
theorem dX1_aboutTold_39 : decode cX1_aboutTold 39 = .ok (.aload_n 0, 1) := by decide +kernel
theorem dX1_aboutTold_40 : decode cX1_aboutTold 40 = .ok (.iload_n 1, 1) := by decide +kernel
theorem dX1_aboutTold_41 : decode cX1_aboutTold 41 = .ok (.invokevirtual 106, 3) := by decide +kernel
theorem dX1_aboutTold_44 : decode cX1_aboutTold 44 = .ok (.ireturn, 1) := by decide +kernel
theorem dX1_aboutTold_45 : decode cX1_aboutTold 45 = .ok (.aload_n 0, 1) := by decide +kernel
theorem dX1_aboutTold_46 : decode cX1_aboutTold 46 = .ok (.getfield 7, 3) := by decide +kernel
theorem dX1_aboutTold_49 : decode cX1_aboutTold 49 = .ok (.iconst 1, 1) := by decide +kernel
theorem dX1_aboutTold_50 : decode cX1_aboutTold 50 = .ok (.isub, 1) := by decide +kernel
theorem dX1_aboutTold_51 : decode cX1_aboutTold 51 = .ok (.istore_n 3, 1) := by decide +kernel
theorem dX1_aboutTold_52 : decode cX1_aboutTold 52 = .ok (.iload_n 3, 1) := by decide +kernel
theorem dX1_aboutTold_53 : decode cX1_aboutTold 53 = .ok (.ifCond .lt 18, 3) := by decide +kernel
theorem dX1_aboutTold_56 : decode cX1_aboutTold 56 = .ok (.aload_n 0, 1) := by decide +kernel
theorem dX1_aboutTold_57 : decode cX1_aboutTold 57 = .ok (.iload_n 1, 1) := by decide +kernel
theorem dX1_aboutTold_58 : decode cX1_aboutTold 58 = .ok (.iload_n 3, 1) := by decide +kernel
theorem dX1_aboutTold_59 : decode cX1_aboutTold 59 = .ok (.invokevirtual 70, 3) := by decide +kernel
theorem dX1_aboutTold_62 : decode cX1_aboutTold 62 = .ok (.ifCond .ne 9, 3) := by decide +kernel
theorem dX1_aboutTold_65 : decode cX1_aboutTold 65 = .ok (.iinc 3 (-1), 3) := by decide +kernel
theorem dX1_aboutTold_68 : decode cX1_aboutTold 68 = .ok (.goto (-16), 3) := by decide +kernel
theorem dX1_aboutTold_71 : decode cX1_aboutTold 71 = .ok (.iload_n 3, 1) := by decide +kernel
theorem dX1_aboutTold_72 : decode cX1_aboutTold 72 = .ok (.ireturn, 1) := by decide +kernel
theorem dX1_aboutTold_73 : decode cX1_aboutTold 73 = .ok (.iconst 1, 1) := by decide +kernel
theorem dX1_aboutTold_74 : decode cX1_aboutTold 74 = .ok (.istore_n 3, 1) := by decide +kernel
theorem dX1_aboutTold_75 : decode cX1_aboutTold 75 = .ok (.aload_n 0, 1) := by decide +kernel
theorem dX1_aboutTold_76 : decode cX1_aboutTold 76 = .ok (.iload_n 1, 1) := by decide +kernel
theorem dX1_aboutTold_77 : decode cX1_aboutTold 77 = .ok (.iload_n 1, 1) := by decide +kernel
theorem dX1_aboutTold_78 : decode cX1_aboutTold 78 = .ok (.iload_n 3, 1) := by decide +kernel
theorem dX1_aboutTold_79 : decode cX1_aboutTold 79 = .ok (.invokevirtual 109, 3) := by decide +kernel
theorem dX1_aboutTold_82 : decode cX1_aboutTold 82 = .ok (.ifCond .ne 9, 3) := by decide +kernel
theorem dX1_aboutTold_85 : decode cX1_aboutTold 85 = .ok (.iinc 3 1, 3) := by decide +kernel
theorem dX1_aboutTold_88 : decode cX1_aboutTold 88 = .ok (.goto (-13), 3) := by decide +kernel
theorem dX1_aboutTold_91 : decode cX1_aboutTold 91 = .ok (.iload_n 3, 1) := by decide +kernel
theorem dX1_aboutTold_92 : decode cX1_aboutTold 92 = .ok (.ireturn, 1) := by decide +kernel
theorem dX1_aboutTold_93 : decode cX1_aboutTold 93 = .ok (.iconst 0, 1) := by decide +kernel
theorem dX1_aboutTold_94 : decode cX1_aboutTold 94 = .ok (.istore_n 3, 1) := by decide +kernel
theorem dX1_aboutTold_95 : decode cX1_aboutTold 95 = .ok (.iconst 0, 1) := by decide +kernel
theorem dX1_aboutTold_96 : decode cX1_aboutTold 96 = .ok (.istore 4, 2) := by decide +kernel
theorem dX1_aboutTold_98 : decode cX1_aboutTold 98 = .ok (.iload 4, 2) := by decide +kernel
theorem dX1_aboutTold_100 : decode cX1_aboutTold 100 = .ok (.aload_n 0, 1) := by decide +kernel
theorem dX1_aboutTold_101 : decode cX1_aboutTold 101 = .ok (.getfield 7, 3) := by decide +kernel
theorem dX1_aboutTold_104 : decode cX1_aboutTold 104 = .ok (.if_icmp .ge 21, 3) := by decide +kernel
theorem dX1_aboutTold_107 : decode cX1_aboutTold 107 = .ok (.iload_n 3, 1) := by decide +kernel
theorem dX1_aboutTold_108 : decode cX1_aboutTold 108 = .ok (.aload_n 0, 1) := by decide +kernel
theorem dX1_aboutTold_109 : decode cX1_aboutTold 109 = .ok (.iload_n 1, 1) := by decide +kernel
theorem dX1_aboutTold_110 : decode cX1_aboutTold 110 = .ok (.iload 4, 2) := by decide +kernel
theorem dX1_aboutTold_112 : decode cX1_aboutTold 112 = .ok (.invokevirtual 70, 3) := by decide +kernel
theorem dX1_aboutTold_115 : decode cX1_aboutTold 115 = .ok (.invokestatic 112, 3) := by decide +kernel
theorem dX1_aboutTold_118 : decode cX1_aboutTold 118 = .ok (.istore_n 3, 1) := by decide +kernel
theorem dX1_aboutTold_119 : decode cX1_aboutTold 119 = .ok (.iinc 4 1, 3) := by decide +kernel
theorem dX1_aboutTold_122 : decode cX1_aboutTold 122 = .ok (.goto (-24), 3) := by decide +kernel
theorem dX1_aboutTold_125 : decode cX1_aboutTold 125 = .ok (.iload_n 3, 1) := by decide +kernel
theorem dX1_aboutTold_126 : decode cX1_aboutTold 126 = .ok (.ireturn, 1) := by decide +kernel
set_option maxRecDepth 20000 in
theorem ggX1_about_X1_isRow : GoodIn wsX1_about wsX1_isRow := goodIn_r _ [5, 6, 7, 4, 8] (by decide +kernel) (by decide +kernel)
set_option maxRecDepth 20000 in
theorem gX1_about_X1_isRow : GoodIn wsX1_about (va_wsS RX1 79 yX1_isRow wsX1_isRow) := goodIn_app (goodIn_of _ (by decide +kernel)) ggX1_about_X1_isRow
set_option maxRecDepth 20000 in
theorem ggX1_about_X1_isIn : GoodIn wsX1_about wsX1_isIn := goodIn_r _ [8] (by decide +kernel) (by decide +kernel)
set_option maxRecDepth 20000 in
theorem gX1_about_X1_isIn : GoodIn wsX1_about (va_wsS RX1 32 yX1_isIn wsX1_isIn) := goodIn_app (goodIn_of _ (by decide +kernel)) ggX1_about_X1_isIn
set_option maxRecDepth 20000 in
theorem ggX1_about_X1_aboutTold : GoodIn wsX1_about wsX1_aboutTold := goodIn_r _ [12, 13, 14, 15, 16, 17, 18, 19, 20, 4, 21, 22, 23, 24, 25, 26, 27, 28, 29, 30, 31, 32, 33, 34, 35, 36, 37, 38, 39, 40, 41, 42, 43, 48, 49, 50, 51, 52, 53, 54] (by decide +kernel) (by decide +kernel)
set_option maxRecDepth 20000 in
theorem gX1_about_X1_aboutTold : GoodIn wsX1_about (wsV RX1 117 RX1 yX1_aboutTold wsX1_aboutTold) := goodIn_app (goodIn_of _ (by decide +kernel)) ggX1_about_X1_aboutTold
set_option maxRecDepth 20000 in
theorem ggX1_about_X1_no : GoodIn wsX1_about wsX1_no := goodIn_r _ [47, 1, 48, 49, 50, 51, 52, 53, 54] (by decide +kernel) (by decide +kernel)
set_option maxRecDepth 20000 in
theorem gX1_about_X1_no : GoodIn wsX1_about (wsV RX1 48 RX1 yX1_no wsX1_no) := goodIn_app (goodIn_of _ (by decide +kernel)) ggX1_about_X1_no
theorem dX1_about_0 : decode cX1_about 0 = .ok (.aload_n 0, 1) := by decide +kernel
theorem dX1_about_1 : decode cX1_about 1 = .ok (.iconst 0, 1) := by decide +kernel
theorem dX1_about_2 : decode cX1_about 2 = .ok (.putfield 29, 3) := by decide +kernel
theorem dX1_about_5 : decode cX1_about 5 = .ok (.iload_n 1, 1) := by decide +kernel
theorem dX1_about_6 : decode cX1_about 6 = .ok (.invokestatic 79, 3) := by decide +kernel
theorem dX1_about_9 : decode cX1_about 9 = .ok (.ifCond .eq 21, 3) := by decide +kernel
theorem dX1_about_12 : decode cX1_about 12 = .ok (.iload_n 2, 1) := by decide +kernel
theorem dX1_about_13 : decode cX1_about 13 = .ok (.iconst 0, 1) := by decide +kernel
theorem dX1_about_14 : decode cX1_about 14 = .ok (.iconst 4, 1) := by decide +kernel
theorem dX1_about_15 : decode cX1_about 15 = .ok (.invokestatic 32, 3) := by decide +kernel
theorem dX1_about_18 : decode cX1_about 18 = .ok (.ifCond .eq 12, 3) := by decide +kernel
theorem dX1_about_21 : decode cX1_about 21 = .ok (.aload_n 0, 1) := by decide +kernel
theorem dX1_about_22 : decode cX1_about 22 = .ok (.iload_n 1, 1) := by decide +kernel
theorem dX1_about_23 : decode cX1_about 23 = .ok (.iload_n 2, 1) := by decide +kernel
theorem dX1_about_24 : decode cX1_about 24 = .ok (.invokevirtual 117, 3) := by decide +kernel
theorem dX1_about_27 : decode cX1_about 27 = .ok (.goto 8, 3) := by decide +kernel
theorem dX1_about_30 : decode cX1_about 30 = .ok (.aload_n 0, 1) := by decide +kernel
theorem dX1_about_31 : decode cX1_about 31 = .ok (.iconst 1, 1) := by decide +kernel
theorem dX1_about_32 : decode cX1_about 32 = .ok (.invokevirtual 48, 3) := by decide +kernel
theorem dX1_about_35 : decode cX1_about 35 = .ok (.ireturn, 1) := by decide +kernel
set_option maxRecDepth 20000 in
theorem ggX1_counted_X1_inverseOf : GoodIn wsX1_counted wsX1_inverseOf := goodIn_r _ [9, 2, 10, 11, 12, 13, 14, 15, 16] (by decide +kernel) (by decide +kernel)
set_option maxRecDepth 20000 in
theorem gX1_counted_X1_inverseOf : GoodIn wsX1_counted (wsV RX1 58 RX1 yX1_inverseOf wsX1_inverseOf) := goodIn_app (goodIn_of _ (by decide +kernel)) ggX1_counted_X1_inverseOf
theorem dX1_counted_0 : decode cX1_counted 0 = .ok (.iload_n 1, 1) := by decide +kernel
theorem dX1_counted_1 : decode cX1_counted 1 = .ok (.tableswitch 68 0 4 #[35, 40, 45, 50, 59], 35) := by decide +kernel
theorem dX1_counted_36 : decode cX1_counted 36 = .ok (.aload_n 0, 1) := by decide +kernel
theorem dX1_counted_37 : decode cX1_counted 37 = .ok (.getfield 7, 3) := by decide +kernel
theorem dX1_counted_40 : decode cX1_counted 40 = .ok (.ireturn, 1) := by decide +kernel
theorem dX1_counted_41 : decode cX1_counted 41 = .ok (.aload_n 0, 1) := by decide +kernel
theorem dX1_counted_42 : decode cX1_counted 42 = .ok (.getfield 13, 3) := by decide +kernel
theorem dX1_counted_45 : decode cX1_counted 45 = .ok (.ireturn, 1) := by decide +kernel
theorem dX1_counted_46 : decode cX1_counted 46 = .ok (.aload_n 0, 1) := by decide +kernel
theorem dX1_counted_47 : decode cX1_counted 47 = .ok (.getfield 16, 3) := by decide +kernel
theorem dX1_counted_50 : decode cX1_counted 50 = .ok (.ireturn, 1) := by decide +kernel
theorem dX1_counted_51 : decode cX1_counted 51 = .ok (.aload_n 0, 1) := by decide +kernel
theorem dX1_counted_52 : decode cX1_counted 52 = .ok (.aload_n 0, 1) := by decide +kernel
theorem dX1_counted_53 : decode cX1_counted 53 = .ok (.getfield 16, 3) := by decide +kernel
theorem dX1_counted_56 : decode cX1_counted 56 = .ok (.invokevirtual 58, 3) := by decide +kernel
theorem dX1_counted_59 : decode cX1_counted 59 = .ok (.ireturn, 1) := by decide +kernel
theorem dX1_counted_60 : decode cX1_counted 60 = .ok (.aload_n 0, 1) := by decide +kernel
theorem dX1_counted_61 : decode cX1_counted 61 = .ok (.aload_n 0, 1) := by decide +kernel
theorem dX1_counted_62 : decode cX1_counted 62 = .ok (.getfield 7, 3) := by decide +kernel
theorem dX1_counted_65 : decode cX1_counted 65 = .ok (.invokevirtual 58, 3) := by decide +kernel
theorem dX1_counted_68 : decode cX1_counted 68 = .ok (.ireturn, 1) := by decide +kernel
theorem dX1_counted_69 : decode cX1_counted 69 = .ok (.aload_n 0, 1) := by decide +kernel
theorem dX1_counted_70 : decode cX1_counted 70 = .ok (.getfield 19, 3) := by decide +kernel
theorem dX1_counted_73 : decode cX1_counted 73 = .ok (.ireturn, 1) := by decide +kernel
set_option maxRecDepth 20000 in
theorem ggX1_count_X1_isIn : GoodIn wsX1_count wsX1_isIn := goodIn_r _ [5] (by decide +kernel) (by decide +kernel)
set_option maxRecDepth 20000 in
theorem gX1_count_X1_isIn : GoodIn wsX1_count (va_wsS RX1 32 yX1_isIn wsX1_isIn) := goodIn_app (goodIn_of _ (by decide +kernel)) ggX1_count_X1_isIn
set_option maxRecDepth 20000 in
theorem ggX1_count_X1_counted : GoodIn wsX1_count wsX1_counted := goodIn_r _ [9, 10, 11, 12, 13, 14, 15, 16, 4, 17, 22, 23, 24, 25, 26, 27, 28] (by decide +kernel) (by decide +kernel)
set_option maxRecDepth 20000 in
theorem gX1_count_X1_counted : GoodIn wsX1_count (wsV RX1 120 RX1 yX1_counted wsX1_counted) := goodIn_app (goodIn_of _ (by decide +kernel)) ggX1_count_X1_counted
set_option maxRecDepth 20000 in
theorem ggX1_count_X1_no : GoodIn wsX1_count wsX1_no := goodIn_r _ [21, 1, 22, 23, 24, 25, 26, 27, 28] (by decide +kernel) (by decide +kernel)
set_option maxRecDepth 20000 in
theorem gX1_count_X1_no : GoodIn wsX1_count (wsV RX1 48 RX1 yX1_no wsX1_no) := goodIn_app (goodIn_of _ (by decide +kernel)) ggX1_count_X1_no
theorem dX1_count_0 : decode cX1_count 0 = .ok (.aload_n 0, 1) := by decide +kernel
theorem dX1_count_1 : decode cX1_count 1 = .ok (.iconst 0, 1) := by decide +kernel
theorem dX1_count_2 : decode cX1_count 2 = .ok (.putfield 29, 3) := by decide +kernel
theorem dX1_count_5 : decode cX1_count 5 = .ok (.iload_n 1, 1) := by decide +kernel
theorem dX1_count_6 : decode cX1_count 6 = .ok (.iconst 0, 1) := by decide +kernel
theorem dX1_count_7 : decode cX1_count 7 = .ok (.iconst 5, 1) := by decide +kernel
theorem dX1_count_8 : decode cX1_count 8 = .ok (.invokestatic 32, 3) := by decide +kernel
theorem dX1_count_11 : decode cX1_count 11 = .ok (.ifCond .eq 11, 3) := by decide +kernel
theorem dX1_count_14 : decode cX1_count 14 = .ok (.aload_n 0, 1) := by decide +kernel
theorem dX1_count_15 : decode cX1_count 15 = .ok (.iload_n 1, 1) := by decide +kernel
theorem dX1_count_16 : decode cX1_count 16 = .ok (.invokevirtual 120, 3) := by decide +kernel
theorem dX1_count_19 : decode cX1_count 19 = .ok (.goto 8, 3) := by decide +kernel
theorem dX1_count_22 : decode cX1_count 22 = .ok (.aload_n 0, 1) := by decide +kernel
theorem dX1_count_23 : decode cX1_count 23 = .ok (.iconst 1, 1) := by decide +kernel
theorem dX1_count_24 : decode cX1_count 24 = .ok (.invokevirtual 48, 3) := by decide +kernel
theorem dX1_count_27 : decode cX1_count 27 = .ok (.ireturn, 1) := by decide +kernel
set_option maxRecDepth 20000 in
theorem ggX1_would_X1_isRow : GoodIn wsX1_would wsX1_isRow := goodIn_r _ [5, 6, 7, 4, 8] (by decide +kernel) (by decide +kernel)
set_option maxRecDepth 20000 in
theorem gX1_would_X1_isRow : GoodIn wsX1_would (va_wsS RX1 79 yX1_isRow wsX1_isRow) := goodIn_app (goodIn_of _ (by decide +kernel)) ggX1_would_X1_isRow
set_option maxRecDepth 20000 in
theorem ggX1_would_X1_isPlace : GoodIn wsX1_would wsX1_isPlace := goodIn_r _ [12, 13, 6, 7, 4, 8, 36, 37, 38, 39, 40, 41, 42] (by decide +kernel) (by decide +kernel)
set_option maxRecDepth 20000 in
theorem gX1_would_X1_isPlace : GoodIn wsX1_would (wsV RX1 82 RX1 yX1_isPlace wsX1_isPlace) := goodIn_app (goodIn_of _ (by decide +kernel)) ggX1_would_X1_isPlace
set_option maxRecDepth 20000 in
theorem ggX1_would_X1_folded : GoodIn wsX1_would wsX1_folded := goodIn_r _ [17, 13, 18, 19, 20, 4, 21, 22, 23, 24, 25, 26, 27, 28, 29, 30, 31, 36, 37, 38, 39, 40, 41, 42] (by decide +kernel) (by decide +kernel)
set_option maxRecDepth 20000 in
theorem gX1_would_X1_folded : GoodIn wsX1_would (wsV RX1 102 RX1 yX1_folded wsX1_folded) := goodIn_app (goodIn_of _ (by decide +kernel)) ggX1_would_X1_folded
set_option maxRecDepth 20000 in
theorem ggX1_would_X1_no : GoodIn wsX1_would wsX1_no := goodIn_r _ [35, 1, 36, 37, 38, 39, 40, 41, 42] (by decide +kernel) (by decide +kernel)
set_option maxRecDepth 20000 in
theorem gX1_would_X1_no : GoodIn wsX1_would (wsV RX1 48 RX1 yX1_no wsX1_no) := goodIn_app (goodIn_of _ (by decide +kernel)) ggX1_would_X1_no
theorem dX1_would_0 : decode cX1_would 0 = .ok (.aload_n 0, 1) := by decide +kernel
theorem dX1_would_1 : decode cX1_would 1 = .ok (.iconst 0, 1) := by decide +kernel
theorem dX1_would_2 : decode cX1_would 2 = .ok (.putfield 29, 3) := by decide +kernel
theorem dX1_would_5 : decode cX1_would 5 = .ok (.iload_n 1, 1) := by decide +kernel
theorem dX1_would_6 : decode cX1_would 6 = .ok (.invokestatic 79, 3) := by decide +kernel
theorem dX1_would_9 : decode cX1_would 9 = .ok (.ifCond .eq 28, 3) := by decide +kernel
theorem dX1_would_12 : decode cX1_would 12 = .ok (.iload_n 2, 1) := by decide +kernel
theorem dX1_would_13 : decode cX1_would 13 = .ok (.invokestatic 79, 3) := by decide +kernel
theorem dX1_would_16 : decode cX1_would 16 = .ok (.ifCond .eq 21, 3) := by decide +kernel
theorem dX1_would_19 : decode cX1_would 19 = .ok (.aload_n 0, 1) := by decide +kernel
theorem dX1_would_20 : decode cX1_would 20 = .ok (.iload_n 3, 1) := by decide +kernel
theorem dX1_would_21 : decode cX1_would 21 = .ok (.invokevirtual 82, 3) := by decide +kernel
theorem dX1_would_24 : decode cX1_would 24 = .ok (.ifCond .eq 13, 3) := by decide +kernel
theorem dX1_would_27 : decode cX1_would 27 = .ok (.aload_n 0, 1) := by decide +kernel
theorem dX1_would_28 : decode cX1_would 28 = .ok (.iload_n 1, 1) := by decide +kernel
theorem dX1_would_29 : decode cX1_would 29 = .ok (.iload_n 2, 1) := by decide +kernel
theorem dX1_would_30 : decode cX1_would 30 = .ok (.iload_n 3, 1) := by decide +kernel
theorem dX1_would_31 : decode cX1_would 31 = .ok (.invokevirtual 102, 3) := by decide +kernel
theorem dX1_would_34 : decode cX1_would 34 = .ok (.goto 8, 3) := by decide +kernel
theorem dX1_would_37 : decode cX1_would 37 = .ok (.aload_n 0, 1) := by decide +kernel
theorem dX1_would_38 : decode cX1_would 38 = .ok (.iconst 1, 1) := by decide +kernel
theorem dX1_would_39 : decode cX1_would 39 = .ok (.invokevirtual 48, 3) := by decide +kernel
theorem dX1_would_42 : decode cX1_would 42 = .ok (.ireturn, 1) := by decide +kernel
set_option maxRecDepth 20000 in
theorem ggX1_comesBy_X1_isMoved : GoodIn wsX1_comesBy wsX1_isMoved := goodIn_r _ [6, 1, 7, 8, 9, 5, 10, 11, 12, 13, 14, 15, 16, 17, 18] (by decide +kernel) (by decide +kernel)
set_option maxRecDepth 20000 in
theorem gX1_comesBy_X1_isMoved : GoodIn wsX1_comesBy (wsV RX1 109 RX1 yX1_isMoved wsX1_isMoved) := goodIn_app (goodIn_of _ (by decide +kernel)) ggX1_comesBy_X1_isMoved
theorem dX1_comesBy_0 : decode cX1_comesBy 0 = .ok (.iconst 0, 1) := by decide +kernel
theorem dX1_comesBy_1 : decode cX1_comesBy 1 = .ok (.istore_n 3, 1) := by decide +kernel
theorem dX1_comesBy_2 : decode cX1_comesBy 2 = .ok (.iload_n 3, 1) := by decide +kernel
theorem dX1_comesBy_3 : decode cX1_comesBy 3 = .ok (.aload_n 0, 1) := by decide +kernel
theorem dX1_comesBy_4 : decode cX1_comesBy 4 = .ok (.getfield 7, 3) := by decide +kernel
theorem dX1_comesBy_7 : decode cX1_comesBy 7 = .ok (.if_icmp .ge 21, 3) := by decide +kernel
theorem dX1_comesBy_10 : decode cX1_comesBy 10 = .ok (.aload_n 0, 1) := by decide +kernel
theorem dX1_comesBy_11 : decode cX1_comesBy 11 = .ok (.iload_n 1, 1) := by decide +kernel
theorem dX1_comesBy_12 : decode cX1_comesBy 12 = .ok (.iload_n 2, 1) := by decide +kernel
theorem dX1_comesBy_13 : decode cX1_comesBy 13 = .ok (.iload_n 3, 1) := by decide +kernel
theorem dX1_comesBy_14 : decode cX1_comesBy 14 = .ok (.invokevirtual 109, 3) := by decide +kernel
theorem dX1_comesBy_17 : decode cX1_comesBy 17 = .ok (.ifCond .eq 5, 3) := by decide +kernel
theorem dX1_comesBy_20 : decode cX1_comesBy 20 = .ok (.iload_n 3, 1) := by decide +kernel
theorem dX1_comesBy_21 : decode cX1_comesBy 21 = .ok (.ireturn, 1) := by decide +kernel
theorem dX1_comesBy_22 : decode cX1_comesBy 22 = .ok (.iinc 3 1, 3) := by decide +kernel
theorem dX1_comesBy_25 : decode cX1_comesBy 25 = .ok (.goto (-23), 3) := by decide +kernel
theorem dX1_comesBy_28 : decode cX1_comesBy 28 = .ok (.iconst (-1), 1) := by decide +kernel
theorem dX1_comesBy_29 : decode cX1_comesBy 29 = .ok (.ireturn, 1) := by decide +kernel
set_option maxRecDepth 20000 in
theorem ggX1_comes_X1_isRow : GoodIn wsX1_comes wsX1_isRow := goodIn_r _ [5, 6, 7, 4, 8] (by decide +kernel) (by decide +kernel)
set_option maxRecDepth 20000 in
theorem gX1_comes_X1_isRow : GoodIn wsX1_comes (va_wsS RX1 79 yX1_isRow wsX1_isRow) := goodIn_app (goodIn_of _ (by decide +kernel)) ggX1_comes_X1_isRow
set_option maxRecDepth 20000 in
theorem ggX1_comes_X1_comesBy : GoodIn wsX1_comes wsX1_comesBy := goodIn_r _ [12, 13, 14, 15, 16, 4, 17, 18, 19, 20, 21, 22, 27, 28, 29, 30, 31, 32, 33] (by decide +kernel) (by decide +kernel)
set_option maxRecDepth 20000 in
theorem gX1_comes_X1_comesBy : GoodIn wsX1_comes (wsV RX1 123 RX1 yX1_comesBy wsX1_comesBy) := goodIn_app (goodIn_of _ (by decide +kernel)) ggX1_comes_X1_comesBy
set_option maxRecDepth 20000 in
theorem ggX1_comes_X1_no : GoodIn wsX1_comes wsX1_no := goodIn_r _ [26, 1, 27, 28, 29, 30, 31, 32, 33] (by decide +kernel) (by decide +kernel)
set_option maxRecDepth 20000 in
theorem gX1_comes_X1_no : GoodIn wsX1_comes (wsV RX1 48 RX1 yX1_no wsX1_no) := goodIn_app (goodIn_of _ (by decide +kernel)) ggX1_comes_X1_no
theorem dX1_comes_0 : decode cX1_comes 0 = .ok (.aload_n 0, 1) := by decide +kernel
theorem dX1_comes_1 : decode cX1_comes 1 = .ok (.iconst 0, 1) := by decide +kernel
theorem dX1_comes_2 : decode cX1_comes 2 = .ok (.putfield 29, 3) := by decide +kernel
theorem dX1_comes_5 : decode cX1_comes 5 = .ok (.iload_n 1, 1) := by decide +kernel
theorem dX1_comes_6 : decode cX1_comes 6 = .ok (.invokestatic 79, 3) := by decide +kernel
theorem dX1_comes_9 : decode cX1_comes 9 = .ok (.ifCond .eq 19, 3) := by decide +kernel
theorem dX1_comes_12 : decode cX1_comes 12 = .ok (.iload_n 2, 1) := by decide +kernel
theorem dX1_comes_13 : decode cX1_comes 13 = .ok (.invokestatic 79, 3) := by decide +kernel
theorem dX1_comes_16 : decode cX1_comes 16 = .ok (.ifCond .eq 12, 3) := by decide +kernel
theorem dX1_comes_19 : decode cX1_comes 19 = .ok (.aload_n 0, 1) := by decide +kernel
theorem dX1_comes_20 : decode cX1_comes 20 = .ok (.iload_n 1, 1) := by decide +kernel
theorem dX1_comes_21 : decode cX1_comes 21 = .ok (.iload_n 2, 1) := by decide +kernel
theorem dX1_comes_22 : decode cX1_comes 22 = .ok (.invokevirtual 123, 3) := by decide +kernel
theorem dX1_comes_25 : decode cX1_comes 25 = .ok (.goto 8, 3) := by decide +kernel
theorem dX1_comes_28 : decode cX1_comes 28 = .ok (.aload_n 0, 1) := by decide +kernel
theorem dX1_comes_29 : decode cX1_comes 29 = .ok (.iconst 1, 1) := by decide +kernel
theorem dX1_comes_30 : decode cX1_comes 30 = .ok (.invokevirtual 48, 3) := by decide +kernel
theorem dX1_comes_33 : decode cX1_comes 33 = .ok (.ireturn, 1) := by decide +kernel
set_option maxRecDepth 20000 in
theorem ggX1_together_X1_its : GoodIn wsX1_together wsX1_its := goodIn_r _ [6, 7, 17, 18, 19, 20, 21, 22, 23] (by decide +kernel) (by decide +kernel)
set_option maxRecDepth 20000 in
theorem gX1_together_X1_its : GoodIn wsX1_together (wsV RX1 70 RX1 yX1_its wsX1_its) := goodIn_app (goodIn_of _ (by decide +kernel)) ggX1_together_X1_its
set_option maxRecDepth 20000 in
theorem ggX1_together_X1_by : GoodIn wsX1_together wsX1_by := goodIn_r _ [11, 12, 17, 18, 19, 20, 21, 22, 23] (by decide +kernel) (by decide +kernel)
set_option maxRecDepth 20000 in
theorem gX1_together_X1_by : GoodIn wsX1_together (wsV RX1 36 RX1 yX1_by wsX1_by) := goodIn_app (goodIn_of _ (by decide +kernel)) ggX1_together_X1_by
set_option maxRecDepth 20000 in
theorem ggX1_together_X1_plus : GoodIn wsX1_together wsX1_plus := goodIn_r _ [16, 12, 17, 18, 19, 20, 21, 22, 23] (by decide +kernel) (by decide +kernel)
set_option maxRecDepth 20000 in
theorem gX1_together_X1_plus : GoodIn wsX1_together (wsV RX1 73 RX1 yX1_plus wsX1_plus) := goodIn_app (goodIn_of _ (by decide +kernel)) ggX1_together_X1_plus
theorem dX1_together_0 : decode cX1_together 0 = .ok (.iconst 0, 1) := by decide +kernel
theorem dX1_together_1 : decode cX1_together 1 = .ok (.istore 4, 2) := by decide +kernel
theorem dX1_together_3 : decode cX1_together 3 = .ok (.iconst 0, 1) := by decide +kernel
theorem dX1_together_4 : decode cX1_together 4 = .ok (.istore 5, 2) := by decide +kernel
theorem dX1_together_6 : decode cX1_together 6 = .ok (.iload 5, 2) := by decide +kernel
theorem dX1_together_8 : decode cX1_together 8 = .ok (.aload_n 0, 1) := by decide +kernel
theorem dX1_together_9 : decode cX1_together 9 = .ok (.getfield 7, 3) := by decide +kernel
theorem dX1_together_12 : decode cX1_together 12 = .ok (.if_icmp .ge 42, 3) := by decide +kernel
theorem dX1_together_15 : decode cX1_together 15 = .ok (.aload_n 0, 1) := by decide +kernel
theorem dX1_together_16 : decode cX1_together 16 = .ok (.iload 4, 2) := by decide +kernel
theorem dX1_together_18 : decode cX1_together 18 = .ok (.aload_n 0, 1) := by decide +kernel
theorem dX1_together_19 : decode cX1_together 19 = .ok (.aload_n 0, 1) := by decide +kernel
theorem dX1_together_20 : decode cX1_together 20 = .ok (.iload_n 1, 1) := by decide +kernel
theorem dX1_together_21 : decode cX1_together 21 = .ok (.iload 5, 2) := by decide +kernel
theorem dX1_together_23 : decode cX1_together 23 = .ok (.invokevirtual 70, 3) := by decide +kernel
theorem dX1_together_26 : decode cX1_together 26 = .ok (.aload_n 0, 1) := by decide +kernel
theorem dX1_together_27 : decode cX1_together 27 = .ok (.iload_n 2, 1) := by decide +kernel
theorem dX1_together_28 : decode cX1_together 28 = .ok (.iload 5, 2) := by decide +kernel
theorem dX1_together_30 : decode cX1_together 30 = .ok (.iload_n 3, 1) := by decide +kernel
theorem dX1_together_31 : decode cX1_together 31 = .ok (.iadd, 1) := by decide +kernel
theorem dX1_together_32 : decode cX1_together 32 = .ok (.aload_n 0, 1) := by decide +kernel
theorem dX1_together_33 : decode cX1_together 33 = .ok (.getfield 7, 3) := by decide +kernel
theorem dX1_together_36 : decode cX1_together 36 = .ok (.irem, 1) := by decide +kernel
theorem dX1_together_37 : decode cX1_together 37 = .ok (.invokevirtual 70, 3) := by decide +kernel
theorem dX1_together_40 : decode cX1_together 40 = .ok (.invokevirtual 36, 3) := by decide +kernel
theorem dX1_together_43 : decode cX1_together 43 = .ok (.invokevirtual 73, 3) := by decide +kernel
theorem dX1_together_46 : decode cX1_together 46 = .ok (.istore 4, 2) := by decide +kernel
theorem dX1_together_48 : decode cX1_together 48 = .ok (.iinc 5 1, 3) := by decide +kernel
theorem dX1_together_51 : decode cX1_together 51 = .ok (.goto (-45), 3) := by decide +kernel
theorem dX1_together_54 : decode cX1_together 54 = .ok (.iload 4, 2) := by decide +kernel
theorem dX1_together_56 : decode cX1_together 56 = .ok (.ireturn, 1) := by decide +kernel
set_option maxRecDepth 20000 in
theorem ggX1_advise_X1_isRow : GoodIn wsX1_advise wsX1_isRow := goodIn_r _ [6, 7, 8, 5, 9] (by decide +kernel) (by decide +kernel)
set_option maxRecDepth 20000 in
theorem gX1_advise_X1_isRow : GoodIn wsX1_advise (va_wsS RX1 79 yX1_isRow wsX1_isRow) := goodIn_app (goodIn_of _ (by decide +kernel)) ggX1_advise_X1_isRow
set_option maxRecDepth 20000 in
theorem ggX1_advise_X1_no : GoodIn wsX1_advise wsX1_no := goodIn_r _ [13, 1, 32, 33, 34, 35, 36, 37, 38] (by decide +kernel) (by decide +kernel)
set_option maxRecDepth 20000 in
theorem gX1_advise_X1_no : GoodIn wsX1_advise (wsV RX1 48 RX1 yX1_no wsX1_no) := goodIn_app (goodIn_of _ (by decide +kernel)) ggX1_advise_X1_no
set_option maxRecDepth 20000 in
theorem ggX1_advise_X1_together : GoodIn wsX1_advise wsX1_together := goodIn_r _ [17, 2, 18, 19, 20, 5, 21, 22, 23, 24, 25, 26, 27, 28, 29, 30, 31, 32, 33, 34, 35, 36, 37, 38] (by decide +kernel) (by decide +kernel)
set_option maxRecDepth 20000 in
theorem gX1_advise_X1_together : GoodIn wsX1_advise (wsV RX1 126 RX1 yX1_together wsX1_together) := goodIn_app (goodIn_of _ (by decide +kernel)) ggX1_advise_X1_together
theorem dX1_advise_0 : decode cX1_advise 0 = .ok (.aload_n 0, 1) := by decide +kernel
theorem dX1_advise_1 : decode cX1_advise 1 = .ok (.iconst 0, 1) := by decide +kernel
theorem dX1_advise_2 : decode cX1_advise 2 = .ok (.putfield 29, 3) := by decide +kernel
theorem dX1_advise_5 : decode cX1_advise 5 = .ok (.iload_n 1, 1) := by decide +kernel
theorem dX1_advise_6 : decode cX1_advise 6 = .ok (.invokestatic 79, 3) := by decide +kernel
theorem dX1_advise_9 : decode cX1_advise 9 = .ok (.ifCond .eq 10, 3) := by decide +kernel
theorem dX1_advise_12 : decode cX1_advise 12 = .ok (.iload_n 2, 1) := by decide +kernel
theorem dX1_advise_13 : decode cX1_advise 13 = .ok (.invokestatic 79, 3) := by decide +kernel
theorem dX1_advise_16 : decode cX1_advise 16 = .ok (.ifCond .ne 9, 3) := by decide +kernel
theorem dX1_advise_19 : decode cX1_advise 19 = .ok (.aload_n 0, 1) := by decide +kernel
theorem dX1_advise_20 : decode cX1_advise 20 = .ok (.iconst 1, 1) := by decide +kernel
theorem dX1_advise_21 : decode cX1_advise 21 = .ok (.invokevirtual 48, 3) := by decide +kernel
theorem dX1_advise_24 : decode cX1_advise 24 = .ok (.ireturn, 1) := by decide +kernel
theorem dX1_advise_25 : decode cX1_advise 25 = .ok (.iconst 0, 1) := by decide +kernel
theorem dX1_advise_26 : decode cX1_advise 26 = .ok (.istore_n 3, 1) := by decide +kernel
theorem dX1_advise_27 : decode cX1_advise 27 = .ok (.iconst 1, 1) := by decide +kernel
theorem dX1_advise_28 : decode cX1_advise 28 = .ok (.istore 4, 2) := by decide +kernel
theorem dX1_advise_30 : decode cX1_advise 30 = .ok (.iload 4, 2) := by decide +kernel
theorem dX1_advise_32 : decode cX1_advise 32 = .ok (.aload_n 0, 1) := by decide +kernel
theorem dX1_advise_33 : decode cX1_advise 33 = .ok (.getfield 7, 3) := by decide +kernel
theorem dX1_advise_36 : decode cX1_advise 36 = .ok (.if_icmp .ge 30, 3) := by decide +kernel
theorem dX1_advise_39 : decode cX1_advise 39 = .ok (.aload_n 0, 1) := by decide +kernel
theorem dX1_advise_40 : decode cX1_advise 40 = .ok (.iload_n 1, 1) := by decide +kernel
theorem dX1_advise_41 : decode cX1_advise 41 = .ok (.iload_n 2, 1) := by decide +kernel
theorem dX1_advise_42 : decode cX1_advise 42 = .ok (.iload 4, 2) := by decide +kernel
theorem dX1_advise_44 : decode cX1_advise 44 = .ok (.invokevirtual 126, 3) := by decide +kernel
theorem dX1_advise_47 : decode cX1_advise 47 = .ok (.aload_n 0, 1) := by decide +kernel
theorem dX1_advise_48 : decode cX1_advise 48 = .ok (.iload_n 1, 1) := by decide +kernel
theorem dX1_advise_49 : decode cX1_advise 49 = .ok (.iload_n 2, 1) := by decide +kernel
theorem dX1_advise_50 : decode cX1_advise 50 = .ok (.iload_n 3, 1) := by decide +kernel
theorem dX1_advise_51 : decode cX1_advise 51 = .ok (.invokevirtual 126, 3) := by decide +kernel
theorem dX1_advise_54 : decode cX1_advise 54 = .ok (.if_icmp .le 6, 3) := by decide +kernel
theorem dX1_advise_57 : decode cX1_advise 57 = .ok (.iload 4, 2) := by decide +kernel
theorem dX1_advise_59 : decode cX1_advise 59 = .ok (.istore_n 3, 1) := by decide +kernel
theorem dX1_advise_60 : decode cX1_advise 60 = .ok (.iinc 4 1, 3) := by decide +kernel
theorem dX1_advise_63 : decode cX1_advise 63 = .ok (.goto (-33), 3) := by decide +kernel
theorem dX1_advise_66 : decode cX1_advise 66 = .ok (.iload_n 3, 1) := by decide +kernel
theorem dX1_advise_67 : decode cX1_advise 67 = .ok (.ireturn, 1) := by decide +kernel
set_option maxRecDepth 20000 in
theorem ggX1_areTones_X1_makeTones : GoodIn wsX1_areTones wsX1_makeTones := goodIn_r _ [6, 7, 8, 9, 10, 11, 5, 12, 13, 14, 15, 16, 17, 18, 19, 20, 21, 22, 23, 24, 25, 26, 31, 32, 33, 34, 35, 36, 37] (by decide +kernel) (by decide +kernel)
set_option maxRecDepth 20000 in
theorem gX1_areTones_X1_makeTones : GoodIn wsX1_areTones (wsV RX1 92 RX1 yX1_makeTones wsX1_makeTones) := goodIn_app (goodIn_of _ (by decide +kernel)) ggX1_areTones_X1_makeTones
set_option maxRecDepth 20000 in
theorem ggX1_areTones_X1_changes : GoodIn wsX1_areTones wsX1_changes := goodIn_r _ [30, 7, 8, 18, 19, 20, 5, 21, 22, 31, 32, 33, 34, 35, 36, 37] (by decide +kernel) (by decide +kernel)
set_option maxRecDepth 20000 in
theorem gX1_areTones_X1_changes : GoodIn wsX1_areTones (wsV RX1 85 RX1 yX1_changes wsX1_changes) := goodIn_app (goodIn_of _ (by decide +kernel)) ggX1_areTones_X1_changes
theorem dX1_areTones_0 : decode cX1_areTones 0 = .ok (.aload_n 0, 1) := by decide +kernel
theorem dX1_areTones_1 : decode cX1_areTones 1 = .ok (.iload_n 1, 1) := by decide +kernel
theorem dX1_areTones_2 : decode cX1_areTones 2 = .ok (.aload_n 0, 1) := by decide +kernel
theorem dX1_areTones_3 : decode cX1_areTones 3 = .ok (.getfield 16, 3) := by decide +kernel
theorem dX1_areTones_6 : decode cX1_areTones 6 = .ok (.iconst 1, 1) := by decide +kernel
theorem dX1_areTones_7 : decode cX1_areTones 7 = .ok (.invokevirtual 92, 3) := by decide +kernel
theorem dX1_areTones_10 : decode cX1_areTones 10 = .ok (.aload_n 0, 1) := by decide +kernel
theorem dX1_areTones_11 : decode cX1_areTones 11 = .ok (.iload_n 2, 1) := by decide +kernel
theorem dX1_areTones_12 : decode cX1_areTones 12 = .ok (.invokevirtual 85, 3) := by decide +kernel
theorem dX1_areTones_15 : decode cX1_areTones 15 = .ok (.ifCond .ne 7, 3) := by decide +kernel
theorem dX1_areTones_18 : decode cX1_areTones 18 = .ok (.iconst 1, 1) := by decide +kernel
theorem dX1_areTones_19 : decode cX1_areTones 19 = .ok (.goto 4, 3) := by decide +kernel
theorem dX1_areTones_22 : decode cX1_areTones 22 = .ok (.iconst 0, 1) := by decide +kernel
theorem dX1_areTones_23 : decode cX1_areTones 23 = .ok (.ireturn, 1) := by decide +kernel
set_option maxRecDepth 20000 in
theorem ggX1_tones_X1_isRow : GoodIn wsX1_tones wsX1_isRow := goodIn_r _ [5, 6, 7, 4, 8] (by decide +kernel) (by decide +kernel)
set_option maxRecDepth 20000 in
theorem gX1_tones_X1_isRow : GoodIn wsX1_tones (va_wsS RX1 79 yX1_isRow wsX1_isRow) := goodIn_app (goodIn_of _ (by decide +kernel)) ggX1_tones_X1_isRow
set_option maxRecDepth 20000 in
theorem ggX1_tones_X1_areTones : GoodIn wsX1_tones wsX1_areTones := goodIn_r _ [12, 13, 14, 15, 16, 4, 17, 18, 19, 20, 21, 22, 23, 24, 25, 26, 27, 28, 29, 30, 31, 32, 33, 34, 35, 36, 37, 38, 39, 40, 41, 42, 43, 44, 45, 46, 47, 48] (by decide +kernel) (by decide +kernel)
set_option maxRecDepth 20000 in
theorem gX1_tones_X1_areTones : GoodIn wsX1_tones (wsV RX1 129 RX1 yX1_areTones wsX1_areTones) := goodIn_app (goodIn_of _ (by decide +kernel)) ggX1_tones_X1_areTones
theorem dX1_tones_0 : decode cX1_tones 0 = .ok (.aload_n 0, 1) := by decide +kernel
theorem dX1_tones_1 : decode cX1_tones 1 = .ok (.iload_n 1, 1) := by decide +kernel
theorem dX1_tones_2 : decode cX1_tones 2 = .ok (.invokestatic 79, 3) := by decide +kernel
theorem dX1_tones_5 : decode cX1_tones 5 = .ok (.ifCond .eq 14, 3) := by decide +kernel
theorem dX1_tones_8 : decode cX1_tones 8 = .ok (.iload_n 2, 1) := by decide +kernel
theorem dX1_tones_9 : decode cX1_tones 9 = .ok (.invokestatic 79, 3) := by decide +kernel
theorem dX1_tones_12 : decode cX1_tones 12 = .ok (.ifCond .eq 7, 3) := by decide +kernel
theorem dX1_tones_15 : decode cX1_tones 15 = .ok (.iconst 0, 1) := by decide +kernel
theorem dX1_tones_16 : decode cX1_tones 16 = .ok (.goto 4, 3) := by decide +kernel
theorem dX1_tones_19 : decode cX1_tones 19 = .ok (.iconst 1, 1) := by decide +kernel
theorem dX1_tones_20 : decode cX1_tones 20 = .ok (.putfield 29, 3) := by decide +kernel
theorem dX1_tones_23 : decode cX1_tones 23 = .ok (.aload_n 0, 1) := by decide +kernel
theorem dX1_tones_24 : decode cX1_tones 24 = .ok (.getfield 29, 3) := by decide +kernel
theorem dX1_tones_27 : decode cX1_tones 27 = .ok (.ifCond .ne 16, 3) := by decide +kernel
theorem dX1_tones_30 : decode cX1_tones 30 = .ok (.aload_n 0, 1) := by decide +kernel
theorem dX1_tones_31 : decode cX1_tones 31 = .ok (.iload_n 1, 1) := by decide +kernel
theorem dX1_tones_32 : decode cX1_tones 32 = .ok (.iload_n 2, 1) := by decide +kernel
theorem dX1_tones_33 : decode cX1_tones 33 = .ok (.invokevirtual 129, 3) := by decide +kernel
theorem dX1_tones_36 : decode cX1_tones 36 = .ok (.ifCond .eq 7, 3) := by decide +kernel
theorem dX1_tones_39 : decode cX1_tones 39 = .ok (.iconst 1, 1) := by decide +kernel
theorem dX1_tones_40 : decode cX1_tones 40 = .ok (.goto 4, 3) := by decide +kernel
theorem dX1_tones_43 : decode cX1_tones 43 = .ok (.iconst 0, 1) := by decide +kernel
theorem dX1_tones_44 : decode cX1_tones 44 = .ok (.ireturn, 1) := by decide +kernel
set_option maxRecDepth 20000 in
theorem ggX1_mean_X1_isRow : GoodIn wsX1_mean wsX1_isRow := goodIn_r _ [6, 7, 8, 5, 9] (by decide +kernel) (by decide +kernel)
set_option maxRecDepth 20000 in
theorem gX1_mean_X1_isRow : GoodIn wsX1_mean (va_wsS RX1 79 yX1_isRow wsX1_isRow) := goodIn_app (goodIn_of _ (by decide +kernel)) ggX1_mean_X1_isRow
set_option maxRecDepth 20000 in
theorem ggX1_mean_X1_its : GoodIn wsX1_mean wsX1_its := goodIn_r _ [13, 14, 15, 16, 17, 18, 19, 20, 21] (by decide +kernel) (by decide +kernel)
set_option maxRecDepth 20000 in
theorem gX1_mean_X1_its : GoodIn wsX1_mean (wsV RX1 70 RX1 yX1_its wsX1_its) := goodIn_app (goodIn_of _ (by decide +kernel)) ggX1_mean_X1_its
theorem dX1_mean_0 : decode cX1_mean 0 = .ok (.aload_n 0, 1) := by decide +kernel
theorem dX1_mean_1 : decode cX1_mean 1 = .ok (.iload_n 1, 1) := by decide +kernel
theorem dX1_mean_2 : decode cX1_mean 2 = .ok (.invokestatic 79, 3) := by decide +kernel
theorem dX1_mean_5 : decode cX1_mean 5 = .ok (.ifCond .eq 7, 3) := by decide +kernel
theorem dX1_mean_8 : decode cX1_mean 8 = .ok (.iconst 0, 1) := by decide +kernel
theorem dX1_mean_9 : decode cX1_mean 9 = .ok (.goto 4, 3) := by decide +kernel
theorem dX1_mean_12 : decode cX1_mean 12 = .ok (.iconst 1, 1) := by decide +kernel
theorem dX1_mean_13 : decode cX1_mean 13 = .ok (.putfield 29, 3) := by decide +kernel
theorem dX1_mean_16 : decode cX1_mean 16 = .ok (.iconst 0, 1) := by decide +kernel
theorem dX1_mean_17 : decode cX1_mean 17 = .ok (.istore_n 2, 1) := by decide +kernel
theorem dX1_mean_18 : decode cX1_mean 18 = .ok (.iconst 0, 1) := by decide +kernel
theorem dX1_mean_19 : decode cX1_mean 19 = .ok (.istore_n 3, 1) := by decide +kernel
theorem dX1_mean_20 : decode cX1_mean 20 = .ok (.iload_n 3, 1) := by decide +kernel
theorem dX1_mean_21 : decode cX1_mean 21 = .ok (.aload_n 0, 1) := by decide +kernel
theorem dX1_mean_22 : decode cX1_mean 22 = .ok (.getfield 7, 3) := by decide +kernel
theorem dX1_mean_25 : decode cX1_mean 25 = .ok (.if_icmp .ge 25, 3) := by decide +kernel
theorem dX1_mean_28 : decode cX1_mean 28 = .ok (.aload_n 0, 1) := by decide +kernel
theorem dX1_mean_29 : decode cX1_mean 29 = .ok (.getfield 29, 3) := by decide +kernel
theorem dX1_mean_32 : decode cX1_mean 32 = .ok (.ifCond .ne 18, 3) := by decide +kernel
theorem dX1_mean_35 : decode cX1_mean 35 = .ok (.iload_n 2, 1) := by decide +kernel
theorem dX1_mean_36 : decode cX1_mean 36 = .ok (.aload_n 0, 1) := by decide +kernel
theorem dX1_mean_37 : decode cX1_mean 37 = .ok (.iload_n 1, 1) := by decide +kernel
theorem dX1_mean_38 : decode cX1_mean 38 = .ok (.iload_n 3, 1) := by decide +kernel
theorem dX1_mean_39 : decode cX1_mean 39 = .ok (.invokevirtual 70, 3) := by decide +kernel
theorem dX1_mean_42 : decode cX1_mean 42 = .ok (.iadd, 1) := by decide +kernel
theorem dX1_mean_43 : decode cX1_mean 43 = .ok (.istore_n 2, 1) := by decide +kernel
theorem dX1_mean_44 : decode cX1_mean 44 = .ok (.iinc 3 1, 3) := by decide +kernel
theorem dX1_mean_47 : decode cX1_mean 47 = .ok (.goto (-27), 3) := by decide +kernel
theorem dX1_mean_50 : decode cX1_mean 50 = .ok (.iload_n 2, 1) := by decide +kernel
theorem dX1_mean_51 : decode cX1_mean 51 = .ok (.i2d, 1) := by decide +kernel
theorem dX1_mean_52 : decode cX1_mean 52 = .ok (.aload_n 0, 1) := by decide +kernel
theorem dX1_mean_53 : decode cX1_mean 53 = .ok (.getfield 7, 3) := by decide +kernel
theorem dX1_mean_56 : decode cX1_mean 56 = .ok (.i2d, 1) := by decide +kernel
theorem dX1_mean_57 : decode cX1_mean 57 = .ok (.ddiv, 1) := by decide +kernel
theorem dX1_mean_58 : decode cX1_mean 58 = .ok (.dreturn, 1) := by decide +kernel
set_option maxRecDepth 20000 in
theorem ggX1_digest_X1_counted : GoodIn wsX1_digest wsX1_counted := goodIn_r _ [11, 4, 12, 5, 13, 14, 15, 16, 10, 17, 55, 56, 57, 58, 59, 60, 61] (by decide +kernel) (by decide +kernel)
set_option maxRecDepth 20000 in
theorem gX1_digest_X1_counted : GoodIn wsX1_digest (wsV RX1 120 RX1 yX1_counted wsX1_counted) := goodIn_app (goodIn_of _ (by decide +kernel)) ggX1_digest_X1_counted
set_option maxRecDepth 20000 in
theorem ggX1_digest_X1_its : GoodIn wsX1_digest wsX1_its := goodIn_r _ [21, 22, 55, 56, 57, 58, 59, 60, 61] (by decide +kernel) (by decide +kernel)
set_option maxRecDepth 20000 in
theorem gX1_digest_X1_its : GoodIn wsX1_digest (wsV RX1 70 RX1 yX1_its wsX1_its) := goodIn_app (goodIn_of _ (by decide +kernel)) ggX1_digest_X1_its
set_option maxRecDepth 20000 in
theorem ggX1_digest_X1_aboutTold : GoodIn wsX1_digest wsX1_aboutTold := goodIn_r _ [26, 4, 27, 28, 29, 30, 31, 32, 33, 10, 34, 35, 36, 37, 38, 12, 18, 19, 20, 21, 22, 39, 40, 41, 42, 43, 44, 45, 46, 47, 48, 49, 50, 55, 56, 57, 58, 59, 60, 61] (by decide +kernel) (by decide +kernel)
set_option maxRecDepth 20000 in
theorem gX1_digest_X1_aboutTold : GoodIn wsX1_digest (wsV RX1 117 RX1 yX1_aboutTold wsX1_aboutTold) := goodIn_app (goodIn_of _ (by decide +kernel)) ggX1_digest_X1_aboutTold
set_option maxRecDepth 20000 in
theorem ggX1_digest_X1_makeTones : GoodIn wsX1_digest wsX1_makeTones := goodIn_r _ [54, 4, 6, 31, 32, 33, 10, 34, 35, 36, 37, 38, 12, 18, 19, 20, 21, 22, 39, 40, 41, 42, 55, 56, 57, 58, 59, 60, 61] (by decide +kernel) (by decide +kernel)
set_option maxRecDepth 20000 in
theorem gX1_digest_X1_makeTones : GoodIn wsX1_digest (wsV RX1 92 RX1 yX1_makeTones wsX1_makeTones) := goodIn_app (goodIn_of _ (by decide +kernel)) ggX1_digest_X1_makeTones
theorem dX1_digest_0 : decode cX1_digest 0 = .ok (.aload_n 0, 1) := by decide +kernel
theorem dX1_digest_1 : decode cX1_digest 1 = .ok (.iconst 0, 1) := by decide +kernel
theorem dX1_digest_2 : decode cX1_digest 2 = .ok (.putfield 29, 3) := by decide +kernel
theorem dX1_digest_5 : decode cX1_digest 5 = .ok (.ldc2_w 133, 3) := by decide +kernel
theorem dX1_digest_8 : decode cX1_digest 8 = .ok (.lstore_n 1, 1) := by decide +kernel
theorem dX1_digest_9 : decode cX1_digest 9 = .ok (.iconst 0, 1) := by decide +kernel
theorem dX1_digest_10 : decode cX1_digest 10 = .ok (.istore_n 3, 1) := by decide +kernel
theorem dX1_digest_11 : decode cX1_digest 11 = .ok (.iload_n 3, 1) := by decide +kernel
theorem dX1_digest_12 : decode cX1_digest 12 = .ok (.iconst 5, 1) := by decide +kernel
theorem dX1_digest_13 : decode cX1_digest 13 = .ok (.if_icmp .gt 22, 3) := by decide +kernel
theorem dX1_digest_16 : decode cX1_digest 16 = .ok (.lload_n 1, 1) := by decide +kernel
theorem dX1_digest_17 : decode cX1_digest 17 = .ok (.ldc2_w 135, 3) := by decide +kernel
theorem dX1_digest_20 : decode cX1_digest 20 = .ok (.lmul, 1) := by decide +kernel
theorem dX1_digest_21 : decode cX1_digest 21 = .ok (.aload_n 0, 1) := by decide +kernel
theorem dX1_digest_22 : decode cX1_digest 22 = .ok (.iload_n 3, 1) := by decide +kernel
theorem dX1_digest_23 : decode cX1_digest 23 = .ok (.invokevirtual 120, 3) := by decide +kernel
theorem dX1_digest_26 : decode cX1_digest 26 = .ok (.i2l, 1) := by decide +kernel
theorem dX1_digest_27 : decode cX1_digest 27 = .ok (.ladd, 1) := by decide +kernel
theorem dX1_digest_28 : decode cX1_digest 28 = .ok (.lstore_n 1, 1) := by decide +kernel
theorem dX1_digest_29 : decode cX1_digest 29 = .ok (.iinc 3 1, 3) := by decide +kernel
theorem dX1_digest_32 : decode cX1_digest 32 = .ok (.goto (-21), 3) := by decide +kernel
theorem dX1_digest_35 : decode cX1_digest 35 = .ok (.iconst 0, 1) := by decide +kernel
theorem dX1_digest_36 : decode cX1_digest 36 = .ok (.istore_n 3, 1) := by decide +kernel
theorem dX1_digest_37 : decode cX1_digest 37 = .ok (.iload_n 3, 1) := by decide +kernel
theorem dX1_digest_38 : decode cX1_digest 38 = .ok (.iconst 4, 1) := by decide +kernel
theorem dX1_digest_39 : decode cX1_digest 39 = .ok (.if_icmp .ge 115, 3) := by decide +kernel
theorem dX1_digest_42 : decode cX1_digest 42 = .ok (.iconst 0, 1) := by decide +kernel
theorem dX1_digest_43 : decode cX1_digest 43 = .ok (.istore 4, 2) := by decide +kernel
theorem dX1_digest_45 : decode cX1_digest 45 = .ok (.iload 4, 2) := by decide +kernel
theorem dX1_digest_47 : decode cX1_digest 47 = .ok (.aload_n 0, 1) := by decide +kernel
theorem dX1_digest_48 : decode cX1_digest 48 = .ok (.getfield 7, 3) := by decide +kernel
theorem dX1_digest_51 : decode cX1_digest 51 = .ok (.if_icmp .ge 24, 3) := by decide +kernel
theorem dX1_digest_54 : decode cX1_digest 54 = .ok (.lload_n 1, 1) := by decide +kernel
theorem dX1_digest_55 : decode cX1_digest 55 = .ok (.ldc2_w 135, 3) := by decide +kernel
theorem dX1_digest_58 : decode cX1_digest 58 = .ok (.lmul, 1) := by decide +kernel
theorem dX1_digest_59 : decode cX1_digest 59 = .ok (.aload_n 0, 1) := by decide +kernel
theorem dX1_digest_60 : decode cX1_digest 60 = .ok (.iload_n 3, 1) := by decide +kernel
theorem dX1_digest_61 : decode cX1_digest 61 = .ok (.iload 4, 2) := by decide +kernel
theorem dX1_digest_63 : decode cX1_digest 63 = .ok (.invokevirtual 70, 3) := by decide +kernel
theorem dX1_digest_66 : decode cX1_digest 66 = .ok (.i2l, 1) := by decide +kernel
theorem dX1_digest_67 : decode cX1_digest 67 = .ok (.ladd, 1) := by decide +kernel
theorem dX1_digest_68 : decode cX1_digest 68 = .ok (.lstore_n 1, 1) := by decide +kernel
theorem dX1_digest_69 : decode cX1_digest 69 = .ok (.iinc 4 1, 3) := by decide +kernel
theorem dX1_digest_72 : decode cX1_digest 72 = .ok (.goto (-27), 3) := by decide +kernel
theorem dX1_digest_75 : decode cX1_digest 75 = .ok (.iconst 0, 1) := by decide +kernel
theorem dX1_digest_76 : decode cX1_digest 76 = .ok (.istore 4, 2) := by decide +kernel
theorem dX1_digest_78 : decode cX1_digest 78 = .ok (.iload 4, 2) := by decide +kernel
theorem dX1_digest_80 : decode cX1_digest 80 = .ok (.iconst 4, 1) := by decide +kernel
theorem dX1_digest_81 : decode cX1_digest 81 = .ok (.if_icmp .gt 24, 3) := by decide +kernel
theorem dX1_digest_84 : decode cX1_digest 84 = .ok (.lload_n 1, 1) := by decide +kernel
theorem dX1_digest_85 : decode cX1_digest 85 = .ok (.ldc2_w 135, 3) := by decide +kernel
theorem dX1_digest_88 : decode cX1_digest 88 = .ok (.lmul, 1) := by decide +kernel
theorem dX1_digest_89 : decode cX1_digest 89 = .ok (.aload_n 0, 1) := by decide +kernel
theorem dX1_digest_90 : decode cX1_digest 90 = .ok (.iload_n 3, 1) := by decide +kernel
theorem dX1_digest_91 : decode cX1_digest 91 = .ok (.iload 4, 2) := by decide +kernel
theorem dX1_digest_93 : decode cX1_digest 93 = .ok (.invokevirtual 117, 3) := by decide +kernel
theorem dX1_digest_96 : decode cX1_digest 96 = .ok (.i2l, 1) := by decide +kernel
theorem dX1_digest_97 : decode cX1_digest 97 = .ok (.ladd, 1) := by decide +kernel
theorem dX1_digest_98 : decode cX1_digest 98 = .ok (.lstore_n 1, 1) := by decide +kernel
theorem dX1_digest_99 : decode cX1_digest 99 = .ok (.iinc 4 1, 3) := by decide +kernel
theorem dX1_digest_102 : decode cX1_digest 102 = .ok (.goto (-24), 3) := by decide +kernel
theorem dX1_digest_105 : decode cX1_digest 105 = .ok (.aload_n 0, 1) := by decide +kernel
theorem dX1_digest_106 : decode cX1_digest 106 = .ok (.iload_n 3, 1) := by decide +kernel
theorem dX1_digest_107 : decode cX1_digest 107 = .ok (.aload_n 0, 1) := by decide +kernel
theorem dX1_digest_108 : decode cX1_digest 108 = .ok (.getfield 16, 3) := by decide +kernel
theorem dX1_digest_111 : decode cX1_digest 111 = .ok (.iconst 1, 1) := by decide +kernel
theorem dX1_digest_112 : decode cX1_digest 112 = .ok (.invokevirtual 92, 3) := by decide +kernel
theorem dX1_digest_115 : decode cX1_digest 115 = .ok (.iconst 0, 1) := by decide +kernel
theorem dX1_digest_116 : decode cX1_digest 116 = .ok (.istore 4, 2) := by decide +kernel
theorem dX1_digest_118 : decode cX1_digest 118 = .ok (.iload 4, 2) := by decide +kernel
theorem dX1_digest_120 : decode cX1_digest 120 = .ok (.aload_n 0, 1) := by decide +kernel
theorem dX1_digest_121 : decode cX1_digest 121 = .ok (.getfield 7, 3) := by decide +kernel
theorem dX1_digest_124 : decode cX1_digest 124 = .ok (.if_icmp .ge 24, 3) := by decide +kernel
theorem dX1_digest_127 : decode cX1_digest 127 = .ok (.lload_n 1, 1) := by decide +kernel
theorem dX1_digest_128 : decode cX1_digest 128 = .ok (.ldc2_w 135, 3) := by decide +kernel
theorem dX1_digest_131 : decode cX1_digest 131 = .ok (.lmul, 1) := by decide +kernel
theorem dX1_digest_132 : decode cX1_digest 132 = .ok (.aload_n 0, 1) := by decide +kernel
theorem dX1_digest_133 : decode cX1_digest 133 = .ok (.getfield 26, 3) := by decide +kernel
theorem dX1_digest_136 : decode cX1_digest 136 = .ok (.iload 4, 2) := by decide +kernel
theorem dX1_digest_138 : decode cX1_digest 138 = .ok (.iaload, 1) := by decide +kernel
theorem dX1_digest_139 : decode cX1_digest 139 = .ok (.i2l, 1) := by decide +kernel
theorem dX1_digest_140 : decode cX1_digest 140 = .ok (.ladd, 1) := by decide +kernel
theorem dX1_digest_141 : decode cX1_digest 141 = .ok (.lstore_n 1, 1) := by decide +kernel
theorem dX1_digest_142 : decode cX1_digest 142 = .ok (.iinc 4 1, 3) := by decide +kernel
theorem dX1_digest_145 : decode cX1_digest 145 = .ok (.goto (-27), 3) := by decide +kernel
theorem dX1_digest_148 : decode cX1_digest 148 = .ok (.iinc 3 1, 3) := by decide +kernel
theorem dX1_digest_151 : decode cX1_digest 151 = .ok (.goto (-114), 3) := by decide +kernel
theorem dX1_digest_154 : decode cX1_digest 154 = .ok (.lload_n 1, 1) := by decide +kernel
theorem dX1_digest_155 : decode cX1_digest 155 = .ok (.lreturn, 1) := by decide +kernel
