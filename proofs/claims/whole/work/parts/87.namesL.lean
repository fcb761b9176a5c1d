-- THE LAW'S SMALL METHODS
abbrev b_L_cell : ByteArray := method_2_code
def y_L_cell : MethodName := ⟨"RangeExchangeLaw", "cell", "([II)I"⟩
theorem d_L_cell_0 : decode b_L_cell 0 = .ok (.iload_n 1, 1) := by decide +kernel
theorem d_L_cell_1 : decode b_L_cell 1 = .ok (.aload_n 0, 1) := by decide +kernel
theorem d_L_cell_2 : decode b_L_cell 2 = .ok (.arraylength, 1) := by decide +kernel
theorem d_L_cell_3 : decode b_L_cell 3 = .ok (.if_icmp .ge 9, 3) := by decide +kernel
theorem d_L_cell_6 : decode b_L_cell 6 = .ok (.aload_n 0, 1) := by decide +kernel
theorem d_L_cell_7 : decode b_L_cell 7 = .ok (.iload_n 1, 1) := by decide +kernel
theorem d_L_cell_8 : decode b_L_cell 8 = .ok (.iaload, 1) := by decide +kernel
theorem d_L_cell_9 : decode b_L_cell 9 = .ok (.goto 4, 3) := by decide +kernel
theorem d_L_cell_12 : decode b_L_cell 12 = .ok (.iconst 0, 1) := by decide +kernel
theorem d_L_cell_13 : decode b_L_cell 13 = .ok (.ireturn, 1) := by decide +kernel
abbrev b_L_give : ByteArray := method_3_code
def y_L_give : MethodName := ⟨"RangeExchangeLaw", "give", "(LRangeExchange;III[J)I"⟩
theorem d_L_give_0 : decode b_L_give 0 = .ok (.aload 4, 2) := by decide +kernel
theorem d_L_give_2 : decode b_L_give 2 = .ok (.iconst 0, 1) := by decide +kernel
theorem d_L_give_3 : decode b_L_give 3 = .ok (.aload_n 0, 1) := by decide +kernel
theorem d_L_give_4 : decode b_L_give 4 = .ok (.iload_n 1, 1) := by decide +kernel
theorem d_L_give_5 : decode b_L_give 5 = .ok (.iload_n 2, 1) := by decide +kernel
theorem d_L_give_6 : decode b_L_give 6 = .ok (.iload_n 3, 1) := by decide +kernel
theorem d_L_give_7 : decode b_L_give 7 = .ok (.invokevirtual 7, 3) := by decide +kernel
theorem d_L_give_10 : decode b_L_give 10 = .ok (.lastore, 1) := by decide +kernel
theorem d_L_give_11 : decode b_L_give 11 = .ok (.goto 11, 3) := by decide +kernel
theorem d_L_give_14 : decode b_L_give 14 = .ok (.astore 5, 2) := by decide +kernel
theorem d_L_give_16 : decode b_L_give 16 = .ok (.iconst 1, 1) := by decide +kernel
theorem d_L_give_17 : decode b_L_give 17 = .ok (.ireturn, 1) := by decide +kernel
theorem d_L_give_18 : decode b_L_give 18 = .ok (.astore 5, 2) := by decide +kernel
theorem d_L_give_20 : decode b_L_give 20 = .ok (.iconst 2, 1) := by decide +kernel
theorem d_L_give_21 : decode b_L_give 21 = .ok (.ireturn, 1) := by decide +kernel
theorem d_L_give_22 : decode b_L_give 22 = .ok (.iconst 0, 1) := by decide +kernel
theorem d_L_give_23 : decode b_L_give 23 = .ok (.ireturn, 1) := by decide +kernel
abbrev b_L_balance : ByteArray := method_4_code
def y_L_balance : MethodName := ⟨"RangeExchangeLaw", "balance", "(LRangeExchange;II[J)I"⟩
theorem d_L_balance_0 : decode b_L_balance 0 = .ok (.aload_n 3, 1) := by decide +kernel
theorem d_L_balance_1 : decode b_L_balance 1 = .ok (.iconst 0, 1) := by decide +kernel
theorem d_L_balance_2 : decode b_L_balance 2 = .ok (.aload_n 0, 1) := by decide +kernel
theorem d_L_balance_3 : decode b_L_balance 3 = .ok (.iload_n 1, 1) := by decide +kernel
theorem d_L_balance_4 : decode b_L_balance 4 = .ok (.iload_n 2, 1) := by decide +kernel
theorem d_L_balance_5 : decode b_L_balance 5 = .ok (.invokevirtual 17, 3) := by decide +kernel
theorem d_L_balance_8 : decode b_L_balance 8 = .ok (.lastore, 1) := by decide +kernel
theorem d_L_balance_9 : decode b_L_balance 9 = .ok (.goto 7, 3) := by decide +kernel
theorem d_L_balance_12 : decode b_L_balance 12 = .ok (.astore 4, 2) := by decide +kernel
theorem d_L_balance_14 : decode b_L_balance 14 = .ok (.iconst 1, 1) := by decide +kernel
theorem d_L_balance_15 : decode b_L_balance 15 = .ok (.ireturn, 1) := by decide +kernel
theorem d_L_balance_16 : decode b_L_balance 16 = .ok (.iconst 0, 1) := by decide +kernel
theorem d_L_balance_17 : decode b_L_balance 17 = .ok (.ireturn, 1) := by decide +kernel
abbrev b_L_mint : ByteArray := method_5_code
def y_L_mint : MethodName := ⟨"RangeExchangeLaw", "mint", "(LRangeExchange;IIIII[J)I"⟩
theorem d_L_mint_0 : decode b_L_mint 0 = .ok (.aload 6, 2) := by decide +kernel
theorem d_L_mint_2 : decode b_L_mint 2 = .ok (.iconst 0, 1) := by decide +kernel
theorem d_L_mint_3 : decode b_L_mint 3 = .ok (.aload_n 0, 1) := by decide +kernel
theorem d_L_mint_4 : decode b_L_mint 4 = .ok (.iload_n 1, 1) := by decide +kernel
theorem d_L_mint_5 : decode b_L_mint 5 = .ok (.iload_n 2, 1) := by decide +kernel
theorem d_L_mint_6 : decode b_L_mint 6 = .ok (.iload_n 3, 1) := by decide +kernel
theorem d_L_mint_7 : decode b_L_mint 7 = .ok (.iload 4, 2) := by decide +kernel
theorem d_L_mint_9 : decode b_L_mint 9 = .ok (.iload 5, 2) := by decide +kernel
theorem d_L_mint_11 : decode b_L_mint 11 = .ok (.invokevirtual 21, 3) := by decide +kernel
theorem d_L_mint_14 : decode b_L_mint 14 = .ok (.i2l, 1) := by decide +kernel
theorem d_L_mint_15 : decode b_L_mint 15 = .ok (.lastore, 1) := by decide +kernel
theorem d_L_mint_16 : decode b_L_mint 16 = .ok (.goto 15, 3) := by decide +kernel
theorem d_L_mint_19 : decode b_L_mint 19 = .ok (.astore 7, 2) := by decide +kernel
theorem d_L_mint_21 : decode b_L_mint 21 = .ok (.iconst 1, 1) := by decide +kernel
theorem d_L_mint_22 : decode b_L_mint 22 = .ok (.ireturn, 1) := by decide +kernel
theorem d_L_mint_23 : decode b_L_mint 23 = .ok (.astore 7, 2) := by decide +kernel
theorem d_L_mint_25 : decode b_L_mint 25 = .ok (.iconst 2, 1) := by decide +kernel
theorem d_L_mint_26 : decode b_L_mint 26 = .ok (.ireturn, 1) := by decide +kernel
theorem d_L_mint_27 : decode b_L_mint 27 = .ok (.astore 7, 2) := by decide +kernel
theorem d_L_mint_29 : decode b_L_mint 29 = .ok (.iconst 3, 1) := by decide +kernel
theorem d_L_mint_30 : decode b_L_mint 30 = .ok (.ireturn, 1) := by decide +kernel
theorem d_L_mint_31 : decode b_L_mint 31 = .ok (.iconst 0, 1) := by decide +kernel
theorem d_L_mint_32 : decode b_L_mint 32 = .ok (.ireturn, 1) := by decide +kernel
abbrev b_L_burn : ByteArray := method_6_code
def y_L_burn : MethodName := ⟨"RangeExchangeLaw", "burn", "(LRangeExchange;IIIII[J)I"⟩
theorem d_L_burn_0 : decode b_L_burn 0 = .ok (.aload 6, 2) := by decide +kernel
theorem d_L_burn_2 : decode b_L_burn 2 = .ok (.iconst 0, 1) := by decide +kernel
theorem d_L_burn_3 : decode b_L_burn 3 = .ok (.aload_n 0, 1) := by decide +kernel
theorem d_L_burn_4 : decode b_L_burn 4 = .ok (.iload_n 1, 1) := by decide +kernel
theorem d_L_burn_5 : decode b_L_burn 5 = .ok (.iload_n 2, 1) := by decide +kernel
theorem d_L_burn_6 : decode b_L_burn 6 = .ok (.iload_n 3, 1) := by decide +kernel
theorem d_L_burn_7 : decode b_L_burn 7 = .ok (.iload 4, 2) := by decide +kernel
theorem d_L_burn_9 : decode b_L_burn 9 = .ok (.iload 5, 2) := by decide +kernel
theorem d_L_burn_11 : decode b_L_burn 11 = .ok (.invokevirtual 27, 3) := by decide +kernel
theorem d_L_burn_14 : decode b_L_burn 14 = .ok (.i2l, 1) := by decide +kernel
theorem d_L_burn_15 : decode b_L_burn 15 = .ok (.lastore, 1) := by decide +kernel
theorem d_L_burn_16 : decode b_L_burn 16 = .ok (.goto 19, 3) := by decide +kernel
theorem d_L_burn_19 : decode b_L_burn 19 = .ok (.astore 7, 2) := by decide +kernel
theorem d_L_burn_21 : decode b_L_burn 21 = .ok (.iconst 1, 1) := by decide +kernel
theorem d_L_burn_22 : decode b_L_burn 22 = .ok (.ireturn, 1) := by decide +kernel
theorem d_L_burn_23 : decode b_L_burn 23 = .ok (.astore 7, 2) := by decide +kernel
theorem d_L_burn_25 : decode b_L_burn 25 = .ok (.iconst 2, 1) := by decide +kernel
theorem d_L_burn_26 : decode b_L_burn 26 = .ok (.ireturn, 1) := by decide +kernel
theorem d_L_burn_27 : decode b_L_burn 27 = .ok (.astore 7, 2) := by decide +kernel
theorem d_L_burn_29 : decode b_L_burn 29 = .ok (.iconst 3, 1) := by decide +kernel
theorem d_L_burn_30 : decode b_L_burn 30 = .ok (.ireturn, 1) := by decide +kernel
theorem d_L_burn_31 : decode b_L_burn 31 = .ok (.astore 7, 2) := by decide +kernel
theorem d_L_burn_33 : decode b_L_burn 33 = .ok (.iconst 4, 1) := by decide +kernel
theorem d_L_burn_34 : decode b_L_burn 34 = .ok (.ireturn, 1) := by decide +kernel
theorem d_L_burn_35 : decode b_L_burn 35 = .ok (.iconst 0, 1) := by decide +kernel
theorem d_L_burn_36 : decode b_L_burn 36 = .ok (.ireturn, 1) := by decide +kernel
abbrev b_L_collect : ByteArray := method_7_code
def y_L_collect : MethodName := ⟨"RangeExchangeLaw", "collect", "(LRangeExchange;IIII[J)I"⟩
theorem d_L_collect_0 : decode b_L_collect 0 = .ok (.aload 5, 2) := by decide +kernel
theorem d_L_collect_2 : decode b_L_collect 2 = .ok (.iconst 0, 1) := by decide +kernel
theorem d_L_collect_3 : decode b_L_collect 3 = .ok (.aload_n 0, 1) := by decide +kernel
theorem d_L_collect_4 : decode b_L_collect 4 = .ok (.iload_n 1, 1) := by decide +kernel
theorem d_L_collect_5 : decode b_L_collect 5 = .ok (.iload_n 2, 1) := by decide +kernel
theorem d_L_collect_6 : decode b_L_collect 6 = .ok (.iload_n 3, 1) := by decide +kernel
theorem d_L_collect_7 : decode b_L_collect 7 = .ok (.iload 4, 2) := by decide +kernel
theorem d_L_collect_9 : decode b_L_collect 9 = .ok (.invokevirtual 32, 3) := by decide +kernel
theorem d_L_collect_12 : decode b_L_collect 12 = .ok (.lastore, 1) := by decide +kernel
theorem d_L_collect_13 : decode b_L_collect 13 = .ok (.goto 11, 3) := by decide +kernel
theorem d_L_collect_16 : decode b_L_collect 16 = .ok (.astore 6, 2) := by decide +kernel
theorem d_L_collect_18 : decode b_L_collect 18 = .ok (.iconst 1, 1) := by decide +kernel
theorem d_L_collect_19 : decode b_L_collect 19 = .ok (.ireturn, 1) := by decide +kernel
theorem d_L_collect_20 : decode b_L_collect 20 = .ok (.astore 6, 2) := by decide +kernel
theorem d_L_collect_22 : decode b_L_collect 22 = .ok (.iconst 2, 1) := by decide +kernel
theorem d_L_collect_23 : decode b_L_collect 23 = .ok (.ireturn, 1) := by decide +kernel
theorem d_L_collect_24 : decode b_L_collect 24 = .ok (.iconst 0, 1) := by decide +kernel
theorem d_L_collect_25 : decode b_L_collect 25 = .ok (.ireturn, 1) := by decide +kernel
abbrev b_L_swap : ByteArray := method_8_code
def y_L_swap : MethodName := ⟨"RangeExchangeLaw", "swap", "(LRangeExchange;IIZII[J)I"⟩
theorem d_L_swap_0 : decode b_L_swap 0 = .ok (.aload 6, 2) := by decide +kernel
theorem d_L_swap_2 : decode b_L_swap 2 = .ok (.iconst 0, 1) := by decide +kernel
theorem d_L_swap_3 : decode b_L_swap 3 = .ok (.aload_n 0, 1) := by decide +kernel
theorem d_L_swap_4 : decode b_L_swap 4 = .ok (.iload_n 1, 1) := by decide +kernel
theorem d_L_swap_5 : decode b_L_swap 5 = .ok (.iload_n 2, 1) := by decide +kernel
theorem d_L_swap_6 : decode b_L_swap 6 = .ok (.iload_n 3, 1) := by decide +kernel
theorem d_L_swap_7 : decode b_L_swap 7 = .ok (.iload 4, 2) := by decide +kernel
theorem d_L_swap_9 : decode b_L_swap 9 = .ok (.iload 5, 2) := by decide +kernel
theorem d_L_swap_11 : decode b_L_swap 11 = .ok (.invokevirtual 36, 3) := by decide +kernel
theorem d_L_swap_14 : decode b_L_swap 14 = .ok (.lastore, 1) := by decide +kernel
theorem d_L_swap_15 : decode b_L_swap 15 = .ok (.goto 15, 3) := by decide +kernel
theorem d_L_swap_18 : decode b_L_swap 18 = .ok (.astore 7, 2) := by decide +kernel
theorem d_L_swap_20 : decode b_L_swap 20 = .ok (.iconst 1, 1) := by decide +kernel
theorem d_L_swap_21 : decode b_L_swap 21 = .ok (.ireturn, 1) := by decide +kernel
theorem d_L_swap_22 : decode b_L_swap 22 = .ok (.astore 7, 2) := by decide +kernel
theorem d_L_swap_24 : decode b_L_swap 24 = .ok (.iconst 2, 1) := by decide +kernel
theorem d_L_swap_25 : decode b_L_swap 25 = .ok (.ireturn, 1) := by decide +kernel
theorem d_L_swap_26 : decode b_L_swap 26 = .ok (.astore 7, 2) := by decide +kernel
theorem d_L_swap_28 : decode b_L_swap 28 = .ok (.iconst 3, 1) := by decide +kernel
theorem d_L_swap_29 : decode b_L_swap 29 = .ok (.ireturn, 1) := by decide +kernel
theorem d_L_swap_30 : decode b_L_swap 30 = .ok (.iconst 0, 1) := by decide +kernel
theorem d_L_swap_31 : decode b_L_swap 31 = .ok (.ireturn, 1) := by decide +kernel
abbrev b_L_route : ByteArray := method_9_code
def y_L_route : MethodName := ⟨"RangeExchangeLaw", "route", "(LRangeExchange;III[J)I"⟩
theorem d_L_route_0 : decode b_L_route 0 = .ok (.aload 4, 2) := by decide +kernel
theorem d_L_route_2 : decode b_L_route 2 = .ok (.iconst 0, 1) := by decide +kernel
theorem d_L_route_3 : decode b_L_route 3 = .ok (.aload_n 0, 1) := by decide +kernel
theorem d_L_route_4 : decode b_L_route 4 = .ok (.iload_n 1, 1) := by decide +kernel
theorem d_L_route_5 : decode b_L_route 5 = .ok (.iload_n 2, 1) := by decide +kernel
theorem d_L_route_6 : decode b_L_route 6 = .ok (.iload_n 3, 1) := by decide +kernel
theorem d_L_route_7 : decode b_L_route 7 = .ok (.invokevirtual 40, 3) := by decide +kernel
theorem d_L_route_10 : decode b_L_route 10 = .ok (.lastore, 1) := by decide +kernel
theorem d_L_route_11 : decode b_L_route 11 = .ok (.goto 15, 3) := by decide +kernel
theorem d_L_route_14 : decode b_L_route 14 = .ok (.astore 5, 2) := by decide +kernel
theorem d_L_route_16 : decode b_L_route 16 = .ok (.iconst 1, 1) := by decide +kernel
theorem d_L_route_17 : decode b_L_route 17 = .ok (.ireturn, 1) := by decide +kernel
theorem d_L_route_18 : decode b_L_route 18 = .ok (.astore 5, 2) := by decide +kernel
theorem d_L_route_20 : decode b_L_route 20 = .ok (.iconst 2, 1) := by decide +kernel
theorem d_L_route_21 : decode b_L_route 21 = .ok (.ireturn, 1) := by decide +kernel
theorem d_L_route_22 : decode b_L_route 22 = .ok (.astore 5, 2) := by decide +kernel
theorem d_L_route_24 : decode b_L_route 24 = .ok (.iconst 3, 1) := by decide +kernel
theorem d_L_route_25 : decode b_L_route 25 = .ok (.ireturn, 1) := by decide +kernel
theorem d_L_route_26 : decode b_L_route 26 = .ok (.iconst 0, 1) := by decide +kernel
theorem d_L_route_27 : decode b_L_route 27 = .ok (.ireturn, 1) := by decide +kernel
abbrev b_L_price : ByteArray := method_10_code
def y_L_price : MethodName := ⟨"RangeExchangeLaw", "price", "(LRangeExchange;I[J)I"⟩
theorem d_L_price_0 : decode b_L_price 0 = .ok (.aload_n 2, 1) := by decide +kernel
theorem d_L_price_1 : decode b_L_price 1 = .ok (.iconst 0, 1) := by decide +kernel
theorem d_L_price_2 : decode b_L_price 2 = .ok (.aload_n 0, 1) := by decide +kernel
theorem d_L_price_3 : decode b_L_price 3 = .ok (.iload_n 1, 1) := by decide +kernel
theorem d_L_price_4 : decode b_L_price 4 = .ok (.invokevirtual 43, 3) := by decide +kernel
theorem d_L_price_7 : decode b_L_price 7 = .ok (.lastore, 1) := by decide +kernel
theorem d_L_price_8 : decode b_L_price 8 = .ok (.goto 6, 3) := by decide +kernel
theorem d_L_price_11 : decode b_L_price 11 = .ok (.astore_n 3, 1) := by decide +kernel
theorem d_L_price_12 : decode b_L_price 12 = .ok (.iconst 1, 1) := by decide +kernel
theorem d_L_price_13 : decode b_L_price 13 = .ok (.ireturn, 1) := by decide +kernel
theorem d_L_price_14 : decode b_L_price 14 = .ok (.iconst 0, 1) := by decide +kernel
theorem d_L_price_15 : decode b_L_price 15 = .ok (.ireturn, 1) := by decide +kernel
abbrev b_L_tick : ByteArray := method_11_code
def y_L_tick : MethodName := ⟨"RangeExchangeLaw", "tick", "(LRangeExchange;I[J)I"⟩
theorem d_L_tick_0 : decode b_L_tick 0 = .ok (.aload_n 2, 1) := by decide +kernel
theorem d_L_tick_1 : decode b_L_tick 1 = .ok (.iconst 0, 1) := by decide +kernel
theorem d_L_tick_2 : decode b_L_tick 2 = .ok (.aload_n 0, 1) := by decide +kernel
theorem d_L_tick_3 : decode b_L_tick 3 = .ok (.iload_n 1, 1) := by decide +kernel
theorem d_L_tick_4 : decode b_L_tick 4 = .ok (.invokevirtual 47, 3) := by decide +kernel
theorem d_L_tick_7 : decode b_L_tick 7 = .ok (.i2l, 1) := by decide +kernel
theorem d_L_tick_8 : decode b_L_tick 8 = .ok (.lastore, 1) := by decide +kernel
theorem d_L_tick_9 : decode b_L_tick 9 = .ok (.goto 6, 3) := by decide +kernel
theorem d_L_tick_12 : decode b_L_tick 12 = .ok (.astore_n 3, 1) := by decide +kernel
theorem d_L_tick_13 : decode b_L_tick 13 = .ok (.iconst 1, 1) := by decide +kernel
theorem d_L_tick_14 : decode b_L_tick 14 = .ok (.ireturn, 1) := by decide +kernel
theorem d_L_tick_15 : decode b_L_tick 15 = .ok (.iconst 0, 1) := by decide +kernel
theorem d_L_tick_16 : decode b_L_tick 16 = .ok (.ireturn, 1) := by decide +kernel
abbrev b_L_liquidity : ByteArray := method_12_code
def y_L_liquidity : MethodName := ⟨"RangeExchangeLaw", "liquidity", "(LRangeExchange;I[J)I"⟩
theorem d_L_liquidity_0 : decode b_L_liquidity 0 = .ok (.aload_n 2, 1) := by decide +kernel
theorem d_L_liquidity_1 : decode b_L_liquidity 1 = .ok (.iconst 0, 1) := by decide +kernel
theorem d_L_liquidity_2 : decode b_L_liquidity 2 = .ok (.aload_n 0, 1) := by decide +kernel
theorem d_L_liquidity_3 : decode b_L_liquidity 3 = .ok (.iload_n 1, 1) := by decide +kernel
theorem d_L_liquidity_4 : decode b_L_liquidity 4 = .ok (.invokevirtual 51, 3) := by decide +kernel
theorem d_L_liquidity_7 : decode b_L_liquidity 7 = .ok (.i2l, 1) := by decide +kernel
theorem d_L_liquidity_8 : decode b_L_liquidity 8 = .ok (.lastore, 1) := by decide +kernel
theorem d_L_liquidity_9 : decode b_L_liquidity 9 = .ok (.goto 6, 3) := by decide +kernel
theorem d_L_liquidity_12 : decode b_L_liquidity 12 = .ok (.astore_n 3, 1) := by decide +kernel
theorem d_L_liquidity_13 : decode b_L_liquidity 13 = .ok (.iconst 1, 1) := by decide +kernel
theorem d_L_liquidity_14 : decode b_L_liquidity 14 = .ok (.ireturn, 1) := by decide +kernel
theorem d_L_liquidity_15 : decode b_L_liquidity 15 = .ok (.iconst 0, 1) := by decide +kernel
theorem d_L_liquidity_16 : decode b_L_liquidity 16 = .ok (.ireturn, 1) := by decide +kernel
abbrev b_L_growth : ByteArray := method_13_code
def y_L_growth : MethodName := ⟨"RangeExchangeLaw", "growth", "(LRangeExchange;II[J)I"⟩
theorem d_L_growth_0 : decode b_L_growth 0 = .ok (.aload_n 3, 1) := by decide +kernel
theorem d_L_growth_1 : decode b_L_growth 1 = .ok (.iconst 0, 1) := by decide +kernel
theorem d_L_growth_2 : decode b_L_growth 2 = .ok (.aload_n 0, 1) := by decide +kernel
theorem d_L_growth_3 : decode b_L_growth 3 = .ok (.iload_n 1, 1) := by decide +kernel
theorem d_L_growth_4 : decode b_L_growth 4 = .ok (.iload_n 2, 1) := by decide +kernel
theorem d_L_growth_5 : decode b_L_growth 5 = .ok (.invokevirtual 54, 3) := by decide +kernel
theorem d_L_growth_8 : decode b_L_growth 8 = .ok (.lastore, 1) := by decide +kernel
theorem d_L_growth_9 : decode b_L_growth 9 = .ok (.goto 7, 3) := by decide +kernel
theorem d_L_growth_12 : decode b_L_growth 12 = .ok (.astore 4, 2) := by decide +kernel
theorem d_L_growth_14 : decode b_L_growth 14 = .ok (.iconst 1, 1) := by decide +kernel
theorem d_L_growth_15 : decode b_L_growth 15 = .ok (.ireturn, 1) := by decide +kernel
theorem d_L_growth_16 : decode b_L_growth 16 = .ok (.iconst 0, 1) := by decide +kernel
theorem d_L_growth_17 : decode b_L_growth 17 = .ok (.ireturn, 1) := by decide +kernel
abbrev b_L_held : ByteArray := method_14_code
def y_L_held : MethodName := ⟨"RangeExchangeLaw", "held", "(LRangeExchange;I[J)I"⟩
theorem d_L_held_0 : decode b_L_held 0 = .ok (.aload_n 2, 1) := by decide +kernel
theorem d_L_held_1 : decode b_L_held 1 = .ok (.iconst 0, 1) := by decide +kernel
theorem d_L_held_2 : decode b_L_held 2 = .ok (.aload_n 0, 1) := by decide +kernel
theorem d_L_held_3 : decode b_L_held 3 = .ok (.iload_n 1, 1) := by decide +kernel
theorem d_L_held_4 : decode b_L_held 4 = .ok (.invokevirtual 57, 3) := by decide +kernel
theorem d_L_held_7 : decode b_L_held 7 = .ok (.lastore, 1) := by decide +kernel
theorem d_L_held_8 : decode b_L_held 8 = .ok (.goto 6, 3) := by decide +kernel
theorem d_L_held_11 : decode b_L_held 11 = .ok (.astore_n 3, 1) := by decide +kernel
theorem d_L_held_12 : decode b_L_held 12 = .ok (.iconst 1, 1) := by decide +kernel
theorem d_L_held_13 : decode b_L_held 13 = .ok (.ireturn, 1) := by decide +kernel
theorem d_L_held_14 : decode b_L_held 14 = .ok (.iconst 0, 1) := by decide +kernel
theorem d_L_held_15 : decode b_L_held 15 = .ok (.ireturn, 1) := by decide +kernel

