theorem dX11_alive_20 : decode cX11_alive 20 = .ok (.lreturn, 1) := by decide +kernel
theorem dX11_alive_21 : decode cX11_alive 21 = .ok (.aload_n 0, 1) := by decide +kernel
theorem dX11_alive_22 : decode cX11_alive 22 = .ok (.getfield 45, 3) := by decide +kernel
theorem dX11_alive_25 : decode cX11_alive 25 = .ok (.getfield 156, 3) := by decide +kernel
theorem dX11_alive_28 : decode cX11_alive 28 = .ok (.iload_n 1, 1) := by decide +kernel
theorem dX11_alive_29 : decode cX11_alive 29 = .ok (.laload, 1) := by decide +kernel
theorem dX11_alive_30 : decode cX11_alive 30 = .ok (.iconst 4, 1) := by decide +kernel
theorem dX11_alive_31 : decode cX11_alive 31 = .ok (.aload_n 0, 1) := by decide +kernel
theorem dX11_alive_32 : decode cX11_alive 32 = .ok (.getfield 45, 3) := by decide +kernel
theorem dX11_alive_35 : decode cX11_alive 35 = .ok (.getfield 149, 3) := by decide +kernel
theorem dX11_alive_38 : decode cX11_alive 38 = .ok (.iload_n 1, 1) := by decide +kernel
theorem dX11_alive_39 : decode cX11_alive 39 = .ok (.iaload, 1) := by decide +kernel
theorem dX11_alive_40 : decode cX11_alive 40 = .ok (.imul, 1) := by decide +kernel
theorem dX11_alive_41 : decode cX11_alive 41 = .ok (.iload_n 2, 1) := by decide +kernel
theorem dX11_alive_42 : decode cX11_alive 42 = .ok (.invokestatic 162, 3) := by decide +kernel
theorem dX11_alive_45 : decode cX11_alive 45 = .ok (.lreturn, 1) := by decide +kernel
theorem dX11_lives_0 : decode cX11_lives 0 = .ok (.iload_n 1, 1) := by decide +kernel
theorem dX11_lives_1 : decode cX11_lives 1 = .ok (.invokestatic 135, 3) := by decide +kernel
theorem dX11_lives_4 : decode cX11_lives 4 = .ok (.ifCond .ne 9, 3) := by decide +kernel
theorem dX11_lives_7 : decode cX11_lives 7 = .ok (.bipush (-2), 2) := by decide +kernel
theorem dX11_lives_9 : decode cX11_lives 9 = .ok (.invokestatic 152, 3) := by decide +kernel
theorem dX11_lives_12 : decode cX11_lives 12 = .ok (.lreturn, 1) := by decide +kernel
theorem dX11_lives_13 : decode cX11_lives 13 = .ok (.aload_n 0, 1) := by decide +kernel
theorem dX11_lives_14 : decode cX11_lives 14 = .ok (.getfield 45, 3) := by decide +kernel
theorem dX11_lives_17 : decode cX11_lives 17 = .ok (.invokevirtual 166, 3) := by decide +kernel
theorem dX11_lives_20 : decode cX11_lives 20 = .ok (.iconst 4, 1) := by decide +kernel
theorem dX11_lives_21 : decode cX11_lives 21 = .ok (.aload_n 0, 1) := by decide +kernel
theorem dX11_lives_22 : decode cX11_lives 22 = .ok (.getfield 45, 3) := by decide +kernel
theorem dX11_lives_25 : decode cX11_lives 25 = .ok (.getfield 170, 3) := by decide +kernel
theorem dX11_lives_28 : decode cX11_lives 28 = .ok (.imul, 1) := by decide +kernel
theorem dX11_lives_29 : decode cX11_lives 29 = .ok (.iload_n 1, 1) := by decide +kernel
theorem dX11_lives_30 : decode cX11_lives 30 = .ok (.invokestatic 162, 3) := by decide +kernel
theorem dX11_lives_33 : decode cX11_lives 33 = .ok (.lreturn, 1) := by decide +kernel
theorem dX11_harm_0 : decode cX11_harm 0 = .ok (.iload_n 1, 1) := by decide +kernel
theorem dX11_harm_1 : decode cX11_harm 1 = .ok (.invokestatic 135, 3) := by decide +kernel
theorem dX11_harm_4 : decode cX11_harm 4 = .ok (.ifCond .ne 9, 3) := by decide +kernel
theorem dX11_harm_7 : decode cX11_harm 7 = .ok (.bipush (-2), 2) := by decide +kernel
theorem dX11_harm_9 : decode cX11_harm 9 = .ok (.invokestatic 152, 3) := by decide +kernel
theorem dX11_harm_12 : decode cX11_harm 12 = .ok (.lreturn, 1) := by decide +kernel
theorem dX11_harm_13 : decode cX11_harm 13 = .ok (.aload_n 0, 1) := by decide +kernel
theorem dX11_harm_14 : decode cX11_harm 14 = .ok (.getfield 45, 3) := by decide +kernel
theorem dX11_harm_17 : decode cX11_harm 17 = .ok (.getfield 173, 3) := by decide +kernel
theorem dX11_harm_20 : decode cX11_harm 20 = .ok (.bipush 32, 2) := by decide +kernel
theorem dX11_harm_22 : decode cX11_harm 22 = .ok (.iload_n 1, 1) := by decide +kernel
theorem dX11_harm_23 : decode cX11_harm 23 = .ok (.invokestatic 162, 3) := by decide +kernel
theorem dX11_harm_26 : decode cX11_harm 26 = .ok (.lreturn, 1) := by decide +kernel
theorem dX11_worst_0 : decode cX11_worst 0 = .ok (.aload_n 0, 1) := by decide +kernel
theorem dX11_worst_1 : decode cX11_worst 1 = .ok (.getfield 45, 3) := by decide +kernel
theorem dX11_worst_4 : decode cX11_worst 4 = .ok (.invokevirtual 177, 3) := by decide +kernel
theorem dX11_worst_7 : decode cX11_worst 7 = .ok (.ireturn, 1) := by decide +kernel
theorem dX11_fate_0 : decode cX11_fate 0 = .ok (.aload_n 0, 1) := by decide +kernel
theorem dX11_fate_1 : decode cX11_fate 1 = .ok (.getfield 24, 3) := by decide +kernel
theorem dX11_fate_4 : decode cX11_fate 4 = .ok (.iload_n 1, 1) := by decide +kernel
theorem dX11_fate_5 : decode cX11_fate 5 = .ok (.invokevirtual 113, 3) := by decide +kernel
theorem dX11_fate_8 : decode cX11_fate 8 = .ok (.ifCond .ne 6, 3) := by decide +kernel
theorem dX11_fate_11 : decode cX11_fate 11 = .ok (.bipush (-2), 2) := by decide +kernel
theorem dX11_fate_13 : decode cX11_fate 13 = .ok (.ireturn, 1) := by decide +kernel
theorem dX11_fate_14 : decode cX11_fate 14 = .ok (.aload_n 0, 1) := by decide +kernel
theorem dX11_fate_15 : decode cX11_fate 15 = .ok (.getfield 45, 3) := by decide +kernel
theorem dX11_fate_18 : decode cX11_fate 18 = .ok (.iload_n 1, 1) := by decide +kernel
theorem dX11_fate_19 : decode cX11_fate 19 = .ok (.invokevirtual 181, 3) := by decide +kernel
theorem dX11_fate_22 : decode cX11_fate 22 = .ok (.ireturn, 1) := by decide +kernel
theorem dX11_order_0 : decode cX11_order 0 = .ok (.iload_n 1, 1) := by decide +kernel
theorem dX11_order_1 : decode cX11_order 1 = .ok (.iconst (-1), 1) := by decide +kernel
theorem dX11_order_2 : decode cX11_order 2 = .ok (.if_icmp .lt 9, 3) := by decide +kernel
theorem dX11_order_5 : decode cX11_order 5 = .ok (.iload_n 1, 1) := by decide +kernel
theorem dX11_order_6 : decode cX11_order 6 = .ok (.bipush 8, 2) := by decide +kernel
theorem dX11_order_8 : decode cX11_order 8 = .ok (.if_icmp .lt 6, 3) := by decide +kernel
theorem dX11_order_11 : decode cX11_order 11 = .ok (.bipush (-2), 2) := by decide +kernel
theorem dX11_order_13 : decode cX11_order 13 = .ok (.ireturn, 1) := by decide +kernel
theorem dX11_order_14 : decode cX11_order 14 = .ok (.aload_n 0, 1) := by decide +kernel
theorem dX11_order_15 : decode cX11_order 15 = .ok (.getfield 55, 3) := by decide +kernel
theorem dX11_order_18 : decode cX11_order 18 = .ok (.aload_n 0, 1) := by decide +kernel
theorem dX11_order_19 : decode cX11_order 19 = .ok (.getfield 24, 3) := by decide +kernel
theorem dX11_order_22 : decode cX11_order 22 = .ok (.aload_n 0, 1) := by decide +kernel
theorem dX11_order_23 : decode cX11_order 23 = .ok (.getfield 38, 3) := by decide +kernel
theorem dX11_order_26 : decode cX11_order 26 = .ok (.invokevirtual 184, 3) := by decide +kernel
theorem dX11_order_29 : decode cX11_order 29 = .ok (.aload_n 0, 1) := by decide +kernel
theorem dX11_order_30 : decode cX11_order 30 = .ok (.getfield 55, 3) := by decide +kernel
theorem dX11_order_33 : decode cX11_order 33 = .ok (.getfield 188, 3) := by decide +kernel
theorem dX11_order_36 : decode cX11_order 36 = .ok (.ifCond .ne 5, 3) := by decide +kernel
theorem dX11_order_39 : decode cX11_order 39 = .ok (.iconst (-1), 1) := by decide +kernel
theorem dX11_order_40 : decode cX11_order 40 = .ok (.ireturn, 1) := by decide +kernel
theorem dX11_order_41 : decode cX11_order 41 = .ok (.iload_n 1, 1) := by decide +kernel
theorem dX11_order_42 : decode cX11_order 42 = .ok (.iconst (-1), 1) := by decide +kernel
theorem dX11_order_43 : decode cX11_order 43 = .ok (.if_icmp .ne 11, 3) := by decide +kernel
theorem dX11_order_46 : decode cX11_order 46 = .ok (.aload_n 0, 1) := by decide +kernel
theorem dX11_order_47 : decode cX11_order 47 = .ok (.getfield 55, 3) := by decide +kernel
theorem dX11_order_50 : decode cX11_order 50 = .ok (.getfield 188, 3) := by decide +kernel
theorem dX11_order_53 : decode cX11_order 53 = .ok (.ireturn, 1) := by decide +kernel
theorem dX11_order_54 : decode cX11_order 54 = .ok (.iload_n 1, 1) := by decide +kernel
theorem dX11_order_55 : decode cX11_order 55 = .ok (.aload_n 0, 1) := by decide +kernel
theorem dX11_order_56 : decode cX11_order 56 = .ok (.getfield 55, 3) := by decide +kernel
theorem dX11_order_59 : decode cX11_order 59 = .ok (.getfield 188, 3) := by decide +kernel
theorem dX11_order_62 : decode cX11_order 62 = .ok (.if_icmp .ge 15, 3) := by decide +kernel
theorem dX11_order_65 : decode cX11_order 65 = .ok (.aload_n 0, 1) := by decide +kernel
theorem dX11_order_66 : decode cX11_order 66 = .ok (.getfield 55, 3) := by decide +kernel
theorem dX11_order_69 : decode cX11_order 69 = .ok (.getfield 191, 3) := by decide +kernel
theorem dX11_order_72 : decode cX11_order 72 = .ok (.iload_n 1, 1) := by decide +kernel
theorem dX11_order_73 : decode cX11_order 73 = .ok (.iaload, 1) := by decide +kernel
theorem dX11_order_74 : decode cX11_order 74 = .ok (.goto 4, 3) := by decide +kernel
theorem dX11_order_77 : decode cX11_order 77 = .ok (.iconst (-1), 1) := by decide +kernel
theorem dX11_order_78 : decode cX11_order 78 = .ok (.ireturn, 1) := by decide +kernel
theorem dX11_best_0 : decode cX11_best 0 = .ok (.iload_n 1, 1) := by decide +kernel
theorem dX11_best_1 : decode cX11_best 1 = .ok (.invokestatic 135, 3) := by decide +kernel
theorem dX11_best_4 : decode cX11_best 4 = .ok (.ifCond .ne 9, 3) := by decide +kernel
theorem dX11_best_7 : decode cX11_best 7 = .ok (.bipush (-2), 2) := by decide +kernel
theorem dX11_best_9 : decode cX11_best 9 = .ok (.invokestatic 152, 3) := by decide +kernel
theorem dX11_best_12 : decode cX11_best 12 = .ok (.lreturn, 1) := by decide +kernel
theorem dX11_best_13 : decode cX11_best 13 = .ok (.aload_n 0, 1) := by decide +kernel
theorem dX11_best_14 : decode cX11_best 14 = .ok (.getfield 55, 3) := by decide +kernel
theorem dX11_best_17 : decode cX11_best 17 = .ok (.aload_n 0, 1) := by decide +kernel
theorem dX11_best_18 : decode cX11_best 18 = .ok (.getfield 24, 3) := by decide +kernel
theorem dX11_best_21 : decode cX11_best 21 = .ok (.aload_n 0, 1) := by decide +kernel
theorem dX11_best_22 : decode cX11_best 22 = .ok (.getfield 38, 3) := by decide +kernel
theorem dX11_best_25 : decode cX11_best 25 = .ok (.invokevirtual 184, 3) := by decide +kernel
theorem dX11_best_28 : decode cX11_best 28 = .ok (.aload_n 0, 1) := by decide +kernel
theorem dX11_best_29 : decode cX11_best 29 = .ok (.getfield 55, 3) := by decide +kernel
theorem dX11_best_32 : decode cX11_best 32 = .ok (.getfield 194, 3) := by decide +kernel
theorem dX11_best_35 : decode cX11_best 35 = .ok (.iconst 4, 1) := by decide +kernel
theorem dX11_best_36 : decode cX11_best 36 = .ok (.aload_n 0, 1) := by decide +kernel
theorem dX11_best_37 : decode cX11_best 37 = .ok (.getfield 38, 3) := by decide +kernel
theorem dX11_best_40 : decode cX11_best 40 = .ok (.getfield 81, 3) := by decide +kernel
theorem dX11_best_43 : decode cX11_best 43 = .ok (.imul, 1) := by decide +kernel
theorem dX11_best_44 : decode cX11_best 44 = .ok (.iload_n 1, 1) := by decide +kernel
theorem dX11_best_45 : decode cX11_best 45 = .ok (.invokestatic 162, 3) := by decide +kernel
theorem dX11_best_48 : decode cX11_best 48 = .ok (.lreturn, 1) := by decide +kernel
theorem dX11_price_0 : decode cX11_price 0 = .ok (.iconst 0, 1) := by decide +kernel
theorem dX11_price_1 : decode cX11_price 1 = .ok (.istore_n 1, 1) := by decide +kernel
theorem dX11_price_2 : decode cX11_price 2 = .ok (.ldc2_w 196, 3) := by decide +kernel
theorem dX11_price_5 : decode cX11_price 5 = .ok (.lstore_n 2, 1) := by decide +kernel
theorem dX11_price_6 : decode cX11_price 6 = .ok (.iconst 0, 1) := by decide +kernel
theorem dX11_price_7 : decode cX11_price 7 = .ok (.istore 4, 2) := by decide +kernel
theorem dX11_price_9 : decode cX11_price 9 = .ok (.iload 4, 2) := by decide +kernel
theorem dX11_price_11 : decode cX11_price 11 = .ok (.bipush 10, 2) := by decide +kernel
theorem dX11_price_13 : decode cX11_price 13 = .ok (.if_icmp .ge 38, 3) := by decide +kernel
theorem dX11_price_16 : decode cX11_price 16 = .ok (.aload_n 0, 1) := by decide +kernel
theorem dX11_price_17 : decode cX11_price 17 = .ok (.iload 4, 2) := by decide +kernel
theorem dX11_price_19 : decode cX11_price 19 = .ok (.invokevirtual 198, 3) := by decide +kernel
theorem dX11_price_22 : decode cX11_price 22 = .ok (.aload_n 0, 1) := by decide +kernel
theorem dX11_price_23 : decode cX11_price 23 = .ok (.getfield 49, 3) := by decide +kernel
theorem dX11_price_26 : decode cX11_price 26 = .ok (.invokevirtual 166, 3) := by decide +kernel
theorem dX11_price_29 : decode cX11_price 29 = .ok (.lload_n 2, 1) := by decide +kernel
theorem dX11_price_30 : decode cX11_price 30 = .ok (.lcmp, 1) := by decide +kernel
theorem dX11_price_31 : decode cX11_price 31 = .ok (.ifCond .le 14, 3) := by decide +kernel
theorem dX11_price_34 : decode cX11_price 34 = .ok (.aload_n 0, 1) := by decide +kernel
theorem dX11_price_35 : decode cX11_price 35 = .ok (.getfield 49, 3) := by decide +kernel
theorem dX11_price_38 : decode cX11_price 38 = .ok (.invokevirtual 166, 3) := by decide +kernel
theorem dX11_price_41 : decode cX11_price 41 = .ok (.lstore_n 2, 1) := by decide +kernel
theorem dX11_price_42 : decode cX11_price 42 = .ok (.iload 4, 2) := by decide +kernel
theorem dX11_price_44 : decode cX11_price 44 = .ok (.istore_n 1, 1) := by decide +kernel
theorem dX11_price_45 : decode cX11_price 45 = .ok (.iinc 4 1, 3) := by decide +kernel
theorem dX11_price_48 : decode cX11_price 48 = .ok (.goto (-39), 3) := by decide +kernel
theorem dX11_price_51 : decode cX11_price 51 = .ok (.iload_n 1, 1) := by decide +kernel
theorem dX11_price_52 : decode cX11_price 52 = .ok (.ireturn, 1) := by decide +kernel
theorem dX11_rule_0 : decode cX11_rule 0 = .ok (.iload_n 1, 1) := by decide +kernel
theorem dX11_rule_1 : decode cX11_rule 1 = .ok (.ifCond .lt 9, 3) := by decide +kernel
theorem dX11_rule_4 : decode cX11_rule 4 = .ok (.iload_n 1, 1) := by decide +kernel
theorem dX11_rule_5 : decode cX11_rule 5 = .ok (.bipush 16, 2) := by decide +kernel
theorem dX11_rule_7 : decode cX11_rule 7 = .ok (.if_icmp .le 6, 3) := by decide +kernel
theorem dX11_rule_10 : decode cX11_rule 10 = .ok (.bipush (-2), 2) := by decide +kernel
theorem dX11_rule_12 : decode cX11_rule 12 = .ok (.ireturn, 1) := by decide +kernel
theorem dX11_rule_13 : decode cX11_rule 13 = .ok (.bipush 8, 2) := by decide +kernel
theorem dX11_rule_15 : decode cX11_rule 15 = .ok (.istore_n 2, 1) := by decide +kernel
theorem dX11_rule_16 : decode cX11_rule 16 = .ok (.iload_n 2, 1) := by decide +kernel
theorem dX11_rule_17 : decode cX11_rule 17 = .ok (.iconst 1, 1) := by decide +kernel
theorem dX11_rule_18 : decode cX11_rule 18 = .ok (.if_icmp .lt 66, 3) := by decide +kernel
theorem dX11_rule_21 : decode cX11_rule 21 = .ok (.aload_n 0, 1) := by decide +kernel
theorem dX11_rule_22 : decode cX11_rule 22 = .ok (.getfield 49, 3) := by decide +kernel
theorem dX11_rule_25 : decode cX11_rule 25 = .ok (.aload_n 0, 1) := by decide +kernel
theorem dX11_rule_26 : decode cX11_rule 26 = .ok (.getfield 24, 3) := by decide +kernel
theorem dX11_rule_29 : decode cX11_rule 29 = .ok (.aload_n 0, 1) := by decide +kernel
theorem dX11_rule_30 : decode cX11_rule 30 = .ok (.getfield 31, 3) := by decide +kernel
theorem dX11_rule_33 : decode cX11_rule 33 = .ok (.aload_n 0, 1) := by decide +kernel
theorem dX11_rule_34 : decode cX11_rule 34 = .ok (.getfield 38, 3) := by decide +kernel
theorem dX11_rule_37 : decode cX11_rule 37 = .ok (.getfield 77, 3) := by decide +kernel
theorem dX11_rule_40 : decode cX11_rule 40 = .ok (.iload_n 2, 1) := by decide +kernel
theorem dX11_rule_41 : decode cX11_rule 41 = .ok (.aload_n 0, 1) := by decide +kernel
theorem dX11_rule_42 : decode cX11_rule 42 = .ok (.getfield 38, 3) := by decide +kernel
theorem dX11_rule_45 : decode cX11_rule 45 = .ok (.getfield 201, 3) := by decide +kernel
theorem dX11_rule_48 : decode cX11_rule 48 = .ok (.invokevirtual 204, 3) := by decide +kernel
theorem dX11_rule_51 : decode cX11_rule 51 = .ok (.lconst 1, 1) := by decide +kernel
theorem dX11_rule_52 : decode cX11_rule 52 = .ok (.iconst 4, 1) := by decide +kernel
theorem dX11_rule_53 : decode cX11_rule 53 = .ok (.iload_n 2, 1) := by decide +kernel
theorem dX11_rule_54 : decode cX11_rule 54 = .ok (.imul, 1) := by decide +kernel
theorem dX11_rule_55 : decode cX11_rule 55 = .ok (.lshl, 1) := by decide +kernel
theorem dX11_rule_56 : decode cX11_rule 56 = .ok (.lstore_n 3, 1) := by decide +kernel
theorem dX11_rule_57 : decode cX11_rule 57 = .ok (.aload_n 0, 1) := by decide +kernel
theorem dX11_rule_58 : decode cX11_rule 58 = .ok (.getfield 49, 3) := by decide +kernel
theorem dX11_rule_61 : decode cX11_rule 61 = .ok (.invokevirtual 166, 3) := by decide +kernel
theorem dX11_rule_64 : decode cX11_rule 64 = .ok (.ldc2_w 208, 3) := by decide +kernel
theorem dX11_rule_67 : decode cX11_rule 67 = .ok (.lmul, 1) := by decide +kernel
theorem dX11_rule_68 : decode cX11_rule 68 = .ok (.iload_n 1, 1) := by decide +kernel
theorem dX11_rule_69 : decode cX11_rule 69 = .ok (.i2l, 1) := by decide +kernel
theorem dX11_rule_70 : decode cX11_rule 70 = .ok (.lload_n 3, 1) := by decide +kernel
theorem dX11_rule_71 : decode cX11_rule 71 = .ok (.lmul, 1) := by decide +kernel
theorem dX11_rule_72 : decode cX11_rule 72 = .ok (.lcmp, 1) := by decide +kernel
theorem dX11_rule_73 : decode cX11_rule 73 = .ok (.ifCond .lt 5, 3) := by decide +kernel
theorem dX11_rule_76 : decode cX11_rule 76 = .ok (.iload_n 2, 1) := by decide +kernel
theorem dX11_rule_77 : decode cX11_rule 77 = .ok (.ireturn, 1) := by decide +kernel
theorem dX11_rule_78 : decode cX11_rule 78 = .ok (.iinc 2 (-1), 3) := by decide +kernel
theorem dX11_rule_81 : decode cX11_rule 81 = .ok (.goto (-65), 3) := by decide +kernel
theorem dX11_rule_84 : decode cX11_rule 84 = .ok (.iconst (-1), 1) := by decide +kernel
theorem dX11_rule_85 : decode cX11_rule 85 = .ok (.ireturn, 1) := by decide +kernel
theorem dX11_chain_0 : decode cX11_chain 0 = .ok (.aload_n 0, 1) := by decide +kernel
theorem dX11_chain_1 : decode cX11_chain 1 = .ok (.getfield 24, 3) := by decide +kernel
theorem dX11_chain_4 : decode cX11_chain 4 = .ok (.iload_n 1, 1) := by decide +kernel
theorem dX11_chain_5 : decode cX11_chain 5 = .ok (.invokevirtual 113, 3) := by decide +kernel
theorem dX11_chain_8 : decode cX11_chain 8 = .ok (.ifCond .ne 6, 3) := by decide +kernel
theorem dX11_chain_11 : decode cX11_chain 11 = .ok (.bipush (-2), 2) := by decide +kernel
theorem dX11_chain_13 : decode cX11_chain 13 = .ok (.ireturn, 1) := by decide +kernel
theorem dX11_chain_14 : decode cX11_chain 14 = .ok (.iconst 0, 1) := by decide +kernel
theorem dX11_chain_15 : decode cX11_chain 15 = .ok (.istore_n 2, 1) := by decide +kernel
theorem dX11_chain_16 : decode cX11_chain 16 = .ok (.iload_n 1, 1) := by decide +kernel
theorem dX11_chain_17 : decode cX11_chain 17 = .ok (.istore_n 3, 1) := by decide +kernel
theorem dX11_chain_18 : decode cX11_chain 18 = .ok (.iconst 0, 1) := by decide +kernel
theorem dX11_chain_19 : decode cX11_chain 19 = .ok (.istore 4, 2) := by decide +kernel
theorem dX11_chain_21 : decode cX11_chain 21 = .ok (.iload 4, 2) := by decide +kernel
theorem dX11_chain_23 : decode cX11_chain 23 = .ok (.bipush 8, 2) := by decide +kernel
theorem dX11_chain_25 : decode cX11_chain 25 = .ok (.if_icmp .ge 61, 3) := by decide +kernel
theorem dX11_chain_28 : decode cX11_chain 28 = .ok (.aload_n 0, 1) := by decide +kernel
theorem dX11_chain_29 : decode cX11_chain 29 = .ok (.getfield 24, 3) := by decide +kernel
theorem dX11_chain_32 : decode cX11_chain 32 = .ok (.iload_n 3, 1) := by decide +kernel
theorem dX11_chain_33 : decode cX11_chain 33 = .ok (.invokevirtual 113, 3) := by decide +kernel
theorem dX11_chain_36 : decode cX11_chain 36 = .ok (.ifCond .eq 50, 3) := by decide +kernel
theorem dX11_chain_39 : decode cX11_chain 39 = .ok (.iload_n 2, 1) := by decide +kernel
theorem dX11_chain_40 : decode cX11_chain 40 = .ok (.iload_n 3, 1) := by decide +kernel
theorem dX11_chain_41 : decode cX11_chain 41 = .ok (.ishr, 1) := by decide +kernel
theorem dX11_chain_42 : decode cX11_chain 42 = .ok (.iconst 1, 1) := by decide +kernel
theorem dX11_chain_43 : decode cX11_chain 43 = .ok (.iand, 1) := by decide +kernel
theorem dX11_chain_44 : decode cX11_chain 44 = .ok (.ifCond .ne 42, 3) := by decide +kernel
theorem dX11_chain_47 : decode cX11_chain 47 = .ok (.iload_n 2, 1) := by decide +kernel
theorem dX11_chain_48 : decode cX11_chain 48 = .ok (.iconst 1, 1) := by decide +kernel
theorem dX11_chain_49 : decode cX11_chain 49 = .ok (.iload_n 3, 1) := by decide +kernel
theorem dX11_chain_50 : decode cX11_chain 50 = .ok (.ishl, 1) := by decide +kernel
theorem dX11_chain_51 : decode cX11_chain 51 = .ok (.ior, 1) := by decide +kernel
theorem dX11_chain_52 : decode cX11_chain 52 = .ok (.istore_n 2, 1) := by decide +kernel
theorem dX11_chain_53 : decode cX11_chain 53 = .ok (.aload_n 0, 1) := by decide +kernel
theorem dX11_chain_54 : decode cX11_chain 54 = .ok (.getfield 24, 3) := by decide +kernel
theorem dX11_chain_57 : decode cX11_chain 57 = .ok (.iload_n 3, 1) := by decide +kernel
theorem dX11_chain_58 : decode cX11_chain 58 = .ok (.iconst 3, 1) := by decide +kernel
theorem dX11_chain_59 : decode cX11_chain 59 = .ok (.invokevirtual 116, 3) := by decide +kernel
theorem dX11_chain_62 : decode cX11_chain 62 = .ok (.iconst 1, 1) := by decide +kernel
theorem dX11_chain_63 : decode cX11_chain 63 = .ok (.if_icmp .ne 15, 3) := by decide +kernel
theorem dX11_chain_66 : decode cX11_chain 66 = .ok (.aload_n 0, 1) := by decide +kernel
theorem dX11_chain_67 : decode cX11_chain 67 = .ok (.getfield 24, 3) := by decide +kernel
theorem dX11_chain_70 : decode cX11_chain 70 = .ok (.iload_n 3, 1) := by decide +kernel
theorem dX11_chain_71 : decode cX11_chain 71 = .ok (.iconst 4, 1) := by decide +kernel
theorem dX11_chain_72 : decode cX11_chain 72 = .ok (.invokevirtual 116, 3) := by decide +kernel
theorem dX11_chain_75 : decode cX11_chain 75 = .ok (.goto 4, 3) := by decide +kernel
theorem dX11_chain_78 : decode cX11_chain 78 = .ok (.iconst (-1), 1) := by decide +kernel
theorem dX11_chain_79 : decode cX11_chain 79 = .ok (.istore_n 3, 1) := by decide +kernel
theorem dX11_chain_80 : decode cX11_chain 80 = .ok (.iinc 4 1, 3) := by decide +kernel
theorem dX11_chain_83 : decode cX11_chain 83 = .ok (.goto (-62), 3) := by decide +kernel
theorem dX11_chain_86 : decode cX11_chain 86 = .ok (.iload_n 2, 1) := by decide +kernel
theorem dX11_chain_87 : decode cX11_chain 87 = .ok (.ireturn, 1) := by decide +kernel
theorem dX11_seen_0 : decode cX11_seen 0 = .ok (.iload_n 1, 1) := by decide +kernel
theorem dX11_seen_1 : decode cX11_seen 1 = .ok (.iload_n 2, 1) := by decide +kernel
theorem dX11_seen_2 : decode cX11_seen 2 = .ok (.invokestatic 210, 3) := by decide +kernel
theorem dX11_seen_5 : decode cX11_seen 5 = .ok (.ifCond .ne 6, 3) := by decide +kernel
theorem dX11_seen_8 : decode cX11_seen 8 = .ok (.bipush (-2), 2) := by decide +kernel
theorem dX11_seen_10 : decode cX11_seen 10 = .ok (.ireturn, 1) := by decide +kernel
theorem dX11_seen_11 : decode cX11_seen 11 = .ok (.aload_n 0, 1) := by decide +kernel
theorem dX11_seen_12 : decode cX11_seen 12 = .ok (.getfield 62, 3) := by decide +kernel
theorem dX11_seen_15 : decode cX11_seen 15 = .ok (.invokevirtual 211, 3) := by decide +kernel
theorem dX11_seen_18 : decode cX11_seen 18 = .ok (.ifCond .eq 6, 3) := by decide +kernel
theorem dX11_seen_21 : decode cX11_seen 21 = .ok (.bipush (-4), 2) := by decide +kernel
theorem dX11_seen_23 : decode cX11_seen 23 = .ok (.ireturn, 1) := by decide +kernel
theorem dX11_seen_24 : decode cX11_seen 24 = .ok (.aload_n 0, 1) := by decide +kernel
theorem dX11_seen_25 : decode cX11_seen 25 = .ok (.getfield 62, 3) := by decide +kernel
theorem dX11_seen_28 : decode cX11_seen 28 = .ok (.iload_n 1, 1) := by decide +kernel
theorem dX11_seen_29 : decode cX11_seen 29 = .ok (.iload_n 2, 1) := by decide +kernel
theorem dX11_seen_30 : decode cX11_seen 30 = .ok (.invokevirtual 212, 3) := by decide +kernel
theorem dX11_seen_33 : decode cX11_seen 33 = .ok (.aload_n 0, 1) := by decide +kernel
theorem dX11_seen_34 : decode cX11_seen 34 = .ok (.getfield 62, 3) := by decide +kernel
theorem dX11_seen_37 : decode cX11_seen 37 = .ok (.getfield 215, 3) := by decide +kernel
theorem dX11_seen_40 : decode cX11_seen 40 = .ok (.ireturn, 1) := by decide +kernel
theorem dX11_forget_0 : decode cX11_forget 0 = .ok (.aload_n 0, 1) := by decide +kernel
theorem dX11_forget_1 : decode cX11_forget 1 = .ok (.getfield 62, 3) := by decide +kernel
theorem dX11_forget_4 : decode cX11_forget 4 = .ok (.getfield 215, 3) := by decide +kernel
theorem dX11_forget_7 : decode cX11_forget 7 = .ok (.istore_n 1, 1) := by decide +kernel
theorem dX11_forget_8 : decode cX11_forget 8 = .ok (.aload_n 0, 1) := by decide +kernel
theorem dX11_forget_9 : decode cX11_forget 9 = .ok (.getfield 62, 3) := by decide +kernel
theorem dX11_forget_12 : decode cX11_forget 12 = .ok (.iconst 0, 1) := by decide +kernel
theorem dX11_forget_13 : decode cX11_forget 13 = .ok (.putfield 215, 3) := by decide +kernel
theorem dX11_forget_16 : decode cX11_forget 16 = .ok (.iload_n 1, 1) := by decide +kernel
theorem dX11_forget_17 : decode cX11_forget 17 = .ok (.ireturn, 1) := by decide +kernel
theorem dX11_read_0 : decode cX11_read 0 = .ok (.iload_n 1, 1) := by decide +kernel
theorem dX11_read_1 : decode cX11_read 1 = .ok (.invokestatic 216, 3) := by decide +kernel
theorem dX11_read_4 : decode cX11_read 4 = .ok (.ifCond .ne 6, 3) := by decide +kernel
theorem dX11_read_7 : decode cX11_read 7 = .ok (.bipush (-2), 2) := by decide +kernel
theorem dX11_read_9 : decode cX11_read 9 = .ok (.ireturn, 1) := by decide +kernel
theorem dX11_read_10 : decode cX11_read 10 = .ok (.aload_n 0, 1) := by decide +kernel
theorem dX11_read_11 : decode cX11_read 11 = .ok (.getfield 68, 3) := by decide +kernel
theorem dX11_read_14 : decode cX11_read 14 = .ok (.iload_n 1, 1) := by decide +kernel
theorem dX11_read_15 : decode cX11_read 15 = .ok (.aaload, 1) := by decide +kernel
theorem dX11_read_16 : decode cX11_read 16 = .ok (.astore_n 2, 1) := by decide +kernel
theorem dX11_read_17 : decode cX11_read 17 = .ok (.aload_n 2, 1) := by decide +kernel
theorem dX11_read_18 : decode cX11_read 18 = .ok (.getfield 219, 3) := by decide +kernel
theorem dX11_read_21 : decode cX11_read 21 = .ok (.ifCond .eq 9, 3) := by decide +kernel
theorem dX11_read_24 : decode cX11_read 24 = .ok (.aload_n 0, 1) := by decide +kernel
theorem dX11_read_25 : decode cX11_read 25 = .ok (.iconst 1, 1) := by decide +kernel
theorem dX11_read_26 : decode cX11_read 26 = .ok (.invokevirtual 223, 3) := by decide +kernel
theorem dX11_read_29 : decode cX11_read 29 = .ok (.ireturn, 1) := by decide +kernel
theorem dX11_read_30 : decode cX11_read 30 = .ok (.iconst 0, 1) := by decide +kernel
theorem dX11_read_31 : decode cX11_read 31 = .ok (.istore_n 3, 1) := by decide +kernel
theorem dX11_read_32 : decode cX11_read 32 = .ok (.iconst 0, 1) := by decide +kernel
theorem dX11_read_33 : decode cX11_read 33 = .ok (.istore 4, 2) := by decide +kernel
theorem dX11_read_35 : decode cX11_read 35 = .ok (.iload 4, 2) := by decide +kernel
theorem dX11_read_37 : decode cX11_read 37 = .ok (.iconst 1, 1) := by decide +kernel
theorem dX11_read_38 : decode cX11_read 38 = .ok (.iadd, 1) := by decide +kernel
theorem dX11_read_39 : decode cX11_read 39 = .ok (.aload_n 2, 1) := by decide +kernel
theorem dX11_read_40 : decode cX11_read 40 = .ok (.getfield 226, 3) := by decide +kernel
theorem dX11_read_43 : decode cX11_read 43 = .ok (.if_icmp .ge 66, 3) := by decide +kernel
theorem dX11_read_46 : decode cX11_read 46 = .ok (.aload_n 2, 1) := by decide +kernel
theorem dX11_read_47 : decode cX11_read 47 = .ok (.getfield 227, 3) := by decide +kernel
theorem dX11_read_50 : decode cX11_read 50 = .ok (.iload 4, 2) := by decide +kernel
theorem dX11_read_52 : decode cX11_read 52 = .ok (.iaload, 1) := by decide +kernel
theorem dX11_read_53 : decode cX11_read 53 = .ok (.istore 5, 2) := by decide +kernel
theorem dX11_read_55 : decode cX11_read 55 = .ok (.aload_n 2, 1) := by decide +kernel
theorem dX11_read_56 : decode cX11_read 56 = .ok (.getfield 227, 3) := by decide +kernel
theorem dX11_read_59 : decode cX11_read 59 = .ok (.iload 4, 2) := by decide +kernel
theorem dX11_read_61 : decode cX11_read 61 = .ok (.iconst 1, 1) := by decide +kernel
theorem dX11_read_62 : decode cX11_read 62 = .ok (.iadd, 1) := by decide +kernel
theorem dX11_read_63 : decode cX11_read 63 = .ok (.iaload, 1) := by decide +kernel
theorem dX11_read_64 : decode cX11_read 64 = .ok (.istore 6, 2) := by decide +kernel
theorem dX11_read_66 : decode cX11_read 66 = .ok (.iload 5, 2) := by decide +kernel
theorem dX11_read_68 : decode cX11_read 68 = .ok (.iload 6, 2) := by decide +kernel
theorem dX11_read_70 : decode cX11_read 70 = .ok (.invokestatic 210, 3) := by decide +kernel
theorem dX11_read_73 : decode cX11_read 73 = .ok (.ifCond .eq 36, 3) := by decide +kernel
theorem dX11_read_76 : decode cX11_read 76 = .ok (.aload_n 0, 1) := by decide +kernel
theorem dX11_read_77 : decode cX11_read 77 = .ok (.getfield 62, 3) := by decide +kernel
theorem dX11_read_80 : decode cX11_read 80 = .ok (.invokevirtual 211, 3) := by decide +kernel
theorem dX11_read_83 : decode cX11_read 83 = .ok (.ifCond .eq 6, 3) := by decide +kernel
theorem dX11_read_86 : decode cX11_read 86 = .ok (.goto 23, 3) := by decide +kernel
theorem dX11_read_89 : decode cX11_read 89 = .ok (.aload_n 0, 1) := by decide +kernel
theorem dX11_read_90 : decode cX11_read 90 = .ok (.getfield 62, 3) := by decide +kernel
theorem dX11_read_93 : decode cX11_read 93 = .ok (.iload 5, 2) := by decide +kernel
theorem dX11_read_95 : decode cX11_read 95 = .ok (.iload 6, 2) := by decide +kernel
theorem dX11_read_97 : decode cX11_read 97 = .ok (.invokevirtual 212, 3) := by decide +kernel
theorem dX11_read_100 : decode cX11_read 100 = .ok (.iinc 3 1, 3) := by decide +kernel
theorem dX11_read_103 : decode cX11_read 103 = .ok (.iinc 4 2, 3) := by decide +kernel
theorem dX11_read_106 : decode cX11_read 106 = .ok (.goto (-71), 3) := by decide +kernel
theorem dX11_read_109 : decode cX11_read 109 = .ok (.iload_n 3, 1) := by decide +kernel
theorem dX11_read_110 : decode cX11_read 110 = .ok (.ireturn, 1) := by decide +kernel
theorem dX11_bribes_0 : decode cX11_bribes 0 = .ok (.iconst 0, 1) := by decide +kernel
theorem dX11_bribes_1 : decode cX11_bribes 1 = .ok (.istore_n 1, 1) := by decide +kernel
theorem dX11_bribes_2 : decode cX11_bribes 2 = .ok (.iconst 0, 1) := by decide +kernel
theorem dX11_bribes_3 : decode cX11_bribes 3 = .ok (.istore_n 2, 1) := by decide +kernel
theorem dX11_bribes_4 : decode cX11_bribes 4 = .ok (.iload_n 2, 1) := by decide +kernel
theorem dX11_bribes_5 : decode cX11_bribes 5 = .ok (.bipush 10, 2) := by decide +kernel
theorem dX11_bribes_7 : decode cX11_bribes 7 = .ok (.if_icmp .ge 34, 3) := by decide +kernel
theorem dX11_bribes_10 : decode cX11_bribes 10 = .ok (.aload_n 0, 1) := by decide +kernel
theorem dX11_bribes_11 : decode cX11_bribes 11 = .ok (.iload_n 2, 1) := by decide +kernel
theorem dX11_bribes_12 : decode cX11_bribes 12 = .ok (.invokevirtual 198, 3) := by decide +kernel
theorem dX11_bribes_15 : decode cX11_bribes 15 = .ok (.aload_n 0, 1) := by decide +kernel
theorem dX11_bribes_16 : decode cX11_bribes 16 = .ok (.getfield 62, 3) := by decide +kernel
theorem dX11_bribes_19 : decode cX11_bribes 19 = .ok (.aload_n 0, 1) := by decide +kernel
theorem dX11_bribes_20 : decode cX11_bribes 20 = .ok (.getfield 49, 3) := by decide +kernel
theorem dX11_bribes_23 : decode cX11_bribes 23 = .ok (.invokevirtual 228, 3) := by decide +kernel
theorem dX11_bribes_26 : decode cX11_bribes 26 = .ok (.ifCond .eq 9, 3) := by decide +kernel
theorem dX11_bribes_29 : decode cX11_bribes 29 = .ok (.iload_n 1, 1) := by decide +kernel
theorem dX11_bribes_30 : decode cX11_bribes 30 = .ok (.iconst 1, 1) := by decide +kernel
theorem dX11_bribes_31 : decode cX11_bribes 31 = .ok (.iload_n 2, 1) := by decide +kernel
theorem dX11_bribes_32 : decode cX11_bribes 32 = .ok (.ishl, 1) := by decide +kernel
theorem dX11_bribes_33 : decode cX11_bribes 33 = .ok (.ior, 1) := by decide +kernel
theorem dX11_bribes_34 : decode cX11_bribes 34 = .ok (.istore_n 1, 1) := by decide +kernel
theorem dX11_bribes_35 : decode cX11_bribes 35 = .ok (.iinc 2 1, 3) := by decide +kernel
theorem dX11_bribes_38 : decode cX11_bribes 38 = .ok (.goto (-34), 3) := by decide +kernel
theorem dX11_bribes_41 : decode cX11_bribes 41 = .ok (.iload_n 1, 1) := by decide +kernel
theorem dX11_bribes_42 : decode cX11_bribes 42 = .ok (.ireturn, 1) := by decide +kernel
theorem dX11_kinds_0 : decode cX11_kinds 0 = .ok (.aload_n 0, 1) := by decide +kernel
theorem dX11_kinds_1 : decode cX11_kinds 1 = .ok (.getfield 24, 3) := by decide +kernel
theorem dX11_kinds_4 : decode cX11_kinds 4 = .ok (.iload_n 1, 1) := by decide +kernel
theorem dX11_kinds_5 : decode cX11_kinds 5 = .ok (.invokevirtual 113, 3) := by decide +kernel
theorem dX11_kinds_8 : decode cX11_kinds 8 = .ok (.ifCond .ne 6, 3) := by decide +kernel
theorem dX11_kinds_11 : decode cX11_kinds 11 = .ok (.bipush (-2), 2) := by decide +kernel
theorem dX11_kinds_13 : decode cX11_kinds 13 = .ok (.ireturn, 1) := by decide +kernel
theorem dX11_kinds_14 : decode cX11_kinds 14 = .ok (.aload_n 0, 1) := by decide +kernel
theorem dX11_kinds_15 : decode cX11_kinds 15 = .ok (.getfield 24, 3) := by decide +kernel
theorem dX11_kinds_18 : decode cX11_kinds 18 = .ok (.iload_n 1, 1) := by decide +kernel
theorem dX11_kinds_19 : decode cX11_kinds 19 = .ok (.iconst 0, 1) := by decide +kernel
theorem dX11_kinds_20 : decode cX11_kinds 20 = .ok (.invokevirtual 116, 3) := by decide +kernel
theorem dX11_kinds_23 : decode cX11_kinds 23 = .ok (.istore_n 2, 1) := by decide +kernel
theorem dX11_kinds_24 : decode cX11_kinds 24 = .ok (.iconst 0, 1) := by decide +kernel
theorem dX11_kinds_25 : decode cX11_kinds 25 = .ok (.istore_n 3, 1) := by decide +kernel
theorem dX11_kinds_26 : decode cX11_kinds 26 = .ok (.iconst 0, 1) := by decide +kernel
theorem dX11_kinds_27 : decode cX11_kinds 27 = .ok (.istore 4, 2) := by decide +kernel
theorem dX11_kinds_29 : decode cX11_kinds 29 = .ok (.iload 4, 2) := by decide +kernel
theorem dX11_kinds_31 : decode cX11_kinds 31 = .ok (.iconst 4, 1) := by decide +kernel
theorem dX11_kinds_32 : decode cX11_kinds 32 = .ok (.if_icmp .ge 51, 3) := by decide +kernel
theorem dX11_kinds_35 : decode cX11_kinds 35 = .ok (.aload_n 0, 1) := by decide +kernel
theorem dX11_kinds_36 : decode cX11_kinds 36 = .ok (.getfield 24, 3) := by decide +kernel
theorem dX11_kinds_39 : decode cX11_kinds 39 = .ok (.iload_n 1, 1) := by decide +kernel
theorem dX11_kinds_40 : decode cX11_kinds 40 = .ok (.iload 4, 2) := by decide +kernel
theorem dX11_kinds_42 : decode cX11_kinds 42 = .ok (.invokevirtual 232, 3) := by decide +kernel
theorem dX11_kinds_45 : decode cX11_kinds 45 = .ok (.aload_n 0, 1) := by decide +kernel
theorem dX11_kinds_46 : decode cX11_kinds 46 = .ok (.aload_n 0, 1) := by decide +kernel
theorem dX11_kinds_47 : decode cX11_kinds 47 = .ok (.getfield 38, 3) := by decide +kernel
theorem dX11_kinds_50 : decode cX11_kinds 50 = .ok (.getfield 201, 3) := by decide +kernel
theorem dX11_kinds_53 : decode cX11_kinds 53 = .ok (.invokevirtual 198, 3) := by decide +kernel
theorem dX11_kinds_56 : decode cX11_kinds 56 = .ok (.aload_n 0, 1) := by decide +kernel
theorem dX11_kinds_57 : decode cX11_kinds 57 = .ok (.getfield 62, 3) := by decide +kernel
theorem dX11_kinds_60 : decode cX11_kinds 60 = .ok (.aload_n 0, 1) := by decide +kernel
theorem dX11_kinds_61 : decode cX11_kinds 61 = .ok (.getfield 49, 3) := by decide +kernel
theorem dX11_kinds_64 : decode cX11_kinds 64 = .ok (.invokevirtual 228, 3) := by decide +kernel
theorem dX11_kinds_67 : decode cX11_kinds 67 = .ok (.ifCond .eq 10, 3) := by decide +kernel
theorem dX11_kinds_70 : decode cX11_kinds 70 = .ok (.iload_n 3, 1) := by decide +kernel
theorem dX11_kinds_71 : decode cX11_kinds 71 = .ok (.iconst 1, 1) := by decide +kernel
theorem dX11_kinds_72 : decode cX11_kinds 72 = .ok (.iload 4, 2) := by decide +kernel
theorem dX11_kinds_74 : decode cX11_kinds 74 = .ok (.ishl, 1) := by decide +kernel
theorem dX11_kinds_75 : decode cX11_kinds 75 = .ok (.ior, 1) := by decide +kernel
theorem dX11_kinds_76 : decode cX11_kinds 76 = .ok (.istore_n 3, 1) := by decide +kernel
theorem dX11_kinds_77 : decode cX11_kinds 77 = .ok (.iinc 4 1, 3) := by decide +kernel
theorem dX11_kinds_80 : decode cX11_kinds 80 = .ok (.goto (-51), 3) := by decide +kernel
theorem dX11_kinds_83 : decode cX11_kinds 83 = .ok (.aload_n 0, 1) := by decide +kernel
theorem dX11_kinds_84 : decode cX11_kinds 84 = .ok (.getfield 24, 3) := by decide +kernel
theorem dX11_kinds_87 : decode cX11_kinds 87 = .ok (.iload_n 1, 1) := by decide +kernel
theorem dX11_kinds_88 : decode cX11_kinds 88 = .ok (.iload_n 2, 1) := by decide +kernel
theorem dX11_kinds_89 : decode cX11_kinds 89 = .ok (.invokevirtual 232, 3) := by decide +kernel
theorem dX11_kinds_92 : decode cX11_kinds 92 = .ok (.iload_n 3, 1) := by decide +kernel
theorem dX11_kinds_93 : decode cX11_kinds 93 = .ok (.ireturn, 1) := by decide +kernel
theorem dX11_ask_0 : decode cX11_ask 0 = .ok (.aload_n 0, 1) := by decide +kernel
theorem dX11_ask_1 : decode cX11_ask 1 = .ok (.invokevirtual 235, 3) := by decide +kernel
theorem dX11_ask_4 : decode cX11_ask 4 = .ok (.iconst (-1), 1) := by decide +kernel
theorem dX11_ask_5 : decode cX11_ask 5 = .ok (.istore_n 1, 1) := by decide +kernel
theorem dX11_ask_6 : decode cX11_ask 6 = .ok (.bipush 11, 2) := by decide +kernel
theorem dX11_ask_8 : decode cX11_ask 8 = .ok (.istore_n 2, 1) := by decide +kernel
theorem dX11_ask_9 : decode cX11_ask 9 = .ok (.iconst 0, 1) := by decide +kernel
theorem dX11_ask_10 : decode cX11_ask 10 = .ok (.istore_n 3, 1) := by decide +kernel
theorem dX11_ask_11 : decode cX11_ask 11 = .ok (.iload_n 3, 1) := by decide +kernel
theorem dX11_ask_12 : decode cX11_ask 12 = .ok (.aload_n 0, 1) := by decide +kernel
theorem dX11_ask_13 : decode cX11_ask 13 = .ok (.getfield 24, 3) := by decide +kernel
theorem dX11_ask_16 : decode cX11_ask 16 = .ok (.getfield 238, 3) := by decide +kernel
theorem dX11_ask_19 : decode cX11_ask 19 = .ok (.if_icmp .ge 27, 3) := by decide +kernel
theorem dX11_ask_22 : decode cX11_ask 22 = .ok (.aload_n 0, 1) := by decide +kernel
theorem dX11_ask_23 : decode cX11_ask 23 = .ok (.iload_n 3, 1) := by decide +kernel
theorem dX11_ask_24 : decode cX11_ask 24 = .ok (.invokevirtual 239, 3) := by decide +kernel
theorem dX11_ask_27 : decode cX11_ask 27 = .ok (.istore 4, 2) := by decide +kernel
theorem dX11_ask_29 : decode cX11_ask 29 = .ok (.iload 4, 2) := by decide +kernel
theorem dX11_ask_31 : decode cX11_ask 31 = .ok (.iload_n 2, 1) := by decide +kernel
theorem dX11_ask_32 : decode cX11_ask 32 = .ok (.if_icmp .ge 8, 3) := by decide +kernel
theorem dX11_ask_35 : decode cX11_ask 35 = .ok (.iload 4, 2) := by decide +kernel
theorem dX11_ask_37 : decode cX11_ask 37 = .ok (.istore_n 2, 1) := by decide +kernel
theorem dX11_ask_38 : decode cX11_ask 38 = .ok (.iload_n 3, 1) := by decide +kernel
theorem dX11_ask_39 : decode cX11_ask 39 = .ok (.istore_n 1, 1) := by decide +kernel
theorem dX11_ask_40 : decode cX11_ask 40 = .ok (.iinc 3 1, 3) := by decide +kernel
theorem dX11_ask_43 : decode cX11_ask 43 = .ok (.goto (-32), 3) := by decide +kernel
theorem dX11_ask_46 : decode cX11_ask 46 = .ok (.iload_n 1, 1) := by decide +kernel
theorem dX11_ask_47 : decode cX11_ask 47 = .ok (.ireturn, 1) := by decide +kernel
theorem dX11_gaols_0 : decode cX11_gaols 0 = .ok (.iload_n 2, 1) := by decide +kernel
theorem dX11_gaols_1 : decode cX11_gaols 1 = .ok (.iconst 1, 1) := by decide +kernel
theorem dX11_gaols_2 : decode cX11_gaols 2 = .ok (.if_icmp .lt 16, 3) := by decide +kernel
theorem dX11_gaols_5 : decode cX11_gaols 5 = .ok (.iload_n 2, 1) := by decide +kernel
theorem dX11_gaols_6 : decode cX11_gaols 6 = .ok (.bipush 99, 2) := by decide +kernel
theorem dX11_gaols_8 : decode cX11_gaols 8 = .ok (.if_icmp .gt 10, 3) := by decide +kernel
theorem dX11_gaols_11 : decode cX11_gaols 11 = .ok (.iload_n 3, 1) := by decide +kernel
theorem dX11_gaols_12 : decode cX11_gaols 12 = .ok (.invokestatic 135, 3) := by decide +kernel
theorem dX11_gaols_15 : decode cX11_gaols 15 = .ok (.ifCond .ne 6, 3) := by decide +kernel
theorem dX11_gaols_18 : decode cX11_gaols 18 = .ok (.bipush (-2), 2) := by decide +kernel
theorem dX11_gaols_20 : decode cX11_gaols 20 = .ok (.ireturn, 1) := by decide +kernel
theorem dX11_gaols_21 : decode cX11_gaols 21 = .ok (.new 242, 3) := by decide +kernel
theorem dX11_gaols_24 : decode cX11_gaols 24 = .ok (.dup, 1) := by decide +kernel
theorem dX11_gaols_25 : decode cX11_gaols 25 = .ok (.iload_n 1, 1) := by decide +kernel
theorem dX11_gaols_26 : decode cX11_gaols 26 = .ok (.invokespecial 244, 3) := by decide +kernel
theorem dX11_gaols_29 : decode cX11_gaols 29 = .ok (.astore 4, 2) := by decide +kernel
theorem dX11_gaols_31 : decode cX11_gaols 31 = .ok (.iconst 0, 1) := by decide +kernel
theorem dX11_gaols_32 : decode cX11_gaols 32 = .ok (.istore 5, 2) := by decide +kernel
theorem dX11_gaols_34 : decode cX11_gaols 34 = .ok (.iconst 0, 1) := by decide +kernel
theorem dX11_gaols_35 : decode cX11_gaols 35 = .ok (.istore 6, 2) := by decide +kernel
theorem dX11_gaols_37 : decode cX11_gaols 37 = .ok (.iconst 0, 1) := by decide +kernel
theorem dX11_gaols_38 : decode cX11_gaols 38 = .ok (.istore 7, 2) := by decide +kernel
theorem dX11_gaols_40 : decode cX11_gaols 40 = .ok (.iload 7, 2) := by decide +kernel
theorem dX11_gaols_42 : decode cX11_gaols 42 = .ok (.iload_n 2, 1) := by decide +kernel
theorem dX11_gaols_43 : decode cX11_gaols 43 = .ok (.if_icmp .ge 60, 3) := by decide +kernel
theorem dX11_gaols_46 : decode cX11_gaols 46 = .ok (.aload_n 0, 1) := by decide +kernel
theorem dX11_gaols_47 : decode cX11_gaols 47 = .ok (.getfield 45, 3) := by decide +kernel
theorem dX11_gaols_50 : decode cX11_gaols 50 = .ok (.aload 4, 2) := by decide +kernel
theorem dX11_gaols_52 : decode cX11_gaols 52 = .ok (.invokevirtual 245, 3) := by decide +kernel
theorem dX11_gaols_55 : decode cX11_gaols 55 = .ok (.istore 8, 2) := by decide +kernel
theorem dX11_gaols_57 : decode cX11_gaols 57 = .ok (.iload 6, 2) := by decide +kernel
theorem dX11_gaols_59 : decode cX11_gaols 59 = .ok (.aload_n 0, 1) := by decide +kernel
theorem dX11_gaols_60 : decode cX11_gaols 60 = .ok (.getfield 45, 3) := by decide +kernel
theorem dX11_gaols_63 : decode cX11_gaols 63 = .ok (.getfield 249, 3) := by decide +kernel
theorem dX11_gaols_66 : decode cX11_gaols 66 = .ok (.iload 8, 2) := by decide +kernel
theorem dX11_gaols_68 : decode cX11_gaols 68 = .ok (.iaload, 1) := by decide +kernel
theorem dX11_gaols_69 : decode cX11_gaols 69 = .ok (.iadd, 1) := by decide +kernel
theorem dX11_gaols_70 : decode cX11_gaols 70 = .ok (.istore 6, 2) := by decide +kernel
theorem dX11_gaols_72 : decode cX11_gaols 72 = .ok (.iload 8, 2) := by decide +kernel
theorem dX11_gaols_74 : decode cX11_gaols 74 = .ok (.aload_n 0, 1) := by decide +kernel
theorem dX11_gaols_75 : decode cX11_gaols 75 = .ok (.getfield 45, 3) := by decide +kernel
theorem dX11_gaols_78 : decode cX11_gaols 78 = .ok (.getfield 252, 3) := by decide +kernel
theorem dX11_gaols_81 : decode cX11_gaols 81 = .ok (.if_icmp .ne 16, 3) := by decide +kernel
theorem dX11_gaols_84 : decode cX11_gaols 84 = .ok (.aload_n 0, 1) := by decide +kernel
theorem dX11_gaols_85 : decode cX11_gaols 85 = .ok (.getfield 45, 3) := by decide +kernel
theorem dX11_gaols_88 : decode cX11_gaols 88 = .ok (.invokevirtual 253, 3) := by decide +kernel
theorem dX11_gaols_91 : decode cX11_gaols 91 = .ok (.ifCond .eq 6, 3) := by decide +kernel
theorem dX11_gaols_94 : decode cX11_gaols 94 = .ok (.iinc 5 1, 3) := by decide +kernel
theorem dX11_gaols_97 : decode cX11_gaols 97 = .ok (.iinc 7 1, 3) := by decide +kernel
theorem dX11_gaols_100 : decode cX11_gaols 100 = .ok (.goto (-60), 3) := by decide +kernel
theorem dX11_gaols_103 : decode cX11_gaols 103 = .ok (.iload_n 3, 1) := by decide +kernel
theorem dX11_gaols_104 : decode cX11_gaols 104 = .ok (.ifCond .ne 8, 3) := by decide +kernel
theorem dX11_gaols_107 : decode cX11_gaols 107 = .ok (.iload 5, 2) := by decide +kernel
theorem dX11_gaols_109 : decode cX11_gaols 109 = .ok (.goto 5, 3) := by decide +kernel
theorem dX11_gaols_112 : decode cX11_gaols 112 = .ok (.iload 6, 2) := by decide +kernel
theorem dX11_gaols_114 : decode cX11_gaols 114 = .ok (.ireturn, 1) := by decide +kernel
theorem dX11_sheet_0 : decode cX11_sheet 0 = .ok (.iload_n 1, 1) := by decide +kernel
theorem dX11_sheet_1 : decode cX11_sheet 1 = .ok (.invokestatic 216, 3) := by decide +kernel
theorem dX11_sheet_4 : decode cX11_sheet 4 = .ok (.ifCond .eq 16, 3) := by decide +kernel
theorem dX11_sheet_7 : decode cX11_sheet 7 = .ok (.iload_n 2, 1) := by decide +kernel
theorem dX11_sheet_8 : decode cX11_sheet 8 = .ok (.invokestatic 256, 3) := by decide +kernel
theorem dX11_sheet_11 : decode cX11_sheet 11 = .ok (.ifCond .eq 9, 3) := by decide +kernel
theorem dX11_sheet_14 : decode cX11_sheet 14 = .ok (.iload_n 3, 1) := by decide +kernel
theorem dX11_sheet_15 : decode cX11_sheet 15 = .ok (.bipush 60, 2) := by decide +kernel
theorem dX11_sheet_17 : decode cX11_sheet 17 = .ok (.if_icmp .le 6, 3) := by decide +kernel
theorem dX11_sheet_20 : decode cX11_sheet 20 = .ok (.bipush (-2), 2) := by decide +kernel
theorem dX11_sheet_22 : decode cX11_sheet 22 = .ok (.ireturn, 1) := by decide +kernel
theorem dX11_sheet_23 : decode cX11_sheet 23 = .ok (.iload_n 3, 1) := by decide +kernel
theorem dX11_sheet_24 : decode cX11_sheet 24 = .ok (.ifCond .ge 9, 3) := by decide +kernel
theorem dX11_sheet_27 : decode cX11_sheet 27 = .ok (.aload_n 0, 1) := by decide +kernel
theorem dX11_sheet_28 : decode cX11_sheet 28 = .ok (.iconst 5, 1) := by decide +kernel
theorem dX11_sheet_29 : decode cX11_sheet 29 = .ok (.invokevirtual 223, 3) := by decide +kernel
theorem dX11_sheet_32 : decode cX11_sheet 32 = .ok (.ireturn, 1) := by decide +kernel
theorem dX11_sheet_33 : decode cX11_sheet 33 = .ok (.aload_n 0, 1) := by decide +kernel
theorem dX11_sheet_34 : decode cX11_sheet 34 = .ok (.getfield 68, 3) := by decide +kernel
theorem dX11_sheet_37 : decode cX11_sheet 37 = .ok (.iload_n 1, 1) := by decide +kernel
theorem dX11_sheet_38 : decode cX11_sheet 38 = .ok (.aaload, 1) := by decide +kernel
theorem dX11_sheet_39 : decode cX11_sheet 39 = .ok (.iload_n 2, 1) := by decide +kernel
theorem dX11_sheet_40 : decode cX11_sheet 40 = .ok (.iload_n 3, 1) := by decide +kernel
theorem dX11_sheet_41 : decode cX11_sheet 41 = .ok (.invokevirtual 259, 3) := by decide +kernel
theorem dX11_sheet_44 : decode cX11_sheet 44 = .ok (.iload_n 3, 1) := by decide +kernel
theorem dX11_sheet_45 : decode cX11_sheet 45 = .ok (.ireturn, 1) := by decide +kernel
theorem dX11_lose_0 : decode cX11_lose 0 = .ok (.iload_n 1, 1) := by decide +kernel
theorem dX11_lose_1 : decode cX11_lose 1 = .ok (.invokestatic 216, 3) := by decide +kernel
theorem dX11_lose_4 : decode cX11_lose 4 = .ok (.ifCond .ne 6, 3) := by decide +kernel
theorem dX11_lose_7 : decode cX11_lose 7 = .ok (.bipush (-2), 2) := by decide +kernel
theorem dX11_lose_9 : decode cX11_lose 9 = .ok (.ireturn, 1) := by decide +kernel
theorem dX11_lose_10 : decode cX11_lose 10 = .ok (.aload_n 0, 1) := by decide +kernel
theorem dX11_lose_11 : decode cX11_lose 11 = .ok (.getfield 68, 3) := by decide +kernel
theorem dX11_lose_14 : decode cX11_lose 14 = .ok (.iload_n 1, 1) := by decide +kernel
theorem dX11_lose_15 : decode cX11_lose 15 = .ok (.aaload, 1) := by decide +kernel
theorem dX11_lose_16 : decode cX11_lose 16 = .ok (.getfield 219, 3) := by decide +kernel
theorem dX11_lose_19 : decode cX11_lose 19 = .ok (.ifCond .eq 9, 3) := by decide +kernel
theorem dX11_lose_22 : decode cX11_lose 22 = .ok (.aload_n 0, 1) := by decide +kernel
theorem dX11_lose_23 : decode cX11_lose 23 = .ok (.iconst 1, 1) := by decide +kernel
theorem dX11_lose_24 : decode cX11_lose 24 = .ok (.invokevirtual 223, 3) := by decide +kernel
theorem dX11_lose_27 : decode cX11_lose 27 = .ok (.ireturn, 1) := by decide +kernel
theorem dX11_lose_28 : decode cX11_lose 28 = .ok (.aload_n 0, 1) := by decide +kernel
theorem dX11_lose_29 : decode cX11_lose 29 = .ok (.getfield 68, 3) := by decide +kernel
theorem dX11_lose_32 : decode cX11_lose 32 = .ok (.iload_n 1, 1) := by decide +kernel
theorem dX11_lose_33 : decode cX11_lose 33 = .ok (.aaload, 1) := by decide +kernel
theorem dX11_lose_34 : decode cX11_lose 34 = .ok (.iconst 1, 1) := by decide +kernel
theorem dX11_lose_35 : decode cX11_lose 35 = .ok (.putfield 219, 3) := by decide +kernel
theorem dX11_lose_38 : decode cX11_lose 38 = .ok (.aload_n 0, 1) := by decide +kernel
theorem dX11_lose_39 : decode cX11_lose 39 = .ok (.getfield 68, 3) := by decide +kernel
theorem dX11_lose_42 : decode cX11_lose 42 = .ok (.iload_n 1, 1) := by decide +kernel
theorem dX11_lose_43 : decode cX11_lose 43 = .ok (.aaload, 1) := by decide +kernel
theorem dX11_lose_44 : decode cX11_lose 44 = .ok (.getfield 226, 3) := by decide +kernel
theorem dX11_lose_47 : decode cX11_lose 47 = .ok (.ireturn, 1) := by decide +kernel
theorem dX11_lay_0 : decode cX11_lay 0 = .ok (.iload_n 1, 1) := by decide +kernel
theorem dX11_lay_1 : decode cX11_lay 1 = .ok (.invokestatic 216, 3) := by decide +kernel
theorem dX11_lay_4 : decode cX11_lay 4 = .ok (.ifCond .eq 10, 3) := by decide +kernel
theorem dX11_lay_7 : decode cX11_lay 7 = .ok (.iload_n 2, 1) := by decide +kernel
theorem dX11_lay_8 : decode cX11_lay 8 = .ok (.invokestatic 256, 3) := by decide +kernel
theorem dX11_lay_11 : decode cX11_lay 11 = .ok (.ifCond .ne 6, 3) := by decide +kernel
theorem dX11_lay_14 : decode cX11_lay 14 = .ok (.bipush (-2), 2) := by decide +kernel
theorem dX11_lay_16 : decode cX11_lay 16 = .ok (.ireturn, 1) := by decide +kernel
theorem dX11_lay_17 : decode cX11_lay 17 = .ok (.aload_n 0, 1) := by decide +kernel
theorem dX11_lay_18 : decode cX11_lay 18 = .ok (.getfield 68, 3) := by decide +kernel
theorem dX11_lay_21 : decode cX11_lay 21 = .ok (.iload_n 1, 1) := by decide +kernel
theorem dX11_lay_22 : decode cX11_lay 22 = .ok (.aaload, 1) := by decide +kernel
theorem dX11_lay_23 : decode cX11_lay 23 = .ok (.iload_n 2, 1) := by decide +kernel
theorem dX11_lay_24 : decode cX11_lay 24 = .ok (.iload_n 3, 1) := by decide +kernel
theorem dX11_lay_25 : decode cX11_lay 25 = .ok (.invokevirtual 262, 3) := by decide +kernel
theorem dX11_lay_28 : decode cX11_lay 28 = .ok (.istore 5, 2) := by decide +kernel
theorem dX11_lay_30 : decode cX11_lay 30 = .ok (.iload 5, 2) := by decide +kernel
theorem dX11_lay_32 : decode cX11_lay 32 = .ok (.ifCond .eq 10, 3) := by decide +kernel
theorem dX11_lay_35 : decode cX11_lay 35 = .ok (.aload_n 0, 1) := by decide +kernel
theorem dX11_lay_36 : decode cX11_lay 36 = .ok (.iload 5, 2) := by decide +kernel
theorem dX11_lay_38 : decode cX11_lay 38 = .ok (.invokevirtual 223, 3) := by decide +kernel
theorem dX11_lay_41 : decode cX11_lay 41 = .ok (.ireturn, 1) := by decide +kernel
theorem dX11_lay_42 : decode cX11_lay 42 = .ok (.aload_n 0, 1) := by decide +kernel
theorem dX11_lay_43 : decode cX11_lay 43 = .ok (.getfield 68, 3) := by decide +kernel
theorem dX11_lay_46 : decode cX11_lay 46 = .ok (.iload_n 1, 1) := by decide +kernel
theorem dX11_lay_47 : decode cX11_lay 47 = .ok (.aaload, 1) := by decide +kernel
theorem dX11_lay_48 : decode cX11_lay 48 = .ok (.iload_n 3, 1) := by decide +kernel
theorem dX11_lay_49 : decode cX11_lay 49 = .ok (.iload 4, 2) := by decide +kernel
theorem dX11_lay_51 : decode cX11_lay 51 = .ok (.invokevirtual 265, 3) := by decide +kernel
theorem dX11_lay_54 : decode cX11_lay 54 = .ok (.iconst 1, 1) := by decide +kernel
theorem dX11_lay_55 : decode cX11_lay 55 = .ok (.ireturn, 1) := by decide +kernel
theorem dX11_get_0 : decode cX11_get 0 = .ok (.iload_n 1, 1) := by decide +kernel
theorem dX11_get_1 : decode cX11_get 1 = .ok (.invokestatic 216, 3) := by decide +kernel
theorem dX11_get_4 : decode cX11_get 4 = .ok (.ifCond .eq 10, 3) := by decide +kernel
theorem dX11_get_7 : decode cX11_get 7 = .ok (.iload_n 2, 1) := by decide +kernel
theorem dX11_get_8 : decode cX11_get 8 = .ok (.invokestatic 256, 3) := by decide +kernel
theorem dX11_get_11 : decode cX11_get 11 = .ok (.ifCond .ne 7, 3) := by decide +kernel
theorem dX11_get_14 : decode cX11_get 14 = .ok (.ldc_w 268, 3) := by decide +kernel
theorem dX11_get_17 : decode cX11_get 17 = .ok (.ireturn, 1) := by decide +kernel
theorem dX11_get_18 : decode cX11_get 18 = .ok (.aload_n 0, 1) := by decide +kernel
theorem dX11_get_19 : decode cX11_get 19 = .ok (.getfield 68, 3) := by decide +kernel
