theorem dX12_priceNow_47 : decode cX12_priceNow 47 = .ok (.lcmp, 1) := by decide +kernel
theorem dX12_priceNow_48 : decode cX12_priceNow 48 = .ok (.ifCond .le 7, 3) := by decide +kernel
theorem dX12_priceNow_51 : decode cX12_priceNow 51 = .ok (.iconst 1, 1) := by decide +kernel
theorem dX12_priceNow_52 : decode cX12_priceNow 52 = .ok (.goto 4, 3) := by decide +kernel
theorem dX12_priceNow_55 : decode cX12_priceNow 55 = .ok (.iconst 0, 1) := by decide +kernel
theorem dX12_priceNow_56 : decode cX12_priceNow 56 = .ok (.istore 8, 2) := by decide +kernel
theorem dX12_priceNow_58 : decode cX12_priceNow 58 = .ok (.iload 8, 2) := by decide +kernel
theorem dX12_priceNow_60 : decode cX12_priceNow 60 = .ok (.ifCond .eq 8, 3) := by decide +kernel
theorem dX12_priceNow_63 : decode cX12_priceNow 63 = .ok (.iload 5, 2) := by decide +kernel
theorem dX12_priceNow_65 : decode cX12_priceNow 65 = .ok (.goto 4, 3) := by decide +kernel
theorem dX12_priceNow_68 : decode cX12_priceNow 68 = .ok (.iload_n 2, 1) := by decide +kernel
theorem dX12_priceNow_69 : decode cX12_priceNow 69 = .ok (.istore_n 2, 1) := by decide +kernel
theorem dX12_priceNow_70 : decode cX12_priceNow 70 = .ok (.iload 8, 2) := by decide +kernel
theorem dX12_priceNow_72 : decode cX12_priceNow 72 = .ok (.ifCond .eq 8, 3) := by decide +kernel
theorem dX12_priceNow_75 : decode cX12_priceNow 75 = .ok (.lload 6, 2) := by decide +kernel
theorem dX12_priceNow_77 : decode cX12_priceNow 77 = .ok (.goto 4, 3) := by decide +kernel
theorem dX12_priceNow_80 : decode cX12_priceNow 80 = .ok (.lload_n 3, 1) := by decide +kernel
theorem dX12_priceNow_81 : decode cX12_priceNow 81 = .ok (.lstore_n 3, 1) := by decide +kernel
theorem dX12_priceNow_82 : decode cX12_priceNow 82 = .ok (.iinc 5 1, 3) := by decide +kernel
theorem dX12_priceNow_85 : decode cX12_priceNow 85 = .ok (.goto (-71), 3) := by decide +kernel
theorem dX12_priceNow_88 : decode cX12_priceNow 88 = .ok (.aload_n 0, 1) := by decide +kernel
theorem dX12_priceNow_89 : decode cX12_priceNow 89 = .ok (.getfield 34, 3) := by decide +kernel
theorem dX12_priceNow_92 : decode cX12_priceNow 92 = .ok (.iconst 2, 1) := by decide +kernel
theorem dX12_priceNow_93 : decode cX12_priceNow 93 = .ok (.iload_n 1, 1) := by decide +kernel
theorem dX12_priceNow_94 : decode cX12_priceNow 94 = .ok (.iastore, 1) := by decide +kernel
theorem dX12_priceNow_95 : decode cX12_priceNow 95 = .ok (.aload_n 0, 1) := by decide +kernel
theorem dX12_priceNow_96 : decode cX12_priceNow 96 = .ok (.invokevirtual 162, 3) := by decide +kernel
theorem dX12_priceNow_99 : decode cX12_priceNow 99 = .ok (.iload_n 2, 1) := by decide +kernel
theorem dX12_priceNow_100 : decode cX12_priceNow 100 = .ok (.ireturn, 1) := by decide +kernel
theorem dX12_price_0 : decode cX12_price 0 = .ok (.aload_n 0, 1) := by decide +kernel
theorem dX12_price_1 : decode cX12_price 1 = .ok (.invokevirtual 165, 3) := by decide +kernel
theorem dX12_price_4 : decode cX12_price 4 = .ok (.aload_n 0, 1) := by decide +kernel
theorem dX12_price_5 : decode cX12_price 5 = .ok (.invokevirtual 231, 3) := by decide +kernel
theorem dX12_price_8 : decode cX12_price 8 = .ok (.ireturn, 1) := by decide +kernel
theorem dX12_ruleOf_0 : decode cX12_ruleOf 0 = .ok (.aload_n 0, 1) := by decide +kernel
theorem dX12_ruleOf_1 : decode cX12_ruleOf 1 = .ok (.getfield 34, 3) := by decide +kernel
theorem dX12_ruleOf_4 : decode cX12_ruleOf 4 = .ok (.iconst 1, 1) := by decide +kernel
theorem dX12_ruleOf_5 : decode cX12_ruleOf 5 = .ok (.iaload, 1) := by decide +kernel
theorem dX12_ruleOf_6 : decode cX12_ruleOf 6 = .ok (.istore_n 2, 1) := by decide +kernel
theorem dX12_ruleOf_7 : decode cX12_ruleOf 7 = .ok (.iconst (-1), 1) := by decide +kernel
theorem dX12_ruleOf_8 : decode cX12_ruleOf 8 = .ok (.istore_n 3, 1) := by decide +kernel
theorem dX12_ruleOf_9 : decode cX12_ruleOf 9 = .ok (.iconst 1, 1) := by decide +kernel
theorem dX12_ruleOf_10 : decode cX12_ruleOf 10 = .ok (.istore 4, 2) := by decide +kernel
theorem dX12_ruleOf_12 : decode cX12_ruleOf 12 = .ok (.iload 4, 2) := by decide +kernel
theorem dX12_ruleOf_14 : decode cX12_ruleOf 14 = .ok (.bipush 9, 2) := by decide +kernel
theorem dX12_ruleOf_16 : decode cX12_ruleOf 16 = .ok (.if_icmp .ge 41, 3) := by decide +kernel
theorem dX12_ruleOf_19 : decode cX12_ruleOf 19 = .ok (.aload_n 0, 1) := by decide +kernel
theorem dX12_ruleOf_20 : decode cX12_ruleOf 20 = .ok (.getfield 34, 3) := by decide +kernel
theorem dX12_ruleOf_23 : decode cX12_ruleOf 23 = .ok (.iconst 1, 1) := by decide +kernel
theorem dX12_ruleOf_24 : decode cX12_ruleOf 24 = .ok (.iload 4, 2) := by decide +kernel
theorem dX12_ruleOf_26 : decode cX12_ruleOf 26 = .ok (.iastore, 1) := by decide +kernel
theorem dX12_ruleOf_27 : decode cX12_ruleOf 27 = .ok (.aload_n 0, 1) := by decide +kernel
theorem dX12_ruleOf_28 : decode cX12_ruleOf 28 = .ok (.invokevirtual 162, 3) := by decide +kernel
theorem dX12_ruleOf_31 : decode cX12_ruleOf 31 = .ok (.aload_n 0, 1) := by decide +kernel
theorem dX12_ruleOf_32 : decode cX12_ruleOf 32 = .ok (.invokevirtual 188, 3) := by decide +kernel
theorem dX12_ruleOf_35 : decode cX12_ruleOf 35 = .ok (.iload_n 1, 1) := by decide +kernel
theorem dX12_ruleOf_36 : decode cX12_ruleOf 36 = .ok (.i2l, 1) := by decide +kernel
theorem dX12_ruleOf_37 : decode cX12_ruleOf 37 = .ok (.bipush 28, 2) := by decide +kernel
theorem dX12_ruleOf_39 : decode cX12_ruleOf 39 = .ok (.lshl, 1) := by decide +kernel
theorem dX12_ruleOf_40 : decode cX12_ruleOf 40 = .ok (.lcmp, 1) := by decide +kernel
theorem dX12_ruleOf_41 : decode cX12_ruleOf 41 = .ok (.ifCond .lt 8, 3) := by decide +kernel
theorem dX12_ruleOf_44 : decode cX12_ruleOf 44 = .ok (.iload 4, 2) := by decide +kernel
theorem dX12_ruleOf_46 : decode cX12_ruleOf 46 = .ok (.goto 4, 3) := by decide +kernel
theorem dX12_ruleOf_49 : decode cX12_ruleOf 49 = .ok (.iload_n 3, 1) := by decide +kernel
theorem dX12_ruleOf_50 : decode cX12_ruleOf 50 = .ok (.istore_n 3, 1) := by decide +kernel
theorem dX12_ruleOf_51 : decode cX12_ruleOf 51 = .ok (.iinc 4 1, 3) := by decide +kernel
theorem dX12_ruleOf_54 : decode cX12_ruleOf 54 = .ok (.goto (-42), 3) := by decide +kernel
theorem dX12_ruleOf_57 : decode cX12_ruleOf 57 = .ok (.aload_n 0, 1) := by decide +kernel
theorem dX12_ruleOf_58 : decode cX12_ruleOf 58 = .ok (.getfield 34, 3) := by decide +kernel
theorem dX12_ruleOf_61 : decode cX12_ruleOf 61 = .ok (.iconst 1, 1) := by decide +kernel
theorem dX12_ruleOf_62 : decode cX12_ruleOf 62 = .ok (.iload_n 2, 1) := by decide +kernel
theorem dX12_ruleOf_63 : decode cX12_ruleOf 63 = .ok (.iastore, 1) := by decide +kernel
theorem dX12_ruleOf_64 : decode cX12_ruleOf 64 = .ok (.aload_n 0, 1) := by decide +kernel
theorem dX12_ruleOf_65 : decode cX12_ruleOf 65 = .ok (.invokevirtual 162, 3) := by decide +kernel
theorem dX12_ruleOf_68 : decode cX12_ruleOf 68 = .ok (.iload_n 3, 1) := by decide +kernel
theorem dX12_ruleOf_69 : decode cX12_ruleOf 69 = .ok (.ireturn, 1) := by decide +kernel
theorem dX12_rule_0 : decode cX12_rule 0 = .ok (.aload_n 0, 1) := by decide +kernel
theorem dX12_rule_1 : decode cX12_rule 1 = .ok (.invokevirtual 165, 3) := by decide +kernel
theorem dX12_rule_4 : decode cX12_rule 4 = .ok (.iload_n 1, 1) := by decide +kernel
theorem dX12_rule_5 : decode cX12_rule 5 = .ok (.i2l, 1) := by decide +kernel
theorem dX12_rule_6 : decode cX12_rule 6 = .ok (.lconst 0, 1) := by decide +kernel
theorem dX12_rule_7 : decode cX12_rule 7 = .ok (.ldc2_w 204, 3) := by decide +kernel
theorem dX12_rule_10 : decode cX12_rule 10 = .ok (.invokestatic 73, 3) := by decide +kernel
theorem dX12_rule_13 : decode cX12_rule 13 = .ok (.ifCond .eq 11, 3) := by decide +kernel
theorem dX12_rule_16 : decode cX12_rule 16 = .ok (.aload_n 0, 1) := by decide +kernel
theorem dX12_rule_17 : decode cX12_rule 17 = .ok (.iload_n 1, 1) := by decide +kernel
theorem dX12_rule_18 : decode cX12_rule 18 = .ok (.invokevirtual 234, 3) := by decide +kernel
theorem dX12_rule_21 : decode cX12_rule 21 = .ok (.goto 5, 3) := by decide +kernel
theorem dX12_rule_24 : decode cX12_rule 24 = .ok (.bipush (-2), 2) := by decide +kernel
theorem dX12_rule_26 : decode cX12_rule 26 = .ok (.ireturn, 1) := by decide +kernel
theorem dX12_chainOf_0 : decode cX12_chainOf 0 = .ok (.iconst 0, 1) := by decide +kernel
theorem dX12_chainOf_1 : decode cX12_chainOf 1 = .ok (.istore_n 2, 1) := by decide +kernel
theorem dX12_chainOf_2 : decode cX12_chainOf 2 = .ok (.iload_n 1, 1) := by decide +kernel
theorem dX12_chainOf_3 : decode cX12_chainOf 3 = .ok (.istore_n 3, 1) := by decide +kernel
theorem dX12_chainOf_4 : decode cX12_chainOf 4 = .ok (.aload_n 0, 1) := by decide +kernel
theorem dX12_chainOf_5 : decode cX12_chainOf 5 = .ok (.iload_n 3, 1) := by decide +kernel
theorem dX12_chainOf_6 : decode cX12_chainOf 6 = .ok (.invokevirtual 132, 3) := by decide +kernel
theorem dX12_chainOf_9 : decode cX12_chainOf 9 = .ok (.ifCond .eq 49, 3) := by decide +kernel
theorem dX12_chainOf_12 : decode cX12_chainOf 12 = .ok (.iload_n 2, 1) := by decide +kernel
theorem dX12_chainOf_13 : decode cX12_chainOf 13 = .ok (.iload_n 3, 1) := by decide +kernel
theorem dX12_chainOf_14 : decode cX12_chainOf 14 = .ok (.invokestatic 149, 3) := by decide +kernel
theorem dX12_chainOf_17 : decode cX12_chainOf 17 = .ok (.ifCond .ne 41, 3) := by decide +kernel
theorem dX12_chainOf_20 : decode cX12_chainOf 20 = .ok (.iload_n 2, 1) := by decide +kernel
theorem dX12_chainOf_21 : decode cX12_chainOf 21 = .ok (.iconst 1, 1) := by decide +kernel
theorem dX12_chainOf_22 : decode cX12_chainOf 22 = .ok (.iload_n 3, 1) := by decide +kernel
theorem dX12_chainOf_23 : decode cX12_chainOf 23 = .ok (.ishl, 1) := by decide +kernel
theorem dX12_chainOf_24 : decode cX12_chainOf 24 = .ok (.ior, 1) := by decide +kernel
theorem dX12_chainOf_25 : decode cX12_chainOf 25 = .ok (.istore_n 2, 1) := by decide +kernel
theorem dX12_chainOf_26 : decode cX12_chainOf 26 = .ok (.aload_n 0, 1) := by decide +kernel
theorem dX12_chainOf_27 : decode cX12_chainOf 27 = .ok (.getfield 28, 3) := by decide +kernel
theorem dX12_chainOf_30 : decode cX12_chainOf 30 = .ok (.iconst 5, 1) := by decide +kernel
theorem dX12_chainOf_31 : decode cX12_chainOf 31 = .ok (.iload_n 3, 1) := by decide +kernel
theorem dX12_chainOf_32 : decode cX12_chainOf 32 = .ok (.imul, 1) := by decide +kernel
theorem dX12_chainOf_33 : decode cX12_chainOf 33 = .ok (.iconst 3, 1) := by decide +kernel
theorem dX12_chainOf_34 : decode cX12_chainOf 34 = .ok (.iadd, 1) := by decide +kernel
theorem dX12_chainOf_35 : decode cX12_chainOf 35 = .ok (.iaload, 1) := by decide +kernel
theorem dX12_chainOf_36 : decode cX12_chainOf 36 = .ok (.iconst 1, 1) := by decide +kernel
theorem dX12_chainOf_37 : decode cX12_chainOf 37 = .ok (.if_icmp .ne 16, 3) := by decide +kernel
theorem dX12_chainOf_40 : decode cX12_chainOf 40 = .ok (.aload_n 0, 1) := by decide +kernel
theorem dX12_chainOf_41 : decode cX12_chainOf 41 = .ok (.getfield 28, 3) := by decide +kernel
theorem dX12_chainOf_44 : decode cX12_chainOf 44 = .ok (.iconst 5, 1) := by decide +kernel
theorem dX12_chainOf_45 : decode cX12_chainOf 45 = .ok (.iload_n 3, 1) := by decide +kernel
theorem dX12_chainOf_46 : decode cX12_chainOf 46 = .ok (.imul, 1) := by decide +kernel
theorem dX12_chainOf_47 : decode cX12_chainOf 47 = .ok (.iconst 4, 1) := by decide +kernel
theorem dX12_chainOf_48 : decode cX12_chainOf 48 = .ok (.iadd, 1) := by decide +kernel
theorem dX12_chainOf_49 : decode cX12_chainOf 49 = .ok (.iaload, 1) := by decide +kernel
theorem dX12_chainOf_50 : decode cX12_chainOf 50 = .ok (.goto 4, 3) := by decide +kernel
theorem dX12_chainOf_53 : decode cX12_chainOf 53 = .ok (.iconst (-1), 1) := by decide +kernel
theorem dX12_chainOf_54 : decode cX12_chainOf 54 = .ok (.istore_n 3, 1) := by decide +kernel
theorem dX12_chainOf_55 : decode cX12_chainOf 55 = .ok (.goto (-51), 3) := by decide +kernel
theorem dX12_chainOf_58 : decode cX12_chainOf 58 = .ok (.iload_n 2, 1) := by decide +kernel
theorem dX12_chainOf_59 : decode cX12_chainOf 59 = .ok (.ireturn, 1) := by decide +kernel
theorem dX12_chain_0 : decode cX12_chain 0 = .ok (.aload_n 0, 1) := by decide +kernel
theorem dX12_chain_1 : decode cX12_chain 1 = .ok (.invokevirtual 165, 3) := by decide +kernel
theorem dX12_chain_4 : decode cX12_chain 4 = .ok (.aload_n 0, 1) := by decide +kernel
theorem dX12_chain_5 : decode cX12_chain 5 = .ok (.iload_n 1, 1) := by decide +kernel
theorem dX12_chain_6 : decode cX12_chain 6 = .ok (.invokevirtual 132, 3) := by decide +kernel
theorem dX12_chain_9 : decode cX12_chain 9 = .ok (.ifCond .eq 11, 3) := by decide +kernel
theorem dX12_chain_12 : decode cX12_chain 12 = .ok (.aload_n 0, 1) := by decide +kernel
theorem dX12_chain_13 : decode cX12_chain 13 = .ok (.iload_n 1, 1) := by decide +kernel
theorem dX12_chain_14 : decode cX12_chain 14 = .ok (.invokevirtual 237, 3) := by decide +kernel
theorem dX12_chain_17 : decode cX12_chain 17 = .ok (.goto 5, 3) := by decide +kernel
theorem dX12_chain_20 : decode cX12_chain 20 = .ok (.bipush (-2), 2) := by decide +kernel
theorem dX12_chain_22 : decode cX12_chain 22 = .ok (.ireturn, 1) := by decide +kernel
theorem dX12_seen_0 : decode cX12_seen 0 = .ok (.iload_n 1, 1) := by decide +kernel
theorem dX12_seen_1 : decode cX12_seen 1 = .ok (.i2l, 1) := by decide +kernel
theorem dX12_seen_2 : decode cX12_seen 2 = .ok (.lconst 0, 1) := by decide +kernel
theorem dX12_seen_3 : decode cX12_seen 3 = .ok (.ldc2_w 223, 3) := by decide +kernel
theorem dX12_seen_6 : decode cX12_seen 6 = .ok (.invokestatic 73, 3) := by decide +kernel
theorem dX12_seen_9 : decode cX12_seen 9 = .ok (.ifCond .eq 15, 3) := by decide +kernel
theorem dX12_seen_12 : decode cX12_seen 12 = .ok (.iload_n 2, 1) := by decide +kernel
theorem dX12_seen_13 : decode cX12_seen 13 = .ok (.i2l, 1) := by decide +kernel
theorem dX12_seen_14 : decode cX12_seen 14 = .ok (.lconst 0, 1) := by decide +kernel
theorem dX12_seen_15 : decode cX12_seen 15 = .ok (.ldc2_w 135, 3) := by decide +kernel
theorem dX12_seen_18 : decode cX12_seen 18 = .ok (.invokestatic 73, 3) := by decide +kernel
theorem dX12_seen_21 : decode cX12_seen 21 = .ok (.ifCond .ne 6, 3) := by decide +kernel
theorem dX12_seen_24 : decode cX12_seen 24 = .ok (.bipush (-2), 2) := by decide +kernel
theorem dX12_seen_26 : decode cX12_seen 26 = .ok (.ireturn, 1) := by decide +kernel
theorem dX12_seen_27 : decode cX12_seen 27 = .ok (.aload_n 0, 1) := by decide +kernel
theorem dX12_seen_28 : decode cX12_seen 28 = .ok (.getfield 240, 3) := by decide +kernel
theorem dX12_seen_31 : decode cX12_seen 31 = .ok (.bipush 8, 2) := by decide +kernel
theorem dX12_seen_33 : decode cX12_seen 33 = .ok (.if_icmp .ne 6, 3) := by decide +kernel
theorem dX12_seen_36 : decode cX12_seen 36 = .ok (.bipush (-4), 2) := by decide +kernel
theorem dX12_seen_38 : decode cX12_seen 38 = .ok (.ireturn, 1) := by decide +kernel
theorem dX12_seen_39 : decode cX12_seen 39 = .ok (.aload_n 0, 1) := by decide +kernel
theorem dX12_seen_40 : decode cX12_seen 40 = .ok (.getfield 65, 3) := by decide +kernel
theorem dX12_seen_43 : decode cX12_seen 43 = .ok (.iconst 2, 1) := by decide +kernel
theorem dX12_seen_44 : decode cX12_seen 44 = .ok (.aload_n 0, 1) := by decide +kernel
theorem dX12_seen_45 : decode cX12_seen 45 = .ok (.getfield 240, 3) := by decide +kernel
theorem dX12_seen_48 : decode cX12_seen 48 = .ok (.imul, 1) := by decide +kernel
theorem dX12_seen_49 : decode cX12_seen 49 = .ok (.iload_n 1, 1) := by decide +kernel
theorem dX12_seen_50 : decode cX12_seen 50 = .ok (.iastore, 1) := by decide +kernel
theorem dX12_seen_51 : decode cX12_seen 51 = .ok (.aload_n 0, 1) := by decide +kernel
theorem dX12_seen_52 : decode cX12_seen 52 = .ok (.getfield 65, 3) := by decide +kernel
theorem dX12_seen_55 : decode cX12_seen 55 = .ok (.iconst 2, 1) := by decide +kernel
theorem dX12_seen_56 : decode cX12_seen 56 = .ok (.aload_n 0, 1) := by decide +kernel
theorem dX12_seen_57 : decode cX12_seen 57 = .ok (.getfield 240, 3) := by decide +kernel
theorem dX12_seen_60 : decode cX12_seen 60 = .ok (.imul, 1) := by decide +kernel
theorem dX12_seen_61 : decode cX12_seen 61 = .ok (.iconst 1, 1) := by decide +kernel
theorem dX12_seen_62 : decode cX12_seen 62 = .ok (.iadd, 1) := by decide +kernel
theorem dX12_seen_63 : decode cX12_seen 63 = .ok (.iload_n 2, 1) := by decide +kernel
theorem dX12_seen_64 : decode cX12_seen 64 = .ok (.iastore, 1) := by decide +kernel
theorem dX12_seen_65 : decode cX12_seen 65 = .ok (.aload_n 0, 1) := by decide +kernel
theorem dX12_seen_66 : decode cX12_seen 66 = .ok (.dup, 1) := by decide +kernel
theorem dX12_seen_67 : decode cX12_seen 67 = .ok (.getfield 240, 3) := by decide +kernel
theorem dX12_seen_70 : decode cX12_seen 70 = .ok (.iconst 1, 1) := by decide +kernel
theorem dX12_seen_71 : decode cX12_seen 71 = .ok (.iadd, 1) := by decide +kernel
theorem dX12_seen_72 : decode cX12_seen 72 = .ok (.putfield 240, 3) := by decide +kernel
theorem dX12_seen_75 : decode cX12_seen 75 = .ok (.aload_n 0, 1) := by decide +kernel
theorem dX12_seen_76 : decode cX12_seen 76 = .ok (.getfield 240, 3) := by decide +kernel
theorem dX12_seen_79 : decode cX12_seen 79 = .ok (.ireturn, 1) := by decide +kernel
theorem dX12_forget_0 : decode cX12_forget 0 = .ok (.aload_n 0, 1) := by decide +kernel
theorem dX12_forget_1 : decode cX12_forget 1 = .ok (.getfield 240, 3) := by decide +kernel
theorem dX12_forget_4 : decode cX12_forget 4 = .ok (.istore_n 1, 1) := by decide +kernel
theorem dX12_forget_5 : decode cX12_forget 5 = .ok (.aload_n 0, 1) := by decide +kernel
theorem dX12_forget_6 : decode cX12_forget 6 = .ok (.iconst 0, 1) := by decide +kernel
theorem dX12_forget_7 : decode cX12_forget 7 = .ok (.putfield 240, 3) := by decide +kernel
theorem dX12_forget_10 : decode cX12_forget 10 = .ok (.iload_n 1, 1) := by decide +kernel
theorem dX12_forget_11 : decode cX12_forget 11 = .ok (.ireturn, 1) := by decide +kernel
theorem dX12_read_0 : decode cX12_read 0 = .ok (.iload_n 1, 1) := by decide +kernel
theorem dX12_read_1 : decode cX12_read 1 = .ok (.invokestatic 83, 3) := by decide +kernel
theorem dX12_read_4 : decode cX12_read 4 = .ok (.ifCond .ne 6, 3) := by decide +kernel
theorem dX12_read_7 : decode cX12_read 7 = .ok (.bipush (-2), 2) := by decide +kernel
theorem dX12_read_9 : decode cX12_read 9 = .ok (.ireturn, 1) := by decide +kernel
theorem dX12_read_10 : decode cX12_read 10 = .ok (.aload_n 0, 1) := by decide +kernel
theorem dX12_read_11 : decode cX12_read 11 = .ok (.getfield 7, 3) := by decide +kernel
theorem dX12_read_14 : decode cX12_read 14 = .ok (.iload_n 1, 1) := by decide +kernel
theorem dX12_read_15 : decode cX12_read 15 = .ok (.iaload, 1) := by decide +kernel
theorem dX12_read_16 : decode cX12_read 16 = .ok (.ifCond .ge 9, 3) := by decide +kernel
theorem dX12_read_19 : decode cX12_read 19 = .ok (.aload_n 0, 1) := by decide +kernel
theorem dX12_read_20 : decode cX12_read 20 = .ok (.iconst 1, 1) := by decide +kernel
theorem dX12_read_21 : decode cX12_read 21 = .ok (.invokevirtual 89, 3) := by decide +kernel
theorem dX12_read_24 : decode cX12_read 24 = .ok (.ireturn, 1) := by decide +kernel
theorem dX12_read_25 : decode cX12_read 25 = .ok (.iconst 0, 1) := by decide +kernel
theorem dX12_read_26 : decode cX12_read 26 = .ok (.istore_n 2, 1) := by decide +kernel
theorem dX12_read_27 : decode cX12_read 27 = .ok (.iconst 1, 1) := by decide +kernel
theorem dX12_read_28 : decode cX12_read 28 = .ok (.istore_n 3, 1) := by decide +kernel
theorem dX12_read_29 : decode cX12_read 29 = .ok (.iload_n 3, 1) := by decide +kernel
theorem dX12_read_30 : decode cX12_read 30 = .ok (.ifCond .eq 73, 3) := by decide +kernel
theorem dX12_read_33 : decode cX12_read 33 = .ok (.iconst 2, 1) := by decide +kernel
theorem dX12_read_34 : decode cX12_read 34 = .ok (.iload_n 2, 1) := by decide +kernel
theorem dX12_read_35 : decode cX12_read 35 = .ok (.imul, 1) := by decide +kernel
theorem dX12_read_36 : decode cX12_read 36 = .ok (.iconst 2, 1) := by decide +kernel
theorem dX12_read_37 : decode cX12_read 37 = .ok (.iadd, 1) := by decide +kernel
theorem dX12_read_38 : decode cX12_read 38 = .ok (.aload_n 0, 1) := by decide +kernel
theorem dX12_read_39 : decode cX12_read 39 = .ok (.getfield 13, 3) := by decide +kernel
theorem dX12_read_42 : decode cX12_read 42 = .ok (.iload_n 1, 1) := by decide +kernel
theorem dX12_read_43 : decode cX12_read 43 = .ok (.iaload, 1) := by decide +kernel
theorem dX12_read_44 : decode cX12_read 44 = .ok (.if_icmp .gt 59, 3) := by decide +kernel
theorem dX12_read_47 : decode cX12_read 47 = .ok (.aload_n 0, 1) := by decide +kernel
theorem dX12_read_48 : decode cX12_read 48 = .ok (.aload_n 0, 1) := by decide +kernel
theorem dX12_read_49 : decode cX12_read 49 = .ok (.getfield 16, 3) := by decide +kernel
theorem dX12_read_52 : decode cX12_read 52 = .ok (.bipush 60, 2) := by decide +kernel
theorem dX12_read_54 : decode cX12_read 54 = .ok (.iload_n 1, 1) := by decide +kernel
theorem dX12_read_55 : decode cX12_read 55 = .ok (.imul, 1) := by decide +kernel
theorem dX12_read_56 : decode cX12_read 56 = .ok (.iconst 2, 1) := by decide +kernel
theorem dX12_read_57 : decode cX12_read 57 = .ok (.iload_n 2, 1) := by decide +kernel
theorem dX12_read_58 : decode cX12_read 58 = .ok (.imul, 1) := by decide +kernel
theorem dX12_read_59 : decode cX12_read 59 = .ok (.iadd, 1) := by decide +kernel
theorem dX12_read_60 : decode cX12_read 60 = .ok (.iaload, 1) := by decide +kernel
theorem dX12_read_61 : decode cX12_read 61 = .ok (.aload_n 0, 1) := by decide +kernel
theorem dX12_read_62 : decode cX12_read 62 = .ok (.getfield 16, 3) := by decide +kernel
theorem dX12_read_65 : decode cX12_read 65 = .ok (.bipush 60, 2) := by decide +kernel
theorem dX12_read_67 : decode cX12_read 67 = .ok (.iload_n 1, 1) := by decide +kernel
theorem dX12_read_68 : decode cX12_read 68 = .ok (.imul, 1) := by decide +kernel
theorem dX12_read_69 : decode cX12_read 69 = .ok (.iconst 2, 1) := by decide +kernel
theorem dX12_read_70 : decode cX12_read 70 = .ok (.iload_n 2, 1) := by decide +kernel
theorem dX12_read_71 : decode cX12_read 71 = .ok (.imul, 1) := by decide +kernel
theorem dX12_read_72 : decode cX12_read 72 = .ok (.iadd, 1) := by decide +kernel
theorem dX12_read_73 : decode cX12_read 73 = .ok (.iconst 1, 1) := by decide +kernel
theorem dX12_read_74 : decode cX12_read 74 = .ok (.iadd, 1) := by decide +kernel
theorem dX12_read_75 : decode cX12_read 75 = .ok (.iaload, 1) := by decide +kernel
theorem dX12_read_76 : decode cX12_read 76 = .ok (.invokevirtual 243, 3) := by decide +kernel
theorem dX12_read_79 : decode cX12_read 79 = .ok (.ifCond .lt 7, 3) := by decide +kernel
theorem dX12_read_82 : decode cX12_read 82 = .ok (.iconst 1, 1) := by decide +kernel
theorem dX12_read_83 : decode cX12_read 83 = .ok (.goto 4, 3) := by decide +kernel
theorem dX12_read_86 : decode cX12_read 86 = .ok (.iconst 0, 1) := by decide +kernel
theorem dX12_read_87 : decode cX12_read 87 = .ok (.istore_n 3, 1) := by decide +kernel
theorem dX12_read_88 : decode cX12_read 88 = .ok (.iload_n 2, 1) := by decide +kernel
theorem dX12_read_89 : decode cX12_read 89 = .ok (.iload_n 3, 1) := by decide +kernel
theorem dX12_read_90 : decode cX12_read 90 = .ok (.ifCond .eq 7, 3) := by decide +kernel
theorem dX12_read_93 : decode cX12_read 93 = .ok (.iconst 1, 1) := by decide +kernel
theorem dX12_read_94 : decode cX12_read 94 = .ok (.goto 4, 3) := by decide +kernel
theorem dX12_read_97 : decode cX12_read 97 = .ok (.iconst 0, 1) := by decide +kernel
theorem dX12_read_98 : decode cX12_read 98 = .ok (.iadd, 1) := by decide +kernel
theorem dX12_read_99 : decode cX12_read 99 = .ok (.istore_n 2, 1) := by decide +kernel
theorem dX12_read_100 : decode cX12_read 100 = .ok (.goto (-71), 3) := by decide +kernel
theorem dX12_read_103 : decode cX12_read 103 = .ok (.iload_n 2, 1) := by decide +kernel
theorem dX12_read_104 : decode cX12_read 104 = .ok (.ireturn, 1) := by decide +kernel
theorem dX12_isSeen_0 : decode cX12_isSeen 0 = .ok (.aload_n 0, 1) := by decide +kernel
theorem dX12_isSeen_1 : decode cX12_isSeen 1 = .ok (.invokevirtual 162, 3) := by decide +kernel
theorem dX12_isSeen_4 : decode cX12_isSeen 4 = .ok (.iconst 1, 1) := by decide +kernel
theorem dX12_isSeen_5 : decode cX12_isSeen 5 = .ok (.istore_n 1, 1) := by decide +kernel
theorem dX12_isSeen_6 : decode cX12_isSeen 6 = .ok (.iconst 0, 1) := by decide +kernel
theorem dX12_isSeen_7 : decode cX12_isSeen 7 = .ok (.istore_n 2, 1) := by decide +kernel
theorem dX12_isSeen_8 : decode cX12_isSeen 8 = .ok (.iload_n 2, 1) := by decide +kernel
theorem dX12_isSeen_9 : decode cX12_isSeen 9 = .ok (.aload_n 0, 1) := by decide +kernel
theorem dX12_isSeen_10 : decode cX12_isSeen 10 = .ok (.getfield 240, 3) := by decide +kernel
theorem dX12_isSeen_13 : decode cX12_isSeen 13 = .ok (.if_icmp .ge 44, 3) := by decide +kernel
theorem dX12_isSeen_16 : decode cX12_isSeen 16 = .ok (.iload_n 1, 1) := by decide +kernel
theorem dX12_isSeen_17 : decode cX12_isSeen 17 = .ok (.ifCond .eq 32, 3) := by decide +kernel
theorem dX12_isSeen_20 : decode cX12_isSeen 20 = .ok (.aload_n 0, 1) := by decide +kernel
theorem dX12_isSeen_21 : decode cX12_isSeen 21 = .ok (.aload_n 0, 1) := by decide +kernel
theorem dX12_isSeen_22 : decode cX12_isSeen 22 = .ok (.getfield 65, 3) := by decide +kernel
theorem dX12_isSeen_25 : decode cX12_isSeen 25 = .ok (.iconst 2, 1) := by decide +kernel
theorem dX12_isSeen_26 : decode cX12_isSeen 26 = .ok (.iload_n 2, 1) := by decide +kernel
theorem dX12_isSeen_27 : decode cX12_isSeen 27 = .ok (.imul, 1) := by decide +kernel
theorem dX12_isSeen_28 : decode cX12_isSeen 28 = .ok (.iaload, 1) := by decide +kernel
theorem dX12_isSeen_29 : decode cX12_isSeen 29 = .ok (.invokevirtual 201, 3) := by decide +kernel
theorem dX12_isSeen_32 : decode cX12_isSeen 32 = .ok (.aload_n 0, 1) := by decide +kernel
theorem dX12_isSeen_33 : decode cX12_isSeen 33 = .ok (.getfield 65, 3) := by decide +kernel
theorem dX12_isSeen_36 : decode cX12_isSeen 36 = .ok (.iconst 2, 1) := by decide +kernel
theorem dX12_isSeen_37 : decode cX12_isSeen 37 = .ok (.iload_n 2, 1) := by decide +kernel
theorem dX12_isSeen_38 : decode cX12_isSeen 38 = .ok (.imul, 1) := by decide +kernel
theorem dX12_isSeen_39 : decode cX12_isSeen 39 = .ok (.iconst 1, 1) := by decide +kernel
theorem dX12_isSeen_40 : decode cX12_isSeen 40 = .ok (.iadd, 1) := by decide +kernel
theorem dX12_isSeen_41 : decode cX12_isSeen 41 = .ok (.iaload, 1) := by decide +kernel
theorem dX12_isSeen_42 : decode cX12_isSeen 42 = .ok (.if_icmp .ne 7, 3) := by decide +kernel
theorem dX12_isSeen_45 : decode cX12_isSeen 45 = .ok (.iconst 1, 1) := by decide +kernel
theorem dX12_isSeen_46 : decode cX12_isSeen 46 = .ok (.goto 4, 3) := by decide +kernel
theorem dX12_isSeen_49 : decode cX12_isSeen 49 = .ok (.iconst 0, 1) := by decide +kernel
theorem dX12_isSeen_50 : decode cX12_isSeen 50 = .ok (.istore_n 1, 1) := by decide +kernel
theorem dX12_isSeen_51 : decode cX12_isSeen 51 = .ok (.iinc 2 1, 3) := by decide +kernel
theorem dX12_isSeen_54 : decode cX12_isSeen 54 = .ok (.goto (-46), 3) := by decide +kernel
theorem dX12_isSeen_57 : decode cX12_isSeen 57 = .ok (.iload_n 1, 1) := by decide +kernel
theorem dX12_isSeen_58 : decode cX12_isSeen 58 = .ok (.ireturn, 1) := by decide +kernel
theorem dX12_bribesNow_0 : decode cX12_bribesNow 0 = .ok (.aload_n 0, 1) := by decide +kernel
theorem dX12_bribesNow_1 : decode cX12_bribesNow 1 = .ok (.getfield 34, 3) := by decide +kernel
theorem dX12_bribesNow_4 : decode cX12_bribesNow 4 = .ok (.iconst 2, 1) := by decide +kernel
theorem dX12_bribesNow_5 : decode cX12_bribesNow 5 = .ok (.iaload, 1) := by decide +kernel
theorem dX12_bribesNow_6 : decode cX12_bribesNow 6 = .ok (.istore_n 1, 1) := by decide +kernel
theorem dX12_bribesNow_7 : decode cX12_bribesNow 7 = .ok (.iconst 0, 1) := by decide +kernel
theorem dX12_bribesNow_8 : decode cX12_bribesNow 8 = .ok (.istore_n 2, 1) := by decide +kernel
theorem dX12_bribesNow_9 : decode cX12_bribesNow 9 = .ok (.iconst 0, 1) := by decide +kernel
theorem dX12_bribesNow_10 : decode cX12_bribesNow 10 = .ok (.istore_n 3, 1) := by decide +kernel
theorem dX12_bribesNow_11 : decode cX12_bribesNow 11 = .ok (.iload_n 3, 1) := by decide +kernel
theorem dX12_bribesNow_12 : decode cX12_bribesNow 12 = .ok (.bipush 10, 2) := by decide +kernel
theorem dX12_bribesNow_14 : decode cX12_bribesNow 14 = .ok (.if_icmp .ge 33, 3) := by decide +kernel
theorem dX12_bribesNow_17 : decode cX12_bribesNow 17 = .ok (.aload_n 0, 1) := by decide +kernel
theorem dX12_bribesNow_18 : decode cX12_bribesNow 18 = .ok (.getfield 34, 3) := by decide +kernel
theorem dX12_bribesNow_21 : decode cX12_bribesNow 21 = .ok (.iconst 2, 1) := by decide +kernel
theorem dX12_bribesNow_22 : decode cX12_bribesNow 22 = .ok (.iload_n 3, 1) := by decide +kernel
theorem dX12_bribesNow_23 : decode cX12_bribesNow 23 = .ok (.iastore, 1) := by decide +kernel
theorem dX12_bribesNow_24 : decode cX12_bribesNow 24 = .ok (.iload_n 2, 1) := by decide +kernel
theorem dX12_bribesNow_25 : decode cX12_bribesNow 25 = .ok (.aload_n 0, 1) := by decide +kernel
theorem dX12_bribesNow_26 : decode cX12_bribesNow 26 = .ok (.invokevirtual 246, 3) := by decide +kernel
theorem dX12_bribesNow_29 : decode cX12_bribesNow 29 = .ok (.ifCond .eq 9, 3) := by decide +kernel
theorem dX12_bribesNow_32 : decode cX12_bribesNow 32 = .ok (.iconst 1, 1) := by decide +kernel
theorem dX12_bribesNow_33 : decode cX12_bribesNow 33 = .ok (.iload_n 3, 1) := by decide +kernel
theorem dX12_bribesNow_34 : decode cX12_bribesNow 34 = .ok (.ishl, 1) := by decide +kernel
theorem dX12_bribesNow_35 : decode cX12_bribesNow 35 = .ok (.goto 4, 3) := by decide +kernel
theorem dX12_bribesNow_38 : decode cX12_bribesNow 38 = .ok (.iconst 0, 1) := by decide +kernel
theorem dX12_bribesNow_39 : decode cX12_bribesNow 39 = .ok (.ior, 1) := by decide +kernel
theorem dX12_bribesNow_40 : decode cX12_bribesNow 40 = .ok (.istore_n 2, 1) := by decide +kernel
theorem dX12_bribesNow_41 : decode cX12_bribesNow 41 = .ok (.iinc 3 1, 3) := by decide +kernel
theorem dX12_bribesNow_44 : decode cX12_bribesNow 44 = .ok (.goto (-33), 3) := by decide +kernel
theorem dX12_bribesNow_47 : decode cX12_bribesNow 47 = .ok (.aload_n 0, 1) := by decide +kernel
theorem dX12_bribesNow_48 : decode cX12_bribesNow 48 = .ok (.getfield 34, 3) := by decide +kernel
theorem dX12_bribesNow_51 : decode cX12_bribesNow 51 = .ok (.iconst 2, 1) := by decide +kernel
theorem dX12_bribesNow_52 : decode cX12_bribesNow 52 = .ok (.iload_n 1, 1) := by decide +kernel
theorem dX12_bribesNow_53 : decode cX12_bribesNow 53 = .ok (.iastore, 1) := by decide +kernel
theorem dX12_bribesNow_54 : decode cX12_bribesNow 54 = .ok (.aload_n 0, 1) := by decide +kernel
theorem dX12_bribesNow_55 : decode cX12_bribesNow 55 = .ok (.invokevirtual 162, 3) := by decide +kernel
theorem dX12_bribesNow_58 : decode cX12_bribesNow 58 = .ok (.iload_n 2, 1) := by decide +kernel
theorem dX12_bribesNow_59 : decode cX12_bribesNow 59 = .ok (.ireturn, 1) := by decide +kernel
theorem dX12_bribes_0 : decode cX12_bribes 0 = .ok (.aload_n 0, 1) := by decide +kernel
theorem dX12_bribes_1 : decode cX12_bribes 1 = .ok (.invokevirtual 165, 3) := by decide +kernel
theorem dX12_bribes_4 : decode cX12_bribes 4 = .ok (.aload_n 0, 1) := by decide +kernel
theorem dX12_bribes_5 : decode cX12_bribes 5 = .ok (.invokevirtual 250, 3) := by decide +kernel
theorem dX12_bribes_8 : decode cX12_bribes 8 = .ok (.ireturn, 1) := by decide +kernel
theorem dX12_kindsOf_0 : decode cX12_kindsOf 0 = .ok (.aload_n 0, 1) := by decide +kernel
theorem dX12_kindsOf_1 : decode cX12_kindsOf 1 = .ok (.getfield 28, 3) := by decide +kernel
theorem dX12_kindsOf_4 : decode cX12_kindsOf 4 = .ok (.iconst 5, 1) := by decide +kernel
theorem dX12_kindsOf_5 : decode cX12_kindsOf 5 = .ok (.iload_n 1, 1) := by decide +kernel
theorem dX12_kindsOf_6 : decode cX12_kindsOf 6 = .ok (.imul, 1) := by decide +kernel
theorem dX12_kindsOf_7 : decode cX12_kindsOf 7 = .ok (.iaload, 1) := by decide +kernel
theorem dX12_kindsOf_8 : decode cX12_kindsOf 8 = .ok (.istore_n 2, 1) := by decide +kernel
theorem dX12_kindsOf_9 : decode cX12_kindsOf 9 = .ok (.iconst 0, 1) := by decide +kernel
theorem dX12_kindsOf_10 : decode cX12_kindsOf 10 = .ok (.istore_n 3, 1) := by decide +kernel
theorem dX12_kindsOf_11 : decode cX12_kindsOf 11 = .ok (.iconst 0, 1) := by decide +kernel
theorem dX12_kindsOf_12 : decode cX12_kindsOf 12 = .ok (.istore 4, 2) := by decide +kernel
theorem dX12_kindsOf_14 : decode cX12_kindsOf 14 = .ok (.iload 4, 2) := by decide +kernel
theorem dX12_kindsOf_16 : decode cX12_kindsOf 16 = .ok (.iconst 4, 1) := by decide +kernel
theorem dX12_kindsOf_17 : decode cX12_kindsOf 17 = .ok (.if_icmp .ge 37, 3) := by decide +kernel
theorem dX12_kindsOf_20 : decode cX12_kindsOf 20 = .ok (.aload_n 0, 1) := by decide +kernel
theorem dX12_kindsOf_21 : decode cX12_kindsOf 21 = .ok (.getfield 28, 3) := by decide +kernel
theorem dX12_kindsOf_24 : decode cX12_kindsOf 24 = .ok (.iconst 5, 1) := by decide +kernel
theorem dX12_kindsOf_25 : decode cX12_kindsOf 25 = .ok (.iload_n 1, 1) := by decide +kernel
theorem dX12_kindsOf_26 : decode cX12_kindsOf 26 = .ok (.imul, 1) := by decide +kernel
theorem dX12_kindsOf_27 : decode cX12_kindsOf 27 = .ok (.iload 4, 2) := by decide +kernel
theorem dX12_kindsOf_29 : decode cX12_kindsOf 29 = .ok (.iastore, 1) := by decide +kernel
theorem dX12_kindsOf_30 : decode cX12_kindsOf 30 = .ok (.iload_n 3, 1) := by decide +kernel
theorem dX12_kindsOf_31 : decode cX12_kindsOf 31 = .ok (.aload_n 0, 1) := by decide +kernel
theorem dX12_kindsOf_32 : decode cX12_kindsOf 32 = .ok (.invokevirtual 246, 3) := by decide +kernel
theorem dX12_kindsOf_35 : decode cX12_kindsOf 35 = .ok (.ifCond .eq 10, 3) := by decide +kernel
theorem dX12_kindsOf_38 : decode cX12_kindsOf 38 = .ok (.iconst 1, 1) := by decide +kernel
theorem dX12_kindsOf_39 : decode cX12_kindsOf 39 = .ok (.iload 4, 2) := by decide +kernel
theorem dX12_kindsOf_41 : decode cX12_kindsOf 41 = .ok (.ishl, 1) := by decide +kernel
theorem dX12_kindsOf_42 : decode cX12_kindsOf 42 = .ok (.goto 4, 3) := by decide +kernel
theorem dX12_kindsOf_45 : decode cX12_kindsOf 45 = .ok (.iconst 0, 1) := by decide +kernel
theorem dX12_kindsOf_46 : decode cX12_kindsOf 46 = .ok (.ior, 1) := by decide +kernel
theorem dX12_kindsOf_47 : decode cX12_kindsOf 47 = .ok (.istore_n 3, 1) := by decide +kernel
theorem dX12_kindsOf_48 : decode cX12_kindsOf 48 = .ok (.iinc 4 1, 3) := by decide +kernel
theorem dX12_kindsOf_51 : decode cX12_kindsOf 51 = .ok (.goto (-37), 3) := by decide +kernel
theorem dX12_kindsOf_54 : decode cX12_kindsOf 54 = .ok (.aload_n 0, 1) := by decide +kernel
theorem dX12_kindsOf_55 : decode cX12_kindsOf 55 = .ok (.getfield 28, 3) := by decide +kernel
theorem dX12_kindsOf_58 : decode cX12_kindsOf 58 = .ok (.iconst 5, 1) := by decide +kernel
theorem dX12_kindsOf_59 : decode cX12_kindsOf 59 = .ok (.iload_n 1, 1) := by decide +kernel
theorem dX12_kindsOf_60 : decode cX12_kindsOf 60 = .ok (.imul, 1) := by decide +kernel
theorem dX12_kindsOf_61 : decode cX12_kindsOf 61 = .ok (.iload_n 2, 1) := by decide +kernel
theorem dX12_kindsOf_62 : decode cX12_kindsOf 62 = .ok (.iastore, 1) := by decide +kernel
theorem dX12_kindsOf_63 : decode cX12_kindsOf 63 = .ok (.aload_n 0, 1) := by decide +kernel
theorem dX12_kindsOf_64 : decode cX12_kindsOf 64 = .ok (.invokevirtual 162, 3) := by decide +kernel
theorem dX12_kindsOf_67 : decode cX12_kindsOf 67 = .ok (.iload_n 3, 1) := by decide +kernel
theorem dX12_kindsOf_68 : decode cX12_kindsOf 68 = .ok (.ireturn, 1) := by decide +kernel
theorem dX12_kinds_0 : decode cX12_kinds 0 = .ok (.aload_n 0, 1) := by decide +kernel
theorem dX12_kinds_1 : decode cX12_kinds 1 = .ok (.invokevirtual 165, 3) := by decide +kernel
theorem dX12_kinds_4 : decode cX12_kinds 4 = .ok (.aload_n 0, 1) := by decide +kernel
theorem dX12_kinds_5 : decode cX12_kinds 5 = .ok (.iload_n 1, 1) := by decide +kernel
theorem dX12_kinds_6 : decode cX12_kinds 6 = .ok (.invokevirtual 132, 3) := by decide +kernel
theorem dX12_kinds_9 : decode cX12_kinds 9 = .ok (.ifCond .eq 11, 3) := by decide +kernel
theorem dX12_kinds_12 : decode cX12_kinds 12 = .ok (.aload_n 0, 1) := by decide +kernel
theorem dX12_kinds_13 : decode cX12_kinds 13 = .ok (.iload_n 1, 1) := by decide +kernel
theorem dX12_kinds_14 : decode cX12_kinds 14 = .ok (.invokevirtual 253, 3) := by decide +kernel
theorem dX12_kinds_17 : decode cX12_kinds 17 = .ok (.goto 5, 3) := by decide +kernel
theorem dX12_kinds_20 : decode cX12_kinds 20 = .ok (.bipush (-2), 2) := by decide +kernel
theorem dX12_kinds_22 : decode cX12_kinds 22 = .ok (.ireturn, 1) := by decide +kernel
theorem dX12_askNow_0 : decode cX12_askNow 0 = .ok (.aload_n 0, 1) := by decide +kernel
theorem dX12_askNow_1 : decode cX12_askNow 1 = .ok (.invokevirtual 250, 3) := by decide +kernel
theorem dX12_askNow_4 : decode cX12_askNow 4 = .ok (.istore_n 1, 1) := by decide +kernel
theorem dX12_askNow_5 : decode cX12_askNow 5 = .ok (.aload_n 0, 1) := by decide +kernel
theorem dX12_askNow_6 : decode cX12_askNow 6 = .ok (.getfield 34, 3) := by decide +kernel
theorem dX12_askNow_9 : decode cX12_askNow 9 = .ok (.iconst 2, 1) := by decide +kernel
theorem dX12_askNow_10 : decode cX12_askNow 10 = .ok (.iaload, 1) := by decide +kernel
theorem dX12_askNow_11 : decode cX12_askNow 11 = .ok (.istore_n 2, 1) := by decide +kernel
theorem dX12_askNow_12 : decode cX12_askNow 12 = .ok (.iconst 0, 1) := by decide +kernel
theorem dX12_askNow_13 : decode cX12_askNow 13 = .ok (.istore_n 3, 1) := by decide +kernel
theorem dX12_askNow_14 : decode cX12_askNow 14 = .ok (.iload_n 3, 1) := by decide +kernel
theorem dX12_askNow_15 : decode cX12_askNow 15 = .ok (.bipush 48, 2) := by decide +kernel
theorem dX12_askNow_17 : decode cX12_askNow 17 = .ok (.if_icmp .ge 16, 3) := by decide +kernel
theorem dX12_askNow_20 : decode cX12_askNow 20 = .ok (.aload_n 0, 1) := by decide +kernel
theorem dX12_askNow_21 : decode cX12_askNow 21 = .ok (.getfield 68, 3) := by decide +kernel
theorem dX12_askNow_24 : decode cX12_askNow 24 = .ok (.iload_n 3, 1) := by decide +kernel
theorem dX12_askNow_25 : decode cX12_askNow 25 = .ok (.iconst 0, 1) := by decide +kernel
theorem dX12_askNow_26 : decode cX12_askNow 26 = .ok (.iastore, 1) := by decide +kernel
theorem dX12_askNow_27 : decode cX12_askNow 27 = .ok (.iinc 3 1, 3) := by decide +kernel
theorem dX12_askNow_30 : decode cX12_askNow 30 = .ok (.goto (-16), 3) := by decide +kernel
theorem dX12_askNow_33 : decode cX12_askNow 33 = .ok (.iconst 0, 1) := by decide +kernel
theorem dX12_askNow_34 : decode cX12_askNow 34 = .ok (.istore_n 3, 1) := by decide +kernel
theorem dX12_askNow_35 : decode cX12_askNow 35 = .ok (.iload_n 3, 1) := by decide +kernel
theorem dX12_askNow_36 : decode cX12_askNow 36 = .ok (.bipush 10, 2) := by decide +kernel
theorem dX12_askNow_38 : decode cX12_askNow 38 = .ok (.if_icmp .ge 69, 3) := by decide +kernel
theorem dX12_askNow_41 : decode cX12_askNow 41 = .ok (.iload_n 1, 1) := by decide +kernel
theorem dX12_askNow_42 : decode cX12_askNow 42 = .ok (.iload_n 3, 1) := by decide +kernel
theorem dX12_askNow_43 : decode cX12_askNow 43 = .ok (.invokestatic 149, 3) := by decide +kernel
theorem dX12_askNow_46 : decode cX12_askNow 46 = .ok (.ifCond .eq 55, 3) := by decide +kernel
theorem dX12_askNow_49 : decode cX12_askNow 49 = .ok (.aload_n 0, 1) := by decide +kernel
theorem dX12_askNow_50 : decode cX12_askNow 50 = .ok (.getfield 34, 3) := by decide +kernel
theorem dX12_askNow_53 : decode cX12_askNow 53 = .ok (.iconst 2, 1) := by decide +kernel
theorem dX12_askNow_54 : decode cX12_askNow 54 = .ok (.iload_n 3, 1) := by decide +kernel
theorem dX12_askNow_55 : decode cX12_askNow 55 = .ok (.iastore, 1) := by decide +kernel
theorem dX12_askNow_56 : decode cX12_askNow 56 = .ok (.aload_n 0, 1) := by decide +kernel
theorem dX12_askNow_57 : decode cX12_askNow 57 = .ok (.invokevirtual 162, 3) := by decide +kernel
theorem dX12_askNow_60 : decode cX12_askNow 60 = .ok (.iconst 0, 1) := by decide +kernel
theorem dX12_askNow_61 : decode cX12_askNow 61 = .ok (.istore 4, 2) := by decide +kernel
theorem dX12_askNow_63 : decode cX12_askNow 63 = .ok (.iload 4, 2) := by decide +kernel
theorem dX12_askNow_65 : decode cX12_askNow 65 = .ok (.aload_n 0, 1) := by decide +kernel
theorem dX12_askNow_66 : decode cX12_askNow 66 = .ok (.getfield 112, 3) := by decide +kernel
theorem dX12_askNow_69 : decode cX12_askNow 69 = .ok (.if_icmp .ge 32, 3) := by decide +kernel
theorem dX12_askNow_72 : decode cX12_askNow 72 = .ok (.aload_n 0, 1) := by decide +kernel
theorem dX12_askNow_73 : decode cX12_askNow 73 = .ok (.getfield 68, 3) := by decide +kernel
theorem dX12_askNow_76 : decode cX12_askNow 76 = .ok (.bipush 6, 2) := by decide +kernel
theorem dX12_askNow_78 : decode cX12_askNow 78 = .ok (.iload 4, 2) := by decide +kernel
theorem dX12_askNow_80 : decode cX12_askNow 80 = .ok (.imul, 1) := by decide +kernel
theorem dX12_askNow_81 : decode cX12_askNow 81 = .ok (.aload_n 0, 1) := by decide +kernel
theorem dX12_askNow_82 : decode cX12_askNow 82 = .ok (.iload 4, 2) := by decide +kernel
theorem dX12_askNow_84 : decode cX12_askNow 84 = .ok (.invokevirtual 201, 3) := by decide +kernel
theorem dX12_askNow_87 : decode cX12_askNow 87 = .ok (.iadd, 1) := by decide +kernel
theorem dX12_askNow_88 : decode cX12_askNow 88 = .ok (.iconst 1, 1) := by decide +kernel
theorem dX12_askNow_89 : decode cX12_askNow 89 = .ok (.iadd, 1) := by decide +kernel
theorem dX12_askNow_90 : decode cX12_askNow 90 = .ok (.dup2, 1) := by decide +kernel
theorem dX12_askNow_91 : decode cX12_askNow 91 = .ok (.iaload, 1) := by decide +kernel
theorem dX12_askNow_92 : decode cX12_askNow 92 = .ok (.iconst 1, 1) := by decide +kernel
theorem dX12_askNow_93 : decode cX12_askNow 93 = .ok (.iadd, 1) := by decide +kernel
theorem dX12_askNow_94 : decode cX12_askNow 94 = .ok (.iastore, 1) := by decide +kernel
theorem dX12_askNow_95 : decode cX12_askNow 95 = .ok (.iinc 4 1, 3) := by decide +kernel
theorem dX12_askNow_98 : decode cX12_askNow 98 = .ok (.goto (-35), 3) := by decide +kernel
theorem dX12_askNow_101 : decode cX12_askNow 101 = .ok (.iinc 3 1, 3) := by decide +kernel
theorem dX12_askNow_104 : decode cX12_askNow 104 = .ok (.goto (-69), 3) := by decide +kernel
theorem dX12_askNow_107 : decode cX12_askNow 107 = .ok (.aload_n 0, 1) := by decide +kernel
theorem dX12_askNow_108 : decode cX12_askNow 108 = .ok (.getfield 34, 3) := by decide +kernel
theorem dX12_askNow_111 : decode cX12_askNow 111 = .ok (.iconst 2, 1) := by decide +kernel
theorem dX12_askNow_112 : decode cX12_askNow 112 = .ok (.iload_n 2, 1) := by decide +kernel
theorem dX12_askNow_113 : decode cX12_askNow 113 = .ok (.iastore, 1) := by decide +kernel
theorem dX12_askNow_114 : decode cX12_askNow 114 = .ok (.aload_n 0, 1) := by decide +kernel
theorem dX12_askNow_115 : decode cX12_askNow 115 = .ok (.invokevirtual 162, 3) := by decide +kernel
theorem dX12_askNow_118 : decode cX12_askNow 118 = .ok (.iconst (-1), 1) := by decide +kernel
theorem dX12_askNow_119 : decode cX12_askNow 119 = .ok (.istore_n 3, 1) := by decide +kernel
theorem dX12_askNow_120 : decode cX12_askNow 120 = .ok (.iconst 0, 1) := by decide +kernel
theorem dX12_askNow_121 : decode cX12_askNow 121 = .ok (.istore 4, 2) := by decide +kernel
theorem dX12_askNow_123 : decode cX12_askNow 123 = .ok (.iconst 0, 1) := by decide +kernel
theorem dX12_askNow_124 : decode cX12_askNow 124 = .ok (.istore 5, 2) := by decide +kernel
theorem dX12_askNow_126 : decode cX12_askNow 126 = .ok (.iload 5, 2) := by decide +kernel
theorem dX12_askNow_128 : decode cX12_askNow 128 = .ok (.aload_n 0, 1) := by decide +kernel
theorem dX12_askNow_129 : decode cX12_askNow 129 = .ok (.getfield 112, 3) := by decide +kernel
theorem dX12_askNow_132 : decode cX12_askNow 132 = .ok (.if_icmp .ge 93, 3) := by decide +kernel
theorem dX12_askNow_135 : decode cX12_askNow 135 = .ok (.iconst 0, 1) := by decide +kernel
theorem dX12_askNow_136 : decode cX12_askNow 136 = .ok (.istore 6, 2) := by decide +kernel
theorem dX12_askNow_138 : decode cX12_askNow 138 = .ok (.iconst 0, 1) := by decide +kernel
theorem dX12_askNow_139 : decode cX12_askNow 139 = .ok (.istore 7, 2) := by decide +kernel
theorem dX12_askNow_141 : decode cX12_askNow 141 = .ok (.iload 7, 2) := by decide +kernel
theorem dX12_askNow_143 : decode cX12_askNow 143 = .ok (.bipush 6, 2) := by decide +kernel
theorem dX12_askNow_145 : decode cX12_askNow 145 = .ok (.if_icmp .ge 29, 3) := by decide +kernel
theorem dX12_askNow_148 : decode cX12_askNow 148 = .ok (.aload_n 0, 1) := by decide +kernel
theorem dX12_askNow_149 : decode cX12_askNow 149 = .ok (.getfield 68, 3) := by decide +kernel
theorem dX12_askNow_152 : decode cX12_askNow 152 = .ok (.bipush 6, 2) := by decide +kernel
theorem dX12_askNow_154 : decode cX12_askNow 154 = .ok (.iload 5, 2) := by decide +kernel
theorem dX12_askNow_156 : decode cX12_askNow 156 = .ok (.imul, 1) := by decide +kernel
theorem dX12_askNow_157 : decode cX12_askNow 157 = .ok (.iload 7, 2) := by decide +kernel
theorem dX12_askNow_159 : decode cX12_askNow 159 = .ok (.iadd, 1) := by decide +kernel
theorem dX12_askNow_160 : decode cX12_askNow 160 = .ok (.iaload, 1) := by decide +kernel
theorem dX12_askNow_161 : decode cX12_askNow 161 = .ok (.iload 6, 2) := by decide +kernel
theorem dX12_askNow_163 : decode cX12_askNow 163 = .ok (.invokestatic 143, 3) := by decide +kernel
theorem dX12_askNow_166 : decode cX12_askNow 166 = .ok (.istore 6, 2) := by decide +kernel
theorem dX12_askNow_168 : decode cX12_askNow 168 = .ok (.iinc 7 1, 3) := by decide +kernel
theorem dX12_askNow_171 : decode cX12_askNow 171 = .ok (.goto (-30), 3) := by decide +kernel
theorem dX12_askNow_174 : decode cX12_askNow 174 = .ok (.iload_n 3, 1) := by decide +kernel
theorem dX12_askNow_175 : decode cX12_askNow 175 = .ok (.iconst (-1), 1) := by decide +kernel
theorem dX12_askNow_176 : decode cX12_askNow 176 = .ok (.if_icmp .eq 10, 3) := by decide +kernel
theorem dX12_askNow_179 : decode cX12_askNow 179 = .ok (.iload 6, 2) := by decide +kernel
theorem dX12_askNow_181 : decode cX12_askNow 181 = .ok (.iload 4, 2) := by decide +kernel
theorem dX12_askNow_183 : decode cX12_askNow 183 = .ok (.if_icmp .ge 7, 3) := by decide +kernel
theorem dX12_askNow_186 : decode cX12_askNow 186 = .ok (.iconst 1, 1) := by decide +kernel
theorem dX12_askNow_187 : decode cX12_askNow 187 = .ok (.goto 4, 3) := by decide +kernel
theorem dX12_askNow_190 : decode cX12_askNow 190 = .ok (.iconst 0, 1) := by decide +kernel
theorem dX12_askNow_191 : decode cX12_askNow 191 = .ok (.istore 7, 2) := by decide +kernel
theorem dX12_askNow_193 : decode cX12_askNow 193 = .ok (.iload 7, 2) := by decide +kernel
theorem dX12_askNow_195 : decode cX12_askNow 195 = .ok (.ifCond .eq 8, 3) := by decide +kernel
theorem dX12_askNow_198 : decode cX12_askNow 198 = .ok (.iload 5, 2) := by decide +kernel
theorem dX12_askNow_200 : decode cX12_askNow 200 = .ok (.goto 4, 3) := by decide +kernel
theorem dX12_askNow_203 : decode cX12_askNow 203 = .ok (.iload_n 3, 1) := by decide +kernel
theorem dX12_askNow_204 : decode cX12_askNow 204 = .ok (.istore_n 3, 1) := by decide +kernel
theorem dX12_askNow_205 : decode cX12_askNow 205 = .ok (.iload 7, 2) := by decide +kernel
theorem dX12_askNow_207 : decode cX12_askNow 207 = .ok (.ifCond .eq 8, 3) := by decide +kernel
theorem dX12_askNow_210 : decode cX12_askNow 210 = .ok (.iload 6, 2) := by decide +kernel
theorem dX12_askNow_212 : decode cX12_askNow 212 = .ok (.goto 5, 3) := by decide +kernel
theorem dX12_askNow_215 : decode cX12_askNow 215 = .ok (.iload 4, 2) := by decide +kernel
theorem dX12_askNow_217 : decode cX12_askNow 217 = .ok (.istore 4, 2) := by decide +kernel
theorem dX12_askNow_219 : decode cX12_askNow 219 = .ok (.iinc 5 1, 3) := by decide +kernel
theorem dX12_askNow_222 : decode cX12_askNow 222 = .ok (.goto (-96), 3) := by decide +kernel
theorem dX12_askNow_225 : decode cX12_askNow 225 = .ok (.iload_n 3, 1) := by decide +kernel
theorem dX12_askNow_226 : decode cX12_askNow 226 = .ok (.ireturn, 1) := by decide +kernel
theorem dX12_ask_0 : decode cX12_ask 0 = .ok (.aload_n 0, 1) := by decide +kernel
theorem dX12_ask_1 : decode cX12_ask 1 = .ok (.invokevirtual 165, 3) := by decide +kernel
theorem dX12_ask_4 : decode cX12_ask 4 = .ok (.aload_n 0, 1) := by decide +kernel
theorem dX12_ask_5 : decode cX12_ask 5 = .ok (.invokevirtual 256, 3) := by decide +kernel
theorem dX12_ask_8 : decode cX12_ask 8 = .ok (.ireturn, 1) := by decide +kernel
theorem dX12_lot_0 : decode cX12_lot 0 = .ok (.aload_n 0, 1) := by decide +kernel
theorem dX12_lot_1 : decode cX12_lot 1 = .ok (.ldc_w 259, 3) := by decide +kernel
theorem dX12_lot_4 : decode cX12_lot 4 = .ok (.aload_n 0, 1) := by decide +kernel
theorem dX12_lot_5 : decode cX12_lot 5 = .ok (.getfield 260, 3) := by decide +kernel
theorem dX12_lot_8 : decode cX12_lot 8 = .ok (.imul, 1) := by decide +kernel
theorem dX12_lot_9 : decode cX12_lot 9 = .ok (.sipush 12345, 3) := by decide +kernel
theorem dX12_lot_12 : decode cX12_lot 12 = .ok (.iadd, 1) := by decide +kernel
theorem dX12_lot_13 : decode cX12_lot 13 = .ok (.putfield 260, 3) := by decide +kernel
theorem dX12_lot_16 : decode cX12_lot 16 = .ok (.aload_n 0, 1) := by decide +kernel
theorem dX12_lot_17 : decode cX12_lot 17 = .ok (.getfield 260, 3) := by decide +kernel
theorem dX12_lot_20 : decode cX12_lot 20 = .ok (.bipush 16, 2) := by decide +kernel
theorem dX12_lot_22 : decode cX12_lot 22 = .ok (.iushr, 1) := by decide +kernel
theorem dX12_lot_23 : decode cX12_lot 23 = .ok (.iload_n 1, 1) := by decide +kernel
theorem dX12_lot_24 : decode cX12_lot 24 = .ok (.irem, 1) := by decide +kernel
theorem dX12_lot_25 : decode cX12_lot 25 = .ok (.ireturn, 1) := by decide +kernel
theorem dX12_gaolsOf_0 : decode cX12_gaolsOf 0 = .ok (.aload_n 0, 1) := by decide +kernel
theorem dX12_gaolsOf_1 : decode cX12_gaolsOf 1 = .ok (.iload_n 1, 1) := by decide +kernel
theorem dX12_gaolsOf_2 : decode cX12_gaolsOf 2 = .ok (.putfield 260, 3) := by decide +kernel
theorem dX12_gaolsOf_5 : decode cX12_gaolsOf 5 = .ok (.iconst 0, 1) := by decide +kernel
theorem dX12_gaolsOf_6 : decode cX12_gaolsOf 6 = .ok (.istore 4, 2) := by decide +kernel
theorem dX12_gaolsOf_8 : decode cX12_gaolsOf 8 = .ok (.iconst 0, 1) := by decide +kernel
theorem dX12_gaolsOf_9 : decode cX12_gaolsOf 9 = .ok (.istore 5, 2) := by decide +kernel
theorem dX12_gaolsOf_11 : decode cX12_gaolsOf 11 = .ok (.iload 5, 2) := by decide +kernel
theorem dX12_gaolsOf_13 : decode cX12_gaolsOf 13 = .ok (.iload_n 2, 1) := by decide +kernel
theorem dX12_gaolsOf_14 : decode cX12_gaolsOf 14 = .ok (.if_icmp .ge 135, 3) := by decide +kernel
theorem dX12_gaolsOf_17 : decode cX12_gaolsOf 17 = .ok (.iconst 1, 1) := by decide +kernel
theorem dX12_gaolsOf_18 : decode cX12_gaolsOf 18 = .ok (.istore 6, 2) := by decide +kernel
theorem dX12_gaolsOf_20 : decode cX12_gaolsOf 20 = .ok (.iconst 0, 1) := by decide +kernel
theorem dX12_gaolsOf_21 : decode cX12_gaolsOf 21 = .ok (.istore 7, 2) := by decide +kernel
theorem dX12_gaolsOf_23 : decode cX12_gaolsOf 23 = .ok (.iload 7, 2) := by decide +kernel
theorem dX12_gaolsOf_25 : decode cX12_gaolsOf 25 = .ok (.aload_n 0, 1) := by decide +kernel
theorem dX12_gaolsOf_26 : decode cX12_gaolsOf 26 = .ok (.getfield 118, 3) := by decide +kernel
theorem dX12_gaolsOf_29 : decode cX12_gaolsOf 29 = .ok (.if_icmp .ge 77, 3) := by decide +kernel
theorem dX12_gaolsOf_32 : decode cX12_gaolsOf 32 = .ok (.iload 6, 2) := by decide +kernel
theorem dX12_gaolsOf_34 : decode cX12_gaolsOf 34 = .ok (.ifCond .eq 72, 3) := by decide +kernel
theorem dX12_gaolsOf_37 : decode cX12_gaolsOf 37 = .ok (.aload_n 0, 1) := by decide +kernel
theorem dX12_gaolsOf_38 : decode cX12_gaolsOf 38 = .ok (.getfield 37, 3) := by decide +kernel
theorem dX12_gaolsOf_41 : decode cX12_gaolsOf 41 = .ok (.iload 7, 2) := by decide +kernel
theorem dX12_gaolsOf_43 : decode cX12_gaolsOf 43 = .ok (.iaload, 1) := by decide +kernel
theorem dX12_gaolsOf_44 : decode cX12_gaolsOf 44 = .ok (.iconst 3, 1) := by decide +kernel
theorem dX12_gaolsOf_45 : decode cX12_gaolsOf 45 = .ok (.if_icmp .ne 19, 3) := by decide +kernel
theorem dX12_gaolsOf_48 : decode cX12_gaolsOf 48 = .ok (.aload_n 0, 1) := by decide +kernel
theorem dX12_gaolsOf_49 : decode cX12_gaolsOf 49 = .ok (.bipush 16, 2) := by decide +kernel
theorem dX12_gaolsOf_51 : decode cX12_gaolsOf 51 = .ok (.invokevirtual 263, 3) := by decide +kernel
theorem dX12_gaolsOf_54 : decode cX12_gaolsOf 54 = .ok (.aload_n 0, 1) := by decide +kernel
theorem dX12_gaolsOf_55 : decode cX12_gaolsOf 55 = .ok (.getfield 40, 3) := by decide +kernel
theorem dX12_gaolsOf_58 : decode cX12_gaolsOf 58 = .ok (.iload 7, 2) := by decide +kernel
theorem dX12_gaolsOf_60 : decode cX12_gaolsOf 60 = .ok (.iaload, 1) := by decide +kernel
theorem dX12_gaolsOf_61 : decode cX12_gaolsOf 61 = .ok (.if_icmp .ge 7, 3) := by decide +kernel
theorem dX12_gaolsOf_64 : decode cX12_gaolsOf 64 = .ok (.iconst 1, 1) := by decide +kernel
theorem dX12_gaolsOf_65 : decode cX12_gaolsOf 65 = .ok (.goto 4, 3) := by decide +kernel
theorem dX12_gaolsOf_68 : decode cX12_gaolsOf 68 = .ok (.iconst 0, 1) := by decide +kernel
theorem dX12_gaolsOf_69 : decode cX12_gaolsOf 69 = .ok (.istore 6, 2) := by decide +kernel
theorem dX12_gaolsOf_71 : decode cX12_gaolsOf 71 = .ok (.iload 4, 2) := by decide +kernel
theorem dX12_gaolsOf_73 : decode cX12_gaolsOf 73 = .ok (.iload_n 3, 1) := by decide +kernel
theorem dX12_gaolsOf_74 : decode cX12_gaolsOf 74 = .ok (.iconst 1, 1) := by decide +kernel
theorem dX12_gaolsOf_75 : decode cX12_gaolsOf 75 = .ok (.if_icmp .ne 21, 3) := by decide +kernel
theorem dX12_gaolsOf_78 : decode cX12_gaolsOf 78 = .ok (.iload 6, 2) := by decide +kernel
theorem dX12_gaolsOf_80 : decode cX12_gaolsOf 80 = .ok (.ifCond .eq 16, 3) := by decide +kernel
theorem dX12_gaolsOf_83 : decode cX12_gaolsOf 83 = .ok (.aload_n 0, 1) := by decide +kernel
theorem dX12_gaolsOf_84 : decode cX12_gaolsOf 84 = .ok (.iload 7, 2) := by decide +kernel
theorem dX12_gaolsOf_86 : decode cX12_gaolsOf 86 = .ok (.invokevirtual 192, 3) := by decide +kernel
theorem dX12_gaolsOf_89 : decode cX12_gaolsOf 89 = .ok (.ifCond .eq 7, 3) := by decide +kernel
