theorem dX12_gaolsOf_92 : decode cX12_gaolsOf 92 = .ok (.iconst 1, 1) := by decide +kernel
theorem dX12_gaolsOf_93 : decode cX12_gaolsOf 93 = .ok (.goto 4, 3) := by decide +kernel
theorem dX12_gaolsOf_96 : decode cX12_gaolsOf 96 = .ok (.iconst 0, 1) := by decide +kernel
theorem dX12_gaolsOf_97 : decode cX12_gaolsOf 97 = .ok (.iadd, 1) := by decide +kernel
theorem dX12_gaolsOf_98 : decode cX12_gaolsOf 98 = .ok (.istore 4, 2) := by decide +kernel
theorem dX12_gaolsOf_100 : decode cX12_gaolsOf 100 = .ok (.iinc 7 1, 3) := by decide +kernel
theorem dX12_gaolsOf_103 : decode cX12_gaolsOf 103 = .ok (.goto (-80), 3) := by decide +kernel
theorem dX12_gaolsOf_106 : decode cX12_gaolsOf 106 = .ok (.iload 4, 2) := by decide +kernel
theorem dX12_gaolsOf_108 : decode cX12_gaolsOf 108 = .ok (.iload_n 3, 1) := by decide +kernel
theorem dX12_gaolsOf_109 : decode cX12_gaolsOf 109 = .ok (.ifCond .ne 30, 3) := by decide +kernel
theorem dX12_gaolsOf_112 : decode cX12_gaolsOf 112 = .ok (.iload 6, 2) := by decide +kernel
theorem dX12_gaolsOf_114 : decode cX12_gaolsOf 114 = .ok (.ifCond .eq 25, 3) := by decide +kernel
theorem dX12_gaolsOf_117 : decode cX12_gaolsOf 117 = .ok (.aload_n 0, 1) := by decide +kernel
theorem dX12_gaolsOf_118 : decode cX12_gaolsOf 118 = .ok (.getfield 46, 3) := by decide +kernel
theorem dX12_gaolsOf_121 : decode cX12_gaolsOf 121 = .ok (.aload_n 0, 1) := by decide +kernel
theorem dX12_gaolsOf_122 : decode cX12_gaolsOf 122 = .ok (.getfield 118, 3) := by decide +kernel
theorem dX12_gaolsOf_125 : decode cX12_gaolsOf 125 = .ok (.iaload, 1) := by decide +kernel
theorem dX12_gaolsOf_126 : decode cX12_gaolsOf 126 = .ok (.aload_n 0, 1) := by decide +kernel
theorem dX12_gaolsOf_127 : decode cX12_gaolsOf 127 = .ok (.getfield 34, 3) := by decide +kernel
theorem dX12_gaolsOf_130 : decode cX12_gaolsOf 130 = .ok (.iconst 1, 1) := by decide +kernel
theorem dX12_gaolsOf_131 : decode cX12_gaolsOf 131 = .ok (.iaload, 1) := by decide +kernel
theorem dX12_gaolsOf_132 : decode cX12_gaolsOf 132 = .ok (.if_icmp .lt 7, 3) := by decide +kernel
theorem dX12_gaolsOf_135 : decode cX12_gaolsOf 135 = .ok (.iconst 1, 1) := by decide +kernel
theorem dX12_gaolsOf_136 : decode cX12_gaolsOf 136 = .ok (.goto 4, 3) := by decide +kernel
theorem dX12_gaolsOf_139 : decode cX12_gaolsOf 139 = .ok (.iconst 0, 1) := by decide +kernel
theorem dX12_gaolsOf_140 : decode cX12_gaolsOf 140 = .ok (.iadd, 1) := by decide +kernel
theorem dX12_gaolsOf_141 : decode cX12_gaolsOf 141 = .ok (.istore 4, 2) := by decide +kernel
theorem dX12_gaolsOf_143 : decode cX12_gaolsOf 143 = .ok (.iinc 5 1, 3) := by decide +kernel
theorem dX12_gaolsOf_146 : decode cX12_gaolsOf 146 = .ok (.goto (-135), 3) := by decide +kernel
theorem dX12_gaolsOf_149 : decode cX12_gaolsOf 149 = .ok (.iload 4, 2) := by decide +kernel
theorem dX12_gaolsOf_151 : decode cX12_gaolsOf 151 = .ok (.ireturn, 1) := by decide +kernel
theorem dX12_gaols_0 : decode cX12_gaols 0 = .ok (.aload_n 0, 1) := by decide +kernel
theorem dX12_gaols_1 : decode cX12_gaols 1 = .ok (.invokevirtual 165, 3) := by decide +kernel
theorem dX12_gaols_4 : decode cX12_gaols 4 = .ok (.iload_n 2, 1) := by decide +kernel
theorem dX12_gaols_5 : decode cX12_gaols 5 = .ok (.i2l, 1) := by decide +kernel
theorem dX12_gaols_6 : decode cX12_gaols 6 = .ok (.lconst 1, 1) := by decide +kernel
theorem dX12_gaols_7 : decode cX12_gaols 7 = .ok (.ldc2_w 266, 3) := by decide +kernel
theorem dX12_gaols_10 : decode cX12_gaols 10 = .ok (.invokestatic 73, 3) := by decide +kernel
theorem dX12_gaols_13 : decode cX12_gaols 13 = .ok (.ifCond .eq 20, 3) := by decide +kernel
theorem dX12_gaols_16 : decode cX12_gaols 16 = .ok (.iload_n 3, 1) := by decide +kernel
theorem dX12_gaols_17 : decode cX12_gaols 17 = .ok (.invokestatic 102, 3) := by decide +kernel
theorem dX12_gaols_20 : decode cX12_gaols 20 = .ok (.ifCond .eq 13, 3) := by decide +kernel
theorem dX12_gaols_23 : decode cX12_gaols 23 = .ok (.aload_n 0, 1) := by decide +kernel
theorem dX12_gaols_24 : decode cX12_gaols 24 = .ok (.iload_n 1, 1) := by decide +kernel
theorem dX12_gaols_25 : decode cX12_gaols 25 = .ok (.iload_n 2, 1) := by decide +kernel
theorem dX12_gaols_26 : decode cX12_gaols 26 = .ok (.iload_n 3, 1) := by decide +kernel
theorem dX12_gaols_27 : decode cX12_gaols 27 = .ok (.invokevirtual 268, 3) := by decide +kernel
theorem dX12_gaols_30 : decode cX12_gaols 30 = .ok (.goto 5, 3) := by decide +kernel
theorem dX12_gaols_33 : decode cX12_gaols 33 = .ok (.bipush (-2), 2) := by decide +kernel
theorem dX12_gaols_35 : decode cX12_gaols 35 = .ok (.ireturn, 1) := by decide +kernel
theorem dX12_write_0 : decode cX12_write 0 = .ok (.iload_n 1, 1) := by decide +kernel
theorem dX12_write_1 : decode cX12_write 1 = .ok (.invokestatic 83, 3) := by decide +kernel
theorem dX12_write_4 : decode cX12_write 4 = .ok (.ifCond .ne 6, 3) := by decide +kernel
theorem dX12_write_7 : decode cX12_write 7 = .ok (.bipush (-2), 2) := by decide +kernel
theorem dX12_write_9 : decode cX12_write 9 = .ok (.ireturn, 1) := by decide +kernel
theorem dX12_write_10 : decode cX12_write 10 = .ok (.aload_n 0, 1) := by decide +kernel
theorem dX12_write_11 : decode cX12_write 11 = .ok (.getfield 7, 3) := by decide +kernel
theorem dX12_write_14 : decode cX12_write 14 = .ok (.iload_n 1, 1) := by decide +kernel
theorem dX12_write_15 : decode cX12_write 15 = .ok (.iaload, 1) := by decide +kernel
theorem dX12_write_16 : decode cX12_write 16 = .ok (.ifCond .ge 9, 3) := by decide +kernel
theorem dX12_write_19 : decode cX12_write 19 = .ok (.aload_n 0, 1) := by decide +kernel
theorem dX12_write_20 : decode cX12_write 20 = .ok (.iconst 1, 1) := by decide +kernel
theorem dX12_write_21 : decode cX12_write 21 = .ok (.invokevirtual 89, 3) := by decide +kernel
theorem dX12_write_24 : decode cX12_write 24 = .ok (.ireturn, 1) := by decide +kernel
theorem dX12_write_25 : decode cX12_write 25 = .ok (.aload_n 0, 1) := by decide +kernel
theorem dX12_write_26 : decode cX12_write 26 = .ok (.invokevirtual 165, 3) := by decide +kernel
theorem dX12_write_29 : decode cX12_write 29 = .ok (.aload_n 0, 1) := by decide +kernel
theorem dX12_write_30 : decode cX12_write 30 = .ok (.getfield 13, 3) := by decide +kernel
theorem dX12_write_33 : decode cX12_write 33 = .ok (.iload_n 1, 1) := by decide +kernel
theorem dX12_write_34 : decode cX12_write 34 = .ok (.iaload, 1) := by decide +kernel
theorem dX12_write_35 : decode cX12_write 35 = .ok (.aload_n 0, 1) := by decide +kernel
theorem dX12_write_36 : decode cX12_write 36 = .ok (.getfield 118, 3) := by decide +kernel
theorem dX12_write_39 : decode cX12_write 39 = .ok (.invokestatic 146, 3) := by decide +kernel
theorem dX12_write_42 : decode cX12_write 42 = .ok (.istore_n 2, 1) := by decide +kernel
theorem dX12_write_43 : decode cX12_write 43 = .ok (.iconst 0, 1) := by decide +kernel
theorem dX12_write_44 : decode cX12_write 44 = .ok (.istore_n 3, 1) := by decide +kernel
theorem dX12_write_45 : decode cX12_write 45 = .ok (.iload_n 3, 1) := by decide +kernel
theorem dX12_write_46 : decode cX12_write 46 = .ok (.iload_n 2, 1) := by decide +kernel
theorem dX12_write_47 : decode cX12_write 47 = .ok (.if_icmp .ge 35, 3) := by decide +kernel
theorem dX12_write_50 : decode cX12_write 50 = .ok (.aload_n 0, 1) := by decide +kernel
theorem dX12_write_51 : decode cX12_write 51 = .ok (.getfield 16, 3) := by decide +kernel
theorem dX12_write_54 : decode cX12_write 54 = .ok (.bipush 60, 2) := by decide +kernel
theorem dX12_write_56 : decode cX12_write 56 = .ok (.iload_n 1, 1) := by decide +kernel
theorem dX12_write_57 : decode cX12_write 57 = .ok (.imul, 1) := by decide +kernel
theorem dX12_write_58 : decode cX12_write 58 = .ok (.iload_n 3, 1) := by decide +kernel
theorem dX12_write_59 : decode cX12_write 59 = .ok (.iadd, 1) := by decide +kernel
theorem dX12_write_60 : decode cX12_write 60 = .ok (.aload_n 0, 1) := by decide +kernel
theorem dX12_write_61 : decode cX12_write 61 = .ok (.getfield 7, 3) := by decide +kernel
theorem dX12_write_64 : decode cX12_write 64 = .ok (.iload_n 1, 1) := by decide +kernel
theorem dX12_write_65 : decode cX12_write 65 = .ok (.iaload, 1) := by decide +kernel
theorem dX12_write_66 : decode cX12_write 66 = .ok (.aload_n 0, 1) := by decide +kernel
theorem dX12_write_67 : decode cX12_write 67 = .ok (.getfield 37, 3) := by decide +kernel
theorem dX12_write_70 : decode cX12_write 70 = .ok (.iload_n 3, 1) := by decide +kernel
theorem dX12_write_71 : decode cX12_write 71 = .ok (.iaload, 1) := by decide +kernel
theorem dX12_write_72 : decode cX12_write 72 = .ok (.invokestatic 97, 3) := by decide +kernel
theorem dX12_write_75 : decode cX12_write 75 = .ok (.iastore, 1) := by decide +kernel
theorem dX12_write_76 : decode cX12_write 76 = .ok (.iinc 3 1, 3) := by decide +kernel
theorem dX12_write_79 : decode cX12_write 79 = .ok (.goto (-34), 3) := by decide +kernel
theorem dX12_write_82 : decode cX12_write 82 = .ok (.iload_n 2, 1) := by decide +kernel
theorem dX12_write_83 : decode cX12_write 83 = .ok (.ireturn, 1) := by decide +kernel
theorem dX12_fights_0 : decode cX12_fights 0 = .ok (.iconst 0, 1) := by decide +kernel
theorem dX12_fights_1 : decode cX12_fights 1 = .ok (.istore_n 1, 1) := by decide +kernel
theorem dX12_fights_2 : decode cX12_fights 2 = .ok (.iconst 0, 1) := by decide +kernel
theorem dX12_fights_3 : decode cX12_fights 3 = .ok (.istore_n 2, 1) := by decide +kernel
theorem dX12_fights_4 : decode cX12_fights 4 = .ok (.iload_n 2, 1) := by decide +kernel
theorem dX12_fights_5 : decode cX12_fights 5 = .ok (.aload_n 0, 1) := by decide +kernel
theorem dX12_fights_6 : decode cX12_fights 6 = .ok (.getfield 118, 3) := by decide +kernel
theorem dX12_fights_9 : decode cX12_fights 9 = .ok (.if_icmp .ge 27, 3) := by decide +kernel
theorem dX12_fights_12 : decode cX12_fights 12 = .ok (.iload_n 1, 1) := by decide +kernel
theorem dX12_fights_13 : decode cX12_fights 13 = .ok (.aload_n 0, 1) := by decide +kernel
theorem dX12_fights_14 : decode cX12_fights 14 = .ok (.getfield 37, 3) := by decide +kernel
theorem dX12_fights_17 : decode cX12_fights 17 = .ok (.iload_n 2, 1) := by decide +kernel
theorem dX12_fights_18 : decode cX12_fights 18 = .ok (.iaload, 1) := by decide +kernel
theorem dX12_fights_19 : decode cX12_fights 19 = .ok (.iconst 3, 1) := by decide +kernel
theorem dX12_fights_20 : decode cX12_fights 20 = .ok (.if_icmp .ne 7, 3) := by decide +kernel
theorem dX12_fights_23 : decode cX12_fights 23 = .ok (.iconst 1, 1) := by decide +kernel
theorem dX12_fights_24 : decode cX12_fights 24 = .ok (.goto 4, 3) := by decide +kernel
theorem dX12_fights_27 : decode cX12_fights 27 = .ok (.iconst 0, 1) := by decide +kernel
theorem dX12_fights_28 : decode cX12_fights 28 = .ok (.iadd, 1) := by decide +kernel
theorem dX12_fights_29 : decode cX12_fights 29 = .ok (.istore_n 1, 1) := by decide +kernel
theorem dX12_fights_30 : decode cX12_fights 30 = .ok (.iinc 2 1, 3) := by decide +kernel
theorem dX12_fights_33 : decode cX12_fights 33 = .ok (.goto (-29), 3) := by decide +kernel
theorem dX12_fights_36 : decode cX12_fights 36 = .ok (.iload_n 1, 1) := by decide +kernel
theorem dX12_fights_37 : decode cX12_fights 37 = .ok (.ireturn, 1) := by decide +kernel
theorem dX12_named_0 : decode cX12_named 0 = .ok (.iconst 0, 1) := by decide +kernel
theorem dX12_named_1 : decode cX12_named 1 = .ok (.istore_n 1, 1) := by decide +kernel
theorem dX12_named_2 : decode cX12_named 2 = .ok (.iconst 0, 1) := by decide +kernel
theorem dX12_named_3 : decode cX12_named 3 = .ok (.istore_n 2, 1) := by decide +kernel
theorem dX12_named_4 : decode cX12_named 4 = .ok (.iload_n 2, 1) := by decide +kernel
theorem dX12_named_5 : decode cX12_named 5 = .ok (.aload_n 0, 1) := by decide +kernel
theorem dX12_named_6 : decode cX12_named 6 = .ok (.getfield 112, 3) := by decide +kernel
theorem dX12_named_9 : decode cX12_named 9 = .ok (.if_icmp .ge 25, 3) := by decide +kernel
theorem dX12_named_12 : decode cX12_named 12 = .ok (.iload_n 1, 1) := by decide +kernel
theorem dX12_named_13 : decode cX12_named 13 = .ok (.aload_n 0, 1) := by decide +kernel
theorem dX12_named_14 : decode cX12_named 14 = .ok (.iload_n 2, 1) := by decide +kernel
theorem dX12_named_15 : decode cX12_named 15 = .ok (.invokevirtual 201, 3) := by decide +kernel
theorem dX12_named_18 : decode cX12_named 18 = .ok (.ifCond .le 7, 3) := by decide +kernel
theorem dX12_named_21 : decode cX12_named 21 = .ok (.iconst 1, 1) := by decide +kernel
theorem dX12_named_22 : decode cX12_named 22 = .ok (.goto 4, 3) := by decide +kernel
theorem dX12_named_25 : decode cX12_named 25 = .ok (.iconst 0, 1) := by decide +kernel
theorem dX12_named_26 : decode cX12_named 26 = .ok (.iadd, 1) := by decide +kernel
theorem dX12_named_27 : decode cX12_named 27 = .ok (.istore_n 1, 1) := by decide +kernel
theorem dX12_named_28 : decode cX12_named 28 = .ok (.iinc 2 1, 3) := by decide +kernel
theorem dX12_named_31 : decode cX12_named 31 = .ok (.goto (-27), 3) := by decide +kernel
theorem dX12_named_34 : decode cX12_named 34 = .ok (.iload_n 1, 1) := by decide +kernel
theorem dX12_named_35 : decode cX12_named 35 = .ok (.ireturn, 1) := by decide +kernel
theorem dX12_count_0 : decode cX12_count 0 = .ok (.aload_n 0, 1) := by decide +kernel
theorem dX12_count_1 : decode cX12_count 1 = .ok (.invokevirtual 165, 3) := by decide +kernel
theorem dX12_count_4 : decode cX12_count 4 = .ok (.iload_n 1, 1) := by decide +kernel
theorem dX12_count_5 : decode cX12_count 5 = .ok (.tableswitch 100 0 8 #[51, 56, 61, 61, 70, 75, 85, 90, 95], 51) := by decide +kernel
theorem dX12_count_56 : decode cX12_count 56 = .ok (.aload_n 0, 1) := by decide +kernel
theorem dX12_count_57 : decode cX12_count 57 = .ok (.getfield 112, 3) := by decide +kernel
theorem dX12_count_60 : decode cX12_count 60 = .ok (.ireturn, 1) := by decide +kernel
theorem dX12_count_61 : decode cX12_count 61 = .ok (.aload_n 0, 1) := by decide +kernel
theorem dX12_count_62 : decode cX12_count 62 = .ok (.getfield 118, 3) := by decide +kernel
theorem dX12_count_65 : decode cX12_count 65 = .ok (.ireturn, 1) := by decide +kernel
theorem dX12_count_66 : decode cX12_count 66 = .ok (.aload_n 0, 1) := by decide +kernel
theorem dX12_count_67 : decode cX12_count 67 = .ok (.getfield 25, 3) := by decide +kernel
theorem dX12_count_70 : decode cX12_count 70 = .ok (.iload_n 1, 1) := by decide +kernel
theorem dX12_count_71 : decode cX12_count 71 = .ok (.iconst 2, 1) := by decide +kernel
theorem dX12_count_72 : decode cX12_count 72 = .ok (.isub, 1) := by decide +kernel
theorem dX12_count_73 : decode cX12_count 73 = .ok (.iaload, 1) := by decide +kernel
theorem dX12_count_74 : decode cX12_count 74 = .ok (.ireturn, 1) := by decide +kernel
theorem dX12_count_75 : decode cX12_count 75 = .ok (.aload_n 0, 1) := by decide +kernel
theorem dX12_count_76 : decode cX12_count 76 = .ok (.invokevirtual 271, 3) := by decide +kernel
theorem dX12_count_79 : decode cX12_count 79 = .ok (.ireturn, 1) := by decide +kernel
theorem dX12_count_80 : decode cX12_count 80 = .ok (.aload_n 0, 1) := by decide +kernel
theorem dX12_count_81 : decode cX12_count 81 = .ok (.getfield 46, 3) := by decide +kernel
theorem dX12_count_84 : decode cX12_count 84 = .ok (.aload_n 0, 1) := by decide +kernel
theorem dX12_count_85 : decode cX12_count 85 = .ok (.getfield 118, 3) := by decide +kernel
theorem dX12_count_88 : decode cX12_count 88 = .ok (.iaload, 1) := by decide +kernel
theorem dX12_count_89 : decode cX12_count 89 = .ok (.ireturn, 1) := by decide +kernel
theorem dX12_count_90 : decode cX12_count 90 = .ok (.aload_n 0, 1) := by decide +kernel
theorem dX12_count_91 : decode cX12_count 91 = .ok (.invokevirtual 274, 3) := by decide +kernel
theorem dX12_count_94 : decode cX12_count 94 = .ok (.ireturn, 1) := by decide +kernel
theorem dX12_count_95 : decode cX12_count 95 = .ok (.aload_n 0, 1) := by decide +kernel
theorem dX12_count_96 : decode cX12_count 96 = .ok (.getfield 240, 3) := by decide +kernel
theorem dX12_count_99 : decode cX12_count 99 = .ok (.ireturn, 1) := by decide +kernel
theorem dX12_count_100 : decode cX12_count 100 = .ok (.aload_n 0, 1) := by decide +kernel
theorem dX12_count_101 : decode cX12_count 101 = .ok (.getfield 77, 3) := by decide +kernel
theorem dX12_count_104 : decode cX12_count 104 = .ok (.ireturn, 1) := by decide +kernel
theorem dX12_count_105 : decode cX12_count 105 = .ok (.bipush (-2), 2) := by decide +kernel
theorem dX12_count_107 : decode cX12_count 107 = .ok (.ireturn, 1) := by decide +kernel
theorem dX12_tellsBoth_0 : decode cX12_tellsBoth 0 = .ok (.ldc2_w 277, 3) := by decide +kernel
theorem dX12_tellsBoth_3 : decode cX12_tellsBoth 3 = .ok (.ldc2_w 277, 3) := by decide +kernel
theorem dX12_tellsBoth_6 : decode cX12_tellsBoth 6 = .ok (.lload_n 0, 1) := by decide +kernel
theorem dX12_tellsBoth_7 : decode cX12_tellsBoth 7 = .ok (.lmul, 1) := by decide +kernel
theorem dX12_tellsBoth_8 : decode cX12_tellsBoth 8 = .ok (.lload_n 2, 1) := by decide +kernel
theorem dX12_tellsBoth_9 : decode cX12_tellsBoth 9 = .ok (.iconst 0, 1) := by decide +kernel
theorem dX12_tellsBoth_10 : decode cX12_tellsBoth 10 = .ok (.invokestatic 181, 3) := by decide +kernel
theorem dX12_tellsBoth_13 : decode cX12_tellsBoth 13 = .ok (.ladd, 1) := by decide +kernel
theorem dX12_tellsBoth_14 : decode cX12_tellsBoth 14 = .ok (.lmul, 1) := by decide +kernel
theorem dX12_tellsBoth_15 : decode cX12_tellsBoth 15 = .ok (.lload_n 2, 1) := by decide +kernel
theorem dX12_tellsBoth_16 : decode cX12_tellsBoth 16 = .ok (.iconst 1, 1) := by decide +kernel
theorem dX12_tellsBoth_17 : decode cX12_tellsBoth 17 = .ok (.invokestatic 181, 3) := by decide +kernel
theorem dX12_tellsBoth_20 : decode cX12_tellsBoth 20 = .ok (.ladd, 1) := by decide +kernel
theorem dX12_tellsBoth_21 : decode cX12_tellsBoth 21 = .ok (.lreturn, 1) := by decide +kernel
theorem dX12_digest_0 : decode cX12_digest 0 = .ok (.ldc2_w 279, 3) := by decide +kernel
theorem dX12_digest_3 : decode cX12_digest 3 = .ok (.lstore_n 1, 1) := by decide +kernel
theorem dX12_digest_4 : decode cX12_digest 4 = .ok (.iconst 0, 1) := by decide +kernel
theorem dX12_digest_5 : decode cX12_digest 5 = .ok (.istore_n 3, 1) := by decide +kernel
theorem dX12_digest_6 : decode cX12_digest 6 = .ok (.iload_n 3, 1) := by decide +kernel
theorem dX12_digest_7 : decode cX12_digest 7 = .ok (.bipush 8, 2) := by decide +kernel
theorem dX12_digest_9 : decode cX12_digest 9 = .ok (.if_icmp .ge 22, 3) := by decide +kernel
theorem dX12_digest_12 : decode cX12_digest 12 = .ok (.ldc2_w 277, 3) := by decide +kernel
theorem dX12_digest_15 : decode cX12_digest 15 = .ok (.lload_n 1, 1) := by decide +kernel
theorem dX12_digest_16 : decode cX12_digest 16 = .ok (.lmul, 1) := by decide +kernel
theorem dX12_digest_17 : decode cX12_digest 17 = .ok (.aload_n 0, 1) := by decide +kernel
theorem dX12_digest_18 : decode cX12_digest 18 = .ok (.iload_n 3, 1) := by decide +kernel
theorem dX12_digest_19 : decode cX12_digest 19 = .ok (.invokevirtual 281, 3) := by decide +kernel
theorem dX12_digest_22 : decode cX12_digest 22 = .ok (.i2l, 1) := by decide +kernel
theorem dX12_digest_23 : decode cX12_digest 23 = .ok (.ladd, 1) := by decide +kernel
theorem dX12_digest_24 : decode cX12_digest 24 = .ok (.lstore_n 1, 1) := by decide +kernel
theorem dX12_digest_25 : decode cX12_digest 25 = .ok (.iinc 3 1, 3) := by decide +kernel
theorem dX12_digest_28 : decode cX12_digest 28 = .ok (.goto (-22), 3) := by decide +kernel
theorem dX12_digest_31 : decode cX12_digest 31 = .ok (.ldc2_w 277, 3) := by decide +kernel
theorem dX12_digest_34 : decode cX12_digest 34 = .ok (.lload_n 1, 1) := by decide +kernel
theorem dX12_digest_35 : decode cX12_digest 35 = .ok (.lmul, 1) := by decide +kernel
theorem dX12_digest_36 : decode cX12_digest 36 = .ok (.aload_n 0, 1) := by decide +kernel
theorem dX12_digest_37 : decode cX12_digest 37 = .ok (.invokevirtual 125, 3) := by decide +kernel
theorem dX12_digest_40 : decode cX12_digest 40 = .ok (.i2l, 1) := by decide +kernel
theorem dX12_digest_41 : decode cX12_digest 41 = .ok (.ladd, 1) := by decide +kernel
theorem dX12_digest_42 : decode cX12_digest 42 = .ok (.lstore_n 1, 1) := by decide +kernel
theorem dX12_digest_43 : decode cX12_digest 43 = .ok (.ldc2_w 277, 3) := by decide +kernel
theorem dX12_digest_46 : decode cX12_digest 46 = .ok (.lload_n 1, 1) := by decide +kernel
theorem dX12_digest_47 : decode cX12_digest 47 = .ok (.lmul, 1) := by decide +kernel
theorem dX12_digest_48 : decode cX12_digest 48 = .ok (.aload_n 0, 1) := by decide +kernel
theorem dX12_digest_49 : decode cX12_digest 49 = .ok (.invokevirtual 129, 3) := by decide +kernel
theorem dX12_digest_52 : decode cX12_digest 52 = .ok (.i2l, 1) := by decide +kernel
theorem dX12_digest_53 : decode cX12_digest 53 = .ok (.ladd, 1) := by decide +kernel
theorem dX12_digest_54 : decode cX12_digest 54 = .ok (.lstore_n 1, 1) := by decide +kernel
theorem dX12_digest_55 : decode cX12_digest 55 = .ok (.aload_n 0, 1) := by decide +kernel
theorem dX12_digest_56 : decode cX12_digest 56 = .ok (.invokevirtual 165, 3) := by decide +kernel
theorem dX12_digest_59 : decode cX12_digest 59 = .ok (.iconst 0, 1) := by decide +kernel
theorem dX12_digest_60 : decode cX12_digest 60 = .ok (.istore_n 3, 1) := by decide +kernel
theorem dX12_digest_61 : decode cX12_digest 61 = .ok (.iload_n 3, 1) := by decide +kernel
theorem dX12_digest_62 : decode cX12_digest 62 = .ok (.aload_n 0, 1) := by decide +kernel
theorem dX12_digest_63 : decode cX12_digest 63 = .ok (.getfield 112, 3) := by decide +kernel
theorem dX12_digest_66 : decode cX12_digest 66 = .ok (.if_icmp .ge 82, 3) := by decide +kernel
theorem dX12_digest_69 : decode cX12_digest 69 = .ok (.iconst 0, 1) := by decide +kernel
theorem dX12_digest_70 : decode cX12_digest 70 = .ok (.istore 4, 2) := by decide +kernel
theorem dX12_digest_72 : decode cX12_digest 72 = .ok (.iload 4, 2) := by decide +kernel
theorem dX12_digest_74 : decode cX12_digest 74 = .ok (.iconst 5, 1) := by decide +kernel
theorem dX12_digest_75 : decode cX12_digest 75 = .ok (.if_icmp .ge 28, 3) := by decide +kernel
theorem dX12_digest_78 : decode cX12_digest 78 = .ok (.ldc2_w 277, 3) := by decide +kernel
theorem dX12_digest_81 : decode cX12_digest 81 = .ok (.lload_n 1, 1) := by decide +kernel
theorem dX12_digest_82 : decode cX12_digest 82 = .ok (.lmul, 1) := by decide +kernel
theorem dX12_digest_83 : decode cX12_digest 83 = .ok (.aload_n 0, 1) := by decide +kernel
theorem dX12_digest_84 : decode cX12_digest 84 = .ok (.getfield 28, 3) := by decide +kernel
theorem dX12_digest_87 : decode cX12_digest 87 = .ok (.iconst 5, 1) := by decide +kernel
theorem dX12_digest_88 : decode cX12_digest 88 = .ok (.iload_n 3, 1) := by decide +kernel
theorem dX12_digest_89 : decode cX12_digest 89 = .ok (.imul, 1) := by decide +kernel
theorem dX12_digest_90 : decode cX12_digest 90 = .ok (.iload 4, 2) := by decide +kernel
theorem dX12_digest_92 : decode cX12_digest 92 = .ok (.iadd, 1) := by decide +kernel
theorem dX12_digest_93 : decode cX12_digest 93 = .ok (.iaload, 1) := by decide +kernel
theorem dX12_digest_94 : decode cX12_digest 94 = .ok (.i2l, 1) := by decide +kernel
theorem dX12_digest_95 : decode cX12_digest 95 = .ok (.ladd, 1) := by decide +kernel
theorem dX12_digest_96 : decode cX12_digest 96 = .ok (.lstore_n 1, 1) := by decide +kernel
theorem dX12_digest_97 : decode cX12_digest 97 = .ok (.iinc 4 1, 3) := by decide +kernel
theorem dX12_digest_100 : decode cX12_digest 100 = .ok (.goto (-28), 3) := by decide +kernel
theorem dX12_digest_103 : decode cX12_digest 103 = .ok (.ldc2_w 277, 3) := by decide +kernel
theorem dX12_digest_106 : decode cX12_digest 106 = .ok (.lload_n 1, 1) := by decide +kernel
theorem dX12_digest_107 : decode cX12_digest 107 = .ok (.lmul, 1) := by decide +kernel
theorem dX12_digest_108 : decode cX12_digest 108 = .ok (.aload_n 0, 1) := by decide +kernel
theorem dX12_digest_109 : decode cX12_digest 109 = .ok (.iload_n 3, 1) := by decide +kernel
theorem dX12_digest_110 : decode cX12_digest 110 = .ok (.invokevirtual 201, 3) := by decide +kernel
theorem dX12_digest_113 : decode cX12_digest 113 = .ok (.i2l, 1) := by decide +kernel
theorem dX12_digest_114 : decode cX12_digest 114 = .ok (.ladd, 1) := by decide +kernel
theorem dX12_digest_115 : decode cX12_digest 115 = .ok (.lstore_n 1, 1) := by decide +kernel
theorem dX12_digest_116 : decode cX12_digest 116 = .ok (.ldc2_w 277, 3) := by decide +kernel
theorem dX12_digest_119 : decode cX12_digest 119 = .ok (.lload_n 1, 1) := by decide +kernel
theorem dX12_digest_120 : decode cX12_digest 120 = .ok (.lmul, 1) := by decide +kernel
theorem dX12_digest_121 : decode cX12_digest 121 = .ok (.aload_n 0, 1) := by decide +kernel
theorem dX12_digest_122 : decode cX12_digest 122 = .ok (.iload_n 3, 1) := by decide +kernel
theorem dX12_digest_123 : decode cX12_digest 123 = .ok (.invokevirtual 237, 3) := by decide +kernel
theorem dX12_digest_126 : decode cX12_digest 126 = .ok (.i2l, 1) := by decide +kernel
theorem dX12_digest_127 : decode cX12_digest 127 = .ok (.ladd, 1) := by decide +kernel
theorem dX12_digest_128 : decode cX12_digest 128 = .ok (.lstore_n 1, 1) := by decide +kernel
theorem dX12_digest_129 : decode cX12_digest 129 = .ok (.ldc2_w 277, 3) := by decide +kernel
theorem dX12_digest_132 : decode cX12_digest 132 = .ok (.lload_n 1, 1) := by decide +kernel
theorem dX12_digest_133 : decode cX12_digest 133 = .ok (.lmul, 1) := by decide +kernel
theorem dX12_digest_134 : decode cX12_digest 134 = .ok (.aload_n 0, 1) := by decide +kernel
theorem dX12_digest_135 : decode cX12_digest 135 = .ok (.iload_n 3, 1) := by decide +kernel
theorem dX12_digest_136 : decode cX12_digest 136 = .ok (.invokevirtual 253, 3) := by decide +kernel
theorem dX12_digest_139 : decode cX12_digest 139 = .ok (.i2l, 1) := by decide +kernel
theorem dX12_digest_140 : decode cX12_digest 140 = .ok (.ladd, 1) := by decide +kernel
theorem dX12_digest_141 : decode cX12_digest 141 = .ok (.lstore_n 1, 1) := by decide +kernel
theorem dX12_digest_142 : decode cX12_digest 142 = .ok (.iinc 3 1, 3) := by decide +kernel
theorem dX12_digest_145 : decode cX12_digest 145 = .ok (.goto (-84), 3) := by decide +kernel
theorem dX12_digest_148 : decode cX12_digest 148 = .ok (.iconst 0, 1) := by decide +kernel
theorem dX12_digest_149 : decode cX12_digest 149 = .ok (.istore_n 3, 1) := by decide +kernel
theorem dX12_digest_150 : decode cX12_digest 150 = .ok (.iload_n 3, 1) := by decide +kernel
theorem dX12_digest_151 : decode cX12_digest 151 = .ok (.aload_n 0, 1) := by decide +kernel
theorem dX12_digest_152 : decode cX12_digest 152 = .ok (.getfield 118, 3) := by decide +kernel
theorem dX12_digest_155 : decode cX12_digest 155 = .ok (.if_icmp .ge 51, 3) := by decide +kernel
theorem dX12_digest_158 : decode cX12_digest 158 = .ok (.ldc2_w 277, 3) := by decide +kernel
theorem dX12_digest_161 : decode cX12_digest 161 = .ok (.lload_n 1, 1) := by decide +kernel
theorem dX12_digest_162 : decode cX12_digest 162 = .ok (.lmul, 1) := by decide +kernel
theorem dX12_digest_163 : decode cX12_digest 163 = .ok (.aload_n 0, 1) := by decide +kernel
theorem dX12_digest_164 : decode cX12_digest 164 = .ok (.getfield 31, 3) := by decide +kernel
theorem dX12_digest_167 : decode cX12_digest 167 = .ok (.iload_n 3, 1) := by decide +kernel
theorem dX12_digest_168 : decode cX12_digest 168 = .ok (.iaload, 1) := by decide +kernel
theorem dX12_digest_169 : decode cX12_digest 169 = .ok (.i2l, 1) := by decide +kernel
theorem dX12_digest_170 : decode cX12_digest 170 = .ok (.ladd, 1) := by decide +kernel
theorem dX12_digest_171 : decode cX12_digest 171 = .ok (.lstore_n 1, 1) := by decide +kernel
theorem dX12_digest_172 : decode cX12_digest 172 = .ok (.ldc2_w 277, 3) := by decide +kernel
theorem dX12_digest_175 : decode cX12_digest 175 = .ok (.lload_n 1, 1) := by decide +kernel
theorem dX12_digest_176 : decode cX12_digest 176 = .ok (.lmul, 1) := by decide +kernel
theorem dX12_digest_177 : decode cX12_digest 177 = .ok (.aload_n 0, 1) := by decide +kernel
theorem dX12_digest_178 : decode cX12_digest 178 = .ok (.getfield 37, 3) := by decide +kernel
theorem dX12_digest_181 : decode cX12_digest 181 = .ok (.iload_n 3, 1) := by decide +kernel
theorem dX12_digest_182 : decode cX12_digest 182 = .ok (.iaload, 1) := by decide +kernel
theorem dX12_digest_183 : decode cX12_digest 183 = .ok (.i2l, 1) := by decide +kernel
theorem dX12_digest_184 : decode cX12_digest 184 = .ok (.ladd, 1) := by decide +kernel
theorem dX12_digest_185 : decode cX12_digest 185 = .ok (.lstore_n 1, 1) := by decide +kernel
theorem dX12_digest_186 : decode cX12_digest 186 = .ok (.ldc2_w 277, 3) := by decide +kernel
theorem dX12_digest_189 : decode cX12_digest 189 = .ok (.lload_n 1, 1) := by decide +kernel
theorem dX12_digest_190 : decode cX12_digest 190 = .ok (.lmul, 1) := by decide +kernel
theorem dX12_digest_191 : decode cX12_digest 191 = .ok (.aload_n 0, 1) := by decide +kernel
theorem dX12_digest_192 : decode cX12_digest 192 = .ok (.getfield 40, 3) := by decide +kernel
theorem dX12_digest_195 : decode cX12_digest 195 = .ok (.iload_n 3, 1) := by decide +kernel
theorem dX12_digest_196 : decode cX12_digest 196 = .ok (.iaload, 1) := by decide +kernel
theorem dX12_digest_197 : decode cX12_digest 197 = .ok (.i2l, 1) := by decide +kernel
theorem dX12_digest_198 : decode cX12_digest 198 = .ok (.ladd, 1) := by decide +kernel
theorem dX12_digest_199 : decode cX12_digest 199 = .ok (.lstore_n 1, 1) := by decide +kernel
theorem dX12_digest_200 : decode cX12_digest 200 = .ok (.iinc 3 1, 3) := by decide +kernel
theorem dX12_digest_203 : decode cX12_digest 203 = .ok (.goto (-53), 3) := by decide +kernel
theorem dX12_digest_206 : decode cX12_digest 206 = .ok (.iconst 0, 1) := by decide +kernel
theorem dX12_digest_207 : decode cX12_digest 207 = .ok (.istore_n 3, 1) := by decide +kernel
theorem dX12_digest_208 : decode cX12_digest 208 = .ok (.iload_n 3, 1) := by decide +kernel
theorem dX12_digest_209 : decode cX12_digest 209 = .ok (.aload_n 0, 1) := by decide +kernel
theorem dX12_digest_210 : decode cX12_digest 210 = .ok (.getfield 118, 3) := by decide +kernel
theorem dX12_digest_213 : decode cX12_digest 213 = .ok (.if_icmp .gt 47, 3) := by decide +kernel
theorem dX12_digest_216 : decode cX12_digest 216 = .ok (.ldc2_w 277, 3) := by decide +kernel
theorem dX12_digest_219 : decode cX12_digest 219 = .ok (.lload_n 1, 1) := by decide +kernel
theorem dX12_digest_220 : decode cX12_digest 220 = .ok (.lmul, 1) := by decide +kernel
theorem dX12_digest_221 : decode cX12_digest 221 = .ok (.aload_n 0, 1) := by decide +kernel
theorem dX12_digest_222 : decode cX12_digest 222 = .ok (.iload_n 3, 1) := by decide +kernel
theorem dX12_digest_223 : decode cX12_digest 223 = .ok (.iconst 0, 1) := by decide +kernel
theorem dX12_digest_224 : decode cX12_digest 224 = .ok (.invokevirtual 168, 3) := by decide +kernel
theorem dX12_digest_227 : decode cX12_digest 227 = .ok (.i2l, 1) := by decide +kernel
theorem dX12_digest_228 : decode cX12_digest 228 = .ok (.ladd, 1) := by decide +kernel
theorem dX12_digest_229 : decode cX12_digest 229 = .ok (.lstore_n 1, 1) := by decide +kernel
theorem dX12_digest_230 : decode cX12_digest 230 = .ok (.ldc2_w 277, 3) := by decide +kernel
theorem dX12_digest_233 : decode cX12_digest 233 = .ok (.lload_n 1, 1) := by decide +kernel
theorem dX12_digest_234 : decode cX12_digest 234 = .ok (.lmul, 1) := by decide +kernel
theorem dX12_digest_235 : decode cX12_digest 235 = .ok (.aload_n 0, 1) := by decide +kernel
theorem dX12_digest_236 : decode cX12_digest 236 = .ok (.iload_n 3, 1) := by decide +kernel
theorem dX12_digest_237 : decode cX12_digest 237 = .ok (.iconst 1, 1) := by decide +kernel
theorem dX12_digest_238 : decode cX12_digest 238 = .ok (.invokevirtual 168, 3) := by decide +kernel
theorem dX12_digest_241 : decode cX12_digest 241 = .ok (.i2l, 1) := by decide +kernel
theorem dX12_digest_242 : decode cX12_digest 242 = .ok (.ladd, 1) := by decide +kernel
theorem dX12_digest_243 : decode cX12_digest 243 = .ok (.lstore_n 1, 1) := by decide +kernel
theorem dX12_digest_244 : decode cX12_digest 244 = .ok (.lload_n 1, 1) := by decide +kernel
theorem dX12_digest_245 : decode cX12_digest 245 = .ok (.aload_n 0, 1) := by decide +kernel
theorem dX12_digest_246 : decode cX12_digest 246 = .ok (.iload_n 3, 1) := by decide +kernel
theorem dX12_digest_247 : decode cX12_digest 247 = .ok (.invokevirtual 177, 3) := by decide +kernel
theorem dX12_digest_250 : decode cX12_digest 250 = .ok (.invokestatic 284, 3) := by decide +kernel
theorem dX12_digest_253 : decode cX12_digest 253 = .ok (.lstore_n 1, 1) := by decide +kernel
theorem dX12_digest_254 : decode cX12_digest 254 = .ok (.iinc 3 1, 3) := by decide +kernel
theorem dX12_digest_257 : decode cX12_digest 257 = .ok (.goto (-49), 3) := by decide +kernel
theorem dX12_digest_260 : decode cX12_digest 260 = .ok (.lload_n 1, 1) := by decide +kernel
theorem dX12_digest_261 : decode cX12_digest 261 = .ok (.aload_n 0, 1) := by decide +kernel
theorem dX12_digest_262 : decode cX12_digest 262 = .ok (.invokevirtual 188, 3) := by decide +kernel
theorem dX12_digest_265 : decode cX12_digest 265 = .ok (.invokestatic 284, 3) := by decide +kernel
theorem dX12_digest_268 : decode cX12_digest 268 = .ok (.lstore_n 1, 1) := by decide +kernel
theorem dX12_digest_269 : decode cX12_digest 269 = .ok (.lload_n 1, 1) := by decide +kernel
theorem dX12_digest_270 : decode cX12_digest 270 = .ok (.aload_n 0, 1) := by decide +kernel
theorem dX12_digest_271 : decode cX12_digest 271 = .ok (.invokevirtual 195, 3) := by decide +kernel
theorem dX12_digest_274 : decode cX12_digest 274 = .ok (.invokestatic 284, 3) := by decide +kernel
theorem dX12_digest_277 : decode cX12_digest 277 = .ok (.lstore_n 1, 1) := by decide +kernel
theorem dX12_digest_278 : decode cX12_digest 278 = .ok (.ldc2_w 277, 3) := by decide +kernel
theorem dX12_digest_281 : decode cX12_digest 281 = .ok (.lload_n 1, 1) := by decide +kernel
theorem dX12_digest_282 : decode cX12_digest 282 = .ok (.lmul, 1) := by decide +kernel
theorem dX12_digest_283 : decode cX12_digest 283 = .ok (.aload_n 0, 1) := by decide +kernel
theorem dX12_digest_284 : decode cX12_digest 284 = .ok (.invokevirtual 198, 3) := by decide +kernel
theorem dX12_digest_287 : decode cX12_digest 287 = .ok (.i2l, 1) := by decide +kernel
theorem dX12_digest_288 : decode cX12_digest 288 = .ok (.ladd, 1) := by decide +kernel
theorem dX12_digest_289 : decode cX12_digest 289 = .ok (.lstore_n 1, 1) := by decide +kernel
theorem dX12_digest_290 : decode cX12_digest 290 = .ok (.aload_n 0, 1) := by decide +kernel
theorem dX12_digest_291 : decode cX12_digest 291 = .ok (.invokevirtual 225, 3) := by decide +kernel
theorem dX12_digest_294 : decode cX12_digest 294 = .ok (.ldc2_w 277, 3) := by decide +kernel
theorem dX12_digest_297 : decode cX12_digest 297 = .ok (.lload_n 1, 1) := by decide +kernel
theorem dX12_digest_298 : decode cX12_digest 298 = .ok (.lmul, 1) := by decide +kernel
theorem dX12_digest_299 : decode cX12_digest 299 = .ok (.aload_n 0, 1) := by decide +kernel
theorem dX12_digest_300 : decode cX12_digest 300 = .ok (.iconst (-1), 1) := by decide +kernel
theorem dX12_digest_301 : decode cX12_digest 301 = .ok (.invokevirtual 228, 3) := by decide +kernel
theorem dX12_digest_304 : decode cX12_digest 304 = .ok (.i2l, 1) := by decide +kernel
theorem dX12_digest_305 : decode cX12_digest 305 = .ok (.ladd, 1) := by decide +kernel
theorem dX12_digest_306 : decode cX12_digest 306 = .ok (.lstore_n 1, 1) := by decide +kernel
theorem dX12_digest_307 : decode cX12_digest 307 = .ok (.ldc2_w 277, 3) := by decide +kernel
theorem dX12_digest_310 : decode cX12_digest 310 = .ok (.lload_n 1, 1) := by decide +kernel
theorem dX12_digest_311 : decode cX12_digest 311 = .ok (.lmul, 1) := by decide +kernel
theorem dX12_digest_312 : decode cX12_digest 312 = .ok (.aload_n 0, 1) := by decide +kernel
theorem dX12_digest_313 : decode cX12_digest 313 = .ok (.iconst 0, 1) := by decide +kernel
theorem dX12_digest_314 : decode cX12_digest 314 = .ok (.invokevirtual 228, 3) := by decide +kernel
theorem dX12_digest_317 : decode cX12_digest 317 = .ok (.i2l, 1) := by decide +kernel
theorem dX12_digest_318 : decode cX12_digest 318 = .ok (.ladd, 1) := by decide +kernel
theorem dX12_digest_319 : decode cX12_digest 319 = .ok (.lstore_n 1, 1) := by decide +kernel
theorem dX12_digest_320 : decode cX12_digest 320 = .ok (.lload_n 1, 1) := by decide +kernel
theorem dX12_digest_321 : decode cX12_digest 321 = .ok (.aload_n 0, 1) := by decide +kernel
theorem dX12_digest_322 : decode cX12_digest 322 = .ok (.getfield 206, 3) := by decide +kernel
theorem dX12_digest_325 : decode cX12_digest 325 = .ok (.invokestatic 284, 3) := by decide +kernel
theorem dX12_digest_328 : decode cX12_digest 328 = .ok (.lstore_n 1, 1) := by decide +kernel
theorem dX12_digest_329 : decode cX12_digest 329 = .ok (.ldc2_w 277, 3) := by decide +kernel
theorem dX12_digest_332 : decode cX12_digest 332 = .ok (.lload_n 1, 1) := by decide +kernel
theorem dX12_digest_333 : decode cX12_digest 333 = .ok (.lmul, 1) := by decide +kernel
theorem dX12_digest_334 : decode cX12_digest 334 = .ok (.aload_n 0, 1) := by decide +kernel
theorem dX12_digest_335 : decode cX12_digest 335 = .ok (.invokevirtual 231, 3) := by decide +kernel
theorem dX12_digest_338 : decode cX12_digest 338 = .ok (.i2l, 1) := by decide +kernel
theorem dX12_digest_339 : decode cX12_digest 339 = .ok (.ladd, 1) := by decide +kernel
theorem dX12_digest_340 : decode cX12_digest 340 = .ok (.lstore_n 1, 1) := by decide +kernel
theorem dX12_digest_341 : decode cX12_digest 341 = .ok (.ldc2_w 277, 3) := by decide +kernel
theorem dX12_digest_344 : decode cX12_digest 344 = .ok (.lload_n 1, 1) := by decide +kernel
theorem dX12_digest_345 : decode cX12_digest 345 = .ok (.lmul, 1) := by decide +kernel
theorem dX12_digest_346 : decode cX12_digest 346 = .ok (.aload_n 0, 1) := by decide +kernel
theorem dX12_digest_347 : decode cX12_digest 347 = .ok (.iconst 4, 1) := by decide +kernel
theorem dX12_digest_348 : decode cX12_digest 348 = .ok (.invokevirtual 234, 3) := by decide +kernel
theorem dX12_digest_351 : decode cX12_digest 351 = .ok (.i2l, 1) := by decide +kernel
theorem dX12_digest_352 : decode cX12_digest 352 = .ok (.ladd, 1) := by decide +kernel
theorem dX12_digest_353 : decode cX12_digest 353 = .ok (.lstore_n 1, 1) := by decide +kernel
theorem dX12_digest_354 : decode cX12_digest 354 = .ok (.ldc2_w 277, 3) := by decide +kernel
theorem dX12_digest_357 : decode cX12_digest 357 = .ok (.lload_n 1, 1) := by decide +kernel
theorem dX12_digest_358 : decode cX12_digest 358 = .ok (.lmul, 1) := by decide +kernel
theorem dX12_digest_359 : decode cX12_digest 359 = .ok (.aload_n 0, 1) := by decide +kernel
theorem dX12_digest_360 : decode cX12_digest 360 = .ok (.bipush 9, 2) := by decide +kernel
theorem dX12_digest_362 : decode cX12_digest 362 = .ok (.invokevirtual 234, 3) := by decide +kernel
theorem dX12_digest_365 : decode cX12_digest 365 = .ok (.i2l, 1) := by decide +kernel
theorem dX12_digest_366 : decode cX12_digest 366 = .ok (.ladd, 1) := by decide +kernel
theorem dX12_digest_367 : decode cX12_digest 367 = .ok (.lstore_n 1, 1) := by decide +kernel
theorem dX12_digest_368 : decode cX12_digest 368 = .ok (.ldc2_w 277, 3) := by decide +kernel
theorem dX12_digest_371 : decode cX12_digest 371 = .ok (.lload_n 1, 1) := by decide +kernel
theorem dX12_digest_372 : decode cX12_digest 372 = .ok (.lmul, 1) := by decide +kernel
theorem dX12_digest_373 : decode cX12_digest 373 = .ok (.aload_n 0, 1) := by decide +kernel
theorem dX12_digest_374 : decode cX12_digest 374 = .ok (.invokevirtual 250, 3) := by decide +kernel
theorem dX12_digest_377 : decode cX12_digest 377 = .ok (.i2l, 1) := by decide +kernel
theorem dX12_digest_378 : decode cX12_digest 378 = .ok (.ladd, 1) := by decide +kernel
theorem dX12_digest_379 : decode cX12_digest 379 = .ok (.lstore_n 1, 1) := by decide +kernel
theorem dX12_digest_380 : decode cX12_digest 380 = .ok (.ldc2_w 277, 3) := by decide +kernel
theorem dX12_digest_383 : decode cX12_digest 383 = .ok (.lload_n 1, 1) := by decide +kernel
theorem dX12_digest_384 : decode cX12_digest 384 = .ok (.lmul, 1) := by decide +kernel
theorem dX12_digest_385 : decode cX12_digest 385 = .ok (.aload_n 0, 1) := by decide +kernel
theorem dX12_digest_386 : decode cX12_digest 386 = .ok (.invokevirtual 256, 3) := by decide +kernel
theorem dX12_digest_389 : decode cX12_digest 389 = .ok (.i2l, 1) := by decide +kernel
theorem dX12_digest_390 : decode cX12_digest 390 = .ok (.ladd, 1) := by decide +kernel
theorem dX12_digest_391 : decode cX12_digest 391 = .ok (.lstore_n 1, 1) := by decide +kernel
theorem dX12_digest_392 : decode cX12_digest 392 = .ok (.ldc2_w 277, 3) := by decide +kernel
theorem dX12_digest_395 : decode cX12_digest 395 = .ok (.lload_n 1, 1) := by decide +kernel
theorem dX12_digest_396 : decode cX12_digest 396 = .ok (.lmul, 1) := by decide +kernel
theorem dX12_digest_397 : decode cX12_digest 397 = .ok (.aload_n 0, 1) := by decide +kernel
theorem dX12_digest_398 : decode cX12_digest 398 = .ok (.bipush 7, 2) := by decide +kernel
theorem dX12_digest_400 : decode cX12_digest 400 = .ok (.bipush 30, 2) := by decide +kernel
theorem dX12_digest_402 : decode cX12_digest 402 = .ok (.iconst 0, 1) := by decide +kernel
theorem dX12_digest_403 : decode cX12_digest 403 = .ok (.invokevirtual 268, 3) := by decide +kernel
theorem dX12_digest_406 : decode cX12_digest 406 = .ok (.i2l, 1) := by decide +kernel
theorem dX12_digest_407 : decode cX12_digest 407 = .ok (.ladd, 1) := by decide +kernel
theorem dX12_digest_408 : decode cX12_digest 408 = .ok (.lstore_n 1, 1) := by decide +kernel
theorem dX12_digest_409 : decode cX12_digest 409 = .ok (.ldc2_w 277, 3) := by decide +kernel
theorem dX12_digest_412 : decode cX12_digest 412 = .ok (.lload_n 1, 1) := by decide +kernel
theorem dX12_digest_413 : decode cX12_digest 413 = .ok (.lmul, 1) := by decide +kernel
theorem dX12_digest_414 : decode cX12_digest 414 = .ok (.aload_n 0, 1) := by decide +kernel
theorem dX12_digest_415 : decode cX12_digest 415 = .ok (.bipush 7, 2) := by decide +kernel
theorem dX12_digest_417 : decode cX12_digest 417 = .ok (.bipush 30, 2) := by decide +kernel
theorem dX12_digest_419 : decode cX12_digest 419 = .ok (.iconst 1, 1) := by decide +kernel
theorem dX12_digest_420 : decode cX12_digest 420 = .ok (.invokevirtual 268, 3) := by decide +kernel
theorem dX12_digest_423 : decode cX12_digest 423 = .ok (.i2l, 1) := by decide +kernel
theorem dX12_digest_424 : decode cX12_digest 424 = .ok (.ladd, 1) := by decide +kernel
theorem dX12_digest_425 : decode cX12_digest 425 = .ok (.lreturn, 1) := by decide +kernel
theorem dJ6_bitCount_0f7a4_0 : decode cJ6_bitCount_0f7a4 0 = .ok (.iload_n 0, 1) := by decide +kernel
theorem dJ6_bitCount_0f7a4_1 : decode cJ6_bitCount_0f7a4 1 = .ok (.iload_n 0, 1) := by decide +kernel
theorem dJ6_bitCount_0f7a4_2 : decode cJ6_bitCount_0f7a4 2 = .ok (.iconst 1, 1) := by decide +kernel
theorem dJ6_bitCount_0f7a4_3 : decode cJ6_bitCount_0f7a4 3 = .ok (.iushr, 1) := by decide +kernel
theorem dJ6_bitCount_0f7a4_4 : decode cJ6_bitCount_0f7a4 4 = .ok (.ldc_w 265, 3) := by decide +kernel
theorem dJ6_bitCount_0f7a4_7 : decode cJ6_bitCount_0f7a4 7 = .ok (.iand, 1) := by decide +kernel
theorem dJ6_bitCount_0f7a4_8 : decode cJ6_bitCount_0f7a4 8 = .ok (.isub, 1) := by decide +kernel
theorem dJ6_bitCount_0f7a4_9 : decode cJ6_bitCount_0f7a4 9 = .ok (.istore_n 0, 1) := by decide +kernel
theorem dJ6_bitCount_0f7a4_10 : decode cJ6_bitCount_0f7a4 10 = .ok (.iload_n 0, 1) := by decide +kernel
theorem dJ6_bitCount_0f7a4_11 : decode cJ6_bitCount_0f7a4 11 = .ok (.ldc_w 266, 3) := by decide +kernel
theorem dJ6_bitCount_0f7a4_14 : decode cJ6_bitCount_0f7a4 14 = .ok (.iand, 1) := by decide +kernel
theorem dJ6_bitCount_0f7a4_15 : decode cJ6_bitCount_0f7a4 15 = .ok (.iload_n 0, 1) := by decide +kernel
theorem dJ6_bitCount_0f7a4_16 : decode cJ6_bitCount_0f7a4 16 = .ok (.iconst 2, 1) := by decide +kernel
theorem dJ6_bitCount_0f7a4_17 : decode cJ6_bitCount_0f7a4 17 = .ok (.iushr, 1) := by decide +kernel
theorem dJ6_bitCount_0f7a4_18 : decode cJ6_bitCount_0f7a4 18 = .ok (.ldc_w 266, 3) := by decide +kernel
theorem dJ6_bitCount_0f7a4_21 : decode cJ6_bitCount_0f7a4 21 = .ok (.iand, 1) := by decide +kernel
theorem dJ6_bitCount_0f7a4_22 : decode cJ6_bitCount_0f7a4 22 = .ok (.iadd, 1) := by decide +kernel
theorem dJ6_bitCount_0f7a4_23 : decode cJ6_bitCount_0f7a4 23 = .ok (.istore_n 0, 1) := by decide +kernel
theorem dJ6_bitCount_0f7a4_24 : decode cJ6_bitCount_0f7a4 24 = .ok (.iload_n 0, 1) := by decide +kernel
theorem dJ6_bitCount_0f7a4_25 : decode cJ6_bitCount_0f7a4 25 = .ok (.iload_n 0, 1) := by decide +kernel
theorem dJ6_bitCount_0f7a4_26 : decode cJ6_bitCount_0f7a4 26 = .ok (.iconst 4, 1) := by decide +kernel
theorem dJ6_bitCount_0f7a4_27 : decode cJ6_bitCount_0f7a4 27 = .ok (.iushr, 1) := by decide +kernel
theorem dJ6_bitCount_0f7a4_28 : decode cJ6_bitCount_0f7a4 28 = .ok (.iadd, 1) := by decide +kernel
theorem dJ6_bitCount_0f7a4_29 : decode cJ6_bitCount_0f7a4 29 = .ok (.ldc_w 267, 3) := by decide +kernel
theorem dJ6_bitCount_0f7a4_32 : decode cJ6_bitCount_0f7a4 32 = .ok (.iand, 1) := by decide +kernel
theorem dJ6_bitCount_0f7a4_33 : decode cJ6_bitCount_0f7a4 33 = .ok (.istore_n 0, 1) := by decide +kernel
theorem dJ6_bitCount_0f7a4_34 : decode cJ6_bitCount_0f7a4 34 = .ok (.iload_n 0, 1) := by decide +kernel
theorem dJ6_bitCount_0f7a4_35 : decode cJ6_bitCount_0f7a4 35 = .ok (.iload_n 0, 1) := by decide +kernel
theorem dJ6_bitCount_0f7a4_36 : decode cJ6_bitCount_0f7a4 36 = .ok (.bipush 8, 2) := by decide +kernel
theorem dJ6_bitCount_0f7a4_38 : decode cJ6_bitCount_0f7a4 38 = .ok (.iushr, 1) := by decide +kernel
theorem dJ6_bitCount_0f7a4_39 : decode cJ6_bitCount_0f7a4 39 = .ok (.iadd, 1) := by decide +kernel
theorem dJ6_bitCount_0f7a4_40 : decode cJ6_bitCount_0f7a4 40 = .ok (.istore_n 0, 1) := by decide +kernel
theorem dJ6_bitCount_0f7a4_41 : decode cJ6_bitCount_0f7a4 41 = .ok (.iload_n 0, 1) := by decide +kernel
theorem dJ6_bitCount_0f7a4_42 : decode cJ6_bitCount_0f7a4 42 = .ok (.iload_n 0, 1) := by decide +kernel
theorem dJ6_bitCount_0f7a4_43 : decode cJ6_bitCount_0f7a4 43 = .ok (.bipush 16, 2) := by decide +kernel
theorem dJ6_bitCount_0f7a4_45 : decode cJ6_bitCount_0f7a4 45 = .ok (.iushr, 1) := by decide +kernel
theorem dJ6_bitCount_0f7a4_46 : decode cJ6_bitCount_0f7a4 46 = .ok (.iadd, 1) := by decide +kernel
theorem dJ6_bitCount_0f7a4_47 : decode cJ6_bitCount_0f7a4 47 = .ok (.istore_n 0, 1) := by decide +kernel
theorem dJ6_bitCount_0f7a4_48 : decode cJ6_bitCount_0f7a4 48 = .ok (.iload_n 0, 1) := by decide +kernel
theorem dJ6_bitCount_0f7a4_49 : decode cJ6_bitCount_0f7a4 49 = .ok (.bipush 63, 2) := by decide +kernel
theorem dJ6_bitCount_0f7a4_51 : decode cJ6_bitCount_0f7a4 51 = .ok (.iand, 1) := by decide +kernel
theorem dJ6_bitCount_0f7a4_52 : decode cJ6_bitCount_0f7a4 52 = .ok (.ireturn, 1) := by decide +kernel
theorem dJ9_max_7cf53_0 : decode cJ9_max_7cf53 0 = .ok (.iload_n 0, 1) := by decide +kernel
theorem dJ9_max_7cf53_1 : decode cJ9_max_7cf53 1 = .ok (.iload_n 1, 1) := by decide +kernel
theorem dJ9_max_7cf53_2 : decode cJ9_max_7cf53 2 = .ok (.if_icmp .lt 7, 3) := by decide +kernel
theorem dJ9_max_7cf53_5 : decode cJ9_max_7cf53 5 = .ok (.iload_n 0, 1) := by decide +kernel
theorem dJ9_max_7cf53_6 : decode cJ9_max_7cf53 6 = .ok (.goto 4, 3) := by decide +kernel
theorem dJ9_max_7cf53_9 : decode cJ9_max_7cf53 9 = .ok (.iload_n 1, 1) := by decide +kernel
theorem dJ9_max_7cf53_10 : decode cJ9_max_7cf53 10 = .ok (.ireturn, 1) := by decide +kernel
theorem dJ9_max_f86c9_0 : decode cJ9_max_f86c9 0 = .ok (.lload_n 0, 1) := by decide +kernel
theorem dJ9_max_f86c9_1 : decode cJ9_max_f86c9 1 = .ok (.lload_n 2, 1) := by decide +kernel
theorem dJ9_max_f86c9_2 : decode cJ9_max_f86c9 2 = .ok (.lcmp, 1) := by decide +kernel
theorem dJ9_max_f86c9_3 : decode cJ9_max_f86c9 3 = .ok (.ifCond .lt 7, 3) := by decide +kernel
theorem dJ9_max_f86c9_6 : decode cJ9_max_f86c9 6 = .ok (.lload_n 0, 1) := by decide +kernel
theorem dJ9_max_f86c9_7 : decode cJ9_max_f86c9 7 = .ok (.goto 4, 3) := by decide +kernel
theorem dJ9_max_f86c9_10 : decode cJ9_max_f86c9 10 = .ok (.lload_n 2, 1) := by decide +kernel
theorem dJ9_max_f86c9_11 : decode cJ9_max_f86c9 11 = .ok (.lreturn, 1) := by decide +kernel
theorem dJ9_min_7cf53_0 : decode cJ9_min_7cf53 0 = .ok (.iload_n 0, 1) := by decide +kernel
theorem dJ9_min_7cf53_1 : decode cJ9_min_7cf53 1 = .ok (.iload_n 1, 1) := by decide +kernel
theorem dJ9_min_7cf53_2 : decode cJ9_min_7cf53 2 = .ok (.if_icmp .gt 7, 3) := by decide +kernel
theorem dJ9_min_7cf53_5 : decode cJ9_min_7cf53 5 = .ok (.iload_n 0, 1) := by decide +kernel
theorem dJ9_min_7cf53_6 : decode cJ9_min_7cf53 6 = .ok (.goto 4, 3) := by decide +kernel
theorem dJ9_min_7cf53_9 : decode cJ9_min_7cf53 9 = .ok (.iload_n 1, 1) := by decide +kernel
theorem dJ9_min_7cf53_10 : decode cJ9_min_7cf53 10 = .ok (.ireturn, 1) := by decide +kernel
theorem dL_law_0 : decode cL_law 0 = .ok (.new 7, 3) := by decide +kernel
theorem dL_law_3 : decode cL_law 3 = .ok (.dup, 1) := by decide +kernel
theorem dL_law_4 : decode cL_law 4 = .ok (.invokespecial 9, 3) := by decide +kernel
theorem dL_law_7 : decode cL_law 7 = .ok (.astore_n 1, 1) := by decide +kernel
theorem dL_law_8 : decode cL_law 8 = .ok (.new 10, 3) := by decide +kernel
theorem dL_law_11 : decode cL_law 11 = .ok (.dup, 1) := by decide +kernel
theorem dL_law_12 : decode cL_law 12 = .ok (.invokespecial 12, 3) := by decide +kernel
theorem dL_law_15 : decode cL_law 15 = .ok (.astore_n 2, 1) := by decide +kernel
theorem dL_law_16 : decode cL_law 16 = .ok (.iconst 0, 1) := by decide +kernel
theorem dL_law_17 : decode cL_law 17 = .ok (.istore_n 3, 1) := by decide +kernel
theorem dL_law_18 : decode cL_law 18 = .ok (.iload_n 3, 1) := by decide +kernel
theorem dL_law_19 : decode cL_law 19 = .ok (.aload_n 0, 1) := by decide +kernel
theorem dL_law_20 : decode cL_law 20 = .ok (.arraylength, 1) := by decide +kernel
theorem dL_law_21 : decode cL_law 21 = .ok (.bipush 6, 2) := by decide +kernel
theorem dL_law_23 : decode cL_law 23 = .ok (.isub, 1) := by decide +kernel
theorem dL_law_24 : decode cL_law 24 = .ok (.if_icmp .gt 1093, 3) := by decide +kernel
theorem dL_law_27 : decode cL_law 27 = .ok (.aload_n 0, 1) := by decide +kernel
theorem dL_law_28 : decode cL_law 28 = .ok (.iload_n 3, 1) := by decide +kernel
theorem dL_law_29 : decode cL_law 29 = .ok (.iaload, 1) := by decide +kernel
theorem dL_law_30 : decode cL_law 30 = .ok (.bipush 63, 2) := by decide +kernel
theorem dL_law_32 : decode cL_law 32 = .ok (.iand, 1) := by decide +kernel
theorem dL_law_33 : decode cL_law 33 = .ok (.tableswitch 1078 0 33 #[151, 184, 207, 230, 253, 286, 309, 342, 375, 408, 442, 466, 490, 503, 526, 549, 573, 586, 609, 632, 665, 678, 701, 714, 737, 750, 793, 836, 859, 912, 955, 1018, 1041, 1064], 151) := by decide +kernel
theorem dL_law_184 : decode cL_law 184 = .ok (.aload_n 1, 1) := by decide +kernel
theorem dL_law_185 : decode cL_law 185 = .ok (.aload_n 0, 1) := by decide +kernel
theorem dL_law_186 : decode cL_law 186 = .ok (.iload_n 3, 1) := by decide +kernel
theorem dL_law_187 : decode cL_law 187 = .ok (.iconst 1, 1) := by decide +kernel
theorem dL_law_188 : decode cL_law 188 = .ok (.iadd, 1) := by decide +kernel
theorem dL_law_189 : decode cL_law 189 = .ok (.iaload, 1) := by decide +kernel
theorem dL_law_190 : decode cL_law 190 = .ok (.aload_n 0, 1) := by decide +kernel
theorem dL_law_191 : decode cL_law 191 = .ok (.iload_n 3, 1) := by decide +kernel
theorem dL_law_192 : decode cL_law 192 = .ok (.iconst 2, 1) := by decide +kernel
theorem dL_law_193 : decode cL_law 193 = .ok (.iadd, 1) := by decide +kernel
theorem dL_law_194 : decode cL_law 194 = .ok (.iaload, 1) := by decide +kernel
theorem dL_law_195 : decode cL_law 195 = .ok (.invokevirtual 13, 3) := by decide +kernel
theorem dL_law_198 : decode cL_law 198 = .ok (.aload_n 2, 1) := by decide +kernel
theorem dL_law_199 : decode cL_law 199 = .ok (.aload_n 0, 1) := by decide +kernel
theorem dL_law_200 : decode cL_law 200 = .ok (.iload_n 3, 1) := by decide +kernel
theorem dL_law_201 : decode cL_law 201 = .ok (.iconst 1, 1) := by decide +kernel
theorem dL_law_202 : decode cL_law 202 = .ok (.iadd, 1) := by decide +kernel
theorem dL_law_203 : decode cL_law 203 = .ok (.iaload, 1) := by decide +kernel
theorem dL_law_204 : decode cL_law 204 = .ok (.aload_n 0, 1) := by decide +kernel
theorem dL_law_205 : decode cL_law 205 = .ok (.iload_n 3, 1) := by decide +kernel
theorem dL_law_206 : decode cL_law 206 = .ok (.iconst 2, 1) := by decide +kernel
theorem dL_law_207 : decode cL_law 207 = .ok (.iadd, 1) := by decide +kernel
theorem dL_law_208 : decode cL_law 208 = .ok (.iaload, 1) := by decide +kernel
theorem dL_law_209 : decode cL_law 209 = .ok (.invokevirtual 17, 3) := by decide +kernel
theorem dL_law_212 : decode cL_law 212 = .ok (.if_icmp .eq 899, 3) := by decide +kernel
theorem dL_law_215 : decode cL_law 215 = .ok (.iconst 0, 1) := by decide +kernel
theorem dL_law_216 : decode cL_law 216 = .ok (.ireturn, 1) := by decide +kernel
theorem dL_law_217 : decode cL_law 217 = .ok (.aload_n 1, 1) := by decide +kernel
theorem dL_law_218 : decode cL_law 218 = .ok (.aload_n 0, 1) := by decide +kernel
theorem dL_law_219 : decode cL_law 219 = .ok (.iload_n 3, 1) := by decide +kernel
theorem dL_law_220 : decode cL_law 220 = .ok (.iconst 1, 1) := by decide +kernel
theorem dL_law_221 : decode cL_law 221 = .ok (.iadd, 1) := by decide +kernel
theorem dL_law_222 : decode cL_law 222 = .ok (.iaload, 1) := by decide +kernel
theorem dL_law_223 : decode cL_law 223 = .ok (.invokevirtual 18, 3) := by decide +kernel
theorem dL_law_226 : decode cL_law 226 = .ok (.aload_n 2, 1) := by decide +kernel
theorem dL_law_227 : decode cL_law 227 = .ok (.aload_n 0, 1) := by decide +kernel
theorem dL_law_228 : decode cL_law 228 = .ok (.iload_n 3, 1) := by decide +kernel
theorem dL_law_229 : decode cL_law 229 = .ok (.iconst 1, 1) := by decide +kernel
theorem dL_law_230 : decode cL_law 230 = .ok (.iadd, 1) := by decide +kernel
theorem dL_law_231 : decode cL_law 231 = .ok (.iaload, 1) := by decide +kernel
theorem dL_law_232 : decode cL_law 232 = .ok (.invokevirtual 22, 3) := by decide +kernel
theorem dL_law_235 : decode cL_law 235 = .ok (.if_icmp .eq 876, 3) := by decide +kernel
theorem dL_law_238 : decode cL_law 238 = .ok (.iconst 0, 1) := by decide +kernel
theorem dL_law_239 : decode cL_law 239 = .ok (.ireturn, 1) := by decide +kernel
theorem dL_law_240 : decode cL_law 240 = .ok (.aload_n 1, 1) := by decide +kernel
theorem dL_law_241 : decode cL_law 241 = .ok (.aload_n 0, 1) := by decide +kernel
