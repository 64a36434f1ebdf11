theorem dX12_comes_7 : decode cX12_comes 7 = .ok (.aload_n 0, 1) := by decide +kernel
theorem dX12_comes_8 : decode cX12_comes 8 = .ok (.getfield 118, 3) := by decide +kernel
theorem dX12_comes_11 : decode cX12_comes 11 = .ok (.iconst 1, 1) := by decide +kernel
theorem dX12_comes_12 : decode cX12_comes 12 = .ok (.isub, 1) := by decide +kernel
theorem dX12_comes_13 : decode cX12_comes 13 = .ok (.i2l, 1) := by decide +kernel
theorem dX12_comes_14 : decode cX12_comes 14 = .ok (.invokestatic 73, 3) := by decide +kernel
theorem dX12_comes_17 : decode cX12_comes 17 = .ok (.ifCond .eq 32, 3) := by decide +kernel
theorem dX12_comes_20 : decode cX12_comes 20 = .ok (.iload_n 2, 1) := by decide +kernel
theorem dX12_comes_21 : decode cX12_comes 21 = .ok (.invokestatic 102, 3) := by decide +kernel
theorem dX12_comes_24 : decode cX12_comes 24 = .ok (.ifCond .eq 25, 3) := by decide +kernel
theorem dX12_comes_27 : decode cX12_comes 27 = .ok (.iload_n 2, 1) := by decide +kernel
theorem dX12_comes_28 : decode cX12_comes 28 = .ok (.ifCond .ne 12, 3) := by decide +kernel
theorem dX12_comes_31 : decode cX12_comes 31 = .ok (.aload_n 0, 1) := by decide +kernel
theorem dX12_comes_32 : decode cX12_comes 32 = .ok (.getfield 37, 3) := by decide +kernel
theorem dX12_comes_35 : decode cX12_comes 35 = .ok (.iload_n 1, 1) := by decide +kernel
theorem dX12_comes_36 : decode cX12_comes 36 = .ok (.iaload, 1) := by decide +kernel
theorem dX12_comes_37 : decode cX12_comes 37 = .ok (.goto 14, 3) := by decide +kernel
theorem dX12_comes_40 : decode cX12_comes 40 = .ok (.aload_n 0, 1) := by decide +kernel
theorem dX12_comes_41 : decode cX12_comes 41 = .ok (.getfield 40, 3) := by decide +kernel
theorem dX12_comes_44 : decode cX12_comes 44 = .ok (.iload_n 1, 1) := by decide +kernel
theorem dX12_comes_45 : decode cX12_comes 45 = .ok (.iaload, 1) := by decide +kernel
theorem dX12_comes_46 : decode cX12_comes 46 = .ok (.goto 5, 3) := by decide +kernel
theorem dX12_comes_49 : decode cX12_comes 49 = .ok (.bipush (-2), 2) := by decide +kernel
theorem dX12_comes_51 : decode cX12_comes 51 = .ok (.ireturn, 1) := by decide +kernel
theorem dX12_behindOf_0 : decode cX12_behindOf 0 = .ok (.iload_n 2, 1) := by decide +kernel
theorem dX12_behindOf_1 : decode cX12_behindOf 1 = .ok (.ifCond .ne 12, 3) := by decide +kernel
theorem dX12_behindOf_4 : decode cX12_behindOf 4 = .ok (.aload_n 0, 1) := by decide +kernel
theorem dX12_behindOf_5 : decode cX12_behindOf 5 = .ok (.getfield 43, 3) := by decide +kernel
theorem dX12_behindOf_8 : decode cX12_behindOf 8 = .ok (.iload_n 1, 1) := by decide +kernel
theorem dX12_behindOf_9 : decode cX12_behindOf 9 = .ok (.iaload, 1) := by decide +kernel
theorem dX12_behindOf_10 : decode cX12_behindOf 10 = .ok (.goto 9, 3) := by decide +kernel
theorem dX12_behindOf_13 : decode cX12_behindOf 13 = .ok (.aload_n 0, 1) := by decide +kernel
theorem dX12_behindOf_14 : decode cX12_behindOf 14 = .ok (.getfield 46, 3) := by decide +kernel
theorem dX12_behindOf_17 : decode cX12_behindOf 17 = .ok (.iload_n 1, 1) := by decide +kernel
theorem dX12_behindOf_18 : decode cX12_behindOf 18 = .ok (.iaload, 1) := by decide +kernel
theorem dX12_behindOf_19 : decode cX12_behindOf 19 = .ok (.ireturn, 1) := by decide +kernel
theorem dX12_behind_0 : decode cX12_behind 0 = .ok (.aload_n 0, 1) := by decide +kernel
theorem dX12_behind_1 : decode cX12_behind 1 = .ok (.invokevirtual 165, 3) := by decide +kernel
theorem dX12_behind_4 : decode cX12_behind 4 = .ok (.iload_n 1, 1) := by decide +kernel
theorem dX12_behind_5 : decode cX12_behind 5 = .ok (.i2l, 1) := by decide +kernel
theorem dX12_behind_6 : decode cX12_behind 6 = .ok (.lconst 0, 1) := by decide +kernel
theorem dX12_behind_7 : decode cX12_behind 7 = .ok (.aload_n 0, 1) := by decide +kernel
theorem dX12_behind_8 : decode cX12_behind 8 = .ok (.getfield 118, 3) := by decide +kernel
theorem dX12_behind_11 : decode cX12_behind 11 = .ok (.i2l, 1) := by decide +kernel
theorem dX12_behind_12 : decode cX12_behind 12 = .ok (.invokestatic 73, 3) := by decide +kernel
theorem dX12_behind_15 : decode cX12_behind 15 = .ok (.ifCond .eq 19, 3) := by decide +kernel
theorem dX12_behind_18 : decode cX12_behind 18 = .ok (.iload_n 2, 1) := by decide +kernel
theorem dX12_behind_19 : decode cX12_behind 19 = .ok (.invokestatic 102, 3) := by decide +kernel
theorem dX12_behind_22 : decode cX12_behind 22 = .ok (.ifCond .eq 12, 3) := by decide +kernel
theorem dX12_behind_25 : decode cX12_behind 25 = .ok (.aload_n 0, 1) := by decide +kernel
theorem dX12_behind_26 : decode cX12_behind 26 = .ok (.iload_n 1, 1) := by decide +kernel
theorem dX12_behind_27 : decode cX12_behind 27 = .ok (.iload_n 2, 1) := by decide +kernel
theorem dX12_behind_28 : decode cX12_behind 28 = .ok (.invokevirtual 168, 3) := by decide +kernel
theorem dX12_behind_31 : decode cX12_behind 31 = .ok (.goto 5, 3) := by decide +kernel
theorem dX12_behind_34 : decode cX12_behind 34 = .ok (.bipush (-2), 2) := by decide +kernel
theorem dX12_behind_36 : decode cX12_behind 36 = .ok (.ireturn, 1) := by decide +kernel
theorem dX12_aliveOf_0 : decode cX12_aliveOf 0 = .ok (.lconst 1, 1) := by decide +kernel
theorem dX12_aliveOf_1 : decode cX12_aliveOf 1 = .ok (.lstore_n 2, 1) := by decide +kernel
theorem dX12_aliveOf_2 : decode cX12_aliveOf 2 = .ok (.iconst 0, 1) := by decide +kernel
theorem dX12_aliveOf_3 : decode cX12_aliveOf 3 = .ok (.istore 4, 2) := by decide +kernel
theorem dX12_aliveOf_5 : decode cX12_aliveOf 5 = .ok (.iconst 0, 1) := by decide +kernel
theorem dX12_aliveOf_6 : decode cX12_aliveOf 6 = .ok (.istore 5, 2) := by decide +kernel
theorem dX12_aliveOf_8 : decode cX12_aliveOf 8 = .ok (.iload 5, 2) := by decide +kernel
theorem dX12_aliveOf_10 : decode cX12_aliveOf 10 = .ok (.iload_n 1, 1) := by decide +kernel
theorem dX12_aliveOf_11 : decode cX12_aliveOf 11 = .ok (.if_icmp .ge 56, 3) := by decide +kernel
theorem dX12_aliveOf_14 : decode cX12_aliveOf 14 = .ok (.lload_n 2, 1) := by decide +kernel
theorem dX12_aliveOf_15 : decode cX12_aliveOf 15 = .ok (.aload_n 0, 1) := by decide +kernel
theorem dX12_aliveOf_16 : decode cX12_aliveOf 16 = .ok (.getfield 37, 3) := by decide +kernel
theorem dX12_aliveOf_19 : decode cX12_aliveOf 19 = .ok (.iload 5, 2) := by decide +kernel
theorem dX12_aliveOf_21 : decode cX12_aliveOf 21 = .ok (.iaload, 1) := by decide +kernel
theorem dX12_aliveOf_22 : decode cX12_aliveOf 22 = .ok (.iconst 3, 1) := by decide +kernel
theorem dX12_aliveOf_23 : decode cX12_aliveOf 23 = .ok (.if_icmp .ne 14, 3) := by decide +kernel
theorem dX12_aliveOf_26 : decode cX12_aliveOf 26 = .ok (.aload_n 0, 1) := by decide +kernel
theorem dX12_aliveOf_27 : decode cX12_aliveOf 27 = .ok (.getfield 40, 3) := by decide +kernel
theorem dX12_aliveOf_30 : decode cX12_aliveOf 30 = .ok (.iload 5, 2) := by decide +kernel
theorem dX12_aliveOf_32 : decode cX12_aliveOf 32 = .ok (.iaload, 1) := by decide +kernel
theorem dX12_aliveOf_33 : decode cX12_aliveOf 33 = .ok (.i2l, 1) := by decide +kernel
theorem dX12_aliveOf_34 : decode cX12_aliveOf 34 = .ok (.goto 4, 3) := by decide +kernel
theorem dX12_aliveOf_37 : decode cX12_aliveOf 37 = .ok (.lconst 1, 1) := by decide +kernel
theorem dX12_aliveOf_38 : decode cX12_aliveOf 38 = .ok (.lmul, 1) := by decide +kernel
theorem dX12_aliveOf_39 : decode cX12_aliveOf 39 = .ok (.lstore_n 2, 1) := by decide +kernel
theorem dX12_aliveOf_40 : decode cX12_aliveOf 40 = .ok (.iload 4, 2) := by decide +kernel
theorem dX12_aliveOf_42 : decode cX12_aliveOf 42 = .ok (.aload_n 0, 1) := by decide +kernel
theorem dX12_aliveOf_43 : decode cX12_aliveOf 43 = .ok (.getfield 37, 3) := by decide +kernel
theorem dX12_aliveOf_46 : decode cX12_aliveOf 46 = .ok (.iload 5, 2) := by decide +kernel
theorem dX12_aliveOf_48 : decode cX12_aliveOf 48 = .ok (.iaload, 1) := by decide +kernel
theorem dX12_aliveOf_49 : decode cX12_aliveOf 49 = .ok (.iconst 3, 1) := by decide +kernel
theorem dX12_aliveOf_50 : decode cX12_aliveOf 50 = .ok (.if_icmp .ne 7, 3) := by decide +kernel
theorem dX12_aliveOf_53 : decode cX12_aliveOf 53 = .ok (.iconst 1, 1) := by decide +kernel
theorem dX12_aliveOf_54 : decode cX12_aliveOf 54 = .ok (.goto 4, 3) := by decide +kernel
theorem dX12_aliveOf_57 : decode cX12_aliveOf 57 = .ok (.iconst 0, 1) := by decide +kernel
theorem dX12_aliveOf_58 : decode cX12_aliveOf 58 = .ok (.iadd, 1) := by decide +kernel
theorem dX12_aliveOf_59 : decode cX12_aliveOf 59 = .ok (.istore 4, 2) := by decide +kernel
theorem dX12_aliveOf_61 : decode cX12_aliveOf 61 = .ok (.iinc 5 1, 3) := by decide +kernel
theorem dX12_aliveOf_64 : decode cX12_aliveOf 64 = .ok (.goto (-56), 3) := by decide +kernel
theorem dX12_aliveOf_67 : decode cX12_aliveOf 67 = .ok (.lload_n 2, 1) := by decide +kernel
theorem dX12_aliveOf_68 : decode cX12_aliveOf 68 = .ok (.iconst 4, 1) := by decide +kernel
theorem dX12_aliveOf_69 : decode cX12_aliveOf 69 = .ok (.bipush 8, 2) := by decide +kernel
theorem dX12_aliveOf_71 : decode cX12_aliveOf 71 = .ok (.iload 4, 2) := by decide +kernel
theorem dX12_aliveOf_73 : decode cX12_aliveOf 73 = .ok (.isub, 1) := by decide +kernel
theorem dX12_aliveOf_74 : decode cX12_aliveOf 74 = .ok (.imul, 1) := by decide +kernel
theorem dX12_aliveOf_75 : decode cX12_aliveOf 75 = .ok (.lshl, 1) := by decide +kernel
theorem dX12_aliveOf_76 : decode cX12_aliveOf 76 = .ok (.lreturn, 1) := by decide +kernel
theorem dX12_tells_0 : decode cX12_tells 0 = .ok (.lload_n 0, 1) := by decide +kernel
theorem dX12_tells_1 : decode cX12_tells 1 = .ok (.ldc2_w 171, 3) := by decide +kernel
theorem dX12_tells_4 : decode cX12_tells 4 = .ok (.iload_n 2, 1) := by decide +kernel
theorem dX12_tells_5 : decode cX12_tells 5 = .ok (.invokestatic 173, 3) := by decide +kernel
theorem dX12_tells_8 : decode cX12_tells 8 = .ok (.lreturn, 1) := by decide +kernel
theorem dX12_alive_0 : decode cX12_alive 0 = .ok (.aload_n 0, 1) := by decide +kernel
theorem dX12_alive_1 : decode cX12_alive 1 = .ok (.invokevirtual 165, 3) := by decide +kernel
theorem dX12_alive_4 : decode cX12_alive 4 = .ok (.iload_n 1, 1) := by decide +kernel
theorem dX12_alive_5 : decode cX12_alive 5 = .ok (.i2l, 1) := by decide +kernel
theorem dX12_alive_6 : decode cX12_alive 6 = .ok (.lconst 0, 1) := by decide +kernel
theorem dX12_alive_7 : decode cX12_alive 7 = .ok (.aload_n 0, 1) := by decide +kernel
theorem dX12_alive_8 : decode cX12_alive 8 = .ok (.getfield 118, 3) := by decide +kernel
theorem dX12_alive_11 : decode cX12_alive 11 = .ok (.i2l, 1) := by decide +kernel
theorem dX12_alive_12 : decode cX12_alive 12 = .ok (.invokestatic 73, 3) := by decide +kernel
theorem dX12_alive_15 : decode cX12_alive 15 = .ok (.ifCond .eq 22, 3) := by decide +kernel
theorem dX12_alive_18 : decode cX12_alive 18 = .ok (.iload_n 2, 1) := by decide +kernel
theorem dX12_alive_19 : decode cX12_alive 19 = .ok (.invokestatic 102, 3) := by decide +kernel
theorem dX12_alive_22 : decode cX12_alive 22 = .ok (.ifCond .eq 15, 3) := by decide +kernel
theorem dX12_alive_25 : decode cX12_alive 25 = .ok (.aload_n 0, 1) := by decide +kernel
theorem dX12_alive_26 : decode cX12_alive 26 = .ok (.iload_n 1, 1) := by decide +kernel
theorem dX12_alive_27 : decode cX12_alive 27 = .ok (.invokevirtual 177, 3) := by decide +kernel
theorem dX12_alive_30 : decode cX12_alive 30 = .ok (.iload_n 2, 1) := by decide +kernel
theorem dX12_alive_31 : decode cX12_alive 31 = .ok (.invokestatic 181, 3) := by decide +kernel
theorem dX12_alive_34 : decode cX12_alive 34 = .ok (.goto 8, 3) := by decide +kernel
theorem dX12_alive_37 : decode cX12_alive 37 = .ok (.bipush (-2), 2) := by decide +kernel
theorem dX12_alive_39 : decode cX12_alive 39 = .ok (.invokestatic 185, 3) := by decide +kernel
theorem dX12_alive_42 : decode cX12_alive 42 = .ok (.lreturn, 1) := by decide +kernel
theorem dX12_livesNow_0 : decode cX12_livesNow 0 = .ok (.aload_n 0, 1) := by decide +kernel
theorem dX12_livesNow_1 : decode cX12_livesNow 1 = .ok (.getfield 46, 3) := by decide +kernel
theorem dX12_livesNow_4 : decode cX12_livesNow 4 = .ok (.aload_n 0, 1) := by decide +kernel
theorem dX12_livesNow_5 : decode cX12_livesNow 5 = .ok (.getfield 118, 3) := by decide +kernel
theorem dX12_livesNow_8 : decode cX12_livesNow 8 = .ok (.iaload, 1) := by decide +kernel
theorem dX12_livesNow_9 : decode cX12_livesNow 9 = .ok (.aload_n 0, 1) := by decide +kernel
theorem dX12_livesNow_10 : decode cX12_livesNow 10 = .ok (.getfield 34, 3) := by decide +kernel
theorem dX12_livesNow_13 : decode cX12_livesNow 13 = .ok (.iconst 1, 1) := by decide +kernel
theorem dX12_livesNow_14 : decode cX12_livesNow 14 = .ok (.iaload, 1) := by decide +kernel
theorem dX12_livesNow_15 : decode cX12_livesNow 15 = .ok (.if_icmp .lt 14, 3) := by decide +kernel
theorem dX12_livesNow_18 : decode cX12_livesNow 18 = .ok (.aload_n 0, 1) := by decide +kernel
theorem dX12_livesNow_19 : decode cX12_livesNow 19 = .ok (.aload_n 0, 1) := by decide +kernel
theorem dX12_livesNow_20 : decode cX12_livesNow 20 = .ok (.getfield 118, 3) := by decide +kernel
theorem dX12_livesNow_23 : decode cX12_livesNow 23 = .ok (.invokevirtual 177, 3) := by decide +kernel
theorem dX12_livesNow_26 : decode cX12_livesNow 26 = .ok (.goto 4, 3) := by decide +kernel
theorem dX12_livesNow_29 : decode cX12_livesNow 29 = .ok (.lconst 0, 1) := by decide +kernel
theorem dX12_livesNow_30 : decode cX12_livesNow 30 = .ok (.lreturn, 1) := by decide +kernel
theorem dX12_lives_0 : decode cX12_lives 0 = .ok (.aload_n 0, 1) := by decide +kernel
theorem dX12_lives_1 : decode cX12_lives 1 = .ok (.invokevirtual 165, 3) := by decide +kernel
theorem dX12_lives_4 : decode cX12_lives 4 = .ok (.iload_n 1, 1) := by decide +kernel
theorem dX12_lives_5 : decode cX12_lives 5 = .ok (.invokestatic 102, 3) := by decide +kernel
theorem dX12_lives_8 : decode cX12_lives 8 = .ok (.ifCond .eq 14, 3) := by decide +kernel
theorem dX12_lives_11 : decode cX12_lives 11 = .ok (.aload_n 0, 1) := by decide +kernel
theorem dX12_lives_12 : decode cX12_lives 12 = .ok (.invokevirtual 188, 3) := by decide +kernel
theorem dX12_lives_15 : decode cX12_lives 15 = .ok (.iload_n 1, 1) := by decide +kernel
theorem dX12_lives_16 : decode cX12_lives 16 = .ok (.invokestatic 181, 3) := by decide +kernel
theorem dX12_lives_19 : decode cX12_lives 19 = .ok (.goto 8, 3) := by decide +kernel
theorem dX12_lives_22 : decode cX12_lives 22 = .ok (.bipush (-2), 2) := by decide +kernel
theorem dX12_lives_24 : decode cX12_lives 24 = .ok (.invokestatic 185, 3) := by decide +kernel
theorem dX12_lives_27 : decode cX12_lives 27 = .ok (.lreturn, 1) := by decide +kernel
theorem dX12_isHarmed_0 : decode cX12_isHarmed 0 = .ok (.aload_n 0, 1) := by decide +kernel
theorem dX12_isHarmed_1 : decode cX12_isHarmed 1 = .ok (.getfield 37, 3) := by decide +kernel
theorem dX12_isHarmed_4 : decode cX12_isHarmed 4 = .ok (.iload_n 1, 1) := by decide +kernel
theorem dX12_isHarmed_5 : decode cX12_isHarmed 5 = .ok (.iaload, 1) := by decide +kernel
theorem dX12_isHarmed_6 : decode cX12_isHarmed 6 = .ok (.iconst 3, 1) := by decide +kernel
theorem dX12_isHarmed_7 : decode cX12_isHarmed 7 = .ok (.if_icmp .ne 25, 3) := by decide +kernel
theorem dX12_isHarmed_10 : decode cX12_isHarmed 10 = .ok (.aload_n 0, 1) := by decide +kernel
theorem dX12_isHarmed_11 : decode cX12_isHarmed 11 = .ok (.getfield 28, 3) := by decide +kernel
theorem dX12_isHarmed_14 : decode cX12_isHarmed 14 = .ok (.iconst 5, 1) := by decide +kernel
theorem dX12_isHarmed_15 : decode cX12_isHarmed 15 = .ok (.aload_n 0, 1) := by decide +kernel
theorem dX12_isHarmed_16 : decode cX12_isHarmed 16 = .ok (.getfield 31, 3) := by decide +kernel
theorem dX12_isHarmed_19 : decode cX12_isHarmed 19 = .ok (.iload_n 1, 1) := by decide +kernel
theorem dX12_isHarmed_20 : decode cX12_isHarmed 20 = .ok (.iaload, 1) := by decide +kernel
theorem dX12_isHarmed_21 : decode cX12_isHarmed 21 = .ok (.imul, 1) := by decide +kernel
theorem dX12_isHarmed_22 : decode cX12_isHarmed 22 = .ok (.iconst 3, 1) := by decide +kernel
theorem dX12_isHarmed_23 : decode cX12_isHarmed 23 = .ok (.iadd, 1) := by decide +kernel
theorem dX12_isHarmed_24 : decode cX12_isHarmed 24 = .ok (.iaload, 1) := by decide +kernel
theorem dX12_isHarmed_25 : decode cX12_isHarmed 25 = .ok (.ifCond .ne 7, 3) := by decide +kernel
theorem dX12_isHarmed_28 : decode cX12_isHarmed 28 = .ok (.iconst 1, 1) := by decide +kernel
theorem dX12_isHarmed_29 : decode cX12_isHarmed 29 = .ok (.goto 4, 3) := by decide +kernel
theorem dX12_isHarmed_32 : decode cX12_isHarmed 32 = .ok (.iconst 0, 1) := by decide +kernel
theorem dX12_isHarmed_33 : decode cX12_isHarmed 33 = .ok (.ireturn, 1) := by decide +kernel
theorem dX12_harmNow_0 : decode cX12_harmNow 0 = .ok (.lconst 0, 1) := by decide +kernel
theorem dX12_harmNow_1 : decode cX12_harmNow 1 = .ok (.lstore_n 1, 1) := by decide +kernel
theorem dX12_harmNow_2 : decode cX12_harmNow 2 = .ok (.iconst 0, 1) := by decide +kernel
theorem dX12_harmNow_3 : decode cX12_harmNow 3 = .ok (.istore_n 3, 1) := by decide +kernel
theorem dX12_harmNow_4 : decode cX12_harmNow 4 = .ok (.iload_n 3, 1) := by decide +kernel
theorem dX12_harmNow_5 : decode cX12_harmNow 5 = .ok (.aload_n 0, 1) := by decide +kernel
theorem dX12_harmNow_6 : decode cX12_harmNow 6 = .ok (.getfield 118, 3) := by decide +kernel
theorem dX12_harmNow_9 : decode cX12_harmNow 9 = .ok (.if_icmp .ge 31, 3) := by decide +kernel
theorem dX12_harmNow_12 : decode cX12_harmNow 12 = .ok (.lload_n 1, 1) := by decide +kernel
theorem dX12_harmNow_13 : decode cX12_harmNow 13 = .ok (.aload_n 0, 1) := by decide +kernel
theorem dX12_harmNow_14 : decode cX12_harmNow 14 = .ok (.iload_n 3, 1) := by decide +kernel
theorem dX12_harmNow_15 : decode cX12_harmNow 15 = .ok (.invokevirtual 192, 3) := by decide +kernel
theorem dX12_harmNow_18 : decode cX12_harmNow 18 = .ok (.ifCond .eq 13, 3) := by decide +kernel
theorem dX12_harmNow_21 : decode cX12_harmNow 21 = .ok (.aload_n 0, 1) := by decide +kernel
theorem dX12_harmNow_22 : decode cX12_harmNow 22 = .ok (.iload_n 3, 1) := by decide +kernel
theorem dX12_harmNow_23 : decode cX12_harmNow 23 = .ok (.iconst 1, 1) := by decide +kernel
theorem dX12_harmNow_24 : decode cX12_harmNow 24 = .ok (.iadd, 1) := by decide +kernel
theorem dX12_harmNow_25 : decode cX12_harmNow 25 = .ok (.invokevirtual 177, 3) := by decide +kernel
theorem dX12_harmNow_28 : decode cX12_harmNow 28 = .ok (.goto 4, 3) := by decide +kernel
theorem dX12_harmNow_31 : decode cX12_harmNow 31 = .ok (.lconst 0, 1) := by decide +kernel
theorem dX12_harmNow_32 : decode cX12_harmNow 32 = .ok (.ladd, 1) := by decide +kernel
theorem dX12_harmNow_33 : decode cX12_harmNow 33 = .ok (.lstore_n 1, 1) := by decide +kernel
theorem dX12_harmNow_34 : decode cX12_harmNow 34 = .ok (.iinc 3 1, 3) := by decide +kernel
theorem dX12_harmNow_37 : decode cX12_harmNow 37 = .ok (.goto (-33), 3) := by decide +kernel
theorem dX12_harmNow_40 : decode cX12_harmNow 40 = .ok (.lload_n 1, 1) := by decide +kernel
theorem dX12_harmNow_41 : decode cX12_harmNow 41 = .ok (.lreturn, 1) := by decide +kernel
theorem dX12_harm_0 : decode cX12_harm 0 = .ok (.aload_n 0, 1) := by decide +kernel
theorem dX12_harm_1 : decode cX12_harm 1 = .ok (.invokevirtual 165, 3) := by decide +kernel
theorem dX12_harm_4 : decode cX12_harm 4 = .ok (.iload_n 1, 1) := by decide +kernel
theorem dX12_harm_5 : decode cX12_harm 5 = .ok (.invokestatic 102, 3) := by decide +kernel
theorem dX12_harm_8 : decode cX12_harm 8 = .ok (.ifCond .eq 14, 3) := by decide +kernel
theorem dX12_harm_11 : decode cX12_harm 11 = .ok (.aload_n 0, 1) := by decide +kernel
theorem dX12_harm_12 : decode cX12_harm 12 = .ok (.invokevirtual 195, 3) := by decide +kernel
theorem dX12_harm_15 : decode cX12_harm 15 = .ok (.iload_n 1, 1) := by decide +kernel
theorem dX12_harm_16 : decode cX12_harm 16 = .ok (.invokestatic 181, 3) := by decide +kernel
theorem dX12_harm_19 : decode cX12_harm 19 = .ok (.goto 8, 3) := by decide +kernel
theorem dX12_harm_22 : decode cX12_harm 22 = .ok (.bipush (-2), 2) := by decide +kernel
theorem dX12_harm_24 : decode cX12_harm 24 = .ok (.invokestatic 185, 3) := by decide +kernel
theorem dX12_harm_27 : decode cX12_harm 27 = .ok (.lreturn, 1) := by decide +kernel
theorem dX12_worstNow_0 : decode cX12_worstNow 0 = .ok (.iconst (-1), 1) := by decide +kernel
theorem dX12_worstNow_1 : decode cX12_worstNow 1 = .ok (.istore_n 1, 1) := by decide +kernel
theorem dX12_worstNow_2 : decode cX12_worstNow 2 = .ok (.iconst 0, 1) := by decide +kernel
theorem dX12_worstNow_3 : decode cX12_worstNow 3 = .ok (.istore_n 2, 1) := by decide +kernel
theorem dX12_worstNow_4 : decode cX12_worstNow 4 = .ok (.iload_n 2, 1) := by decide +kernel
theorem dX12_worstNow_5 : decode cX12_worstNow 5 = .ok (.aload_n 0, 1) := by decide +kernel
theorem dX12_worstNow_6 : decode cX12_worstNow 6 = .ok (.getfield 118, 3) := by decide +kernel
theorem dX12_worstNow_9 : decode cX12_worstNow 9 = .ok (.if_icmp .ge 35, 3) := by decide +kernel
theorem dX12_worstNow_12 : decode cX12_worstNow 12 = .ok (.iload_n 1, 1) := by decide +kernel
theorem dX12_worstNow_13 : decode cX12_worstNow 13 = .ok (.iconst (-1), 1) := by decide +kernel
theorem dX12_worstNow_14 : decode cX12_worstNow 14 = .ok (.if_icmp .eq 18, 3) := by decide +kernel
theorem dX12_worstNow_17 : decode cX12_worstNow 17 = .ok (.aload_n 0, 1) := by decide +kernel
theorem dX12_worstNow_18 : decode cX12_worstNow 18 = .ok (.getfield 40, 3) := by decide +kernel
theorem dX12_worstNow_21 : decode cX12_worstNow 21 = .ok (.iload_n 2, 1) := by decide +kernel
theorem dX12_worstNow_22 : decode cX12_worstNow 22 = .ok (.iaload, 1) := by decide +kernel
theorem dX12_worstNow_23 : decode cX12_worstNow 23 = .ok (.aload_n 0, 1) := by decide +kernel
theorem dX12_worstNow_24 : decode cX12_worstNow 24 = .ok (.getfield 40, 3) := by decide +kernel
theorem dX12_worstNow_27 : decode cX12_worstNow 27 = .ok (.iload_n 1, 1) := by decide +kernel
theorem dX12_worstNow_28 : decode cX12_worstNow 28 = .ok (.iaload, 1) := by decide +kernel
theorem dX12_worstNow_29 : decode cX12_worstNow 29 = .ok (.if_icmp .ge 7, 3) := by decide +kernel
theorem dX12_worstNow_32 : decode cX12_worstNow 32 = .ok (.iload_n 2, 1) := by decide +kernel
theorem dX12_worstNow_33 : decode cX12_worstNow 33 = .ok (.goto 4, 3) := by decide +kernel
theorem dX12_worstNow_36 : decode cX12_worstNow 36 = .ok (.iload_n 1, 1) := by decide +kernel
theorem dX12_worstNow_37 : decode cX12_worstNow 37 = .ok (.istore_n 1, 1) := by decide +kernel
theorem dX12_worstNow_38 : decode cX12_worstNow 38 = .ok (.iinc 2 1, 3) := by decide +kernel
theorem dX12_worstNow_41 : decode cX12_worstNow 41 = .ok (.goto (-37), 3) := by decide +kernel
theorem dX12_worstNow_44 : decode cX12_worstNow 44 = .ok (.iload_n 1, 1) := by decide +kernel
theorem dX12_worstNow_45 : decode cX12_worstNow 45 = .ok (.ireturn, 1) := by decide +kernel
theorem dX12_worst_0 : decode cX12_worst 0 = .ok (.aload_n 0, 1) := by decide +kernel
theorem dX12_worst_1 : decode cX12_worst 1 = .ok (.invokevirtual 165, 3) := by decide +kernel
theorem dX12_worst_4 : decode cX12_worst 4 = .ok (.aload_n 0, 1) := by decide +kernel
theorem dX12_worst_5 : decode cX12_worst 5 = .ok (.invokevirtual 198, 3) := by decide +kernel
theorem dX12_worst_8 : decode cX12_worst 8 = .ok (.ireturn, 1) := by decide +kernel
theorem dX12_fateOf_0 : decode cX12_fateOf 0 = .ok (.iconst 0, 1) := by decide +kernel
theorem dX12_fateOf_1 : decode cX12_fateOf 1 = .ok (.istore_n 2, 1) := by decide +kernel
theorem dX12_fateOf_2 : decode cX12_fateOf 2 = .ok (.iload_n 2, 1) := by decide +kernel
theorem dX12_fateOf_3 : decode cX12_fateOf 3 = .ok (.aload_n 0, 1) := by decide +kernel
theorem dX12_fateOf_4 : decode cX12_fateOf 4 = .ok (.getfield 118, 3) := by decide +kernel
theorem dX12_fateOf_7 : decode cX12_fateOf 7 = .ok (.if_icmp .ge 26, 3) := by decide +kernel
theorem dX12_fateOf_10 : decode cX12_fateOf 10 = .ok (.aload_n 0, 1) := by decide +kernel
theorem dX12_fateOf_11 : decode cX12_fateOf 11 = .ok (.getfield 31, 3) := by decide +kernel
theorem dX12_fateOf_14 : decode cX12_fateOf 14 = .ok (.iload_n 2, 1) := by decide +kernel
theorem dX12_fateOf_15 : decode cX12_fateOf 15 = .ok (.iaload, 1) := by decide +kernel
theorem dX12_fateOf_16 : decode cX12_fateOf 16 = .ok (.iload_n 1, 1) := by decide +kernel
theorem dX12_fateOf_17 : decode cX12_fateOf 17 = .ok (.if_icmp .ne 10, 3) := by decide +kernel
theorem dX12_fateOf_20 : decode cX12_fateOf 20 = .ok (.aload_n 0, 1) := by decide +kernel
theorem dX12_fateOf_21 : decode cX12_fateOf 21 = .ok (.getfield 37, 3) := by decide +kernel
theorem dX12_fateOf_24 : decode cX12_fateOf 24 = .ok (.iload_n 2, 1) := by decide +kernel
theorem dX12_fateOf_25 : decode cX12_fateOf 25 = .ok (.iaload, 1) := by decide +kernel
theorem dX12_fateOf_26 : decode cX12_fateOf 26 = .ok (.ireturn, 1) := by decide +kernel
theorem dX12_fateOf_27 : decode cX12_fateOf 27 = .ok (.iinc 2 1, 3) := by decide +kernel
theorem dX12_fateOf_30 : decode cX12_fateOf 30 = .ok (.goto (-28), 3) := by decide +kernel
theorem dX12_fateOf_33 : decode cX12_fateOf 33 = .ok (.iconst (-1), 1) := by decide +kernel
theorem dX12_fateOf_34 : decode cX12_fateOf 34 = .ok (.ireturn, 1) := by decide +kernel
theorem dX12_fate_0 : decode cX12_fate 0 = .ok (.aload_n 0, 1) := by decide +kernel
theorem dX12_fate_1 : decode cX12_fate 1 = .ok (.invokevirtual 165, 3) := by decide +kernel
theorem dX12_fate_4 : decode cX12_fate 4 = .ok (.aload_n 0, 1) := by decide +kernel
theorem dX12_fate_5 : decode cX12_fate 5 = .ok (.iload_n 1, 1) := by decide +kernel
theorem dX12_fate_6 : decode cX12_fate 6 = .ok (.invokevirtual 132, 3) := by decide +kernel
theorem dX12_fate_9 : decode cX12_fate 9 = .ok (.ifCond .eq 11, 3) := by decide +kernel
theorem dX12_fate_12 : decode cX12_fate 12 = .ok (.aload_n 0, 1) := by decide +kernel
theorem dX12_fate_13 : decode cX12_fate 13 = .ok (.iload_n 1, 1) := by decide +kernel
theorem dX12_fate_14 : decode cX12_fate 14 = .ok (.invokevirtual 201, 3) := by decide +kernel
theorem dX12_fate_17 : decode cX12_fate 17 = .ok (.goto 5, 3) := by decide +kernel
theorem dX12_fate_20 : decode cX12_fate 20 = .ok (.bipush (-2), 2) := by decide +kernel
theorem dX12_fate_22 : decode cX12_fate 22 = .ok (.ireturn, 1) := by decide +kernel
theorem dX12_adds_0 : decode cX12_adds 0 = .ok (.aload_n 0, 1) := by decide +kernel
theorem dX12_adds_1 : decode cX12_adds 1 = .ok (.iload_n 2, 1) := by decide +kernel
theorem dX12_adds_2 : decode cX12_adds 2 = .ok (.invokevirtual 153, 3) := by decide +kernel
theorem dX12_adds_5 : decode cX12_adds 5 = .ok (.istore_n 3, 1) := by decide +kernel
theorem dX12_adds_6 : decode cX12_adds 6 = .ok (.aload_n 0, 1) := by decide +kernel
theorem dX12_adds_7 : decode cX12_adds 7 = .ok (.getfield 52, 3) := by decide +kernel
theorem dX12_adds_10 : decode cX12_adds 10 = .ok (.iload_n 1, 1) := by decide +kernel
theorem dX12_adds_11 : decode cX12_adds 11 = .ok (.iconst 1, 1) := by decide +kernel
theorem dX12_adds_12 : decode cX12_adds 12 = .ok (.iadd, 1) := by decide +kernel
theorem dX12_adds_13 : decode cX12_adds 13 = .ok (.aload_n 0, 1) := by decide +kernel
theorem dX12_adds_14 : decode cX12_adds 14 = .ok (.aload_n 0, 1) := by decide +kernel
theorem dX12_adds_15 : decode cX12_adds 15 = .ok (.getfield 52, 3) := by decide +kernel
theorem dX12_adds_18 : decode cX12_adds 18 = .ok (.iload_n 1, 1) := by decide +kernel
theorem dX12_adds_19 : decode cX12_adds 19 = .ok (.iaload, 1) := by decide +kernel
theorem dX12_adds_20 : decode cX12_adds 20 = .ok (.iload_n 3, 1) := by decide +kernel
theorem dX12_adds_21 : decode cX12_adds 21 = .ok (.invokevirtual 159, 3) := by decide +kernel
theorem dX12_adds_24 : decode cX12_adds 24 = .ok (.iastore, 1) := by decide +kernel
theorem dX12_adds_25 : decode cX12_adds 25 = .ok (.aload_n 0, 1) := by decide +kernel
theorem dX12_adds_26 : decode cX12_adds 26 = .ok (.getfield 55, 3) := by decide +kernel
theorem dX12_adds_29 : decode cX12_adds 29 = .ok (.iload_n 1, 1) := by decide +kernel
theorem dX12_adds_30 : decode cX12_adds 30 = .ok (.iconst 1, 1) := by decide +kernel
theorem dX12_adds_31 : decode cX12_adds 31 = .ok (.iadd, 1) := by decide +kernel
theorem dX12_adds_32 : decode cX12_adds 32 = .ok (.aload_n 0, 1) := by decide +kernel
theorem dX12_adds_33 : decode cX12_adds 33 = .ok (.getfield 55, 3) := by decide +kernel
theorem dX12_adds_36 : decode cX12_adds 36 = .ok (.iload_n 1, 1) := by decide +kernel
theorem dX12_adds_37 : decode cX12_adds 37 = .ok (.iaload, 1) := by decide +kernel
theorem dX12_adds_38 : decode cX12_adds 38 = .ok (.iload_n 3, 1) := by decide +kernel
theorem dX12_adds_39 : decode cX12_adds 39 = .ok (.i2l, 1) := by decide +kernel
theorem dX12_adds_40 : decode cX12_adds 40 = .ok (.lconst 1, 1) := by decide +kernel
theorem dX12_adds_41 : decode cX12_adds 41 = .ok (.ldc2_w 81, 3) := by decide +kernel
theorem dX12_adds_44 : decode cX12_adds 44 = .ok (.invokestatic 73, 3) := by decide +kernel
theorem dX12_adds_47 : decode cX12_adds 47 = .ok (.ifCond .eq 7, 3) := by decide +kernel
theorem dX12_adds_50 : decode cX12_adds 50 = .ok (.iconst 1, 1) := by decide +kernel
theorem dX12_adds_51 : decode cX12_adds 51 = .ok (.goto 4, 3) := by decide +kernel
theorem dX12_adds_54 : decode cX12_adds 54 = .ok (.iconst 0, 1) := by decide +kernel
theorem dX12_adds_55 : decode cX12_adds 55 = .ok (.iadd, 1) := by decide +kernel
theorem dX12_adds_56 : decode cX12_adds 56 = .ok (.iastore, 1) := by decide +kernel
theorem dX12_adds_57 : decode cX12_adds 57 = .ok (.aload_n 0, 1) := by decide +kernel
theorem dX12_adds_58 : decode cX12_adds 58 = .ok (.getfield 58, 3) := by decide +kernel
theorem dX12_adds_61 : decode cX12_adds 61 = .ok (.iload_n 1, 1) := by decide +kernel
theorem dX12_adds_62 : decode cX12_adds 62 = .ok (.iconst 1, 1) := by decide +kernel
theorem dX12_adds_63 : decode cX12_adds 63 = .ok (.iadd, 1) := by decide +kernel
theorem dX12_adds_64 : decode cX12_adds 64 = .ok (.iload_n 3, 1) := by decide +kernel
theorem dX12_adds_65 : decode cX12_adds 65 = .ok (.iconst 3, 1) := by decide +kernel
theorem dX12_adds_66 : decode cX12_adds 66 = .ok (.if_icmp .ne 29, 3) := by decide +kernel
theorem dX12_adds_69 : decode cX12_adds 69 = .ok (.aload_n 0, 1) := by decide +kernel
theorem dX12_adds_70 : decode cX12_adds 70 = .ok (.getfield 58, 3) := by decide +kernel
theorem dX12_adds_73 : decode cX12_adds 73 = .ok (.iload_n 1, 1) := by decide +kernel
theorem dX12_adds_74 : decode cX12_adds 74 = .ok (.laload, 1) := by decide +kernel
theorem dX12_adds_75 : decode cX12_adds 75 = .ok (.ldc2_w 204, 3) := by decide +kernel
theorem dX12_adds_78 : decode cX12_adds 78 = .ok (.ldiv, 1) := by decide +kernel
theorem dX12_adds_79 : decode cX12_adds 79 = .ok (.aload_n 0, 1) := by decide +kernel
theorem dX12_adds_80 : decode cX12_adds 80 = .ok (.iload_n 2, 1) := by decide +kernel
theorem dX12_adds_81 : decode cX12_adds 81 = .ok (.aload_n 0, 1) := by decide +kernel
theorem dX12_adds_82 : decode cX12_adds 82 = .ok (.getfield 52, 3) := by decide +kernel
theorem dX12_adds_85 : decode cX12_adds 85 = .ok (.iload_n 1, 1) := by decide +kernel
theorem dX12_adds_86 : decode cX12_adds 86 = .ok (.iaload, 1) := by decide +kernel
theorem dX12_adds_87 : decode cX12_adds 87 = .ok (.invokevirtual 156, 3) := by decide +kernel
theorem dX12_adds_90 : decode cX12_adds 90 = .ok (.i2l, 1) := by decide +kernel
theorem dX12_adds_91 : decode cX12_adds 91 = .ok (.lmul, 1) := by decide +kernel
theorem dX12_adds_92 : decode cX12_adds 92 = .ok (.goto 9, 3) := by decide +kernel
theorem dX12_adds_95 : decode cX12_adds 95 = .ok (.aload_n 0, 1) := by decide +kernel
theorem dX12_adds_96 : decode cX12_adds 96 = .ok (.getfield 58, 3) := by decide +kernel
theorem dX12_adds_99 : decode cX12_adds 99 = .ok (.iload_n 1, 1) := by decide +kernel
theorem dX12_adds_100 : decode cX12_adds 100 = .ok (.laload, 1) := by decide +kernel
theorem dX12_adds_101 : decode cX12_adds 101 = .ok (.lastore, 1) := by decide +kernel
theorem dX12_adds_102 : decode cX12_adds 102 = .ok (.return_, 1) := by decide +kernel
theorem dX12_keeps_0 : decode cX12_keeps 0 = .ok (.aload_n 0, 1) := by decide +kernel
theorem dX12_keeps_1 : decode cX12_keeps 1 = .ok (.aload_n 0, 1) := by decide +kernel
theorem dX12_keeps_2 : decode cX12_keeps 2 = .ok (.getfield 58, 3) := by decide +kernel
theorem dX12_keeps_5 : decode cX12_keeps 5 = .ok (.iload_n 1, 1) := by decide +kernel
theorem dX12_keeps_6 : decode cX12_keeps 6 = .ok (.laload, 1) := by decide +kernel
theorem dX12_keeps_7 : decode cX12_keeps 7 = .ok (.putfield 206, 3) := by decide +kernel
theorem dX12_keeps_10 : decode cX12_keeps 10 = .ok (.aload_n 0, 1) := by decide +kernel
theorem dX12_keeps_11 : decode cX12_keeps 11 = .ok (.iload_n 1, 1) := by decide +kernel
theorem dX12_keeps_12 : decode cX12_keeps 12 = .ok (.putfield 210, 3) := by decide +kernel
theorem dX12_keeps_15 : decode cX12_keeps 15 = .ok (.iconst 0, 1) := by decide +kernel
theorem dX12_keeps_16 : decode cX12_keeps 16 = .ok (.istore_n 2, 1) := by decide +kernel
theorem dX12_keeps_17 : decode cX12_keeps 17 = .ok (.iload_n 2, 1) := by decide +kernel
theorem dX12_keeps_18 : decode cX12_keeps 18 = .ok (.iload_n 1, 1) := by decide +kernel
theorem dX12_keeps_19 : decode cX12_keeps 19 = .ok (.if_icmp .ge 21, 3) := by decide +kernel
theorem dX12_keeps_22 : decode cX12_keeps 22 = .ok (.aload_n 0, 1) := by decide +kernel
theorem dX12_keeps_23 : decode cX12_keeps 23 = .ok (.getfield 62, 3) := by decide +kernel
theorem dX12_keeps_26 : decode cX12_keeps 26 = .ok (.iload_n 2, 1) := by decide +kernel
theorem dX12_keeps_27 : decode cX12_keeps 27 = .ok (.aload_n 0, 1) := by decide +kernel
theorem dX12_keeps_28 : decode cX12_keeps 28 = .ok (.getfield 49, 3) := by decide +kernel
theorem dX12_keeps_31 : decode cX12_keeps 31 = .ok (.iload_n 2, 1) := by decide +kernel
theorem dX12_keeps_32 : decode cX12_keeps 32 = .ok (.iaload, 1) := by decide +kernel
theorem dX12_keeps_33 : decode cX12_keeps 33 = .ok (.iastore, 1) := by decide +kernel
theorem dX12_keeps_34 : decode cX12_keeps 34 = .ok (.iinc 2 1, 3) := by decide +kernel
theorem dX12_keeps_37 : decode cX12_keeps 37 = .ok (.goto (-20), 3) := by decide +kernel
theorem dX12_keeps_40 : decode cX12_keeps 40 = .ok (.return_, 1) := by decide +kernel
theorem dX12_findOrder_0 : decode cX12_findOrder 0 = .ok (.aload_n 0, 1) := by decide +kernel
theorem dX12_findOrder_1 : decode cX12_findOrder 1 = .ok (.iconst (-1), 1) := by decide +kernel
theorem dX12_findOrder_2 : decode cX12_findOrder 2 = .ok (.putfield 210, 3) := by decide +kernel
theorem dX12_findOrder_5 : decode cX12_findOrder 5 = .ok (.aload_n 0, 1) := by decide +kernel
theorem dX12_findOrder_6 : decode cX12_findOrder 6 = .ok (.lconst 0, 1) := by decide +kernel
theorem dX12_findOrder_7 : decode cX12_findOrder 7 = .ok (.putfield 206, 3) := by decide +kernel
theorem dX12_findOrder_10 : decode cX12_findOrder 10 = .ok (.aload_n 0, 1) := by decide +kernel
theorem dX12_findOrder_11 : decode cX12_findOrder 11 = .ok (.getfield 52, 3) := by decide +kernel
theorem dX12_findOrder_14 : decode cX12_findOrder 14 = .ok (.iconst 0, 1) := by decide +kernel
theorem dX12_findOrder_15 : decode cX12_findOrder 15 = .ok (.aload_n 0, 1) := by decide +kernel
theorem dX12_findOrder_16 : decode cX12_findOrder 16 = .ok (.getfield 34, 3) := by decide +kernel
theorem dX12_findOrder_19 : decode cX12_findOrder 19 = .ok (.iconst 0, 1) := by decide +kernel
theorem dX12_findOrder_20 : decode cX12_findOrder 20 = .ok (.iaload, 1) := by decide +kernel
theorem dX12_findOrder_21 : decode cX12_findOrder 21 = .ok (.iastore, 1) := by decide +kernel
theorem dX12_findOrder_22 : decode cX12_findOrder 22 = .ok (.aload_n 0, 1) := by decide +kernel
theorem dX12_findOrder_23 : decode cX12_findOrder 23 = .ok (.getfield 55, 3) := by decide +kernel
theorem dX12_findOrder_26 : decode cX12_findOrder 26 = .ok (.iconst 0, 1) := by decide +kernel
theorem dX12_findOrder_27 : decode cX12_findOrder 27 = .ok (.iconst 0, 1) := by decide +kernel
theorem dX12_findOrder_28 : decode cX12_findOrder 28 = .ok (.iastore, 1) := by decide +kernel
theorem dX12_findOrder_29 : decode cX12_findOrder 29 = .ok (.aload_n 0, 1) := by decide +kernel
theorem dX12_findOrder_30 : decode cX12_findOrder 30 = .ok (.getfield 58, 3) := by decide +kernel
theorem dX12_findOrder_33 : decode cX12_findOrder 33 = .ok (.iconst 0, 1) := by decide +kernel
theorem dX12_findOrder_34 : decode cX12_findOrder 34 = .ok (.ldc2_w 171, 3) := by decide +kernel
theorem dX12_findOrder_37 : decode cX12_findOrder 37 = .ok (.lastore, 1) := by decide +kernel
theorem dX12_findOrder_38 : decode cX12_findOrder 38 = .ok (.iconst 0, 1) := by decide +kernel
theorem dX12_findOrder_39 : decode cX12_findOrder 39 = .ok (.istore_n 1, 1) := by decide +kernel
theorem dX12_findOrder_40 : decode cX12_findOrder 40 = .ok (.iconst 0, 1) := by decide +kernel
theorem dX12_findOrder_41 : decode cX12_findOrder 41 = .ok (.istore_n 2, 1) := by decide +kernel
theorem dX12_findOrder_42 : decode cX12_findOrder 42 = .ok (.aload_n 0, 1) := by decide +kernel
theorem dX12_findOrder_43 : decode cX12_findOrder 43 = .ok (.getfield 49, 3) := by decide +kernel
theorem dX12_findOrder_46 : decode cX12_findOrder 46 = .ok (.iconst 0, 1) := by decide +kernel
theorem dX12_findOrder_47 : decode cX12_findOrder 47 = .ok (.iconst (-1), 1) := by decide +kernel
theorem dX12_findOrder_48 : decode cX12_findOrder 48 = .ok (.iastore, 1) := by decide +kernel
theorem dX12_findOrder_49 : decode cX12_findOrder 49 = .ok (.iload_n 1, 1) := by decide +kernel
theorem dX12_findOrder_50 : decode cX12_findOrder 50 = .ok (.ifCond .lt 171, 3) := by decide +kernel
theorem dX12_findOrder_53 : decode cX12_findOrder 53 = .ok (.aload_n 0, 1) := by decide +kernel
theorem dX12_findOrder_54 : decode cX12_findOrder 54 = .ok (.getfield 49, 3) := by decide +kernel
theorem dX12_findOrder_57 : decode cX12_findOrder 57 = .ok (.iload_n 1, 1) := by decide +kernel
theorem dX12_findOrder_58 : decode cX12_findOrder 58 = .ok (.iaload, 1) := by decide +kernel
theorem dX12_findOrder_59 : decode cX12_findOrder 59 = .ok (.iconst 1, 1) := by decide +kernel
theorem dX12_findOrder_60 : decode cX12_findOrder 60 = .ok (.iadd, 1) := by decide +kernel
theorem dX12_findOrder_61 : decode cX12_findOrder 61 = .ok (.istore_n 3, 1) := by decide +kernel
theorem dX12_findOrder_62 : decode cX12_findOrder 62 = .ok (.aload_n 0, 1) := by decide +kernel
theorem dX12_findOrder_63 : decode cX12_findOrder 63 = .ok (.getfield 49, 3) := by decide +kernel
theorem dX12_findOrder_66 : decode cX12_findOrder 66 = .ok (.iload_n 1, 1) := by decide +kernel
theorem dX12_findOrder_67 : decode cX12_findOrder 67 = .ok (.iaload, 1) := by decide +kernel
theorem dX12_findOrder_68 : decode cX12_findOrder 68 = .ok (.ifCond .lt 16, 3) := by decide +kernel
theorem dX12_findOrder_71 : decode cX12_findOrder 71 = .ok (.iload_n 2, 1) := by decide +kernel
theorem dX12_findOrder_72 : decode cX12_findOrder 72 = .ok (.iconst 1, 1) := by decide +kernel
theorem dX12_findOrder_73 : decode cX12_findOrder 73 = .ok (.aload_n 0, 1) := by decide +kernel
theorem dX12_findOrder_74 : decode cX12_findOrder 74 = .ok (.getfield 49, 3) := by decide +kernel
theorem dX12_findOrder_77 : decode cX12_findOrder 77 = .ok (.iload_n 1, 1) := by decide +kernel
theorem dX12_findOrder_78 : decode cX12_findOrder 78 = .ok (.iaload, 1) := by decide +kernel
theorem dX12_findOrder_79 : decode cX12_findOrder 79 = .ok (.ishl, 1) := by decide +kernel
theorem dX12_findOrder_80 : decode cX12_findOrder 80 = .ok (.iconst (-1), 1) := by decide +kernel
theorem dX12_findOrder_81 : decode cX12_findOrder 81 = .ok (.ixor, 1) := by decide +kernel
theorem dX12_findOrder_82 : decode cX12_findOrder 82 = .ok (.iand, 1) := by decide +kernel
theorem dX12_findOrder_83 : decode cX12_findOrder 83 = .ok (.istore_n 2, 1) := by decide +kernel
theorem dX12_findOrder_84 : decode cX12_findOrder 84 = .ok (.iload_n 3, 1) := by decide +kernel
theorem dX12_findOrder_85 : decode cX12_findOrder 85 = .ok (.aload_n 0, 1) := by decide +kernel
theorem dX12_findOrder_86 : decode cX12_findOrder 86 = .ok (.getfield 112, 3) := by decide +kernel
theorem dX12_findOrder_89 : decode cX12_findOrder 89 = .ok (.if_icmp .ge 17, 3) := by decide +kernel
theorem dX12_findOrder_92 : decode cX12_findOrder 92 = .ok (.iload_n 2, 1) := by decide +kernel
theorem dX12_findOrder_93 : decode cX12_findOrder 93 = .ok (.iload_n 3, 1) := by decide +kernel
theorem dX12_findOrder_94 : decode cX12_findOrder 94 = .ok (.invokestatic 149, 3) := by decide +kernel
theorem dX12_findOrder_97 : decode cX12_findOrder 97 = .ok (.ifCond .eq 9, 3) := by decide +kernel
theorem dX12_findOrder_100 : decode cX12_findOrder 100 = .ok (.iinc 3 1, 3) := by decide +kernel
theorem dX12_findOrder_103 : decode cX12_findOrder 103 = .ok (.goto (-19), 3) := by decide +kernel
theorem dX12_findOrder_106 : decode cX12_findOrder 106 = .ok (.iload_n 3, 1) := by decide +kernel
theorem dX12_findOrder_107 : decode cX12_findOrder 107 = .ok (.aload_n 0, 1) := by decide +kernel
theorem dX12_findOrder_108 : decode cX12_findOrder 108 = .ok (.getfield 112, 3) := by decide +kernel
theorem dX12_findOrder_111 : decode cX12_findOrder 111 = .ok (.if_icmp .lt 9, 3) := by decide +kernel
theorem dX12_findOrder_114 : decode cX12_findOrder 114 = .ok (.iinc 1 (-1), 3) := by decide +kernel
theorem dX12_findOrder_117 : decode cX12_findOrder 117 = .ok (.goto 101, 3) := by decide +kernel
theorem dX12_findOrder_120 : decode cX12_findOrder 120 = .ok (.aload_n 0, 1) := by decide +kernel
theorem dX12_findOrder_121 : decode cX12_findOrder 121 = .ok (.getfield 49, 3) := by decide +kernel
theorem dX12_findOrder_124 : decode cX12_findOrder 124 = .ok (.iload_n 1, 1) := by decide +kernel
theorem dX12_findOrder_125 : decode cX12_findOrder 125 = .ok (.iload_n 3, 1) := by decide +kernel
theorem dX12_findOrder_126 : decode cX12_findOrder 126 = .ok (.iastore, 1) := by decide +kernel
theorem dX12_findOrder_127 : decode cX12_findOrder 127 = .ok (.iload_n 2, 1) := by decide +kernel
theorem dX12_findOrder_128 : decode cX12_findOrder 128 = .ok (.iconst 1, 1) := by decide +kernel
theorem dX12_findOrder_129 : decode cX12_findOrder 129 = .ok (.iload_n 3, 1) := by decide +kernel
theorem dX12_findOrder_130 : decode cX12_findOrder 130 = .ok (.ishl, 1) := by decide +kernel
theorem dX12_findOrder_131 : decode cX12_findOrder 131 = .ok (.ior, 1) := by decide +kernel
theorem dX12_findOrder_132 : decode cX12_findOrder 132 = .ok (.istore_n 2, 1) := by decide +kernel
theorem dX12_findOrder_133 : decode cX12_findOrder 133 = .ok (.aload_n 0, 1) := by decide +kernel
theorem dX12_findOrder_134 : decode cX12_findOrder 134 = .ok (.iload_n 1, 1) := by decide +kernel
theorem dX12_findOrder_135 : decode cX12_findOrder 135 = .ok (.iload_n 3, 1) := by decide +kernel
theorem dX12_findOrder_136 : decode cX12_findOrder 136 = .ok (.invokevirtual 213, 3) := by decide +kernel
theorem dX12_findOrder_139 : decode cX12_findOrder 139 = .ok (.aload_n 0, 1) := by decide +kernel
theorem dX12_findOrder_140 : decode cX12_findOrder 140 = .ok (.getfield 55, 3) := by decide +kernel
theorem dX12_findOrder_143 : decode cX12_findOrder 143 = .ok (.iload_n 1, 1) := by decide +kernel
theorem dX12_findOrder_144 : decode cX12_findOrder 144 = .ok (.iconst 1, 1) := by decide +kernel
theorem dX12_findOrder_145 : decode cX12_findOrder 145 = .ok (.iadd, 1) := by decide +kernel
theorem dX12_findOrder_146 : decode cX12_findOrder 146 = .ok (.iaload, 1) := by decide +kernel
theorem dX12_findOrder_147 : decode cX12_findOrder 147 = .ok (.aload_n 0, 1) := by decide +kernel
theorem dX12_findOrder_148 : decode cX12_findOrder 148 = .ok (.getfield 34, 3) := by decide +kernel
theorem dX12_findOrder_151 : decode cX12_findOrder 151 = .ok (.iconst 1, 1) := by decide +kernel
theorem dX12_findOrder_152 : decode cX12_findOrder 152 = .ok (.iaload, 1) := by decide +kernel
theorem dX12_findOrder_153 : decode cX12_findOrder 153 = .ok (.if_icmp .lt 29, 3) := by decide +kernel
theorem dX12_findOrder_156 : decode cX12_findOrder 156 = .ok (.aload_n 0, 1) := by decide +kernel
theorem dX12_findOrder_157 : decode cX12_findOrder 157 = .ok (.getfield 58, 3) := by decide +kernel
theorem dX12_findOrder_160 : decode cX12_findOrder 160 = .ok (.iload_n 1, 1) := by decide +kernel
theorem dX12_findOrder_161 : decode cX12_findOrder 161 = .ok (.iconst 1, 1) := by decide +kernel
theorem dX12_findOrder_162 : decode cX12_findOrder 162 = .ok (.iadd, 1) := by decide +kernel
theorem dX12_findOrder_163 : decode cX12_findOrder 163 = .ok (.laload, 1) := by decide +kernel
theorem dX12_findOrder_164 : decode cX12_findOrder 164 = .ok (.aload_n 0, 1) := by decide +kernel
theorem dX12_findOrder_165 : decode cX12_findOrder 165 = .ok (.getfield 206, 3) := by decide +kernel
theorem dX12_findOrder_168 : decode cX12_findOrder 168 = .ok (.lcmp, 1) := by decide +kernel
theorem dX12_findOrder_169 : decode cX12_findOrder 169 = .ok (.ifCond .le 49, 3) := by decide +kernel
theorem dX12_findOrder_172 : decode cX12_findOrder 172 = .ok (.aload_n 0, 1) := by decide +kernel
theorem dX12_findOrder_173 : decode cX12_findOrder 173 = .ok (.iload_n 1, 1) := by decide +kernel
theorem dX12_findOrder_174 : decode cX12_findOrder 174 = .ok (.iconst 1, 1) := by decide +kernel
theorem dX12_findOrder_175 : decode cX12_findOrder 175 = .ok (.iadd, 1) := by decide +kernel
theorem dX12_findOrder_176 : decode cX12_findOrder 176 = .ok (.invokevirtual 217, 3) := by decide +kernel
theorem dX12_findOrder_179 : decode cX12_findOrder 179 = .ok (.goto 39, 3) := by decide +kernel
theorem dX12_findOrder_182 : decode cX12_findOrder 182 = .ok (.iload_n 1, 1) := by decide +kernel
theorem dX12_findOrder_183 : decode cX12_findOrder 183 = .ok (.iconst 1, 1) := by decide +kernel
theorem dX12_findOrder_184 : decode cX12_findOrder 184 = .ok (.iadd, 1) := by decide +kernel
theorem dX12_findOrder_185 : decode cX12_findOrder 185 = .ok (.aload_n 0, 1) := by decide +kernel
theorem dX12_findOrder_186 : decode cX12_findOrder 186 = .ok (.getfield 112, 3) := by decide +kernel
theorem dX12_findOrder_189 : decode cX12_findOrder 189 = .ok (.if_icmp .ge 29, 3) := by decide +kernel
theorem dX12_findOrder_192 : decode cX12_findOrder 192 = .ok (.aload_n 0, 1) := by decide +kernel
theorem dX12_findOrder_193 : decode cX12_findOrder 193 = .ok (.getfield 58, 3) := by decide +kernel
theorem dX12_findOrder_196 : decode cX12_findOrder 196 = .ok (.iload_n 1, 1) := by decide +kernel
theorem dX12_findOrder_197 : decode cX12_findOrder 197 = .ok (.iconst 1, 1) := by decide +kernel
theorem dX12_findOrder_198 : decode cX12_findOrder 198 = .ok (.iadd, 1) := by decide +kernel
theorem dX12_findOrder_199 : decode cX12_findOrder 199 = .ok (.laload, 1) := by decide +kernel
theorem dX12_findOrder_200 : decode cX12_findOrder 200 = .ok (.aload_n 0, 1) := by decide +kernel
theorem dX12_findOrder_201 : decode cX12_findOrder 201 = .ok (.getfield 206, 3) := by decide +kernel
theorem dX12_findOrder_204 : decode cX12_findOrder 204 = .ok (.lcmp, 1) := by decide +kernel
theorem dX12_findOrder_205 : decode cX12_findOrder 205 = .ok (.ifCond .le 13, 3) := by decide +kernel
theorem dX12_findOrder_208 : decode cX12_findOrder 208 = .ok (.iinc 1 1, 3) := by decide +kernel
theorem dX12_findOrder_211 : decode cX12_findOrder 211 = .ok (.aload_n 0, 1) := by decide +kernel
theorem dX12_findOrder_212 : decode cX12_findOrder 212 = .ok (.getfield 49, 3) := by decide +kernel
theorem dX12_findOrder_215 : decode cX12_findOrder 215 = .ok (.iload_n 1, 1) := by decide +kernel
theorem dX12_findOrder_216 : decode cX12_findOrder 216 = .ok (.iconst (-1), 1) := by decide +kernel
theorem dX12_findOrder_217 : decode cX12_findOrder 217 = .ok (.iastore, 1) := by decide +kernel
theorem dX12_findOrder_218 : decode cX12_findOrder 218 = .ok (.goto (-169), 3) := by decide +kernel
theorem dX12_findOrder_221 : decode cX12_findOrder 221 = .ok (.return_, 1) := by decide +kernel
theorem dX12_orderBy_0 : decode cX12_orderBy 0 = .ok (.iload_n 1, 1) := by decide +kernel
theorem dX12_orderBy_1 : decode cX12_orderBy 1 = .ok (.iconst (-1), 1) := by decide +kernel
theorem dX12_orderBy_2 : decode cX12_orderBy 2 = .ok (.if_icmp .eq 11, 3) := by decide +kernel
theorem dX12_orderBy_5 : decode cX12_orderBy 5 = .ok (.aload_n 0, 1) := by decide +kernel
theorem dX12_orderBy_6 : decode cX12_orderBy 6 = .ok (.getfield 210, 3) := by decide +kernel
theorem dX12_orderBy_9 : decode cX12_orderBy 9 = .ok (.iconst (-1), 1) := by decide +kernel
theorem dX12_orderBy_10 : decode cX12_orderBy 10 = .ok (.if_icmp .ne 10, 3) := by decide +kernel
theorem dX12_orderBy_13 : decode cX12_orderBy 13 = .ok (.aload_n 0, 1) := by decide +kernel
theorem dX12_orderBy_14 : decode cX12_orderBy 14 = .ok (.getfield 210, 3) := by decide +kernel
theorem dX12_orderBy_17 : decode cX12_orderBy 17 = .ok (.goto 21, 3) := by decide +kernel
theorem dX12_orderBy_20 : decode cX12_orderBy 20 = .ok (.iload_n 1, 1) := by decide +kernel
theorem dX12_orderBy_21 : decode cX12_orderBy 21 = .ok (.aload_n 0, 1) := by decide +kernel
theorem dX12_orderBy_22 : decode cX12_orderBy 22 = .ok (.getfield 210, 3) := by decide +kernel
theorem dX12_orderBy_25 : decode cX12_orderBy 25 = .ok (.if_icmp .ge 12, 3) := by decide +kernel
theorem dX12_orderBy_28 : decode cX12_orderBy 28 = .ok (.aload_n 0, 1) := by decide +kernel
theorem dX12_orderBy_29 : decode cX12_orderBy 29 = .ok (.getfield 62, 3) := by decide +kernel
theorem dX12_orderBy_32 : decode cX12_orderBy 32 = .ok (.iload_n 1, 1) := by decide +kernel
theorem dX12_orderBy_33 : decode cX12_orderBy 33 = .ok (.iaload, 1) := by decide +kernel
theorem dX12_orderBy_34 : decode cX12_orderBy 34 = .ok (.goto 4, 3) := by decide +kernel
theorem dX12_orderBy_37 : decode cX12_orderBy 37 = .ok (.iconst (-1), 1) := by decide +kernel
theorem dX12_orderBy_38 : decode cX12_orderBy 38 = .ok (.ireturn, 1) := by decide +kernel
theorem dX12_order_0 : decode cX12_order 0 = .ok (.aload_n 0, 1) := by decide +kernel
theorem dX12_order_1 : decode cX12_order 1 = .ok (.invokevirtual 165, 3) := by decide +kernel
theorem dX12_order_4 : decode cX12_order 4 = .ok (.iload_n 1, 1) := by decide +kernel
theorem dX12_order_5 : decode cX12_order 5 = .ok (.i2l, 1) := by decide +kernel
theorem dX12_order_6 : decode cX12_order 6 = .ok (.ldc2_w 221, 3) := by decide +kernel
theorem dX12_order_9 : decode cX12_order 9 = .ok (.ldc2_w 223, 3) := by decide +kernel
theorem dX12_order_12 : decode cX12_order 12 = .ok (.invokestatic 73, 3) := by decide +kernel
theorem dX12_order_15 : decode cX12_order 15 = .ok (.ifCond .ne 6, 3) := by decide +kernel
theorem dX12_order_18 : decode cX12_order 18 = .ok (.bipush (-2), 2) := by decide +kernel
theorem dX12_order_20 : decode cX12_order 20 = .ok (.ireturn, 1) := by decide +kernel
theorem dX12_order_21 : decode cX12_order 21 = .ok (.aload_n 0, 1) := by decide +kernel
theorem dX12_order_22 : decode cX12_order 22 = .ok (.invokevirtual 225, 3) := by decide +kernel
theorem dX12_order_25 : decode cX12_order 25 = .ok (.aload_n 0, 1) := by decide +kernel
theorem dX12_order_26 : decode cX12_order 26 = .ok (.iload_n 1, 1) := by decide +kernel
theorem dX12_order_27 : decode cX12_order 27 = .ok (.invokevirtual 228, 3) := by decide +kernel
theorem dX12_order_30 : decode cX12_order 30 = .ok (.ireturn, 1) := by decide +kernel
theorem dX12_best_0 : decode cX12_best 0 = .ok (.aload_n 0, 1) := by decide +kernel
theorem dX12_best_1 : decode cX12_best 1 = .ok (.invokevirtual 165, 3) := by decide +kernel
theorem dX12_best_4 : decode cX12_best 4 = .ok (.iload_n 1, 1) := by decide +kernel
theorem dX12_best_5 : decode cX12_best 5 = .ok (.invokestatic 102, 3) := by decide +kernel
theorem dX12_best_8 : decode cX12_best 8 = .ok (.ifCond .ne 9, 3) := by decide +kernel
theorem dX12_best_11 : decode cX12_best 11 = .ok (.bipush (-2), 2) := by decide +kernel
theorem dX12_best_13 : decode cX12_best 13 = .ok (.invokestatic 185, 3) := by decide +kernel
theorem dX12_best_16 : decode cX12_best 16 = .ok (.lreturn, 1) := by decide +kernel
theorem dX12_best_17 : decode cX12_best 17 = .ok (.aload_n 0, 1) := by decide +kernel
theorem dX12_best_18 : decode cX12_best 18 = .ok (.invokevirtual 225, 3) := by decide +kernel
theorem dX12_best_21 : decode cX12_best 21 = .ok (.aload_n 0, 1) := by decide +kernel
theorem dX12_best_22 : decode cX12_best 22 = .ok (.getfield 206, 3) := by decide +kernel
theorem dX12_best_25 : decode cX12_best 25 = .ok (.iload_n 1, 1) := by decide +kernel
theorem dX12_best_26 : decode cX12_best 26 = .ok (.invokestatic 181, 3) := by decide +kernel
theorem dX12_best_29 : decode cX12_best 29 = .ok (.lreturn, 1) := by decide +kernel
theorem dX12_priceNow_0 : decode cX12_priceNow 0 = .ok (.aload_n 0, 1) := by decide +kernel
theorem dX12_priceNow_1 : decode cX12_priceNow 1 = .ok (.getfield 34, 3) := by decide +kernel
theorem dX12_priceNow_4 : decode cX12_priceNow 4 = .ok (.iconst 2, 1) := by decide +kernel
theorem dX12_priceNow_5 : decode cX12_priceNow 5 = .ok (.iaload, 1) := by decide +kernel
theorem dX12_priceNow_6 : decode cX12_priceNow 6 = .ok (.istore_n 1, 1) := by decide +kernel
theorem dX12_priceNow_7 : decode cX12_priceNow 7 = .ok (.iconst (-1), 1) := by decide +kernel
theorem dX12_priceNow_8 : decode cX12_priceNow 8 = .ok (.istore_n 2, 1) := by decide +kernel
theorem dX12_priceNow_9 : decode cX12_priceNow 9 = .ok (.lconst 0, 1) := by decide +kernel
theorem dX12_priceNow_10 : decode cX12_priceNow 10 = .ok (.lstore_n 3, 1) := by decide +kernel
theorem dX12_priceNow_11 : decode cX12_priceNow 11 = .ok (.iconst 0, 1) := by decide +kernel
theorem dX12_priceNow_12 : decode cX12_priceNow 12 = .ok (.istore 5, 2) := by decide +kernel
theorem dX12_priceNow_14 : decode cX12_priceNow 14 = .ok (.iload 5, 2) := by decide +kernel
theorem dX12_priceNow_16 : decode cX12_priceNow 16 = .ok (.bipush 10, 2) := by decide +kernel
theorem dX12_priceNow_18 : decode cX12_priceNow 18 = .ok (.if_icmp .ge 70, 3) := by decide +kernel
theorem dX12_priceNow_21 : decode cX12_priceNow 21 = .ok (.aload_n 0, 1) := by decide +kernel
theorem dX12_priceNow_22 : decode cX12_priceNow 22 = .ok (.getfield 34, 3) := by decide +kernel
theorem dX12_priceNow_25 : decode cX12_priceNow 25 = .ok (.iconst 2, 1) := by decide +kernel
theorem dX12_priceNow_26 : decode cX12_priceNow 26 = .ok (.iload 5, 2) := by decide +kernel
theorem dX12_priceNow_28 : decode cX12_priceNow 28 = .ok (.iastore, 1) := by decide +kernel
theorem dX12_priceNow_29 : decode cX12_priceNow 29 = .ok (.aload_n 0, 1) := by decide +kernel
theorem dX12_priceNow_30 : decode cX12_priceNow 30 = .ok (.invokevirtual 162, 3) := by decide +kernel
theorem dX12_priceNow_33 : decode cX12_priceNow 33 = .ok (.aload_n 0, 1) := by decide +kernel
theorem dX12_priceNow_34 : decode cX12_priceNow 34 = .ok (.invokevirtual 188, 3) := by decide +kernel
theorem dX12_priceNow_37 : decode cX12_priceNow 37 = .ok (.lstore 6, 2) := by decide +kernel
theorem dX12_priceNow_39 : decode cX12_priceNow 39 = .ok (.iload_n 2, 1) := by decide +kernel
theorem dX12_priceNow_40 : decode cX12_priceNow 40 = .ok (.iconst (-1), 1) := by decide +kernel
theorem dX12_priceNow_41 : decode cX12_priceNow 41 = .ok (.if_icmp .eq 10, 3) := by decide +kernel
theorem dX12_priceNow_44 : decode cX12_priceNow 44 = .ok (.lload 6, 2) := by decide +kernel
theorem dX12_priceNow_46 : decode cX12_priceNow 46 = .ok (.lload_n 3, 1) := by decide +kernel
