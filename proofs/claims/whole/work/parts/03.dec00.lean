theorem dX0_init_0 : decode cX0_init 0 = .ok (.aload_n 0, 1) := by decide +kernel
theorem dX0_init_1 : decode cX0_init 1 = .ok (.invokespecial 3, 3) := by decide +kernel
theorem dX0_init_4 : decode cX0_init 4 = .ok (.aload_n 0, 1) := by decide +kernel
theorem dX0_init_5 : decode cX0_init 5 = .ok (.bipush 12, 2) := by decide +kernel
theorem dX0_init_7 : decode cX0_init 7 = .ok (.newarray .int, 2) := by decide +kernel
theorem dX0_init_9 : decode cX0_init 9 = .ok (.putfield 9, 3) := by decide +kernel
theorem dX0_init_12 : decode cX0_init 12 = .ok (.aload_n 0, 1) := by decide +kernel
theorem dX0_init_13 : decode cX0_init 13 = .ok (.bipush 12, 2) := by decide +kernel
theorem dX0_init_15 : decode cX0_init 15 = .ok (.newarray .int, 2) := by decide +kernel
theorem dX0_init_17 : decode cX0_init 17 = .ok (.putfield 15, 3) := by decide +kernel
theorem dX0_init_20 : decode cX0_init 20 = .ok (.aload_n 0, 1) := by decide +kernel
theorem dX0_init_21 : decode cX0_init 21 = .ok (.bipush 13, 2) := by decide +kernel
theorem dX0_init_23 : decode cX0_init 23 = .ok (.newarray .int, 2) := by decide +kernel
theorem dX0_init_25 : decode cX0_init 25 = .ok (.putfield 18, 3) := by decide +kernel
theorem dX0_init_28 : decode cX0_init 28 = .ok (.aload_n 0, 1) := by decide +kernel
theorem dX0_init_29 : decode cX0_init 29 = .ok (.bipush 13, 2) := by decide +kernel
theorem dX0_init_31 : decode cX0_init 31 = .ok (.newarray .int, 2) := by decide +kernel
theorem dX0_init_33 : decode cX0_init 33 = .ok (.putfield 21, 3) := by decide +kernel
theorem dX0_init_36 : decode cX0_init 36 = .ok (.aload_n 0, 1) := by decide +kernel
theorem dX0_init_37 : decode cX0_init 37 = .ok (.bipush 13, 2) := by decide +kernel
theorem dX0_init_39 : decode cX0_init 39 = .ok (.newarray .long, 2) := by decide +kernel
theorem dX0_init_41 : decode cX0_init 41 = .ok (.putfield 24, 3) := by decide +kernel
theorem dX0_init_44 : decode cX0_init 44 = .ok (.aload_n 0, 1) := by decide +kernel
theorem dX0_init_45 : decode cX0_init 45 = .ok (.bipush 13, 2) := by decide +kernel
theorem dX0_init_47 : decode cX0_init 47 = .ok (.newarray .int, 2) := by decide +kernel
theorem dX0_init_49 : decode cX0_init 49 = .ok (.putfield 28, 3) := by decide +kernel
theorem dX0_init_52 : decode cX0_init 52 = .ok (.aload_n 0, 1) := by decide +kernel
theorem dX0_init_53 : decode cX0_init 53 = .ok (.bipush 8, 2) := by decide +kernel
theorem dX0_init_55 : decode cX0_init 55 = .ok (.newarray .int, 2) := by decide +kernel
theorem dX0_init_57 : decode cX0_init 57 = .ok (.putfield 31, 3) := by decide +kernel
theorem dX0_init_60 : decode cX0_init 60 = .ok (.return_, 1) := by decide +kernel
theorem dX0_setOut_0 : decode cX0_setOut 0 = .ok (.aload_n 0, 1) := by decide +kernel
theorem dX0_setOut_1 : decode cX0_setOut 1 = .ok (.iconst 0, 1) := by decide +kernel
theorem dX0_setOut_2 : decode cX0_setOut 2 = .ok (.putfield 34, 3) := by decide +kernel
theorem dX0_setOut_5 : decode cX0_setOut 5 = .ok (.aload_n 0, 1) := by decide +kernel
theorem dX0_setOut_6 : decode cX0_setOut 6 = .ok (.iload_n 2, 1) := by decide +kernel
theorem dX0_setOut_7 : decode cX0_setOut 7 = .ok (.putfield 38, 3) := by decide +kernel
theorem dX0_setOut_10 : decode cX0_setOut 10 = .ok (.aload_n 0, 1) := by decide +kernel
theorem dX0_setOut_11 : decode cX0_setOut 11 = .ok (.lconst 0, 1) := by decide +kernel
theorem dX0_setOut_12 : decode cX0_setOut 12 = .ok (.putfield 41, 3) := by decide +kernel
theorem dX0_setOut_15 : decode cX0_setOut 15 = .ok (.aload_n 0, 1) := by decide +kernel
theorem dX0_setOut_16 : decode cX0_setOut 16 = .ok (.getfield 18, 3) := by decide +kernel
theorem dX0_setOut_19 : decode cX0_setOut 19 = .ok (.iconst 0, 1) := by decide +kernel
theorem dX0_setOut_20 : decode cX0_setOut 20 = .ok (.iload_n 1, 1) := by decide +kernel
theorem dX0_setOut_21 : decode cX0_setOut 21 = .ok (.iastore, 1) := by decide +kernel
theorem dX0_setOut_22 : decode cX0_setOut 22 = .ok (.aload_n 0, 1) := by decide +kernel
theorem dX0_setOut_23 : decode cX0_setOut 23 = .ok (.getfield 21, 3) := by decide +kernel
theorem dX0_setOut_26 : decode cX0_setOut 26 = .ok (.iconst 0, 1) := by decide +kernel
theorem dX0_setOut_27 : decode cX0_setOut 27 = .ok (.iconst 0, 1) := by decide +kernel
theorem dX0_setOut_28 : decode cX0_setOut 28 = .ok (.iastore, 1) := by decide +kernel
theorem dX0_setOut_29 : decode cX0_setOut 29 = .ok (.aload_n 0, 1) := by decide +kernel
theorem dX0_setOut_30 : decode cX0_setOut 30 = .ok (.getfield 24, 3) := by decide +kernel
theorem dX0_setOut_33 : decode cX0_setOut 33 = .ok (.iconst 0, 1) := by decide +kernel
theorem dX0_setOut_34 : decode cX0_setOut 34 = .ok (.lconst 1, 1) := by decide +kernel
theorem dX0_setOut_35 : decode cX0_setOut 35 = .ok (.lastore, 1) := by decide +kernel
theorem dX0_setOut_36 : decode cX0_setOut 36 = .ok (.aload_n 0, 1) := by decide +kernel
theorem dX0_setOut_37 : decode cX0_setOut 37 = .ok (.getfield 28, 3) := by decide +kernel
theorem dX0_setOut_40 : decode cX0_setOut 40 = .ok (.iconst 0, 1) := by decide +kernel
theorem dX0_setOut_41 : decode cX0_setOut 41 = .ok (.iconst 0, 1) := by decide +kernel
theorem dX0_setOut_42 : decode cX0_setOut 42 = .ok (.iastore, 1) := by decide +kernel
theorem dX0_setOut_43 : decode cX0_setOut 43 = .ok (.iconst 0, 1) := by decide +kernel
theorem dX0_setOut_44 : decode cX0_setOut 44 = .ok (.istore_n 3, 1) := by decide +kernel
theorem dX0_setOut_45 : decode cX0_setOut 45 = .ok (.iload_n 3, 1) := by decide +kernel
theorem dX0_setOut_46 : decode cX0_setOut 46 = .ok (.bipush 8, 2) := by decide +kernel
theorem dX0_setOut_48 : decode cX0_setOut 48 = .ok (.if_icmp .ge 16, 3) := by decide +kernel
theorem dX0_setOut_51 : decode cX0_setOut 51 = .ok (.aload_n 0, 1) := by decide +kernel
theorem dX0_setOut_52 : decode cX0_setOut 52 = .ok (.getfield 31, 3) := by decide +kernel
theorem dX0_setOut_55 : decode cX0_setOut 55 = .ok (.iload_n 3, 1) := by decide +kernel
theorem dX0_setOut_56 : decode cX0_setOut 56 = .ok (.iconst (-1), 1) := by decide +kernel
theorem dX0_setOut_57 : decode cX0_setOut 57 = .ok (.iastore, 1) := by decide +kernel
theorem dX0_setOut_58 : decode cX0_setOut 58 = .ok (.iinc 3 1, 3) := by decide +kernel
theorem dX0_setOut_61 : decode cX0_setOut 61 = .ok (.goto (-16), 3) := by decide +kernel
theorem dX0_setOut_64 : decode cX0_setOut 64 = .ok (.return_, 1) := by decide +kernel
theorem dX0_walk_0 : decode cX0_walk 0 = .ok (.aload_n 0, 1) := by decide +kernel
theorem dX0_walk_1 : decode cX0_walk 1 = .ok (.iload_n 3, 1) := by decide +kernel
theorem dX0_walk_2 : decode cX0_walk 2 = .ok (.iload 4, 2) := by decide +kernel
theorem dX0_walk_4 : decode cX0_walk 4 = .ok (.invokevirtual 45, 3) := by decide +kernel
theorem dX0_walk_7 : decode cX0_walk 7 = .ok (.aload_n 0, 1) := by decide +kernel
theorem dX0_walk_8 : decode cX0_walk 8 = .ok (.aload_n 2, 1) := by decide +kernel
theorem dX0_walk_9 : decode cX0_walk 9 = .ok (.getfield 49, 3) := by decide +kernel
theorem dX0_walk_12 : decode cX0_walk 12 = .ok (.putfield 34, 3) := by decide +kernel
theorem dX0_walk_15 : decode cX0_walk 15 = .ok (.iconst 0, 1) := by decide +kernel
theorem dX0_walk_16 : decode cX0_walk 16 = .ok (.istore 6, 2) := by decide +kernel
theorem dX0_walk_18 : decode cX0_walk 18 = .ok (.iload 6, 2) := by decide +kernel
theorem dX0_walk_20 : decode cX0_walk 20 = .ok (.aload_n 0, 1) := by decide +kernel
theorem dX0_walk_21 : decode cX0_walk 21 = .ok (.getfield 34, 3) := by decide +kernel
theorem dX0_walk_24 : decode cX0_walk 24 = .ok (.if_icmp .ge 122, 3) := by decide +kernel
theorem dX0_walk_27 : decode cX0_walk 27 = .ok (.aload_n 2, 1) := by decide +kernel
theorem dX0_walk_28 : decode cX0_walk 28 = .ok (.iload 6, 2) := by decide +kernel
theorem dX0_walk_30 : decode cX0_walk 30 = .ok (.invokevirtual 54, 3) := by decide +kernel
theorem dX0_walk_33 : decode cX0_walk 33 = .ok (.istore 7, 2) := by decide +kernel
theorem dX0_walk_35 : decode cX0_walk 35 = .ok (.aload_n 0, 1) := by decide +kernel
theorem dX0_walk_36 : decode cX0_walk 36 = .ok (.getfield 21, 3) := by decide +kernel
theorem dX0_walk_39 : decode cX0_walk 39 = .ok (.iload 6, 2) := by decide +kernel
theorem dX0_walk_41 : decode cX0_walk 41 = .ok (.iaload, 1) := by decide +kernel
theorem dX0_walk_42 : decode cX0_walk 42 = .ok (.aload_n 0, 1) := by decide +kernel
theorem dX0_walk_43 : decode cX0_walk 43 = .ok (.getfield 38, 3) := by decide +kernel
theorem dX0_walk_46 : decode cX0_walk 46 = .ok (.if_icmp .ge 22, 3) := by decide +kernel
theorem dX0_walk_49 : decode cX0_walk 49 = .ok (.aload_n 1, 1) := by decide +kernel
theorem dX0_walk_50 : decode cX0_walk 50 = .ok (.iload 7, 2) := by decide +kernel
theorem dX0_walk_52 : decode cX0_walk 52 = .ok (.invokevirtual 58, 3) := by decide +kernel
theorem dX0_walk_55 : decode cX0_walk 55 = .ok (.ifCond .eq 13, 3) := by decide +kernel
theorem dX0_walk_58 : decode cX0_walk 58 = .ok (.aload_n 0, 1) := by decide +kernel
theorem dX0_walk_59 : decode cX0_walk 59 = .ok (.iload 7, 2) := by decide +kernel
theorem dX0_walk_61 : decode cX0_walk 61 = .ok (.invokevirtual 64, 3) := by decide +kernel
theorem dX0_walk_64 : decode cX0_walk 64 = .ok (.iconst (-1), 1) := by decide +kernel
theorem dX0_walk_65 : decode cX0_walk 65 = .ok (.if_icmp .eq 7, 3) := by decide +kernel
theorem dX0_walk_68 : decode cX0_walk 68 = .ok (.iconst 1, 1) := by decide +kernel
theorem dX0_walk_69 : decode cX0_walk 69 = .ok (.goto 4, 3) := by decide +kernel
theorem dX0_walk_72 : decode cX0_walk 72 = .ok (.iconst 0, 1) := by decide +kernel
theorem dX0_walk_73 : decode cX0_walk 73 = .ok (.istore 8, 2) := by decide +kernel
theorem dX0_walk_75 : decode cX0_walk 75 = .ok (.aload_n 0, 1) := by decide +kernel
theorem dX0_walk_76 : decode cX0_walk 76 = .ok (.getfield 9, 3) := by decide +kernel
theorem dX0_walk_79 : decode cX0_walk 79 = .ok (.iload 6, 2) := by decide +kernel
theorem dX0_walk_81 : decode cX0_walk 81 = .ok (.iload 8, 2) := by decide +kernel
theorem dX0_walk_83 : decode cX0_walk 83 = .ok (.ifCond .eq 7, 3) := by decide +kernel
theorem dX0_walk_86 : decode cX0_walk 86 = .ok (.iconst 0, 1) := by decide +kernel
theorem dX0_walk_87 : decode cX0_walk 87 = .ok (.goto 11, 3) := by decide +kernel
theorem dX0_walk_90 : decode cX0_walk 90 = .ok (.aload_n 1, 1) := by decide +kernel
theorem dX0_walk_91 : decode cX0_walk 91 = .ok (.iload 7, 2) := by decide +kernel
theorem dX0_walk_93 : decode cX0_walk 93 = .ok (.iload 5, 2) := by decide +kernel
theorem dX0_walk_95 : decode cX0_walk 95 = .ok (.invokevirtual 67, 3) := by decide +kernel
theorem dX0_walk_98 : decode cX0_walk 98 = .ok (.iastore, 1) := by decide +kernel
theorem dX0_walk_99 : decode cX0_walk 99 = .ok (.aload_n 0, 1) := by decide +kernel
theorem dX0_walk_100 : decode cX0_walk 100 = .ok (.iload 7, 2) := by decide +kernel
theorem dX0_walk_102 : decode cX0_walk 102 = .ok (.aload_n 0, 1) := by decide +kernel
theorem dX0_walk_103 : decode cX0_walk 103 = .ok (.getfield 9, 3) := by decide +kernel
theorem dX0_walk_106 : decode cX0_walk 106 = .ok (.iload 6, 2) := by decide +kernel
theorem dX0_walk_108 : decode cX0_walk 108 = .ok (.iaload, 1) := by decide +kernel
theorem dX0_walk_109 : decode cX0_walk 109 = .ok (.invokevirtual 71, 3) := by decide +kernel
theorem dX0_walk_112 : decode cX0_walk 112 = .ok (.aload_n 0, 1) := by decide +kernel
theorem dX0_walk_113 : decode cX0_walk 113 = .ok (.iload 6, 2) := by decide +kernel
theorem dX0_walk_115 : decode cX0_walk 115 = .ok (.aload_n 1, 1) := by decide +kernel
theorem dX0_walk_116 : decode cX0_walk 116 = .ok (.iload 7, 2) := by decide +kernel
theorem dX0_walk_118 : decode cX0_walk 118 = .ok (.iconst 1, 1) := by decide +kernel
theorem dX0_walk_119 : decode cX0_walk 119 = .ok (.invokevirtual 74, 3) := by decide +kernel
theorem dX0_walk_122 : decode cX0_walk 122 = .ok (.aload_n 1, 1) := by decide +kernel
theorem dX0_walk_123 : decode cX0_walk 123 = .ok (.iload 7, 2) := by decide +kernel
theorem dX0_walk_125 : decode cX0_walk 125 = .ok (.iconst 3, 1) := by decide +kernel
theorem dX0_walk_126 : decode cX0_walk 126 = .ok (.invokevirtual 74, 3) := by decide +kernel
theorem dX0_walk_129 : decode cX0_walk 129 = .ok (.ifCond .ne 7, 3) := by decide +kernel
theorem dX0_walk_132 : decode cX0_walk 132 = .ok (.iconst 1, 1) := by decide +kernel
theorem dX0_walk_133 : decode cX0_walk 133 = .ok (.goto 4, 3) := by decide +kernel
theorem dX0_walk_136 : decode cX0_walk 136 = .ok (.iconst 0, 1) := by decide +kernel
theorem dX0_walk_137 : decode cX0_walk 137 = .ok (.invokevirtual 77, 3) := by decide +kernel
theorem dX0_walk_140 : decode cX0_walk 140 = .ok (.iinc 6 1, 3) := by decide +kernel
theorem dX0_walk_143 : decode cX0_walk 143 = .ok (.goto (-125), 3) := by decide +kernel
theorem dX0_walk_146 : decode cX0_walk 146 = .ok (.return_, 1) := by decide +kernel
theorem dX0_markFate_0 : decode cX0_markFate 0 = .ok (.iload_n 1, 1) := by decide +kernel
theorem dX0_markFate_1 : decode cX0_markFate 1 = .ok (.ifCond .lt 26, 3) := by decide +kernel
theorem dX0_markFate_4 : decode cX0_markFate 4 = .ok (.iload_n 1, 1) := by decide +kernel
theorem dX0_markFate_5 : decode cX0_markFate 5 = .ok (.bipush 8, 2) := by decide +kernel
theorem dX0_markFate_7 : decode cX0_markFate 7 = .ok (.if_icmp .ge 20, 3) := by decide +kernel
theorem dX0_markFate_10 : decode cX0_markFate 10 = .ok (.aload_n 0, 1) := by decide +kernel
theorem dX0_markFate_11 : decode cX0_markFate 11 = .ok (.getfield 31, 3) := by decide +kernel
theorem dX0_markFate_14 : decode cX0_markFate 14 = .ok (.iload_n 1, 1) := by decide +kernel
theorem dX0_markFate_15 : decode cX0_markFate 15 = .ok (.iaload, 1) := by decide +kernel
theorem dX0_markFate_16 : decode cX0_markFate 16 = .ok (.iconst (-1), 1) := by decide +kernel
theorem dX0_markFate_17 : decode cX0_markFate 17 = .ok (.if_icmp .ne 10, 3) := by decide +kernel
theorem dX0_markFate_20 : decode cX0_markFate 20 = .ok (.aload_n 0, 1) := by decide +kernel
theorem dX0_markFate_21 : decode cX0_markFate 21 = .ok (.getfield 31, 3) := by decide +kernel
theorem dX0_markFate_24 : decode cX0_markFate 24 = .ok (.iload_n 1, 1) := by decide +kernel
theorem dX0_markFate_25 : decode cX0_markFate 25 = .ok (.iload_n 2, 1) := by decide +kernel
theorem dX0_markFate_26 : decode cX0_markFate 26 = .ok (.iastore, 1) := by decide +kernel
theorem dX0_markFate_27 : decode cX0_markFate 27 = .ok (.return_, 1) := by decide +kernel
theorem dX0_stepBehind_0 : decode cX0_stepBehind 0 = .ok (.aload_n 0, 1) := by decide +kernel
theorem dX0_stepBehind_1 : decode cX0_stepBehind 1 = .ok (.getfield 15, 3) := by decide +kernel
theorem dX0_stepBehind_4 : decode cX0_stepBehind 4 = .ok (.iload_n 1, 1) := by decide +kernel
theorem dX0_stepBehind_5 : decode cX0_stepBehind 5 = .ok (.aload_n 0, 1) := by decide +kernel
theorem dX0_stepBehind_6 : decode cX0_stepBehind 6 = .ok (.getfield 9, 3) := by decide +kernel
theorem dX0_stepBehind_9 : decode cX0_stepBehind 9 = .ok (.iload_n 1, 1) := by decide +kernel
theorem dX0_stepBehind_10 : decode cX0_stepBehind 10 = .ok (.iaload, 1) := by decide +kernel
theorem dX0_stepBehind_11 : decode cX0_stepBehind 11 = .ok (.aload_n 0, 1) := by decide +kernel
theorem dX0_stepBehind_12 : decode cX0_stepBehind 12 = .ok (.getfield 18, 3) := by decide +kernel
theorem dX0_stepBehind_15 : decode cX0_stepBehind 15 = .ok (.iload_n 1, 1) := by decide +kernel
theorem dX0_stepBehind_16 : decode cX0_stepBehind 16 = .ok (.iaload, 1) := by decide +kernel
theorem dX0_stepBehind_17 : decode cX0_stepBehind 17 = .ok (.iload_n 2, 1) := by decide +kernel
theorem dX0_stepBehind_18 : decode cX0_stepBehind 18 = .ok (.invokestatic 81, 3) := by decide +kernel
theorem dX0_stepBehind_21 : decode cX0_stepBehind 21 = .ok (.iastore, 1) := by decide +kernel
theorem dX0_stepBehind_22 : decode cX0_stepBehind 22 = .ok (.aload_n 0, 1) := by decide +kernel
theorem dX0_stepBehind_23 : decode cX0_stepBehind 23 = .ok (.getfield 18, 3) := by decide +kernel
theorem dX0_stepBehind_26 : decode cX0_stepBehind 26 = .ok (.iload_n 1, 1) := by decide +kernel
theorem dX0_stepBehind_27 : decode cX0_stepBehind 27 = .ok (.iconst 1, 1) := by decide +kernel
theorem dX0_stepBehind_28 : decode cX0_stepBehind 28 = .ok (.iadd, 1) := by decide +kernel
theorem dX0_stepBehind_29 : decode cX0_stepBehind 29 = .ok (.aload_n 0, 1) := by decide +kernel
theorem dX0_stepBehind_30 : decode cX0_stepBehind 30 = .ok (.getfield 9, 3) := by decide +kernel
theorem dX0_stepBehind_33 : decode cX0_stepBehind 33 = .ok (.iload_n 1, 1) := by decide +kernel
theorem dX0_stepBehind_34 : decode cX0_stepBehind 34 = .ok (.iaload, 1) := by decide +kernel
theorem dX0_stepBehind_35 : decode cX0_stepBehind 35 = .ok (.aload_n 0, 1) := by decide +kernel
theorem dX0_stepBehind_36 : decode cX0_stepBehind 36 = .ok (.getfield 18, 3) := by decide +kernel
theorem dX0_stepBehind_39 : decode cX0_stepBehind 39 = .ok (.iload_n 1, 1) := by decide +kernel
theorem dX0_stepBehind_40 : decode cX0_stepBehind 40 = .ok (.iaload, 1) := by decide +kernel
theorem dX0_stepBehind_41 : decode cX0_stepBehind 41 = .ok (.aload_n 0, 1) := by decide +kernel
theorem dX0_stepBehind_42 : decode cX0_stepBehind 42 = .ok (.getfield 18, 3) := by decide +kernel
theorem dX0_stepBehind_45 : decode cX0_stepBehind 45 = .ok (.iconst 0, 1) := by decide +kernel
theorem dX0_stepBehind_46 : decode cX0_stepBehind 46 = .ok (.iaload, 1) := by decide +kernel
theorem dX0_stepBehind_47 : decode cX0_stepBehind 47 = .ok (.invokestatic 86, 3) := by decide +kernel
theorem dX0_stepBehind_50 : decode cX0_stepBehind 50 = .ok (.iastore, 1) := by decide +kernel
theorem dX0_stepBehind_51 : decode cX0_stepBehind 51 = .ok (.aload_n 0, 1) := by decide +kernel
theorem dX0_stepBehind_52 : decode cX0_stepBehind 52 = .ok (.getfield 9, 3) := by decide +kernel
theorem dX0_stepBehind_55 : decode cX0_stepBehind 55 = .ok (.iload_n 1, 1) := by decide +kernel
theorem dX0_stepBehind_56 : decode cX0_stepBehind 56 = .ok (.iaload, 1) := by decide +kernel
theorem dX0_stepBehind_57 : decode cX0_stepBehind 57 = .ok (.invokestatic 89, 3) := by decide +kernel
theorem dX0_stepBehind_60 : decode cX0_stepBehind 60 = .ok (.istore 4, 2) := by decide +kernel
theorem dX0_stepBehind_62 : decode cX0_stepBehind 62 = .ok (.aload_n 0, 1) := by decide +kernel
theorem dX0_stepBehind_63 : decode cX0_stepBehind 63 = .ok (.getfield 21, 3) := by decide +kernel
theorem dX0_stepBehind_66 : decode cX0_stepBehind 66 = .ok (.iload_n 1, 1) := by decide +kernel
theorem dX0_stepBehind_67 : decode cX0_stepBehind 67 = .ok (.iconst 1, 1) := by decide +kernel
theorem dX0_stepBehind_68 : decode cX0_stepBehind 68 = .ok (.iadd, 1) := by decide +kernel
theorem dX0_stepBehind_69 : decode cX0_stepBehind 69 = .ok (.iload 4, 2) := by decide +kernel
theorem dX0_stepBehind_71 : decode cX0_stepBehind 71 = .ok (.ifCond .eq 14, 3) := by decide +kernel
theorem dX0_stepBehind_74 : decode cX0_stepBehind 74 = .ok (.aload_n 0, 1) := by decide +kernel
theorem dX0_stepBehind_75 : decode cX0_stepBehind 75 = .ok (.getfield 21, 3) := by decide +kernel
theorem dX0_stepBehind_78 : decode cX0_stepBehind 78 = .ok (.iload_n 1, 1) := by decide +kernel
theorem dX0_stepBehind_79 : decode cX0_stepBehind 79 = .ok (.iaload, 1) := by decide +kernel
theorem dX0_stepBehind_80 : decode cX0_stepBehind 80 = .ok (.iconst 1, 1) := by decide +kernel
theorem dX0_stepBehind_81 : decode cX0_stepBehind 81 = .ok (.iadd, 1) := by decide +kernel
theorem dX0_stepBehind_82 : decode cX0_stepBehind 82 = .ok (.goto 9, 3) := by decide +kernel
theorem dX0_stepBehind_85 : decode cX0_stepBehind 85 = .ok (.aload_n 0, 1) := by decide +kernel
theorem dX0_stepBehind_86 : decode cX0_stepBehind 86 = .ok (.getfield 21, 3) := by decide +kernel
theorem dX0_stepBehind_89 : decode cX0_stepBehind 89 = .ok (.iload_n 1, 1) := by decide +kernel
theorem dX0_stepBehind_90 : decode cX0_stepBehind 90 = .ok (.iaload, 1) := by decide +kernel
theorem dX0_stepBehind_91 : decode cX0_stepBehind 91 = .ok (.iastore, 1) := by decide +kernel
theorem dX0_stepBehind_92 : decode cX0_stepBehind 92 = .ok (.aload_n 0, 1) := by decide +kernel
theorem dX0_stepBehind_93 : decode cX0_stepBehind 93 = .ok (.getfield 24, 3) := by decide +kernel
theorem dX0_stepBehind_96 : decode cX0_stepBehind 96 = .ok (.iload_n 1, 1) := by decide +kernel
theorem dX0_stepBehind_97 : decode cX0_stepBehind 97 = .ok (.iconst 1, 1) := by decide +kernel
theorem dX0_stepBehind_98 : decode cX0_stepBehind 98 = .ok (.iadd, 1) := by decide +kernel
theorem dX0_stepBehind_99 : decode cX0_stepBehind 99 = .ok (.iload 4, 2) := by decide +kernel
theorem dX0_stepBehind_101 : decode cX0_stepBehind 101 = .ok (.ifCond .eq 20, 3) := by decide +kernel
theorem dX0_stepBehind_104 : decode cX0_stepBehind 104 = .ok (.aload_n 0, 1) := by decide +kernel
theorem dX0_stepBehind_105 : decode cX0_stepBehind 105 = .ok (.getfield 24, 3) := by decide +kernel
theorem dX0_stepBehind_108 : decode cX0_stepBehind 108 = .ok (.iload_n 1, 1) := by decide +kernel
theorem dX0_stepBehind_109 : decode cX0_stepBehind 109 = .ok (.laload, 1) := by decide +kernel
theorem dX0_stepBehind_110 : decode cX0_stepBehind 110 = .ok (.aload_n 0, 1) := by decide +kernel
theorem dX0_stepBehind_111 : decode cX0_stepBehind 111 = .ok (.getfield 15, 3) := by decide +kernel
theorem dX0_stepBehind_114 : decode cX0_stepBehind 114 = .ok (.iload_n 1, 1) := by decide +kernel
theorem dX0_stepBehind_115 : decode cX0_stepBehind 115 = .ok (.iaload, 1) := by decide +kernel
theorem dX0_stepBehind_116 : decode cX0_stepBehind 116 = .ok (.i2l, 1) := by decide +kernel
theorem dX0_stepBehind_117 : decode cX0_stepBehind 117 = .ok (.lmul, 1) := by decide +kernel
theorem dX0_stepBehind_118 : decode cX0_stepBehind 118 = .ok (.goto 9, 3) := by decide +kernel
theorem dX0_stepBehind_121 : decode cX0_stepBehind 121 = .ok (.aload_n 0, 1) := by decide +kernel
theorem dX0_stepBehind_122 : decode cX0_stepBehind 122 = .ok (.getfield 24, 3) := by decide +kernel
theorem dX0_stepBehind_125 : decode cX0_stepBehind 125 = .ok (.iload_n 1, 1) := by decide +kernel
theorem dX0_stepBehind_126 : decode cX0_stepBehind 126 = .ok (.laload, 1) := by decide +kernel
theorem dX0_stepBehind_127 : decode cX0_stepBehind 127 = .ok (.lastore, 1) := by decide +kernel
theorem dX0_stepBehind_128 : decode cX0_stepBehind 128 = .ok (.aload_n 0, 1) := by decide +kernel
theorem dX0_stepBehind_129 : decode cX0_stepBehind 129 = .ok (.getfield 28, 3) := by decide +kernel
theorem dX0_stepBehind_132 : decode cX0_stepBehind 132 = .ok (.iload_n 1, 1) := by decide +kernel
theorem dX0_stepBehind_133 : decode cX0_stepBehind 133 = .ok (.iconst 1, 1) := by decide +kernel
theorem dX0_stepBehind_134 : decode cX0_stepBehind 134 = .ok (.iadd, 1) := by decide +kernel
theorem dX0_stepBehind_135 : decode cX0_stepBehind 135 = .ok (.aload_n 0, 1) := by decide +kernel
theorem dX0_stepBehind_136 : decode cX0_stepBehind 136 = .ok (.getfield 28, 3) := by decide +kernel
theorem dX0_stepBehind_139 : decode cX0_stepBehind 139 = .ok (.iload_n 1, 1) := by decide +kernel
theorem dX0_stepBehind_140 : decode cX0_stepBehind 140 = .ok (.iaload, 1) := by decide +kernel
theorem dX0_stepBehind_141 : decode cX0_stepBehind 141 = .ok (.iastore, 1) := by decide +kernel
theorem dX0_stepBehind_142 : decode cX0_stepBehind 142 = .ok (.aload_n 0, 1) := by decide +kernel
theorem dX0_stepBehind_143 : decode cX0_stepBehind 143 = .ok (.getfield 9, 3) := by decide +kernel
theorem dX0_stepBehind_146 : decode cX0_stepBehind 146 = .ok (.iload_n 1, 1) := by decide +kernel
theorem dX0_stepBehind_147 : decode cX0_stepBehind 147 = .ok (.iaload, 1) := by decide +kernel
theorem dX0_stepBehind_148 : decode cX0_stepBehind 148 = .ok (.iconst 3, 1) := by decide +kernel
theorem dX0_stepBehind_149 : decode cX0_stepBehind 149 = .ok (.if_icmp .ne 50, 3) := by decide +kernel
theorem dX0_stepBehind_152 : decode cX0_stepBehind 152 = .ok (.iload_n 3, 1) := by decide +kernel
theorem dX0_stepBehind_153 : decode cX0_stepBehind 153 = .ok (.ifCond .eq 46, 3) := by decide +kernel
theorem dX0_stepBehind_156 : decode cX0_stepBehind 156 = .ok (.aload_n 0, 1) := by decide +kernel
theorem dX0_stepBehind_157 : decode cX0_stepBehind 157 = .ok (.getfield 28, 3) := by decide +kernel
theorem dX0_stepBehind_160 : decode cX0_stepBehind 160 = .ok (.iload_n 1, 1) := by decide +kernel
theorem dX0_stepBehind_161 : decode cX0_stepBehind 161 = .ok (.iconst 1, 1) := by decide +kernel
theorem dX0_stepBehind_162 : decode cX0_stepBehind 162 = .ok (.iadd, 1) := by decide +kernel
theorem dX0_stepBehind_163 : decode cX0_stepBehind 163 = .ok (.dup2, 1) := by decide +kernel
theorem dX0_stepBehind_164 : decode cX0_stepBehind 164 = .ok (.iaload, 1) := by decide +kernel
theorem dX0_stepBehind_165 : decode cX0_stepBehind 165 = .ok (.iconst 1, 1) := by decide +kernel
theorem dX0_stepBehind_166 : decode cX0_stepBehind 166 = .ok (.iadd, 1) := by decide +kernel
theorem dX0_stepBehind_167 : decode cX0_stepBehind 167 = .ok (.iastore, 1) := by decide +kernel
theorem dX0_stepBehind_168 : decode cX0_stepBehind 168 = .ok (.aload_n 0, 1) := by decide +kernel
theorem dX0_stepBehind_169 : decode cX0_stepBehind 169 = .ok (.dup, 1) := by decide +kernel
theorem dX0_stepBehind_170 : decode cX0_stepBehind 170 = .ok (.getfield 41, 3) := by decide +kernel
theorem dX0_stepBehind_173 : decode cX0_stepBehind 173 = .ok (.aload_n 0, 1) := by decide +kernel
theorem dX0_stepBehind_174 : decode cX0_stepBehind 174 = .ok (.getfield 24, 3) := by decide +kernel
theorem dX0_stepBehind_177 : decode cX0_stepBehind 177 = .ok (.iload_n 1, 1) := by decide +kernel
theorem dX0_stepBehind_178 : decode cX0_stepBehind 178 = .ok (.iconst 1, 1) := by decide +kernel
theorem dX0_stepBehind_179 : decode cX0_stepBehind 179 = .ok (.iadd, 1) := by decide +kernel
theorem dX0_stepBehind_180 : decode cX0_stepBehind 180 = .ok (.laload, 1) := by decide +kernel
theorem dX0_stepBehind_181 : decode cX0_stepBehind 181 = .ok (.iconst 4, 1) := by decide +kernel
theorem dX0_stepBehind_182 : decode cX0_stepBehind 182 = .ok (.bipush 8, 2) := by decide +kernel
theorem dX0_stepBehind_184 : decode cX0_stepBehind 184 = .ok (.aload_n 0, 1) := by decide +kernel
theorem dX0_stepBehind_185 : decode cX0_stepBehind 185 = .ok (.getfield 21, 3) := by decide +kernel
theorem dX0_stepBehind_188 : decode cX0_stepBehind 188 = .ok (.iload_n 1, 1) := by decide +kernel
theorem dX0_stepBehind_189 : decode cX0_stepBehind 189 = .ok (.iconst 1, 1) := by decide +kernel
theorem dX0_stepBehind_190 : decode cX0_stepBehind 190 = .ok (.iadd, 1) := by decide +kernel
theorem dX0_stepBehind_191 : decode cX0_stepBehind 191 = .ok (.iaload, 1) := by decide +kernel
theorem dX0_stepBehind_192 : decode cX0_stepBehind 192 = .ok (.isub, 1) := by decide +kernel
theorem dX0_stepBehind_193 : decode cX0_stepBehind 193 = .ok (.imul, 1) := by decide +kernel
theorem dX0_stepBehind_194 : decode cX0_stepBehind 194 = .ok (.lshl, 1) := by decide +kernel
theorem dX0_stepBehind_195 : decode cX0_stepBehind 195 = .ok (.ladd, 1) := by decide +kernel
theorem dX0_stepBehind_196 : decode cX0_stepBehind 196 = .ok (.putfield 41, 3) := by decide +kernel
theorem dX0_stepBehind_199 : decode cX0_stepBehind 199 = .ok (.return_, 1) := by decide +kernel
theorem dX0_fateOf_0 : decode cX0_fateOf 0 = .ok (.iload_n 1, 1) := by decide +kernel
theorem dX0_fateOf_1 : decode cX0_fateOf 1 = .ok (.ifCond .lt 18, 3) := by decide +kernel
theorem dX0_fateOf_4 : decode cX0_fateOf 4 = .ok (.iload_n 1, 1) := by decide +kernel
theorem dX0_fateOf_5 : decode cX0_fateOf 5 = .ok (.bipush 8, 2) := by decide +kernel
theorem dX0_fateOf_7 : decode cX0_fateOf 7 = .ok (.if_icmp .ge 12, 3) := by decide +kernel
theorem dX0_fateOf_10 : decode cX0_fateOf 10 = .ok (.aload_n 0, 1) := by decide +kernel
theorem dX0_fateOf_11 : decode cX0_fateOf 11 = .ok (.getfield 31, 3) := by decide +kernel
theorem dX0_fateOf_14 : decode cX0_fateOf 14 = .ok (.iload_n 1, 1) := by decide +kernel
theorem dX0_fateOf_15 : decode cX0_fateOf 15 = .ok (.iaload, 1) := by decide +kernel
theorem dX0_fateOf_16 : decode cX0_fateOf 16 = .ok (.goto 4, 3) := by decide +kernel
theorem dX0_fateOf_19 : decode cX0_fateOf 19 = .ok (.iconst (-1), 1) := by decide +kernel
theorem dX0_fateOf_20 : decode cX0_fateOf 20 = .ok (.ireturn, 1) := by decide +kernel
theorem dX0_hasAllWins_0 : decode cX0_hasAllWins 0 = .ok (.aload_n 0, 1) := by decide +kernel
theorem dX0_hasAllWins_1 : decode cX0_hasAllWins 1 = .ok (.getfield 21, 3) := by decide +kernel
theorem dX0_hasAllWins_4 : decode cX0_hasAllWins 4 = .ok (.aload_n 0, 1) := by decide +kernel
theorem dX0_hasAllWins_5 : decode cX0_hasAllWins 5 = .ok (.getfield 34, 3) := by decide +kernel
theorem dX0_hasAllWins_8 : decode cX0_hasAllWins 8 = .ok (.iaload, 1) := by decide +kernel
theorem dX0_hasAllWins_9 : decode cX0_hasAllWins 9 = .ok (.aload_n 0, 1) := by decide +kernel
theorem dX0_hasAllWins_10 : decode cX0_hasAllWins 10 = .ok (.getfield 38, 3) := by decide +kernel
theorem dX0_hasAllWins_13 : decode cX0_hasAllWins 13 = .ok (.if_icmp .lt 7, 3) := by decide +kernel
theorem dX0_hasAllWins_16 : decode cX0_hasAllWins 16 = .ok (.iconst 1, 1) := by decide +kernel
theorem dX0_hasAllWins_17 : decode cX0_hasAllWins 17 = .ok (.goto 4, 3) := by decide +kernel
theorem dX0_hasAllWins_20 : decode cX0_hasAllWins 20 = .ok (.iconst 0, 1) := by decide +kernel
theorem dX0_hasAllWins_21 : decode cX0_hasAllWins 21 = .ok (.ireturn, 1) := by decide +kernel
theorem dX0_livesAbove_0 : decode cX0_livesAbove 0 = .ok (.aload_n 0, 1) := by decide +kernel
theorem dX0_livesAbove_1 : decode cX0_livesAbove 1 = .ok (.invokevirtual 94, 3) := by decide +kernel
theorem dX0_livesAbove_4 : decode cX0_livesAbove 4 = .ok (.ifCond .eq 15, 3) := by decide +kernel
theorem dX0_livesAbove_7 : decode cX0_livesAbove 7 = .ok (.aload_n 0, 1) := by decide +kernel
theorem dX0_livesAbove_8 : decode cX0_livesAbove 8 = .ok (.getfield 24, 3) := by decide +kernel
theorem dX0_livesAbove_11 : decode cX0_livesAbove 11 = .ok (.aload_n 0, 1) := by decide +kernel
theorem dX0_livesAbove_12 : decode cX0_livesAbove 12 = .ok (.getfield 34, 3) := by decide +kernel
theorem dX0_livesAbove_15 : decode cX0_livesAbove 15 = .ok (.laload, 1) := by decide +kernel
theorem dX0_livesAbove_16 : decode cX0_livesAbove 16 = .ok (.goto 4, 3) := by decide +kernel
theorem dX0_livesAbove_19 : decode cX0_livesAbove 19 = .ok (.lconst 0, 1) := by decide +kernel
theorem dX0_livesAbove_20 : decode cX0_livesAbove 20 = .ok (.lreturn, 1) := by decide +kernel
theorem dX0_fewestSixteenths_0 : decode cX0_fewestSixteenths 0 = .ok (.iconst (-1), 1) := by decide +kernel
theorem dX0_fewestSixteenths_1 : decode cX0_fewestSixteenths 1 = .ok (.istore_n 1, 1) := by decide +kernel
theorem dX0_fewestSixteenths_2 : decode cX0_fewestSixteenths 2 = .ok (.bipush 17, 2) := by decide +kernel
theorem dX0_fewestSixteenths_4 : decode cX0_fewestSixteenths 4 = .ok (.istore_n 2, 1) := by decide +kernel
theorem dX0_fewestSixteenths_5 : decode cX0_fewestSixteenths 5 = .ok (.iconst 0, 1) := by decide +kernel
theorem dX0_fewestSixteenths_6 : decode cX0_fewestSixteenths 6 = .ok (.istore_n 3, 1) := by decide +kernel
theorem dX0_fewestSixteenths_7 : decode cX0_fewestSixteenths 7 = .ok (.iload_n 3, 1) := by decide +kernel
theorem dX0_fewestSixteenths_8 : decode cX0_fewestSixteenths 8 = .ok (.aload_n 0, 1) := by decide +kernel
theorem dX0_fewestSixteenths_9 : decode cX0_fewestSixteenths 9 = .ok (.getfield 34, 3) := by decide +kernel
theorem dX0_fewestSixteenths_12 : decode cX0_fewestSixteenths 12 = .ok (.if_icmp .ge 28, 3) := by decide +kernel
theorem dX0_fewestSixteenths_15 : decode cX0_fewestSixteenths 15 = .ok (.aload_n 0, 1) := by decide +kernel
theorem dX0_fewestSixteenths_16 : decode cX0_fewestSixteenths 16 = .ok (.getfield 15, 3) := by decide +kernel
theorem dX0_fewestSixteenths_19 : decode cX0_fewestSixteenths 19 = .ok (.iload_n 3, 1) := by decide +kernel
theorem dX0_fewestSixteenths_20 : decode cX0_fewestSixteenths 20 = .ok (.iaload, 1) := by decide +kernel
theorem dX0_fewestSixteenths_21 : decode cX0_fewestSixteenths 21 = .ok (.iload_n 2, 1) := by decide +kernel
theorem dX0_fewestSixteenths_22 : decode cX0_fewestSixteenths 22 = .ok (.if_icmp .ge 12, 3) := by decide +kernel
theorem dX0_fewestSixteenths_25 : decode cX0_fewestSixteenths 25 = .ok (.aload_n 0, 1) := by decide +kernel
theorem dX0_fewestSixteenths_26 : decode cX0_fewestSixteenths 26 = .ok (.getfield 15, 3) := by decide +kernel
theorem dX0_fewestSixteenths_29 : decode cX0_fewestSixteenths 29 = .ok (.iload_n 3, 1) := by decide +kernel
theorem dX0_fewestSixteenths_30 : decode cX0_fewestSixteenths 30 = .ok (.iaload, 1) := by decide +kernel
theorem dX0_fewestSixteenths_31 : decode cX0_fewestSixteenths 31 = .ok (.istore_n 2, 1) := by decide +kernel
theorem dX0_fewestSixteenths_32 : decode cX0_fewestSixteenths 32 = .ok (.iload_n 3, 1) := by decide +kernel
theorem dX0_fewestSixteenths_33 : decode cX0_fewestSixteenths 33 = .ok (.istore_n 1, 1) := by decide +kernel
theorem dX0_fewestSixteenths_34 : decode cX0_fewestSixteenths 34 = .ok (.iinc 3 1, 3) := by decide +kernel
theorem dX0_fewestSixteenths_37 : decode cX0_fewestSixteenths 37 = .ok (.goto (-30), 3) := by decide +kernel
theorem dX0_fewestSixteenths_40 : decode cX0_fewestSixteenths 40 = .ok (.iload_n 1, 1) := by decide +kernel
theorem dX0_fewestSixteenths_41 : decode cX0_fewestSixteenths 41 = .ok (.ireturn, 1) := by decide +kernel
theorem dX0_numberOfFights_0 : decode cX0_numberOfFights 0 = .ok (.iconst 0, 1) := by decide +kernel
theorem dX0_numberOfFights_1 : decode cX0_numberOfFights 1 = .ok (.istore_n 1, 1) := by decide +kernel
theorem dX0_numberOfFights_2 : decode cX0_numberOfFights 2 = .ok (.iconst 0, 1) := by decide +kernel
theorem dX0_numberOfFights_3 : decode cX0_numberOfFights 3 = .ok (.istore_n 2, 1) := by decide +kernel
theorem dX0_numberOfFights_4 : decode cX0_numberOfFights 4 = .ok (.iload_n 2, 1) := by decide +kernel
theorem dX0_numberOfFights_5 : decode cX0_numberOfFights 5 = .ok (.aload_n 0, 1) := by decide +kernel
theorem dX0_numberOfFights_6 : decode cX0_numberOfFights 6 = .ok (.getfield 34, 3) := by decide +kernel
theorem dX0_numberOfFights_9 : decode cX0_numberOfFights 9 = .ok (.if_icmp .ge 22, 3) := by decide +kernel
theorem dX0_numberOfFights_12 : decode cX0_numberOfFights 12 = .ok (.aload_n 0, 1) := by decide +kernel
theorem dX0_numberOfFights_13 : decode cX0_numberOfFights 13 = .ok (.getfield 9, 3) := by decide +kernel
theorem dX0_numberOfFights_16 : decode cX0_numberOfFights 16 = .ok (.iload_n 2, 1) := by decide +kernel
theorem dX0_numberOfFights_17 : decode cX0_numberOfFights 17 = .ok (.iaload, 1) := by decide +kernel
theorem dX0_numberOfFights_18 : decode cX0_numberOfFights 18 = .ok (.iconst 3, 1) := by decide +kernel
theorem dX0_numberOfFights_19 : decode cX0_numberOfFights 19 = .ok (.if_icmp .ne 6, 3) := by decide +kernel
theorem dX0_numberOfFights_22 : decode cX0_numberOfFights 22 = .ok (.iinc 1 1, 3) := by decide +kernel
theorem dX0_numberOfFights_25 : decode cX0_numberOfFights 25 = .ok (.iinc 2 1, 3) := by decide +kernel
theorem dX0_numberOfFights_28 : decode cX0_numberOfFights 28 = .ok (.goto (-24), 3) := by decide +kernel
theorem dX0_numberOfFights_31 : decode cX0_numberOfFights 31 = .ok (.iload_n 1, 1) := by decide +kernel
theorem dX0_numberOfFights_32 : decode cX0_numberOfFights 32 = .ok (.ireturn, 1) := by decide +kernel
theorem dX0_numberNotVoid_0 : decode cX0_numberNotVoid 0 = .ok (.iconst 0, 1) := by decide +kernel
theorem dX0_numberNotVoid_1 : decode cX0_numberNotVoid 1 = .ok (.istore_n 2, 1) := by decide +kernel
theorem dX0_numberNotVoid_2 : decode cX0_numberNotVoid 2 = .ok (.iconst 0, 1) := by decide +kernel
theorem dX0_numberNotVoid_3 : decode cX0_numberNotVoid 3 = .ok (.istore_n 3, 1) := by decide +kernel
theorem dX0_numberNotVoid_4 : decode cX0_numberNotVoid 4 = .ok (.iload_n 3, 1) := by decide +kernel
theorem dX0_numberNotVoid_5 : decode cX0_numberNotVoid 5 = .ok (.iload_n 1, 1) := by decide +kernel
theorem dX0_numberNotVoid_6 : decode cX0_numberNotVoid 6 = .ok (.if_icmp .ge 20, 3) := by decide +kernel
theorem dX0_numberNotVoid_9 : decode cX0_numberNotVoid 9 = .ok (.aload_n 0, 1) := by decide +kernel
theorem dX0_numberNotVoid_10 : decode cX0_numberNotVoid 10 = .ok (.iload_n 3, 1) := by decide +kernel
theorem dX0_numberNotVoid_11 : decode cX0_numberNotVoid 11 = .ok (.invokevirtual 64, 3) := by decide +kernel
theorem dX0_numberNotVoid_14 : decode cX0_numberNotVoid 14 = .ok (.ifCond .le 6, 3) := by decide +kernel
theorem dX0_numberNotVoid_17 : decode cX0_numberNotVoid 17 = .ok (.iinc 2 1, 3) := by decide +kernel
theorem dX0_numberNotVoid_20 : decode cX0_numberNotVoid 20 = .ok (.iinc 3 1, 3) := by decide +kernel
theorem dX0_numberNotVoid_23 : decode cX0_numberNotVoid 23 = .ok (.goto (-19), 3) := by decide +kernel
theorem dX0_numberNotVoid_26 : decode cX0_numberNotVoid 26 = .ok (.iload_n 2, 1) := by decide +kernel
theorem dX0_numberNotVoid_27 : decode cX0_numberNotVoid 27 = .ok (.ireturn, 1) := by decide +kernel
theorem dX0_playTill_0 : decode cX0_playTill 0 = .ok (.iconst 0, 1) := by decide +kernel
theorem dX0_playTill_1 : decode cX0_playTill 1 = .ok (.istore_n 2, 1) := by decide +kernel
theorem dX0_playTill_2 : decode cX0_playTill 2 = .ok (.iload_n 2, 1) := by decide +kernel
theorem dX0_playTill_3 : decode cX0_playTill 3 = .ok (.aload_n 0, 1) := by decide +kernel
theorem dX0_playTill_4 : decode cX0_playTill 4 = .ok (.getfield 34, 3) := by decide +kernel
theorem dX0_playTill_7 : decode cX0_playTill 7 = .ok (.if_icmp .ge 36, 3) := by decide +kernel
theorem dX0_playTill_10 : decode cX0_playTill 10 = .ok (.aload_n 0, 1) := by decide +kernel
theorem dX0_playTill_11 : decode cX0_playTill 11 = .ok (.getfield 9, 3) := by decide +kernel
theorem dX0_playTill_14 : decode cX0_playTill 14 = .ok (.iload_n 2, 1) := by decide +kernel
theorem dX0_playTill_15 : decode cX0_playTill 15 = .ok (.iaload, 1) := by decide +kernel
theorem dX0_playTill_16 : decode cX0_playTill 16 = .ok (.iconst 3, 1) := by decide +kernel
theorem dX0_playTill_17 : decode cX0_playTill 17 = .ok (.if_icmp .ne 20, 3) := by decide +kernel
theorem dX0_playTill_20 : decode cX0_playTill 20 = .ok (.aload_n 1, 1) := by decide +kernel
theorem dX0_playTill_21 : decode cX0_playTill 21 = .ok (.bipush 16, 2) := by decide +kernel
theorem dX0_playTill_23 : decode cX0_playTill 23 = .ok (.invokevirtual 98, 3) := by decide +kernel
theorem dX0_playTill_26 : decode cX0_playTill 26 = .ok (.aload_n 0, 1) := by decide +kernel
theorem dX0_playTill_27 : decode cX0_playTill 27 = .ok (.getfield 15, 3) := by decide +kernel
theorem dX0_playTill_30 : decode cX0_playTill 30 = .ok (.iload_n 2, 1) := by decide +kernel
theorem dX0_playTill_31 : decode cX0_playTill 31 = .ok (.iaload, 1) := by decide +kernel
theorem dX0_playTill_32 : decode cX0_playTill 32 = .ok (.if_icmp .lt 5, 3) := by decide +kernel
theorem dX0_playTill_35 : decode cX0_playTill 35 = .ok (.iload_n 2, 1) := by decide +kernel
theorem dX0_playTill_36 : decode cX0_playTill 36 = .ok (.ireturn, 1) := by decide +kernel
theorem dX0_playTill_37 : decode cX0_playTill 37 = .ok (.iinc 2 1, 3) := by decide +kernel
theorem dX0_playTill_40 : decode cX0_playTill 40 = .ok (.goto (-38), 3) := by decide +kernel
theorem dX0_playTill_43 : decode cX0_playTill 43 = .ok (.aload_n 0, 1) := by decide +kernel
theorem dX0_playTill_44 : decode cX0_playTill 44 = .ok (.getfield 34, 3) := by decide +kernel
theorem dX0_playTill_47 : decode cX0_playTill 47 = .ok (.ireturn, 1) := by decide +kernel
theorem dX1_told_0 : decode cX1_told 0 = .ok (.lload_n 0, 1) := by decide +kernel
theorem dX1_told_1 : decode cX1_told 1 = .ok (.lstore 4, 2) := by decide +kernel
theorem dX1_told_3 : decode cX1_told 3 = .ok (.iload_n 2, 1) := by decide +kernel
theorem dX1_told_4 : decode cX1_told 4 = .ok (.istore 6, 2) := by decide +kernel
theorem dX1_told_6 : decode cX1_told 6 = .ok (.iload 6, 2) := by decide +kernel
theorem dX1_told_8 : decode cX1_told 8 = .ok (.ifCond .le 24, 3) := by decide +kernel
theorem dX1_told_11 : decode cX1_told 11 = .ok (.lload 4, 2) := by decide +kernel
theorem dX1_told_13 : decode cX1_told 13 = .ok (.lconst 1, 1) := by decide +kernel
theorem dX1_told_14 : decode cX1_told 14 = .ok (.land, 1) := by decide +kernel
theorem dX1_told_15 : decode cX1_told 15 = .ok (.lconst 0, 1) := by decide +kernel
theorem dX1_told_16 : decode cX1_told 16 = .ok (.lcmp, 1) := by decide +kernel
theorem dX1_told_17 : decode cX1_told 17 = .ok (.ifCond .ne 15, 3) := by decide +kernel
theorem dX1_told_20 : decode cX1_told 20 = .ok (.lload 4, 2) := by decide +kernel
theorem dX1_told_22 : decode cX1_told 22 = .ok (.iconst 1, 1) := by decide +kernel
theorem dX1_told_23 : decode cX1_told 23 = .ok (.lshr, 1) := by decide +kernel
theorem dX1_told_24 : decode cX1_told 24 = .ok (.lstore 4, 2) := by decide +kernel
theorem dX1_told_26 : decode cX1_told 26 = .ok (.iinc 6 (-1), 3) := by decide +kernel
theorem dX1_told_29 : decode cX1_told 29 = .ok (.goto (-23), 3) := by decide +kernel
theorem dX1_told_32 : decode cX1_told 32 = .ok (.iload_n 3, 1) := by decide +kernel
theorem dX1_told_33 : decode cX1_told 33 = .ok (.ifCond .ne 8, 3) := by decide +kernel
theorem dX1_told_36 : decode cX1_told 36 = .ok (.lload 4, 2) := by decide +kernel
theorem dX1_told_38 : decode cX1_told 38 = .ok (.goto 7, 3) := by decide +kernel
theorem dX1_told_41 : decode cX1_told 41 = .ok (.lconst 1, 1) := by decide +kernel
theorem dX1_told_42 : decode cX1_told 42 = .ok (.iload 6, 2) := by decide +kernel
theorem dX1_told_44 : decode cX1_told 44 = .ok (.lshl, 1) := by decide +kernel
theorem dX1_told_45 : decode cX1_told 45 = .ok (.lreturn, 1) := by decide +kernel
theorem dX2_init_0 : decode cX2_init 0 = .ok (.aload_n 0, 1) := by decide +kernel
theorem dX2_init_1 : decode cX2_init 1 = .ok (.invokespecial 3, 3) := by decide +kernel
theorem dX2_init_4 : decode cX2_init 4 = .ok (.aload_n 0, 1) := by decide +kernel
theorem dX2_init_5 : decode cX2_init 5 = .ok (.bipush 40, 2) := by decide +kernel
theorem dX2_init_7 : decode cX2_init 7 = .ok (.newarray .int, 2) := by decide +kernel
theorem dX2_init_9 : decode cX2_init 9 = .ok (.putfield 9, 3) := by decide +kernel
theorem dX2_init_12 : decode cX2_init 12 = .ok (.aload_n 0, 1) := by decide +kernel
theorem dX2_init_13 : decode cX2_init 13 = .ok (.iconst (-1), 1) := by decide +kernel
theorem dX2_init_14 : decode cX2_init 14 = .ok (.putfield 15, 3) := by decide +kernel
theorem dX2_init_17 : decode cX2_init 17 = .ok (.return_, 1) := by decide +kernel
theorem dX2_parse_0 : decode cX2_parse 0 = .ok (.aload_n 0, 1) := by decide +kernel
theorem dX2_parse_1 : decode cX2_parse 1 = .ok (.aload_n 1, 1) := by decide +kernel
theorem dX2_parse_2 : decode cX2_parse 2 = .ok (.invokestatic 19, 3) := by decide +kernel
theorem dX2_parse_5 : decode cX2_parse 5 = .ok (.putfield 15, 3) := by decide +kernel
theorem dX2_parse_8 : decode cX2_parse 8 = .ok (.aload_n 0, 1) := by decide +kernel
theorem dX2_parse_9 : decode cX2_parse 9 = .ok (.aload_n 0, 1) := by decide +kernel
theorem dX2_parse_10 : decode cX2_parse 10 = .ok (.getfield 15, 3) := by decide +kernel
theorem dX2_parse_13 : decode cX2_parse 13 = .ok (.iconst (-1), 1) := by decide +kernel
theorem dX2_parse_14 : decode cX2_parse 14 = .ok (.if_icmp .ne 20, 3) := by decide +kernel
theorem dX2_parse_17 : decode cX2_parse 17 = .ok (.bipush 8, 2) := by decide +kernel
theorem dX2_parse_19 : decode cX2_parse 19 = .ok (.aload_n 1, 1) := by decide +kernel
theorem dX2_parse_20 : decode cX2_parse 20 = .ok (.getfield 23, 3) := by decide +kernel
theorem dX2_parse_23 : decode cX2_parse 23 = .ok (.iconst 1, 1) := by decide +kernel
theorem dX2_parse_24 : decode cX2_parse 24 = .ok (.iadd, 1) := by decide +kernel
theorem dX2_parse_25 : decode cX2_parse 25 = .ok (.bipush 6, 2) := by decide +kernel
theorem dX2_parse_27 : decode cX2_parse 27 = .ok (.idiv, 1) := by decide +kernel
theorem dX2_parse_28 : decode cX2_parse 28 = .ok (.invokestatic 28, 3) := by decide +kernel
theorem dX2_parse_31 : decode cX2_parse 31 = .ok (.goto 4, 3) := by decide +kernel
theorem dX2_parse_34 : decode cX2_parse 34 = .ok (.iconst 0, 1) := by decide +kernel
theorem dX2_parse_35 : decode cX2_parse 35 = .ok (.putfield 34, 3) := by decide +kernel
theorem dX2_parse_38 : decode cX2_parse 38 = .ok (.iconst 0, 1) := by decide +kernel
theorem dX2_parse_39 : decode cX2_parse 39 = .ok (.istore_n 2, 1) := by decide +kernel
theorem dX2_parse_40 : decode cX2_parse 40 = .ok (.iload_n 2, 1) := by decide +kernel
theorem dX2_parse_41 : decode cX2_parse 41 = .ok (.aload_n 0, 1) := by decide +kernel
theorem dX2_parse_42 : decode cX2_parse 42 = .ok (.getfield 34, 3) := by decide +kernel
theorem dX2_parse_45 : decode cX2_parse 45 = .ok (.if_icmp .ge 135, 3) := by decide +kernel
theorem dX2_parse_48 : decode cX2_parse 48 = .ok (.iload_n 2, 1) := by decide +kernel
theorem dX2_parse_49 : decode cX2_parse 49 = .ok (.bipush 6, 2) := by decide +kernel
theorem dX2_parse_51 : decode cX2_parse 51 = .ok (.imul, 1) := by decide +kernel
theorem dX2_parse_52 : decode cX2_parse 52 = .ok (.istore_n 3, 1) := by decide +kernel
theorem dX2_parse_53 : decode cX2_parse 53 = .ok (.iload_n 2, 1) := by decide +kernel
theorem dX2_parse_54 : decode cX2_parse 54 = .ok (.iconst 5, 1) := by decide +kernel
theorem dX2_parse_55 : decode cX2_parse 55 = .ok (.imul, 1) := by decide +kernel
theorem dX2_parse_56 : decode cX2_parse 56 = .ok (.istore 4, 2) := by decide +kernel
theorem dX2_parse_58 : decode cX2_parse 58 = .ok (.aload_n 0, 1) := by decide +kernel
theorem dX2_parse_59 : decode cX2_parse 59 = .ok (.getfield 9, 3) := by decide +kernel
theorem dX2_parse_62 : decode cX2_parse 62 = .ok (.iload 4, 2) := by decide +kernel
theorem dX2_parse_64 : decode cX2_parse 64 = .ok (.iconst 0, 1) := by decide +kernel
theorem dX2_parse_65 : decode cX2_parse 65 = .ok (.iadd, 1) := by decide +kernel
theorem dX2_parse_66 : decode cX2_parse 66 = .ok (.aload_n 1, 1) := by decide +kernel
theorem dX2_parse_67 : decode cX2_parse 67 = .ok (.iload_n 3, 1) := by decide +kernel
theorem dX2_parse_68 : decode cX2_parse 68 = .ok (.invokevirtual 35, 3) := by decide +kernel
theorem dX2_parse_71 : decode cX2_parse 71 = .ok (.invokestatic 39, 3) := by decide +kernel
theorem dX2_parse_74 : decode cX2_parse 74 = .ok (.iastore, 1) := by decide +kernel
theorem dX2_parse_75 : decode cX2_parse 75 = .ok (.aload_n 0, 1) := by decide +kernel
theorem dX2_parse_76 : decode cX2_parse 76 = .ok (.getfield 9, 3) := by decide +kernel
theorem dX2_parse_79 : decode cX2_parse 79 = .ok (.iload 4, 2) := by decide +kernel
theorem dX2_parse_81 : decode cX2_parse 81 = .ok (.iconst 1, 1) := by decide +kernel
theorem dX2_parse_82 : decode cX2_parse 82 = .ok (.iadd, 1) := by decide +kernel
theorem dX2_parse_83 : decode cX2_parse 83 = .ok (.aload_n 1, 1) := by decide +kernel
theorem dX2_parse_84 : decode cX2_parse 84 = .ok (.iload_n 3, 1) := by decide +kernel
theorem dX2_parse_85 : decode cX2_parse 85 = .ok (.iconst 1, 1) := by decide +kernel
theorem dX2_parse_86 : decode cX2_parse 86 = .ok (.iadd, 1) := by decide +kernel
theorem dX2_parse_87 : decode cX2_parse 87 = .ok (.invokevirtual 35, 3) := by decide +kernel
theorem dX2_parse_90 : decode cX2_parse 90 = .ok (.bipush 48, 2) := by decide +kernel
theorem dX2_parse_92 : decode cX2_parse 92 = .ok (.isub, 1) := by decide +kernel
theorem dX2_parse_93 : decode cX2_parse 93 = .ok (.iastore, 1) := by decide +kernel
theorem dX2_parse_94 : decode cX2_parse 94 = .ok (.aload_n 0, 1) := by decide +kernel
theorem dX2_parse_95 : decode cX2_parse 95 = .ok (.getfield 9, 3) := by decide +kernel
theorem dX2_parse_98 : decode cX2_parse 98 = .ok (.iload 4, 2) := by decide +kernel
theorem dX2_parse_100 : decode cX2_parse 100 = .ok (.iconst 2, 1) := by decide +kernel
theorem dX2_parse_101 : decode cX2_parse 101 = .ok (.iadd, 1) := by decide +kernel
theorem dX2_parse_102 : decode cX2_parse 102 = .ok (.aload_n 1, 1) := by decide +kernel
theorem dX2_parse_103 : decode cX2_parse 103 = .ok (.iload_n 3, 1) := by decide +kernel
theorem dX2_parse_104 : decode cX2_parse 104 = .ok (.iconst 2, 1) := by decide +kernel
theorem dX2_parse_105 : decode cX2_parse 105 = .ok (.iadd, 1) := by decide +kernel
theorem dX2_parse_106 : decode cX2_parse 106 = .ok (.invokevirtual 35, 3) := by decide +kernel
theorem dX2_parse_109 : decode cX2_parse 109 = .ok (.bipush 48, 2) := by decide +kernel
theorem dX2_parse_111 : decode cX2_parse 111 = .ok (.isub, 1) := by decide +kernel
theorem dX2_parse_112 : decode cX2_parse 112 = .ok (.iastore, 1) := by decide +kernel
theorem dX2_parse_113 : decode cX2_parse 113 = .ok (.aload_n 0, 1) := by decide +kernel
theorem dX2_parse_114 : decode cX2_parse 114 = .ok (.getfield 9, 3) := by decide +kernel
theorem dX2_parse_117 : decode cX2_parse 117 = .ok (.iload 4, 2) := by decide +kernel
theorem dX2_parse_119 : decode cX2_parse 119 = .ok (.iconst 3, 1) := by decide +kernel
theorem dX2_parse_120 : decode cX2_parse 120 = .ok (.iadd, 1) := by decide +kernel
theorem dX2_parse_121 : decode cX2_parse 121 = .ok (.aload_n 1, 1) := by decide +kernel
theorem dX2_parse_122 : decode cX2_parse 122 = .ok (.iload_n 3, 1) := by decide +kernel
theorem dX2_parse_123 : decode cX2_parse 123 = .ok (.iconst 3, 1) := by decide +kernel
theorem dX2_parse_124 : decode cX2_parse 124 = .ok (.iadd, 1) := by decide +kernel
theorem dX2_parse_125 : decode cX2_parse 125 = .ok (.invokevirtual 35, 3) := by decide +kernel
theorem dX2_parse_128 : decode cX2_parse 128 = .ok (.bipush 103, 2) := by decide +kernel
theorem dX2_parse_130 : decode cX2_parse 130 = .ok (.if_icmp .ne 7, 3) := by decide +kernel
theorem dX2_parse_133 : decode cX2_parse 133 = .ok (.iconst 1, 1) := by decide +kernel
theorem dX2_parse_134 : decode cX2_parse 134 = .ok (.goto 4, 3) := by decide +kernel
theorem dX2_parse_137 : decode cX2_parse 137 = .ok (.iconst 0, 1) := by decide +kernel
theorem dX2_parse_138 : decode cX2_parse 138 = .ok (.iastore, 1) := by decide +kernel
theorem dX2_parse_139 : decode cX2_parse 139 = .ok (.aload_n 0, 1) := by decide +kernel
theorem dX2_parse_140 : decode cX2_parse 140 = .ok (.getfield 9, 3) := by decide +kernel
theorem dX2_parse_143 : decode cX2_parse 143 = .ok (.iload 4, 2) := by decide +kernel
theorem dX2_parse_145 : decode cX2_parse 145 = .ok (.iconst 4, 1) := by decide +kernel
theorem dX2_parse_146 : decode cX2_parse 146 = .ok (.iadd, 1) := by decide +kernel
theorem dX2_parse_147 : decode cX2_parse 147 = .ok (.aload_n 1, 1) := by decide +kernel
theorem dX2_parse_148 : decode cX2_parse 148 = .ok (.iload_n 3, 1) := by decide +kernel
theorem dX2_parse_149 : decode cX2_parse 149 = .ok (.iconst 4, 1) := by decide +kernel
theorem dX2_parse_150 : decode cX2_parse 150 = .ok (.iadd, 1) := by decide +kernel
theorem dX2_parse_151 : decode cX2_parse 151 = .ok (.invokevirtual 35, 3) := by decide +kernel
theorem dX2_parse_154 : decode cX2_parse 154 = .ok (.bipush 46, 2) := by decide +kernel
theorem dX2_parse_156 : decode cX2_parse 156 = .ok (.if_icmp .ne 7, 3) := by decide +kernel
theorem dX2_parse_159 : decode cX2_parse 159 = .ok (.iconst (-1), 1) := by decide +kernel
theorem dX2_parse_160 : decode cX2_parse 160 = .ok (.goto 13, 3) := by decide +kernel
theorem dX2_parse_163 : decode cX2_parse 163 = .ok (.aload_n 1, 1) := by decide +kernel
theorem dX2_parse_164 : decode cX2_parse 164 = .ok (.iload_n 3, 1) := by decide +kernel
theorem dX2_parse_165 : decode cX2_parse 165 = .ok (.iconst 4, 1) := by decide +kernel
theorem dX2_parse_166 : decode cX2_parse 166 = .ok (.iadd, 1) := by decide +kernel
theorem dX2_parse_167 : decode cX2_parse 167 = .ok (.invokevirtual 35, 3) := by decide +kernel
theorem dX2_parse_170 : decode cX2_parse 170 = .ok (.bipush 48, 2) := by decide +kernel
theorem dX2_parse_172 : decode cX2_parse 172 = .ok (.isub, 1) := by decide +kernel
theorem dX2_parse_173 : decode cX2_parse 173 = .ok (.iastore, 1) := by decide +kernel
theorem dX2_parse_174 : decode cX2_parse 174 = .ok (.iinc 2 1, 3) := by decide +kernel
theorem dX2_parse_177 : decode cX2_parse 177 = .ok (.goto (-137), 3) := by decide +kernel
theorem dX2_parse_180 : decode cX2_parse 180 = .ok (.return_, 1) := by decide +kernel
theorem dX2_placeOfFault_0 : decode cX2_placeOfFault 0 = .ok (.iconst 0, 1) := by decide +kernel
theorem dX2_placeOfFault_1 : decode cX2_placeOfFault 1 = .ok (.istore_n 1, 1) := by decide +kernel
theorem dX2_placeOfFault_2 : decode cX2_placeOfFault 2 = .ok (.iload_n 1, 1) := by decide +kernel
theorem dX2_placeOfFault_3 : decode cX2_placeOfFault 3 = .ok (.aload_n 0, 1) := by decide +kernel
theorem dX2_placeOfFault_4 : decode cX2_placeOfFault 4 = .ok (.getfield 23, 3) := by decide +kernel
theorem dX2_placeOfFault_7 : decode cX2_placeOfFault 7 = .ok (.if_icmp .ge 26, 3) := by decide +kernel
theorem dX2_placeOfFault_10 : decode cX2_placeOfFault 10 = .ok (.aload_n 0, 1) := by decide +kernel
theorem dX2_placeOfFault_11 : decode cX2_placeOfFault 11 = .ok (.iload_n 1, 1) := by decide +kernel
theorem dX2_placeOfFault_12 : decode cX2_placeOfFault 12 = .ok (.invokevirtual 35, 3) := by decide +kernel
theorem dX2_placeOfFault_15 : decode cX2_placeOfFault 15 = .ok (.iload_n 1, 1) := by decide +kernel
theorem dX2_placeOfFault_16 : decode cX2_placeOfFault 16 = .ok (.bipush 6, 2) := by decide +kernel
theorem dX2_placeOfFault_18 : decode cX2_placeOfFault 18 = .ok (.irem, 1) := by decide +kernel
theorem dX2_placeOfFault_19 : decode cX2_placeOfFault 19 = .ok (.invokestatic 42, 3) := by decide +kernel
theorem dX2_placeOfFault_22 : decode cX2_placeOfFault 22 = .ok (.ifCond .ne 5, 3) := by decide +kernel
theorem dX2_placeOfFault_25 : decode cX2_placeOfFault 25 = .ok (.iload_n 1, 1) := by decide +kernel
theorem dX2_placeOfFault_26 : decode cX2_placeOfFault 26 = .ok (.ireturn, 1) := by decide +kernel
theorem dX2_placeOfFault_27 : decode cX2_placeOfFault 27 = .ok (.iinc 1 1, 3) := by decide +kernel
theorem dX2_placeOfFault_30 : decode cX2_placeOfFault 30 = .ok (.goto (-28), 3) := by decide +kernel
theorem dX2_placeOfFault_33 : decode cX2_placeOfFault 33 = .ok (.aload_n 0, 1) := by decide +kernel
theorem dX2_placeOfFault_34 : decode cX2_placeOfFault 34 = .ok (.getfield 23, 3) := by decide +kernel
theorem dX2_placeOfFault_37 : decode cX2_placeOfFault 37 = .ok (.ifCond .eq 14, 3) := by decide +kernel
theorem dX2_placeOfFault_40 : decode cX2_placeOfFault 40 = .ok (.aload_n 0, 1) := by decide +kernel
theorem dX2_placeOfFault_41 : decode cX2_placeOfFault 41 = .ok (.getfield 23, 3) := by decide +kernel
theorem dX2_placeOfFault_44 : decode cX2_placeOfFault 44 = .ok (.bipush 6, 2) := by decide +kernel
theorem dX2_placeOfFault_46 : decode cX2_placeOfFault 46 = .ok (.irem, 1) := by decide +kernel
theorem dX2_placeOfFault_47 : decode cX2_placeOfFault 47 = .ok (.iconst 5, 1) := by decide +kernel
theorem dX2_placeOfFault_48 : decode cX2_placeOfFault 48 = .ok (.if_icmp .ne 7, 3) := by decide +kernel
theorem dX2_placeOfFault_51 : decode cX2_placeOfFault 51 = .ok (.iconst 1, 1) := by decide +kernel
theorem dX2_placeOfFault_52 : decode cX2_placeOfFault 52 = .ok (.goto 4, 3) := by decide +kernel
theorem dX2_placeOfFault_55 : decode cX2_placeOfFault 55 = .ok (.iconst 0, 1) := by decide +kernel
theorem dX2_placeOfFault_56 : decode cX2_placeOfFault 56 = .ok (.istore_n 1, 1) := by decide +kernel
theorem dX2_placeOfFault_57 : decode cX2_placeOfFault 57 = .ok (.iload_n 1, 1) := by decide +kernel
