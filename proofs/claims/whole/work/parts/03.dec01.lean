theorem dX2_placeOfFault_58 : decode cX2_placeOfFault 58 = .ok (.ifCond .eq 7, 3) := by decide +kernel
theorem dX2_placeOfFault_61 : decode cX2_placeOfFault 61 = .ok (.iconst (-1), 1) := by decide +kernel
theorem dX2_placeOfFault_62 : decode cX2_placeOfFault 62 = .ok (.goto 7, 3) := by decide +kernel
theorem dX2_placeOfFault_65 : decode cX2_placeOfFault 65 = .ok (.aload_n 0, 1) := by decide +kernel
theorem dX2_placeOfFault_66 : decode cX2_placeOfFault 66 = .ok (.getfield 23, 3) := by decide +kernel
theorem dX2_placeOfFault_69 : decode cX2_placeOfFault 69 = .ok (.ireturn, 1) := by decide +kernel
theorem dX2_fits_0 : decode cX2_fits 0 = .ok (.iload_n 1, 1) := by decide +kernel
theorem dX2_fits_1 : decode cX2_fits 1 = .ok (.tableswitch 109 0 4 #[35, 49, 49, 67, 85], 35) := by decide +kernel
theorem dX2_fits_36 : decode cX2_fits 36 = .ok (.iload_n 0, 1) := by decide +kernel
theorem dX2_fits_37 : decode cX2_fits 37 = .ok (.invokestatic 39, 3) := by decide +kernel
theorem dX2_fits_40 : decode cX2_fits 40 = .ok (.iconst (-1), 1) := by decide +kernel
theorem dX2_fits_41 : decode cX2_fits 41 = .ok (.if_icmp .eq 7, 3) := by decide +kernel
theorem dX2_fits_44 : decode cX2_fits 44 = .ok (.iconst 1, 1) := by decide +kernel
theorem dX2_fits_45 : decode cX2_fits 45 = .ok (.goto 4, 3) := by decide +kernel
theorem dX2_fits_48 : decode cX2_fits 48 = .ok (.iconst 0, 1) := by decide +kernel
theorem dX2_fits_49 : decode cX2_fits 49 = .ok (.ireturn, 1) := by decide +kernel
theorem dX2_fits_50 : decode cX2_fits 50 = .ok (.iload_n 0, 1) := by decide +kernel
theorem dX2_fits_51 : decode cX2_fits 51 = .ok (.bipush 48, 2) := by decide +kernel
theorem dX2_fits_53 : decode cX2_fits 53 = .ok (.if_icmp .lt 13, 3) := by decide +kernel
theorem dX2_fits_56 : decode cX2_fits 56 = .ok (.iload_n 0, 1) := by decide +kernel
theorem dX2_fits_57 : decode cX2_fits 57 = .ok (.bipush 57, 2) := by decide +kernel
theorem dX2_fits_59 : decode cX2_fits 59 = .ok (.if_icmp .gt 7, 3) := by decide +kernel
theorem dX2_fits_62 : decode cX2_fits 62 = .ok (.iconst 1, 1) := by decide +kernel
theorem dX2_fits_63 : decode cX2_fits 63 = .ok (.goto 4, 3) := by decide +kernel
theorem dX2_fits_66 : decode cX2_fits 66 = .ok (.iconst 0, 1) := by decide +kernel
theorem dX2_fits_67 : decode cX2_fits 67 = .ok (.ireturn, 1) := by decide +kernel
theorem dX2_fits_68 : decode cX2_fits 68 = .ok (.iload_n 0, 1) := by decide +kernel
theorem dX2_fits_69 : decode cX2_fits 69 = .ok (.bipush 103, 2) := by decide +kernel
theorem dX2_fits_71 : decode cX2_fits 71 = .ok (.if_icmp .eq 9, 3) := by decide +kernel
theorem dX2_fits_74 : decode cX2_fits 74 = .ok (.iload_n 0, 1) := by decide +kernel
theorem dX2_fits_75 : decode cX2_fits 75 = .ok (.bipush 105, 2) := by decide +kernel
theorem dX2_fits_77 : decode cX2_fits 77 = .ok (.if_icmp .ne 7, 3) := by decide +kernel
theorem dX2_fits_80 : decode cX2_fits 80 = .ok (.iconst 1, 1) := by decide +kernel
theorem dX2_fits_81 : decode cX2_fits 81 = .ok (.goto 4, 3) := by decide +kernel
theorem dX2_fits_84 : decode cX2_fits 84 = .ok (.iconst 0, 1) := by decide +kernel
theorem dX2_fits_85 : decode cX2_fits 85 = .ok (.ireturn, 1) := by decide +kernel
theorem dX2_fits_86 : decode cX2_fits 86 = .ok (.iload_n 0, 1) := by decide +kernel
theorem dX2_fits_87 : decode cX2_fits 87 = .ok (.bipush 48, 2) := by decide +kernel
theorem dX2_fits_89 : decode cX2_fits 89 = .ok (.if_icmp .lt 9, 3) := by decide +kernel
theorem dX2_fits_92 : decode cX2_fits 92 = .ok (.iload_n 0, 1) := by decide +kernel
theorem dX2_fits_93 : decode cX2_fits 93 = .ok (.bipush 55, 2) := by decide +kernel
theorem dX2_fits_95 : decode cX2_fits 95 = .ok (.if_icmp .le 9, 3) := by decide +kernel
theorem dX2_fits_98 : decode cX2_fits 98 = .ok (.iload_n 0, 1) := by decide +kernel
theorem dX2_fits_99 : decode cX2_fits 99 = .ok (.bipush 46, 2) := by decide +kernel
theorem dX2_fits_101 : decode cX2_fits 101 = .ok (.if_icmp .ne 7, 3) := by decide +kernel
theorem dX2_fits_104 : decode cX2_fits 104 = .ok (.iconst 1, 1) := by decide +kernel
theorem dX2_fits_105 : decode cX2_fits 105 = .ok (.goto 4, 3) := by decide +kernel
theorem dX2_fits_108 : decode cX2_fits 108 = .ok (.iconst 0, 1) := by decide +kernel
theorem dX2_fits_109 : decode cX2_fits 109 = .ok (.ireturn, 1) := by decide +kernel
theorem dX2_fits_110 : decode cX2_fits 110 = .ok (.iload_n 0, 1) := by decide +kernel
theorem dX2_fits_111 : decode cX2_fits 111 = .ok (.bipush 59, 2) := by decide +kernel
theorem dX2_fits_113 : decode cX2_fits 113 = .ok (.if_icmp .ne 7, 3) := by decide +kernel
theorem dX2_fits_116 : decode cX2_fits 116 = .ok (.iconst 1, 1) := by decide +kernel
theorem dX2_fits_117 : decode cX2_fits 117 = .ok (.goto 4, 3) := by decide +kernel
theorem dX2_fits_120 : decode cX2_fits 120 = .ok (.iconst 0, 1) := by decide +kernel
theorem dX2_fits_121 : decode cX2_fits 121 = .ok (.ireturn, 1) := by decide +kernel
theorem dX2_kindOf_0 : decode cX2_kindOf 0 = .ok (.iload_n 0, 1) := by decide +kernel
theorem dX2_kindOf_1 : decode cX2_kindOf 1 = .ok (.lookupswitch 51 #[(99, 45), (100, 49), (102, 43), (114, 47)], 43) := by decide +kernel
theorem dX2_kindOf_44 : decode cX2_kindOf 44 = .ok (.iconst 0, 1) := by decide +kernel
theorem dX2_kindOf_45 : decode cX2_kindOf 45 = .ok (.ireturn, 1) := by decide +kernel
theorem dX2_kindOf_46 : decode cX2_kindOf 46 = .ok (.iconst 1, 1) := by decide +kernel
theorem dX2_kindOf_47 : decode cX2_kindOf 47 = .ok (.ireturn, 1) := by decide +kernel
theorem dX2_kindOf_48 : decode cX2_kindOf 48 = .ok (.iconst 2, 1) := by decide +kernel
theorem dX2_kindOf_49 : decode cX2_kindOf 49 = .ok (.ireturn, 1) := by decide +kernel
theorem dX2_kindOf_50 : decode cX2_kindOf 50 = .ok (.iconst 3, 1) := by decide +kernel
theorem dX2_kindOf_51 : decode cX2_kindOf 51 = .ok (.ireturn, 1) := by decide +kernel
theorem dX2_kindOf_52 : decode cX2_kindOf 52 = .ok (.iconst (-1), 1) := by decide +kernel
theorem dX2_kindOf_53 : decode cX2_kindOf 53 = .ok (.ireturn, 1) := by decide +kernel
theorem dX2_has_0 : decode cX2_has 0 = .ok (.iload_n 1, 1) := by decide +kernel
theorem dX2_has_1 : decode cX2_has 1 = .ok (.ifCond .lt 15, 3) := by decide +kernel
theorem dX2_has_4 : decode cX2_has 4 = .ok (.iload_n 1, 1) := by decide +kernel
theorem dX2_has_5 : decode cX2_has 5 = .ok (.aload_n 0, 1) := by decide +kernel
theorem dX2_has_6 : decode cX2_has 6 = .ok (.getfield 34, 3) := by decide +kernel
theorem dX2_has_9 : decode cX2_has 9 = .ok (.if_icmp .ge 7, 3) := by decide +kernel
theorem dX2_has_12 : decode cX2_has 12 = .ok (.iconst 1, 1) := by decide +kernel
theorem dX2_has_13 : decode cX2_has 13 = .ok (.goto 4, 3) := by decide +kernel
theorem dX2_has_16 : decode cX2_has 16 = .ok (.iconst 0, 1) := by decide +kernel
theorem dX2_has_17 : decode cX2_has 17 = .ok (.ireturn, 1) := by decide +kernel
theorem dX2_part_0 : decode cX2_part 0 = .ok (.iload_n 1, 1) := by decide +kernel
theorem dX2_part_1 : decode cX2_part 1 = .ok (.iconst 5, 1) := by decide +kernel
theorem dX2_part_2 : decode cX2_part 2 = .ok (.imul, 1) := by decide +kernel
theorem dX2_part_3 : decode cX2_part 3 = .ok (.iload_n 2, 1) := by decide +kernel
theorem dX2_part_4 : decode cX2_part 4 = .ok (.iadd, 1) := by decide +kernel
theorem dX2_part_5 : decode cX2_part 5 = .ok (.istore_n 3, 1) := by decide +kernel
theorem dX2_part_6 : decode cX2_part 6 = .ok (.iload_n 3, 1) := by decide +kernel
theorem dX2_part_7 : decode cX2_part 7 = .ok (.ifCond .lt 21, 3) := by decide +kernel
theorem dX2_part_10 : decode cX2_part 10 = .ok (.iload_n 3, 1) := by decide +kernel
theorem dX2_part_11 : decode cX2_part 11 = .ok (.aload_n 0, 1) := by decide +kernel
theorem dX2_part_12 : decode cX2_part 12 = .ok (.getfield 9, 3) := by decide +kernel
theorem dX2_part_15 : decode cX2_part 15 = .ok (.arraylength, 1) := by decide +kernel
theorem dX2_part_16 : decode cX2_part 16 = .ok (.if_icmp .ge 12, 3) := by decide +kernel
theorem dX2_part_19 : decode cX2_part 19 = .ok (.aload_n 0, 1) := by decide +kernel
theorem dX2_part_20 : decode cX2_part 20 = .ok (.getfield 9, 3) := by decide +kernel
theorem dX2_part_23 : decode cX2_part 23 = .ok (.iload_n 3, 1) := by decide +kernel
theorem dX2_part_24 : decode cX2_part 24 = .ok (.iaload, 1) := by decide +kernel
theorem dX2_part_25 : decode cX2_part 25 = .ok (.goto 4, 3) := by decide +kernel
theorem dX2_part_28 : decode cX2_part 28 = .ok (.iconst (-1), 1) := by decide +kernel
theorem dX2_part_29 : decode cX2_part 29 = .ok (.ireturn, 1) := by decide +kernel
theorem dX2_putKind_0 : decode cX2_putKind 0 = .ok (.aload_n 0, 1) := by decide +kernel
theorem dX2_putKind_1 : decode cX2_putKind 1 = .ok (.iload_n 1, 1) := by decide +kernel
theorem dX2_putKind_2 : decode cX2_putKind 2 = .ok (.invokevirtual 46, 3) := by decide +kernel
theorem dX2_putKind_5 : decode cX2_putKind 5 = .ok (.ifCond .eq 14, 3) := by decide +kernel
theorem dX2_putKind_8 : decode cX2_putKind 8 = .ok (.aload_n 0, 1) := by decide +kernel
theorem dX2_putKind_9 : decode cX2_putKind 9 = .ok (.getfield 9, 3) := by decide +kernel
theorem dX2_putKind_12 : decode cX2_putKind 12 = .ok (.iload_n 1, 1) := by decide +kernel
theorem dX2_putKind_13 : decode cX2_putKind 13 = .ok (.iconst 5, 1) := by decide +kernel
theorem dX2_putKind_14 : decode cX2_putKind 14 = .ok (.imul, 1) := by decide +kernel
theorem dX2_putKind_15 : decode cX2_putKind 15 = .ok (.iconst 0, 1) := by decide +kernel
theorem dX2_putKind_16 : decode cX2_putKind 16 = .ok (.iadd, 1) := by decide +kernel
theorem dX2_putKind_17 : decode cX2_putKind 17 = .ok (.iload_n 2, 1) := by decide +kernel
theorem dX2_putKind_18 : decode cX2_putKind 18 = .ok (.iastore, 1) := by decide +kernel
theorem dX2_putKind_19 : decode cX2_putKind 19 = .ok (.return_, 1) := by decide +kernel
theorem dX2_answerOf_0 : decode cX2_answerOf 0 = .ok (.aload_n 0, 1) := by decide +kernel
theorem dX2_answerOf_1 : decode cX2_answerOf 1 = .ok (.iload_n 1, 1) := by decide +kernel
theorem dX2_answerOf_2 : decode cX2_answerOf 2 = .ok (.iconst 0, 1) := by decide +kernel
theorem dX2_answerOf_3 : decode cX2_answerOf 3 = .ok (.invokevirtual 50, 3) := by decide +kernel
theorem dX2_answerOf_6 : decode cX2_answerOf 6 = .ok (.istore_n 3, 1) := by decide +kernel
theorem dX2_answerOf_7 : decode cX2_answerOf 7 = .ok (.iload_n 3, 1) := by decide +kernel
theorem dX2_answerOf_8 : decode cX2_answerOf 8 = .ok (.iconst 3, 1) := by decide +kernel
theorem dX2_answerOf_9 : decode cX2_answerOf 9 = .ok (.if_icmp .ne 5, 3) := by decide +kernel
theorem dX2_answerOf_12 : decode cX2_answerOf 12 = .ok (.iconst 4, 1) := by decide +kernel
theorem dX2_answerOf_13 : decode cX2_answerOf 13 = .ok (.ireturn, 1) := by decide +kernel
theorem dX2_answerOf_14 : decode cX2_answerOf 14 = .ok (.iload_n 3, 1) := by decide +kernel
theorem dX2_answerOf_15 : decode cX2_answerOf 15 = .ok (.iconst 1, 1) := by decide +kernel
theorem dX2_answerOf_16 : decode cX2_answerOf 16 = .ok (.if_icmp .ne 15, 3) := by decide +kernel
theorem dX2_answerOf_19 : decode cX2_answerOf 19 = .ok (.aload_n 0, 1) := by decide +kernel
theorem dX2_answerOf_20 : decode cX2_answerOf 20 = .ok (.iload_n 1, 1) := by decide +kernel
theorem dX2_answerOf_21 : decode cX2_answerOf 21 = .ok (.iconst 3, 1) := by decide +kernel
theorem dX2_answerOf_22 : decode cX2_answerOf 22 = .ok (.invokevirtual 50, 3) := by decide +kernel
theorem dX2_answerOf_25 : decode cX2_answerOf 25 = .ok (.iconst 1, 1) := by decide +kernel
theorem dX2_answerOf_26 : decode cX2_answerOf 26 = .ok (.if_icmp .ne 5, 3) := by decide +kernel
theorem dX2_answerOf_29 : decode cX2_answerOf 29 = .ok (.iconst 1, 1) := by decide +kernel
theorem dX2_answerOf_30 : decode cX2_answerOf 30 = .ok (.ireturn, 1) := by decide +kernel
theorem dX2_answerOf_31 : decode cX2_answerOf 31 = .ok (.iload_n 3, 1) := by decide +kernel
theorem dX2_answerOf_32 : decode cX2_answerOf 32 = .ok (.iconst 2, 1) := by decide +kernel
theorem dX2_answerOf_33 : decode cX2_answerOf 33 = .ok (.if_icmp .ne 17, 3) := by decide +kernel
theorem dX2_answerOf_36 : decode cX2_answerOf 36 = .ok (.aload_n 0, 1) := by decide +kernel
theorem dX2_answerOf_37 : decode cX2_answerOf 37 = .ok (.iload_n 1, 1) := by decide +kernel
theorem dX2_answerOf_38 : decode cX2_answerOf 38 = .ok (.iconst 2, 1) := by decide +kernel
theorem dX2_answerOf_39 : decode cX2_answerOf 39 = .ok (.invokevirtual 50, 3) := by decide +kernel
theorem dX2_answerOf_42 : decode cX2_answerOf 42 = .ok (.iload_n 2, 1) := by decide +kernel
theorem dX2_answerOf_43 : decode cX2_answerOf 43 = .ok (.if_icmp .lt 7, 3) := by decide +kernel
theorem dX2_answerOf_46 : decode cX2_answerOf 46 = .ok (.iconst 2, 1) := by decide +kernel
theorem dX2_answerOf_47 : decode cX2_answerOf 47 = .ok (.goto 4, 3) := by decide +kernel
theorem dX2_answerOf_50 : decode cX2_answerOf 50 = .ok (.iconst 3, 1) := by decide +kernel
theorem dX2_answerOf_51 : decode cX2_answerOf 51 = .ok (.ireturn, 1) := by decide +kernel
theorem dX3_init_0 : decode cX3_init 0 = .ok (.aload_n 0, 1) := by decide +kernel
theorem dX3_init_1 : decode cX3_init 1 = .ok (.invokespecial 1, 3) := by decide +kernel
theorem dX3_init_4 : decode cX3_init 4 = .ok (.aload_n 0, 1) := by decide +kernel
theorem dX3_init_5 : decode cX3_init 5 = .ok (.iload_n 1, 1) := by decide +kernel
theorem dX3_init_6 : decode cX3_init 6 = .ok (.putfield 7, 3) := by decide +kernel
theorem dX3_init_9 : decode cX3_init 9 = .ok (.return_, 1) := by decide +kernel
theorem dX3_draw_0 : decode cX3_draw 0 = .ok (.aload_n 0, 1) := by decide +kernel
theorem dX3_draw_1 : decode cX3_draw 1 = .ok (.ldc 13, 2) := by decide +kernel
theorem dX3_draw_3 : decode cX3_draw 3 = .ok (.aload_n 0, 1) := by decide +kernel
theorem dX3_draw_4 : decode cX3_draw 4 = .ok (.getfield 7, 3) := by decide +kernel
theorem dX3_draw_7 : decode cX3_draw 7 = .ok (.imul, 1) := by decide +kernel
theorem dX3_draw_8 : decode cX3_draw 8 = .ok (.sipush 12345, 3) := by decide +kernel
theorem dX3_draw_11 : decode cX3_draw 11 = .ok (.iadd, 1) := by decide +kernel
theorem dX3_draw_12 : decode cX3_draw 12 = .ok (.putfield 7, 3) := by decide +kernel
theorem dX3_draw_15 : decode cX3_draw 15 = .ok (.iload_n 1, 1) := by decide +kernel
theorem dX3_draw_16 : decode cX3_draw 16 = .ok (.ifCond .le 15, 3) := by decide +kernel
theorem dX3_draw_19 : decode cX3_draw 19 = .ok (.aload_n 0, 1) := by decide +kernel
theorem dX3_draw_20 : decode cX3_draw 20 = .ok (.getfield 7, 3) := by decide +kernel
theorem dX3_draw_23 : decode cX3_draw 23 = .ok (.bipush 16, 2) := by decide +kernel
theorem dX3_draw_25 : decode cX3_draw 25 = .ok (.iushr, 1) := by decide +kernel
theorem dX3_draw_26 : decode cX3_draw 26 = .ok (.iload_n 1, 1) := by decide +kernel
theorem dX3_draw_27 : decode cX3_draw 27 = .ok (.irem, 1) := by decide +kernel
theorem dX3_draw_28 : decode cX3_draw 28 = .ok (.goto 4, 3) := by decide +kernel
theorem dX3_draw_31 : decode cX3_draw 31 = .ok (.iconst 0, 1) := by decide +kernel
theorem dX3_draw_32 : decode cX3_draw 32 = .ok (.ireturn, 1) := by decide +kernel
theorem dX4_init_0 : decode cX4_init 0 = .ok (.aload_n 0, 1) := by decide +kernel
theorem dX4_init_1 : decode cX4_init 1 = .ok (.invokespecial 3, 3) := by decide +kernel
theorem dX4_init_4 : decode cX4_init 4 = .ok (.aload_n 0, 1) := by decide +kernel
theorem dX4_init_5 : decode cX4_init 5 = .ok (.bipush 12, 2) := by decide +kernel
theorem dX4_init_7 : decode cX4_init 7 = .ok (.newarray .int, 2) := by decide +kernel
theorem dX4_init_9 : decode cX4_init 9 = .ok (.putfield 9, 3) := by decide +kernel
theorem dX4_init_12 : decode cX4_init 12 = .ok (.aload_n 0, 1) := by decide +kernel
theorem dX4_init_13 : decode cX4_init 13 = .ok (.iconst (-1), 1) := by decide +kernel
theorem dX4_init_14 : decode cX4_init 14 = .ok (.putfield 15, 3) := by decide +kernel
theorem dX4_init_17 : decode cX4_init 17 = .ok (.return_, 1) := by decide +kernel
theorem dX4_parse_0 : decode cX4_parse 0 = .ok (.aload_n 0, 1) := by decide +kernel
theorem dX4_parse_1 : decode cX4_parse 1 = .ok (.iconst (-1), 1) := by decide +kernel
theorem dX4_parse_2 : decode cX4_parse 2 = .ok (.putfield 15, 3) := by decide +kernel
theorem dX4_parse_5 : decode cX4_parse 5 = .ok (.aload_n 0, 1) := by decide +kernel
theorem dX4_parse_6 : decode cX4_parse 6 = .ok (.bipush 12, 2) := by decide +kernel
theorem dX4_parse_8 : decode cX4_parse 8 = .ok (.aload_n 1, 1) := by decide +kernel
theorem dX4_parse_9 : decode cX4_parse 9 = .ok (.getfield 19, 3) := by decide +kernel
theorem dX4_parse_12 : decode cX4_parse 12 = .ok (.invokestatic 24, 3) := by decide +kernel
theorem dX4_parse_15 : decode cX4_parse 15 = .ok (.putfield 30, 3) := by decide +kernel
theorem dX4_parse_18 : decode cX4_parse 18 = .ok (.iconst 0, 1) := by decide +kernel
theorem dX4_parse_19 : decode cX4_parse 19 = .ok (.istore_n 2, 1) := by decide +kernel
theorem dX4_parse_20 : decode cX4_parse 20 = .ok (.iload_n 2, 1) := by decide +kernel
theorem dX4_parse_21 : decode cX4_parse 21 = .ok (.aload_n 0, 1) := by decide +kernel
theorem dX4_parse_22 : decode cX4_parse 22 = .ok (.getfield 30, 3) := by decide +kernel
theorem dX4_parse_25 : decode cX4_parse 25 = .ok (.if_icmp .ge 48, 3) := by decide +kernel
theorem dX4_parse_28 : decode cX4_parse 28 = .ok (.aload_n 1, 1) := by decide +kernel
theorem dX4_parse_29 : decode cX4_parse 29 = .ok (.iload_n 2, 1) := by decide +kernel
theorem dX4_parse_30 : decode cX4_parse 30 = .ok (.invokevirtual 31, 3) := by decide +kernel
theorem dX4_parse_33 : decode cX4_parse 33 = .ok (.istore_n 3, 1) := by decide +kernel
theorem dX4_parse_34 : decode cX4_parse 34 = .ok (.iload_n 3, 1) := by decide +kernel
theorem dX4_parse_35 : decode cX4_parse 35 = .ok (.bipush 97, 2) := by decide +kernel
theorem dX4_parse_37 : decode cX4_parse 37 = .ok (.if_icmp .lt 9, 3) := by decide +kernel
theorem dX4_parse_40 : decode cX4_parse 40 = .ok (.iload_n 3, 1) := by decide +kernel
theorem dX4_parse_41 : decode cX4_parse 41 = .ok (.bipush 104, 2) := by decide +kernel
theorem dX4_parse_43 : decode cX4_parse 43 = .ok (.if_icmp .le 14, 3) := by decide +kernel
theorem dX4_parse_46 : decode cX4_parse 46 = .ok (.aload_n 0, 1) := by decide +kernel
theorem dX4_parse_47 : decode cX4_parse 47 = .ok (.iload_n 2, 1) := by decide +kernel
theorem dX4_parse_48 : decode cX4_parse 48 = .ok (.putfield 15, 3) := by decide +kernel
theorem dX4_parse_51 : decode cX4_parse 51 = .ok (.aload_n 0, 1) := by decide +kernel
theorem dX4_parse_52 : decode cX4_parse 52 = .ok (.iconst 0, 1) := by decide +kernel
theorem dX4_parse_53 : decode cX4_parse 53 = .ok (.putfield 30, 3) := by decide +kernel
theorem dX4_parse_56 : decode cX4_parse 56 = .ok (.return_, 1) := by decide +kernel
theorem dX4_parse_57 : decode cX4_parse 57 = .ok (.aload_n 0, 1) := by decide +kernel
theorem dX4_parse_58 : decode cX4_parse 58 = .ok (.getfield 9, 3) := by decide +kernel
theorem dX4_parse_61 : decode cX4_parse 61 = .ok (.iload_n 2, 1) := by decide +kernel
theorem dX4_parse_62 : decode cX4_parse 62 = .ok (.iload_n 3, 1) := by decide +kernel
theorem dX4_parse_63 : decode cX4_parse 63 = .ok (.bipush 97, 2) := by decide +kernel
theorem dX4_parse_65 : decode cX4_parse 65 = .ok (.isub, 1) := by decide +kernel
theorem dX4_parse_66 : decode cX4_parse 66 = .ok (.iastore, 1) := by decide +kernel
theorem dX4_parse_67 : decode cX4_parse 67 = .ok (.iinc 2 1, 3) := by decide +kernel
theorem dX4_parse_70 : decode cX4_parse 70 = .ok (.goto (-50), 3) := by decide +kernel
theorem dX4_parse_73 : decode cX4_parse 73 = .ok (.return_, 1) := by decide +kernel
theorem dX4_whoAt_0 : decode cX4_whoAt 0 = .ok (.iload_n 1, 1) := by decide +kernel
theorem dX4_whoAt_1 : decode cX4_whoAt 1 = .ok (.ifCond .lt 20, 3) := by decide +kernel
theorem dX4_whoAt_4 : decode cX4_whoAt 4 = .ok (.iload_n 1, 1) := by decide +kernel
theorem dX4_whoAt_5 : decode cX4_whoAt 5 = .ok (.aload_n 0, 1) := by decide +kernel
theorem dX4_whoAt_6 : decode cX4_whoAt 6 = .ok (.getfield 30, 3) := by decide +kernel
theorem dX4_whoAt_9 : decode cX4_whoAt 9 = .ok (.if_icmp .ge 12, 3) := by decide +kernel
theorem dX4_whoAt_12 : decode cX4_whoAt 12 = .ok (.aload_n 0, 1) := by decide +kernel
theorem dX4_whoAt_13 : decode cX4_whoAt 13 = .ok (.getfield 9, 3) := by decide +kernel
theorem dX4_whoAt_16 : decode cX4_whoAt 16 = .ok (.iload_n 1, 1) := by decide +kernel
theorem dX4_whoAt_17 : decode cX4_whoAt 17 = .ok (.iaload, 1) := by decide +kernel
theorem dX4_whoAt_18 : decode cX4_whoAt 18 = .ok (.goto 4, 3) := by decide +kernel
theorem dX4_whoAt_21 : decode cX4_whoAt 21 = .ok (.iconst (-1), 1) := by decide +kernel
theorem dX4_whoAt_22 : decode cX4_whoAt 22 = .ok (.ireturn, 1) := by decide +kernel
theorem dX5_init_0 : decode cX5_init 0 = .ok (.aload_n 0, 1) := by decide +kernel
theorem dX5_init_1 : decode cX5_init 1 = .ok (.invokespecial 3, 3) := by decide +kernel
theorem dX5_init_4 : decode cX5_init 4 = .ok (.aload_n 0, 1) := by decide +kernel
theorem dX5_init_5 : decode cX5_init 5 = .ok (.sipush 2560, 3) := by decide +kernel
theorem dX5_init_8 : decode cX5_init 8 = .ok (.newarray .long, 2) := by decide +kernel
theorem dX5_init_10 : decode cX5_init 10 = .ok (.putfield 11, 3) := by decide +kernel
theorem dX5_init_13 : decode cX5_init 13 = .ok (.aload_n 0, 1) := by decide +kernel
theorem dX5_init_14 : decode cX5_init 14 = .ok (.bipush 80, 2) := by decide +kernel
theorem dX5_init_16 : decode cX5_init 16 = .ok (.newarray .int, 2) := by decide +kernel
theorem dX5_init_18 : decode cX5_init 18 = .ok (.putfield 15, 3) := by decide +kernel
theorem dX5_init_21 : decode cX5_init 21 = .ok (.aload_n 0, 1) := by decide +kernel
theorem dX5_init_22 : decode cX5_init 22 = .ok (.bipush 80, 2) := by decide +kernel
theorem dX5_init_24 : decode cX5_init 24 = .ok (.newarray .int, 2) := by decide +kernel
theorem dX5_init_26 : decode cX5_init 26 = .ok (.putfield 19, 3) := by decide +kernel
theorem dX5_init_29 : decode cX5_init 29 = .ok (.aload_n 0, 1) := by decide +kernel
theorem dX5_init_30 : decode cX5_init 30 = .ok (.bipush 8, 2) := by decide +kernel
theorem dX5_init_32 : decode cX5_init 32 = .ok (.newarray .int, 2) := by decide +kernel
theorem dX5_init_34 : decode cX5_init 34 = .ok (.putfield 22, 3) := by decide +kernel
theorem dX5_init_37 : decode cX5_init 37 = .ok (.return_, 1) := by decide +kernel
theorem dX5_makeOnce_0 : decode cX5_makeOnce 0 = .ok (.aload_n 0, 1) := by decide +kernel
theorem dX5_makeOnce_1 : decode cX5_makeOnce 1 = .ok (.getfield 25, 3) := by decide +kernel
theorem dX5_makeOnce_4 : decode cX5_makeOnce 4 = .ok (.ifCond .eq 4, 3) := by decide +kernel
theorem dX5_makeOnce_7 : decode cX5_makeOnce 7 = .ok (.return_, 1) := by decide +kernel
theorem dX5_makeOnce_8 : decode cX5_makeOnce 8 = .ok (.aload_n 0, 1) := by decide +kernel
theorem dX5_makeOnce_9 : decode cX5_makeOnce 9 = .ok (.bipush 8, 2) := by decide +kernel
theorem dX5_makeOnce_11 : decode cX5_makeOnce 11 = .ok (.aload_n 1, 1) := by decide +kernel
theorem dX5_makeOnce_12 : decode cX5_makeOnce 12 = .ok (.getfield 29, 3) := by decide +kernel
theorem dX5_makeOnce_15 : decode cX5_makeOnce 15 = .ok (.invokestatic 35, 3) := by decide +kernel
theorem dX5_makeOnce_18 : decode cX5_makeOnce 18 = .ok (.putfield 41, 3) := by decide +kernel
theorem dX5_makeOnce_21 : decode cX5_makeOnce 21 = .ok (.aload_n 0, 1) := by decide +kernel
theorem dX5_makeOnce_22 : decode cX5_makeOnce 22 = .ok (.iconst 0, 1) := by decide +kernel
theorem dX5_makeOnce_23 : decode cX5_makeOnce 23 = .ok (.bipush 9, 2) := by decide +kernel
theorem dX5_makeOnce_25 : decode cX5_makeOnce 25 = .ok (.aload_n 2, 1) := by decide +kernel
theorem dX5_makeOnce_26 : decode cX5_makeOnce 26 = .ok (.getfield 44, 3) := by decide +kernel
theorem dX5_makeOnce_29 : decode cX5_makeOnce 29 = .ok (.invokestatic 35, 3) := by decide +kernel
theorem dX5_makeOnce_32 : decode cX5_makeOnce 32 = .ok (.invokestatic 49, 3) := by decide +kernel
theorem dX5_makeOnce_35 : decode cX5_makeOnce 35 = .ok (.putfield 52, 3) := by decide +kernel
theorem dX5_makeOnce_38 : decode cX5_makeOnce 38 = .ok (.aload_n 0, 1) := by decide +kernel
theorem dX5_makeOnce_39 : decode cX5_makeOnce 39 = .ok (.aload_n 2, 1) := by decide +kernel
theorem dX5_makeOnce_40 : decode cX5_makeOnce 40 = .ok (.getfield 55, 3) := by decide +kernel
theorem dX5_makeOnce_43 : decode cX5_makeOnce 43 = .ok (.putfield 58, 3) := by decide +kernel
theorem dX5_makeOnce_46 : decode cX5_makeOnce 46 = .ok (.aload_n 0, 1) := by decide +kernel
theorem dX5_makeOnce_47 : decode cX5_makeOnce 47 = .ok (.iconst 0, 1) := by decide +kernel
theorem dX5_makeOnce_48 : decode cX5_makeOnce 48 = .ok (.putfield 61, 3) := by decide +kernel
theorem dX5_makeOnce_51 : decode cX5_makeOnce 51 = .ok (.iconst 0, 1) := by decide +kernel
theorem dX5_makeOnce_52 : decode cX5_makeOnce 52 = .ok (.istore_n 3, 1) := by decide +kernel
theorem dX5_makeOnce_53 : decode cX5_makeOnce 53 = .ok (.iload_n 3, 1) := by decide +kernel
theorem dX5_makeOnce_54 : decode cX5_makeOnce 54 = .ok (.aload_n 0, 1) := by decide +kernel
theorem dX5_makeOnce_55 : decode cX5_makeOnce 55 = .ok (.getfield 41, 3) := by decide +kernel
theorem dX5_makeOnce_58 : decode cX5_makeOnce 58 = .ok (.if_icmp .ge 29, 3) := by decide +kernel
theorem dX5_makeOnce_61 : decode cX5_makeOnce 61 = .ok (.aload_n 0, 1) := by decide +kernel
theorem dX5_makeOnce_62 : decode cX5_makeOnce 62 = .ok (.iload_n 3, 1) := by decide +kernel
theorem dX5_makeOnce_63 : decode cX5_makeOnce 63 = .ok (.aload_n 1, 1) := by decide +kernel
theorem dX5_makeOnce_64 : decode cX5_makeOnce 64 = .ok (.iload_n 3, 1) := by decide +kernel
theorem dX5_makeOnce_65 : decode cX5_makeOnce 65 = .ok (.aload_n 2, 1) := by decide +kernel
theorem dX5_makeOnce_66 : decode cX5_makeOnce 66 = .ok (.getfield 64, 3) := by decide +kernel
theorem dX5_makeOnce_69 : decode cX5_makeOnce 69 = .ok (.invokevirtual 67, 3) := by decide +kernel
theorem dX5_makeOnce_72 : decode cX5_makeOnce 72 = .ok (.aload_n 1, 1) := by decide +kernel
theorem dX5_makeOnce_73 : decode cX5_makeOnce 73 = .ok (.iload_n 3, 1) := by decide +kernel
theorem dX5_makeOnce_74 : decode cX5_makeOnce 74 = .ok (.iconst 1, 1) := by decide +kernel
theorem dX5_makeOnce_75 : decode cX5_makeOnce 75 = .ok (.invokevirtual 70, 3) := by decide +kernel
theorem dX5_makeOnce_78 : decode cX5_makeOnce 78 = .ok (.invokevirtual 73, 3) := by decide +kernel
theorem dX5_makeOnce_81 : decode cX5_makeOnce 81 = .ok (.iinc 3 1, 3) := by decide +kernel
theorem dX5_makeOnce_84 : decode cX5_makeOnce 84 = .ok (.goto (-31), 3) := by decide +kernel
theorem dX5_makeOnce_87 : decode cX5_makeOnce 87 = .ok (.aload_n 0, 1) := by decide +kernel
theorem dX5_makeOnce_88 : decode cX5_makeOnce 88 = .ok (.invokevirtual 77, 3) := by decide +kernel
theorem dX5_makeOnce_91 : decode cX5_makeOnce 91 = .ok (.aload_n 0, 1) := by decide +kernel
theorem dX5_makeOnce_92 : decode cX5_makeOnce 92 = .ok (.aload_n 0, 1) := by decide +kernel
theorem dX5_makeOnce_93 : decode cX5_makeOnce 93 = .ok (.getfield 11, 3) := by decide +kernel
theorem dX5_makeOnce_96 : decode cX5_makeOnce 96 = .ok (.aload_n 0, 1) := by decide +kernel
theorem dX5_makeOnce_97 : decode cX5_makeOnce 97 = .ok (.getfield 52, 3) := by decide +kernel
theorem dX5_makeOnce_100 : decode cX5_makeOnce 100 = .ok (.laload, 1) := by decide +kernel
theorem dX5_makeOnce_101 : decode cX5_makeOnce 101 = .ok (.putfield 80, 3) := by decide +kernel
theorem dX5_makeOnce_104 : decode cX5_makeOnce 104 = .ok (.aload_n 0, 1) := by decide +kernel
theorem dX5_makeOnce_105 : decode cX5_makeOnce 105 = .ok (.iconst 0, 1) := by decide +kernel
theorem dX5_makeOnce_106 : decode cX5_makeOnce 106 = .ok (.putfield 84, 3) := by decide +kernel
theorem dX5_makeOnce_109 : decode cX5_makeOnce 109 = .ok (.aload_n 0, 1) := by decide +kernel
theorem dX5_makeOnce_110 : decode cX5_makeOnce 110 = .ok (.getfield 80, 3) := by decide +kernel
theorem dX5_makeOnce_113 : decode cX5_makeOnce 113 = .ok (.lconst 0, 1) := by decide +kernel
theorem dX5_makeOnce_114 : decode cX5_makeOnce 114 = .ok (.lcmp, 1) := by decide +kernel
theorem dX5_makeOnce_115 : decode cX5_makeOnce 115 = .ok (.ifCond .le 7, 3) := by decide +kernel
theorem dX5_makeOnce_118 : decode cX5_makeOnce 118 = .ok (.aload_n 0, 1) := by decide +kernel
theorem dX5_makeOnce_119 : decode cX5_makeOnce 119 = .ok (.invokevirtual 87, 3) := by decide +kernel
theorem dX5_makeOnce_122 : decode cX5_makeOnce 122 = .ok (.aload_n 0, 1) := by decide +kernel
theorem dX5_makeOnce_123 : decode cX5_makeOnce 123 = .ok (.iconst 1, 1) := by decide +kernel
theorem dX5_makeOnce_124 : decode cX5_makeOnce 124 = .ok (.putfield 25, 3) := by decide +kernel
theorem dX5_makeOnce_127 : decode cX5_makeOnce 127 = .ok (.return_, 1) := by decide +kernel
theorem dX5_prepare_0 : decode cX5_prepare 0 = .ok (.iload_n 2, 1) := by decide +kernel
theorem dX5_prepare_1 : decode cX5_prepare 1 = .ok (.invokestatic 90, 3) := by decide +kernel
theorem dX5_prepare_4 : decode cX5_prepare 4 = .ok (.istore 4, 2) := by decide +kernel
theorem dX5_prepare_6 : decode cX5_prepare 6 = .ok (.aload_n 0, 1) := by decide +kernel
theorem dX5_prepare_7 : decode cX5_prepare 7 = .ok (.dup, 1) := by decide +kernel
theorem dX5_prepare_8 : decode cX5_prepare 8 = .ok (.getfield 61, 3) := by decide +kernel
theorem dX5_prepare_11 : decode cX5_prepare 11 = .ok (.iload 4, 2) := by decide +kernel
theorem dX5_prepare_13 : decode cX5_prepare 13 = .ok (.ifCond .eq 9, 3) := by decide +kernel
theorem dX5_prepare_16 : decode cX5_prepare 16 = .ok (.iconst 1, 1) := by decide +kernel
theorem dX5_prepare_17 : decode cX5_prepare 17 = .ok (.iload_n 1, 1) := by decide +kernel
theorem dX5_prepare_18 : decode cX5_prepare 18 = .ok (.ishl, 1) := by decide +kernel
theorem dX5_prepare_19 : decode cX5_prepare 19 = .ok (.goto 4, 3) := by decide +kernel
theorem dX5_prepare_22 : decode cX5_prepare 22 = .ok (.iconst 0, 1) := by decide +kernel
theorem dX5_prepare_23 : decode cX5_prepare 23 = .ok (.ior, 1) := by decide +kernel
theorem dX5_prepare_24 : decode cX5_prepare 24 = .ok (.putfield 61, 3) := by decide +kernel
theorem dX5_prepare_27 : decode cX5_prepare 27 = .ok (.iconst 0, 1) := by decide +kernel
theorem dX5_prepare_28 : decode cX5_prepare 28 = .ok (.istore 5, 2) := by decide +kernel
theorem dX5_prepare_30 : decode cX5_prepare 30 = .ok (.iload 5, 2) := by decide +kernel
theorem dX5_prepare_32 : decode cX5_prepare 32 = .ok (.aload_n 0, 1) := by decide +kernel
theorem dX5_prepare_33 : decode cX5_prepare 33 = .ok (.getfield 52, 3) := by decide +kernel
theorem dX5_prepare_36 : decode cX5_prepare 36 = .ok (.if_icmp .gt 58, 3) := by decide +kernel
theorem dX5_prepare_39 : decode cX5_prepare 39 = .ok (.iload_n 1, 1) := by decide +kernel
theorem dX5_prepare_40 : decode cX5_prepare 40 = .ok (.bipush 10, 2) := by decide +kernel
theorem dX5_prepare_42 : decode cX5_prepare 42 = .ok (.imul, 1) := by decide +kernel
theorem dX5_prepare_43 : decode cX5_prepare 43 = .ok (.iload 5, 2) := by decide +kernel
theorem dX5_prepare_45 : decode cX5_prepare 45 = .ok (.iadd, 1) := by decide +kernel
theorem dX5_prepare_46 : decode cX5_prepare 46 = .ok (.istore 6, 2) := by decide +kernel
theorem dX5_prepare_48 : decode cX5_prepare 48 = .ok (.aload_n 0, 1) := by decide +kernel
theorem dX5_prepare_49 : decode cX5_prepare 49 = .ok (.getfield 15, 3) := by decide +kernel
theorem dX5_prepare_52 : decode cX5_prepare 52 = .ok (.iload 6, 2) := by decide +kernel
theorem dX5_prepare_54 : decode cX5_prepare 54 = .ok (.iload 4, 2) := by decide +kernel
theorem dX5_prepare_56 : decode cX5_prepare 56 = .ok (.ifCond .eq 13, 3) := by decide +kernel
theorem dX5_prepare_59 : decode cX5_prepare 59 = .ok (.iload_n 2, 1) := by decide +kernel
theorem dX5_prepare_60 : decode cX5_prepare 60 = .ok (.iload 5, 2) := by decide +kernel
theorem dX5_prepare_62 : decode cX5_prepare 62 = .ok (.iload_n 3, 1) := by decide +kernel
theorem dX5_prepare_63 : decode cX5_prepare 63 = .ok (.invokestatic 96, 3) := by decide +kernel
theorem dX5_prepare_66 : decode cX5_prepare 66 = .ok (.goto 4, 3) := by decide +kernel
theorem dX5_prepare_69 : decode cX5_prepare 69 = .ok (.iconst 1, 1) := by decide +kernel
theorem dX5_prepare_70 : decode cX5_prepare 70 = .ok (.iastore, 1) := by decide +kernel
theorem dX5_prepare_71 : decode cX5_prepare 71 = .ok (.aload_n 0, 1) := by decide +kernel
theorem dX5_prepare_72 : decode cX5_prepare 72 = .ok (.getfield 19, 3) := by decide +kernel
theorem dX5_prepare_75 : decode cX5_prepare 75 = .ok (.iload 6, 2) := by decide +kernel
theorem dX5_prepare_77 : decode cX5_prepare 77 = .ok (.iload_n 2, 1) := by decide +kernel
theorem dX5_prepare_78 : decode cX5_prepare 78 = .ok (.iload 5, 2) := by decide +kernel
theorem dX5_prepare_80 : decode cX5_prepare 80 = .ok (.aload_n 0, 1) := by decide +kernel
theorem dX5_prepare_81 : decode cX5_prepare 81 = .ok (.getfield 52, 3) := by decide +kernel
theorem dX5_prepare_84 : decode cX5_prepare 84 = .ok (.invokestatic 100, 3) := by decide +kernel
theorem dX5_prepare_87 : decode cX5_prepare 87 = .ok (.iastore, 1) := by decide +kernel
theorem dX5_prepare_88 : decode cX5_prepare 88 = .ok (.iinc 5 1, 3) := by decide +kernel
theorem dX5_prepare_91 : decode cX5_prepare 91 = .ok (.goto (-61), 3) := by decide +kernel
theorem dX5_prepare_94 : decode cX5_prepare 94 = .ok (.return_, 1) := by decide +kernel
theorem dX5_winsOf_0 : decode cX5_winsOf 0 = .ok (.iload_n 1, 1) := by decide +kernel
theorem dX5_winsOf_1 : decode cX5_winsOf 1 = .ok (.aload_n 0, 1) := by decide +kernel
theorem dX5_winsOf_2 : decode cX5_winsOf 2 = .ok (.getfield 61, 3) := by decide +kernel
theorem dX5_winsOf_5 : decode cX5_winsOf 5 = .ok (.iand, 1) := by decide +kernel
theorem dX5_winsOf_6 : decode cX5_winsOf 6 = .ok (.invokestatic 102, 3) := by decide +kernel
theorem dX5_winsOf_9 : decode cX5_winsOf 9 = .ok (.ireturn, 1) := by decide +kernel
theorem dX5_fillValues_0 : decode cX5_fillValues 0 = .ok (.iconst 1, 1) := by decide +kernel
theorem dX5_fillValues_1 : decode cX5_fillValues 1 = .ok (.aload_n 0, 1) := by decide +kernel
theorem dX5_fillValues_2 : decode cX5_fillValues 2 = .ok (.getfield 41, 3) := by decide +kernel
theorem dX5_fillValues_5 : decode cX5_fillValues 5 = .ok (.ishl, 1) := by decide +kernel
theorem dX5_fillValues_6 : decode cX5_fillValues 6 = .ok (.iconst 1, 1) := by decide +kernel
theorem dX5_fillValues_7 : decode cX5_fillValues 7 = .ok (.isub, 1) := by decide +kernel
theorem dX5_fillValues_8 : decode cX5_fillValues 8 = .ok (.istore_n 1, 1) := by decide +kernel
theorem dX5_fillValues_9 : decode cX5_fillValues 9 = .ok (.iload_n 1, 1) := by decide +kernel
theorem dX5_fillValues_10 : decode cX5_fillValues 10 = .ok (.ifCond .lt 69, 3) := by decide +kernel
theorem dX5_fillValues_13 : decode cX5_fillValues 13 = .ok (.aload_n 0, 1) := by decide +kernel
theorem dX5_fillValues_14 : decode cX5_fillValues 14 = .ok (.iload_n 1, 1) := by decide +kernel
theorem dX5_fillValues_15 : decode cX5_fillValues 15 = .ok (.invokevirtual 108, 3) := by decide +kernel
theorem dX5_fillValues_18 : decode cX5_fillValues 18 = .ok (.istore_n 2, 1) := by decide +kernel
theorem dX5_fillValues_19 : decode cX5_fillValues 19 = .ok (.iconst 0, 1) := by decide +kernel
theorem dX5_fillValues_20 : decode cX5_fillValues 20 = .ok (.aload_n 0, 1) := by decide +kernel
theorem dX5_fillValues_21 : decode cX5_fillValues 21 = .ok (.getfield 52, 3) := by decide +kernel
theorem dX5_fillValues_24 : decode cX5_fillValues 24 = .ok (.iload_n 2, 1) := by decide +kernel
theorem dX5_fillValues_25 : decode cX5_fillValues 25 = .ok (.isub, 1) := by decide +kernel
theorem dX5_fillValues_26 : decode cX5_fillValues 26 = .ok (.invokestatic 49, 3) := by decide +kernel
theorem dX5_fillValues_29 : decode cX5_fillValues 29 = .ok (.istore_n 3, 1) := by decide +kernel
theorem dX5_fillValues_30 : decode cX5_fillValues 30 = .ok (.iload_n 3, 1) := by decide +kernel
theorem dX5_fillValues_31 : decode cX5_fillValues 31 = .ok (.aload_n 0, 1) := by decide +kernel
theorem dX5_fillValues_32 : decode cX5_fillValues 32 = .ok (.getfield 52, 3) := by decide +kernel
theorem dX5_fillValues_35 : decode cX5_fillValues 35 = .ok (.if_icmp .gt 38, 3) := by decide +kernel
theorem dX5_fillValues_38 : decode cX5_fillValues 38 = .ok (.aload_n 0, 1) := by decide +kernel
theorem dX5_fillValues_39 : decode cX5_fillValues 39 = .ok (.getfield 11, 3) := by decide +kernel
theorem dX5_fillValues_42 : decode cX5_fillValues 42 = .ok (.iload_n 1, 1) := by decide +kernel
theorem dX5_fillValues_43 : decode cX5_fillValues 43 = .ok (.bipush 10, 2) := by decide +kernel
theorem dX5_fillValues_45 : decode cX5_fillValues 45 = .ok (.imul, 1) := by decide +kernel
theorem dX5_fillValues_46 : decode cX5_fillValues 46 = .ok (.iload_n 3, 1) := by decide +kernel
theorem dX5_fillValues_47 : decode cX5_fillValues 47 = .ok (.iadd, 1) := by decide +kernel
theorem dX5_fillValues_48 : decode cX5_fillValues 48 = .ok (.iload_n 2, 1) := by decide +kernel
theorem dX5_fillValues_49 : decode cX5_fillValues 49 = .ok (.aload_n 0, 1) := by decide +kernel
theorem dX5_fillValues_50 : decode cX5_fillValues 50 = .ok (.getfield 58, 3) := by decide +kernel
theorem dX5_fillValues_53 : decode cX5_fillValues 53 = .ok (.if_icmp .lt 7, 3) := by decide +kernel
theorem dX5_fillValues_56 : decode cX5_fillValues 56 = .ok (.lconst 1, 1) := by decide +kernel
theorem dX5_fillValues_57 : decode cX5_fillValues 57 = .ok (.goto 9, 3) := by decide +kernel
theorem dX5_fillValues_60 : decode cX5_fillValues 60 = .ok (.aload_n 0, 1) := by decide +kernel
theorem dX5_fillValues_61 : decode cX5_fillValues 61 = .ok (.iload_n 1, 1) := by decide +kernel
theorem dX5_fillValues_62 : decode cX5_fillValues 62 = .ok (.iload_n 3, 1) := by decide +kernel
theorem dX5_fillValues_63 : decode cX5_fillValues 63 = .ok (.invokevirtual 111, 3) := by decide +kernel
theorem dX5_fillValues_66 : decode cX5_fillValues 66 = .ok (.lastore, 1) := by decide +kernel
theorem dX5_fillValues_67 : decode cX5_fillValues 67 = .ok (.iinc 3 1, 3) := by decide +kernel
theorem dX5_fillValues_70 : decode cX5_fillValues 70 = .ok (.goto (-40), 3) := by decide +kernel
theorem dX5_fillValues_73 : decode cX5_fillValues 73 = .ok (.iinc 1 (-1), 3) := by decide +kernel
theorem dX5_fillValues_76 : decode cX5_fillValues 76 = .ok (.goto (-67), 3) := by decide +kernel
theorem dX5_fillValues_79 : decode cX5_fillValues 79 = .ok (.return_, 1) := by decide +kernel
theorem dX5_mostBehind_0 : decode cX5_mostBehind 0 = .ok (.lconst 0, 1) := by decide +kernel
theorem dX5_mostBehind_1 : decode cX5_mostBehind 1 = .ok (.lstore_n 3, 1) := by decide +kernel
theorem dX5_mostBehind_2 : decode cX5_mostBehind 2 = .ok (.iconst 0, 1) := by decide +kernel
theorem dX5_mostBehind_3 : decode cX5_mostBehind 3 = .ok (.istore 5, 2) := by decide +kernel
theorem dX5_mostBehind_5 : decode cX5_mostBehind 5 = .ok (.iload 5, 2) := by decide +kernel
theorem dX5_mostBehind_7 : decode cX5_mostBehind 7 = .ok (.aload_n 0, 1) := by decide +kernel
theorem dX5_mostBehind_8 : decode cX5_mostBehind 8 = .ok (.getfield 41, 3) := by decide +kernel
theorem dX5_mostBehind_11 : decode cX5_mostBehind 11 = .ok (.if_icmp .ge 31, 3) := by decide +kernel
theorem dX5_mostBehind_14 : decode cX5_mostBehind 14 = .ok (.iload_n 1, 1) := by decide +kernel
theorem dX5_mostBehind_15 : decode cX5_mostBehind 15 = .ok (.iload 5, 2) := by decide +kernel
theorem dX5_mostBehind_17 : decode cX5_mostBehind 17 = .ok (.ishr, 1) := by decide +kernel
theorem dX5_mostBehind_18 : decode cX5_mostBehind 18 = .ok (.iconst 1, 1) := by decide +kernel
theorem dX5_mostBehind_19 : decode cX5_mostBehind 19 = .ok (.iand, 1) := by decide +kernel
theorem dX5_mostBehind_20 : decode cX5_mostBehind 20 = .ok (.ifCond .ne 16, 3) := by decide +kernel
theorem dX5_mostBehind_23 : decode cX5_mostBehind 23 = .ok (.lload_n 3, 1) := by decide +kernel
theorem dX5_mostBehind_24 : decode cX5_mostBehind 24 = .ok (.aload_n 0, 1) := by decide +kernel
theorem dX5_mostBehind_25 : decode cX5_mostBehind 25 = .ok (.iload_n 1, 1) := by decide +kernel
theorem dX5_mostBehind_26 : decode cX5_mostBehind 26 = .ok (.iload_n 2, 1) := by decide +kernel
theorem dX5_mostBehind_27 : decode cX5_mostBehind 27 = .ok (.iload 5, 2) := by decide +kernel
theorem dX5_mostBehind_29 : decode cX5_mostBehind 29 = .ok (.invokevirtual 115, 3) := by decide +kernel
theorem dX5_mostBehind_32 : decode cX5_mostBehind 32 = .ok (.invokestatic 119, 3) := by decide +kernel
theorem dX5_mostBehind_35 : decode cX5_mostBehind 35 = .ok (.lstore_n 3, 1) := by decide +kernel
theorem dX5_mostBehind_36 : decode cX5_mostBehind 36 = .ok (.iinc 5 1, 3) := by decide +kernel
theorem dX5_mostBehind_39 : decode cX5_mostBehind 39 = .ok (.goto (-34), 3) := by decide +kernel
theorem dX5_mostBehind_42 : decode cX5_mostBehind 42 = .ok (.lload_n 3, 1) := by decide +kernel
theorem dX5_mostBehind_43 : decode cX5_mostBehind 43 = .ok (.lreturn, 1) := by decide +kernel
theorem dX5_valueIfNext_0 : decode cX5_valueIfNext 0 = .ok (.iload_n 3, 1) := by decide +kernel
theorem dX5_valueIfNext_1 : decode cX5_valueIfNext 1 = .ok (.bipush 10, 2) := by decide +kernel
theorem dX5_valueIfNext_3 : decode cX5_valueIfNext 3 = .ok (.imul, 1) := by decide +kernel
theorem dX5_valueIfNext_4 : decode cX5_valueIfNext 4 = .ok (.iload_n 2, 1) := by decide +kernel
theorem dX5_valueIfNext_5 : decode cX5_valueIfNext 5 = .ok (.iadd, 1) := by decide +kernel
theorem dX5_valueIfNext_6 : decode cX5_valueIfNext 6 = .ok (.istore 4, 2) := by decide +kernel
theorem dX5_valueIfNext_8 : decode cX5_valueIfNext 8 = .ok (.aload_n 0, 1) := by decide +kernel
theorem dX5_valueIfNext_9 : decode cX5_valueIfNext 9 = .ok (.getfield 15, 3) := by decide +kernel
theorem dX5_valueIfNext_12 : decode cX5_valueIfNext 12 = .ok (.iload 4, 2) := by decide +kernel
theorem dX5_valueIfNext_14 : decode cX5_valueIfNext 14 = .ok (.iaload, 1) := by decide +kernel
theorem dX5_valueIfNext_15 : decode cX5_valueIfNext 15 = .ok (.i2l, 1) := by decide +kernel
theorem dX5_valueIfNext_16 : decode cX5_valueIfNext 16 = .ok (.aload_n 0, 1) := by decide +kernel
theorem dX5_valueIfNext_17 : decode cX5_valueIfNext 17 = .ok (.getfield 11, 3) := by decide +kernel
theorem dX5_valueIfNext_20 : decode cX5_valueIfNext 20 = .ok (.iload_n 1, 1) := by decide +kernel
theorem dX5_valueIfNext_21 : decode cX5_valueIfNext 21 = .ok (.iconst 1, 1) := by decide +kernel
theorem dX5_valueIfNext_22 : decode cX5_valueIfNext 22 = .ok (.iload_n 3, 1) := by decide +kernel
theorem dX5_valueIfNext_23 : decode cX5_valueIfNext 23 = .ok (.ishl, 1) := by decide +kernel
theorem dX5_valueIfNext_24 : decode cX5_valueIfNext 24 = .ok (.ior, 1) := by decide +kernel
theorem dX5_valueIfNext_25 : decode cX5_valueIfNext 25 = .ok (.bipush 10, 2) := by decide +kernel
theorem dX5_valueIfNext_27 : decode cX5_valueIfNext 27 = .ok (.imul, 1) := by decide +kernel
theorem dX5_valueIfNext_28 : decode cX5_valueIfNext 28 = .ok (.aload_n 0, 1) := by decide +kernel
theorem dX5_valueIfNext_29 : decode cX5_valueIfNext 29 = .ok (.getfield 19, 3) := by decide +kernel
theorem dX5_valueIfNext_32 : decode cX5_valueIfNext 32 = .ok (.iload 4, 2) := by decide +kernel
theorem dX5_valueIfNext_34 : decode cX5_valueIfNext 34 = .ok (.iaload, 1) := by decide +kernel
theorem dX5_valueIfNext_35 : decode cX5_valueIfNext 35 = .ok (.iadd, 1) := by decide +kernel
theorem dX5_valueIfNext_36 : decode cX5_valueIfNext 36 = .ok (.laload, 1) := by decide +kernel
theorem dX5_valueIfNext_37 : decode cX5_valueIfNext 37 = .ok (.lmul, 1) := by decide +kernel
theorem dX5_valueIfNext_38 : decode cX5_valueIfNext 38 = .ok (.lreturn, 1) := by decide +kernel
theorem dX5_layRow_0 : decode cX5_layRow 0 = .ok (.iconst 0, 1) := by decide +kernel
theorem dX5_layRow_1 : decode cX5_layRow 1 = .ok (.istore_n 1, 1) := by decide +kernel
theorem dX5_layRow_2 : decode cX5_layRow 2 = .ok (.aload_n 0, 1) := by decide +kernel
theorem dX5_layRow_3 : decode cX5_layRow 3 = .ok (.getfield 52, 3) := by decide +kernel
theorem dX5_layRow_6 : decode cX5_layRow 6 = .ok (.istore_n 2, 1) := by decide +kernel
theorem dX5_layRow_7 : decode cX5_layRow 7 = .ok (.iconst 0, 1) := by decide +kernel
theorem dX5_layRow_8 : decode cX5_layRow 8 = .ok (.istore_n 3, 1) := by decide +kernel
theorem dX5_layRow_9 : decode cX5_layRow 9 = .ok (.iload_n 3, 1) := by decide +kernel
theorem dX5_layRow_10 : decode cX5_layRow 10 = .ok (.aload_n 0, 1) := by decide +kernel
theorem dX5_layRow_11 : decode cX5_layRow 11 = .ok (.getfield 41, 3) := by decide +kernel
theorem dX5_layRow_14 : decode cX5_layRow 14 = .ok (.if_icmp .ge 73, 3) := by decide +kernel
theorem dX5_layRow_17 : decode cX5_layRow 17 = .ok (.aload_n 0, 1) := by decide +kernel
theorem dX5_layRow_18 : decode cX5_layRow 18 = .ok (.iload_n 1, 1) := by decide +kernel
theorem dX5_layRow_19 : decode cX5_layRow 19 = .ok (.invokevirtual 108, 3) := by decide +kernel
theorem dX5_layRow_22 : decode cX5_layRow 22 = .ok (.aload_n 0, 1) := by decide +kernel
theorem dX5_layRow_23 : decode cX5_layRow 23 = .ok (.getfield 58, 3) := by decide +kernel
theorem dX5_layRow_26 : decode cX5_layRow 26 = .ok (.if_icmp .ge 61, 3) := by decide +kernel
theorem dX5_layRow_29 : decode cX5_layRow 29 = .ok (.aload_n 0, 1) := by decide +kernel
theorem dX5_layRow_30 : decode cX5_layRow 30 = .ok (.iload_n 1, 1) := by decide +kernel
theorem dX5_layRow_31 : decode cX5_layRow 31 = .ok (.iload_n 2, 1) := by decide +kernel
theorem dX5_layRow_32 : decode cX5_layRow 32 = .ok (.invokevirtual 122, 3) := by decide +kernel
theorem dX5_layRow_35 : decode cX5_layRow 35 = .ok (.istore 4, 2) := by decide +kernel
theorem dX5_layRow_37 : decode cX5_layRow 37 = .ok (.iload 4, 2) := by decide +kernel
theorem dX5_layRow_39 : decode cX5_layRow 39 = .ok (.iconst (-1), 1) := by decide +kernel
theorem dX5_layRow_40 : decode cX5_layRow 40 = .ok (.if_icmp .ne 6, 3) := by decide +kernel
theorem dX5_layRow_43 : decode cX5_layRow 43 = .ok (.goto 44, 3) := by decide +kernel
theorem dX5_layRow_46 : decode cX5_layRow 46 = .ok (.aload_n 0, 1) := by decide +kernel
theorem dX5_layRow_47 : decode cX5_layRow 47 = .ok (.getfield 22, 3) := by decide +kernel
theorem dX5_layRow_50 : decode cX5_layRow 50 = .ok (.iload_n 3, 1) := by decide +kernel
theorem dX5_layRow_51 : decode cX5_layRow 51 = .ok (.iload 4, 2) := by decide +kernel
theorem dX5_layRow_53 : decode cX5_layRow 53 = .ok (.iastore, 1) := by decide +kernel
theorem dX5_layRow_54 : decode cX5_layRow 54 = .ok (.aload_n 0, 1) := by decide +kernel
theorem dX5_layRow_55 : decode cX5_layRow 55 = .ok (.iload_n 3, 1) := by decide +kernel
theorem dX5_layRow_56 : decode cX5_layRow 56 = .ok (.iconst 1, 1) := by decide +kernel
theorem dX5_layRow_57 : decode cX5_layRow 57 = .ok (.iadd, 1) := by decide +kernel
theorem dX5_layRow_58 : decode cX5_layRow 58 = .ok (.putfield 84, 3) := by decide +kernel
theorem dX5_layRow_61 : decode cX5_layRow 61 = .ok (.iload_n 1, 1) := by decide +kernel
theorem dX5_layRow_62 : decode cX5_layRow 62 = .ok (.iconst 1, 1) := by decide +kernel
theorem dX5_layRow_63 : decode cX5_layRow 63 = .ok (.iload 4, 2) := by decide +kernel
theorem dX5_layRow_65 : decode cX5_layRow 65 = .ok (.ishl, 1) := by decide +kernel
theorem dX5_layRow_66 : decode cX5_layRow 66 = .ok (.ior, 1) := by decide +kernel
theorem dX5_layRow_67 : decode cX5_layRow 67 = .ok (.istore_n 1, 1) := by decide +kernel
theorem dX5_layRow_68 : decode cX5_layRow 68 = .ok (.aload_n 0, 1) := by decide +kernel
theorem dX5_layRow_69 : decode cX5_layRow 69 = .ok (.getfield 19, 3) := by decide +kernel
theorem dX5_layRow_72 : decode cX5_layRow 72 = .ok (.iload 4, 2) := by decide +kernel
theorem dX5_layRow_74 : decode cX5_layRow 74 = .ok (.bipush 10, 2) := by decide +kernel
theorem dX5_layRow_76 : decode cX5_layRow 76 = .ok (.imul, 1) := by decide +kernel
theorem dX5_layRow_77 : decode cX5_layRow 77 = .ok (.iload_n 2, 1) := by decide +kernel
theorem dX5_layRow_78 : decode cX5_layRow 78 = .ok (.iadd, 1) := by decide +kernel
theorem dX5_layRow_79 : decode cX5_layRow 79 = .ok (.iaload, 1) := by decide +kernel
theorem dX5_layRow_80 : decode cX5_layRow 80 = .ok (.istore_n 2, 1) := by decide +kernel
theorem dX5_layRow_81 : decode cX5_layRow 81 = .ok (.iinc 3 1, 3) := by decide +kernel
theorem dX5_layRow_84 : decode cX5_layRow 84 = .ok (.goto (-75), 3) := by decide +kernel
theorem dX5_layRow_87 : decode cX5_layRow 87 = .ok (.return_, 1) := by decide +kernel
theorem dX5_leastNext_0 : decode cX5_leastNext 0 = .ok (.aload_n 0, 1) := by decide +kernel
theorem dX5_leastNext_1 : decode cX5_leastNext 1 = .ok (.getfield 11, 3) := by decide +kernel
theorem dX5_leastNext_4 : decode cX5_leastNext 4 = .ok (.iload_n 1, 1) := by decide +kernel
theorem dX5_leastNext_5 : decode cX5_leastNext 5 = .ok (.bipush 10, 2) := by decide +kernel
theorem dX5_leastNext_7 : decode cX5_leastNext 7 = .ok (.imul, 1) := by decide +kernel
theorem dX5_leastNext_8 : decode cX5_leastNext 8 = .ok (.iload_n 2, 1) := by decide +kernel
theorem dX5_leastNext_9 : decode cX5_leastNext 9 = .ok (.iadd, 1) := by decide +kernel
theorem dX5_leastNext_10 : decode cX5_leastNext 10 = .ok (.laload, 1) := by decide +kernel
theorem dX5_leastNext_11 : decode cX5_leastNext 11 = .ok (.lstore_n 3, 1) := by decide +kernel
theorem dX5_leastNext_12 : decode cX5_leastNext 12 = .ok (.iconst 0, 1) := by decide +kernel
theorem dX5_leastNext_13 : decode cX5_leastNext 13 = .ok (.istore 5, 2) := by decide +kernel
theorem dX5_leastNext_15 : decode cX5_leastNext 15 = .ok (.iload 5, 2) := by decide +kernel
theorem dX5_leastNext_17 : decode cX5_leastNext 17 = .ok (.aload_n 0, 1) := by decide +kernel
theorem dX5_leastNext_18 : decode cX5_leastNext 18 = .ok (.getfield 41, 3) := by decide +kernel
theorem dX5_leastNext_21 : decode cX5_leastNext 21 = .ok (.if_icmp .ge 34, 3) := by decide +kernel
theorem dX5_leastNext_24 : decode cX5_leastNext 24 = .ok (.iload_n 1, 1) := by decide +kernel
theorem dX5_leastNext_25 : decode cX5_leastNext 25 = .ok (.iload 5, 2) := by decide +kernel
theorem dX5_leastNext_27 : decode cX5_leastNext 27 = .ok (.ishr, 1) := by decide +kernel
theorem dX5_leastNext_28 : decode cX5_leastNext 28 = .ok (.iconst 1, 1) := by decide +kernel
theorem dX5_leastNext_29 : decode cX5_leastNext 29 = .ok (.iand, 1) := by decide +kernel
theorem dX5_leastNext_30 : decode cX5_leastNext 30 = .ok (.ifCond .ne 19, 3) := by decide +kernel
theorem dX5_leastNext_33 : decode cX5_leastNext 33 = .ok (.aload_n 0, 1) := by decide +kernel
theorem dX5_leastNext_34 : decode cX5_leastNext 34 = .ok (.iload_n 1, 1) := by decide +kernel
theorem dX5_leastNext_35 : decode cX5_leastNext 35 = .ok (.iload_n 2, 1) := by decide +kernel
theorem dX5_leastNext_36 : decode cX5_leastNext 36 = .ok (.iload 5, 2) := by decide +kernel
theorem dX5_leastNext_38 : decode cX5_leastNext 38 = .ok (.invokevirtual 115, 3) := by decide +kernel
theorem dX5_leastNext_41 : decode cX5_leastNext 41 = .ok (.lload_n 3, 1) := by decide +kernel
theorem dX5_leastNext_42 : decode cX5_leastNext 42 = .ok (.lcmp, 1) := by decide +kernel
theorem dX5_leastNext_43 : decode cX5_leastNext 43 = .ok (.ifCond .ne 6, 3) := by decide +kernel
theorem dX5_leastNext_46 : decode cX5_leastNext 46 = .ok (.iload 5, 2) := by decide +kernel
theorem dX5_leastNext_48 : decode cX5_leastNext 48 = .ok (.ireturn, 1) := by decide +kernel
theorem dX5_leastNext_49 : decode cX5_leastNext 49 = .ok (.iinc 5 1, 3) := by decide +kernel
theorem dX5_leastNext_52 : decode cX5_leastNext 52 = .ok (.goto (-37), 3) := by decide +kernel
theorem dX5_leastNext_55 : decode cX5_leastNext 55 = .ok (.iconst (-1), 1) := by decide +kernel
theorem dX5_leastNext_56 : decode cX5_leastNext 56 = .ok (.ireturn, 1) := by decide +kernel
theorem dX6_init_0 : decode cX6_init 0 = .ok (.aload_n 0, 1) := by decide +kernel
theorem dX6_init_1 : decode cX6_init 1 = .ok (.invokespecial 3, 3) := by decide +kernel
theorem dX6_init_4 : decode cX6_init 4 = .ok (.aload_n 0, 1) := by decide +kernel
theorem dX6_init_5 : decode cX6_init 5 = .ok (.bipush 60, 2) := by decide +kernel
theorem dX6_init_7 : decode cX6_init 7 = .ok (.newarray .int, 2) := by decide +kernel
theorem dX6_init_9 : decode cX6_init 9 = .ok (.putfield 9, 3) := by decide +kernel
theorem dX6_init_12 : decode cX6_init 12 = .ok (.aload_n 0, 1) := by decide +kernel
theorem dX6_init_13 : decode cX6_init 13 = .ok (.iconst 1, 1) := by decide +kernel
theorem dX6_init_14 : decode cX6_init 14 = .ok (.putfield 15, 3) := by decide +kernel
theorem dX6_init_17 : decode cX6_init 17 = .ok (.return_, 1) := by decide +kernel
theorem dX6_renew_0 : decode cX6_renew 0 = .ok (.aload_n 0, 1) := by decide +kernel
theorem dX6_renew_1 : decode cX6_renew 1 = .ok (.iconst 0, 1) := by decide +kernel
theorem dX6_renew_2 : decode cX6_renew 2 = .ok (.putfield 15, 3) := by decide +kernel
theorem dX6_renew_5 : decode cX6_renew 5 = .ok (.aload_n 0, 1) := by decide +kernel
theorem dX6_renew_6 : decode cX6_renew 6 = .ok (.iload_n 1, 1) := by decide +kernel
theorem dX6_renew_7 : decode cX6_renew 7 = .ok (.putfield 19, 3) := by decide +kernel
theorem dX6_renew_10 : decode cX6_renew 10 = .ok (.aload_n 0, 1) := by decide +kernel
theorem dX6_renew_11 : decode cX6_renew 11 = .ok (.iconst 0, 1) := by decide +kernel
theorem dX6_renew_12 : decode cX6_renew 12 = .ok (.bipush 60, 2) := by decide +kernel
theorem dX6_renew_14 : decode cX6_renew 14 = .ok (.iload_n 2, 1) := by decide +kernel
theorem dX6_renew_15 : decode cX6_renew 15 = .ok (.invokestatic 23, 3) := by decide +kernel
theorem dX6_renew_18 : decode cX6_renew 18 = .ok (.invokestatic 29, 3) := by decide +kernel
theorem dX6_renew_21 : decode cX6_renew 21 = .ok (.putfield 32, 3) := by decide +kernel
theorem dX6_renew_24 : decode cX6_renew 24 = .ok (.iconst 0, 1) := by decide +kernel
theorem dX6_renew_25 : decode cX6_renew 25 = .ok (.istore_n 3, 1) := by decide +kernel
theorem dX6_renew_26 : decode cX6_renew 26 = .ok (.iload_n 3, 1) := by decide +kernel
theorem dX6_renew_27 : decode cX6_renew 27 = .ok (.bipush 60, 2) := by decide +kernel
theorem dX6_renew_29 : decode cX6_renew 29 = .ok (.if_icmp .ge 16, 3) := by decide +kernel
theorem dX6_renew_32 : decode cX6_renew 32 = .ok (.aload_n 0, 1) := by decide +kernel
theorem dX6_renew_33 : decode cX6_renew 33 = .ok (.getfield 9, 3) := by decide +kernel
