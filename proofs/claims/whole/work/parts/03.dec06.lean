theorem dX12_type_27 : decode cX12_type 27 = .ok (.iaload, 1) := by decide +kernel
theorem dX12_type_28 : decode cX12_type 28 = .ok (.iload_n 1, 1) := by decide +kernel
theorem dX12_type_29 : decode cX12_type 29 = .ok (.ifCond .ne 8, 3) := by decide +kernel
theorem dX12_type_32 : decode cX12_type 32 = .ok (.bipush 47, 2) := by decide +kernel
theorem dX12_type_34 : decode cX12_type 34 = .ok (.goto 5, 3) := by decide +kernel
theorem dX12_type_37 : decode cX12_type 37 = .ok (.bipush 12, 2) := by decide +kernel
theorem dX12_type_39 : decode cX12_type 39 = .ok (.if_icmp .ne 6, 3) := by decide +kernel
theorem dX12_type_42 : decode cX12_type 42 = .ok (.bipush (-4), 2) := by decide +kernel
theorem dX12_type_44 : decode cX12_type 44 = .ok (.ireturn, 1) := by decide +kernel
theorem dX12_type_45 : decode cX12_type 45 = .ok (.aload_n 0, 1) := by decide +kernel
theorem dX12_type_46 : decode cX12_type 46 = .ok (.getfield 22, 3) := by decide +kernel
theorem dX12_type_49 : decode cX12_type 49 = .ok (.bipush 48, 2) := by decide +kernel
theorem dX12_type_51 : decode cX12_type 51 = .ok (.iload_n 1, 1) := by decide +kernel
theorem dX12_type_52 : decode cX12_type 52 = .ok (.imul, 1) := by decide +kernel
theorem dX12_type_53 : decode cX12_type 53 = .ok (.aload_n 0, 1) := by decide +kernel
theorem dX12_type_54 : decode cX12_type 54 = .ok (.getfield 25, 3) := by decide +kernel
theorem dX12_type_57 : decode cX12_type 57 = .ok (.iload_n 1, 1) := by decide +kernel
theorem dX12_type_58 : decode cX12_type 58 = .ok (.iaload, 1) := by decide +kernel
theorem dX12_type_59 : decode cX12_type 59 = .ok (.iadd, 1) := by decide +kernel
theorem dX12_type_60 : decode cX12_type 60 = .ok (.iload_n 2, 1) := by decide +kernel
theorem dX12_type_61 : decode cX12_type 61 = .ok (.iastore, 1) := by decide +kernel
theorem dX12_type_62 : decode cX12_type 62 = .ok (.aload_n 0, 1) := by decide +kernel
theorem dX12_type_63 : decode cX12_type 63 = .ok (.getfield 25, 3) := by decide +kernel
theorem dX12_type_66 : decode cX12_type 66 = .ok (.iload_n 1, 1) := by decide +kernel
theorem dX12_type_67 : decode cX12_type 67 = .ok (.dup2, 1) := by decide +kernel
theorem dX12_type_68 : decode cX12_type 68 = .ok (.iaload, 1) := by decide +kernel
theorem dX12_type_69 : decode cX12_type 69 = .ok (.iconst 1, 1) := by decide +kernel
theorem dX12_type_70 : decode cX12_type 70 = .ok (.iadd, 1) := by decide +kernel
theorem dX12_type_71 : decode cX12_type 71 = .ok (.iastore, 1) := by decide +kernel
theorem dX12_type_72 : decode cX12_type 72 = .ok (.aload_n 0, 1) := by decide +kernel
theorem dX12_type_73 : decode cX12_type 73 = .ok (.getfield 25, 3) := by decide +kernel
theorem dX12_type_76 : decode cX12_type 76 = .ok (.iload_n 1, 1) := by decide +kernel
theorem dX12_type_77 : decode cX12_type 77 = .ok (.iaload, 1) := by decide +kernel
theorem dX12_type_78 : decode cX12_type 78 = .ok (.ireturn, 1) := by decide +kernel
theorem dX12_wipe_0 : decode cX12_wipe 0 = .ok (.iload_n 1, 1) := by decide +kernel
theorem dX12_wipe_1 : decode cX12_wipe 1 = .ok (.invokestatic 102, 3) := by decide +kernel
theorem dX12_wipe_4 : decode cX12_wipe 4 = .ok (.ifCond .ne 6, 3) := by decide +kernel
theorem dX12_wipe_7 : decode cX12_wipe 7 = .ok (.bipush (-2), 2) := by decide +kernel
theorem dX12_wipe_9 : decode cX12_wipe 9 = .ok (.ireturn, 1) := by decide +kernel
theorem dX12_wipe_10 : decode cX12_wipe 10 = .ok (.aload_n 0, 1) := by decide +kernel
theorem dX12_wipe_11 : decode cX12_wipe 11 = .ok (.getfield 25, 3) := by decide +kernel
theorem dX12_wipe_14 : decode cX12_wipe 14 = .ok (.iload_n 1, 1) := by decide +kernel
theorem dX12_wipe_15 : decode cX12_wipe 15 = .ok (.iaload, 1) := by decide +kernel
theorem dX12_wipe_16 : decode cX12_wipe 16 = .ok (.istore_n 2, 1) := by decide +kernel
theorem dX12_wipe_17 : decode cX12_wipe 17 = .ok (.aload_n 0, 1) := by decide +kernel
theorem dX12_wipe_18 : decode cX12_wipe 18 = .ok (.getfield 25, 3) := by decide +kernel
theorem dX12_wipe_21 : decode cX12_wipe 21 = .ok (.iload_n 1, 1) := by decide +kernel
theorem dX12_wipe_22 : decode cX12_wipe 22 = .ok (.iconst 0, 1) := by decide +kernel
theorem dX12_wipe_23 : decode cX12_wipe 23 = .ok (.iastore, 1) := by decide +kernel
theorem dX12_wipe_24 : decode cX12_wipe 24 = .ok (.iload_n 2, 1) := by decide +kernel
theorem dX12_wipe_25 : decode cX12_wipe 25 = .ok (.ireturn, 1) := by decide +kernel
theorem dX12_undo_0 : decode cX12_undo 0 = .ok (.iload_n 1, 1) := by decide +kernel
theorem dX12_undo_1 : decode cX12_undo 1 = .ok (.invokestatic 102, 3) := by decide +kernel
theorem dX12_undo_4 : decode cX12_undo 4 = .ok (.ifCond .ne 6, 3) := by decide +kernel
theorem dX12_undo_7 : decode cX12_undo 7 = .ok (.bipush (-2), 2) := by decide +kernel
theorem dX12_undo_9 : decode cX12_undo 9 = .ok (.ireturn, 1) := by decide +kernel
theorem dX12_undo_10 : decode cX12_undo 10 = .ok (.aload_n 0, 1) := by decide +kernel
theorem dX12_undo_11 : decode cX12_undo 11 = .ok (.getfield 25, 3) := by decide +kernel
theorem dX12_undo_14 : decode cX12_undo 14 = .ok (.iload_n 1, 1) := by decide +kernel
theorem dX12_undo_15 : decode cX12_undo 15 = .ok (.iaload, 1) := by decide +kernel
theorem dX12_undo_16 : decode cX12_undo 16 = .ok (.ifCond .ne 6, 3) := by decide +kernel
theorem dX12_undo_19 : decode cX12_undo 19 = .ok (.bipush (-3), 2) := by decide +kernel
theorem dX12_undo_21 : decode cX12_undo 21 = .ok (.ireturn, 1) := by decide +kernel
theorem dX12_undo_22 : decode cX12_undo 22 = .ok (.aload_n 0, 1) := by decide +kernel
theorem dX12_undo_23 : decode cX12_undo 23 = .ok (.getfield 25, 3) := by decide +kernel
theorem dX12_undo_26 : decode cX12_undo 26 = .ok (.iload_n 1, 1) := by decide +kernel
theorem dX12_undo_27 : decode cX12_undo 27 = .ok (.dup2, 1) := by decide +kernel
theorem dX12_undo_28 : decode cX12_undo 28 = .ok (.iaload, 1) := by decide +kernel
theorem dX12_undo_29 : decode cX12_undo 29 = .ok (.iconst 1, 1) := by decide +kernel
theorem dX12_undo_30 : decode cX12_undo 30 = .ok (.isub, 1) := by decide +kernel
theorem dX12_undo_31 : decode cX12_undo 31 = .ok (.iastore, 1) := by decide +kernel
theorem dX12_undo_32 : decode cX12_undo 32 = .ok (.aload_n 0, 1) := by decide +kernel
theorem dX12_undo_33 : decode cX12_undo 33 = .ok (.getfield 25, 3) := by decide +kernel
theorem dX12_undo_36 : decode cX12_undo 36 = .ok (.iload_n 1, 1) := by decide +kernel
theorem dX12_undo_37 : decode cX12_undo 37 = .ok (.iaload, 1) := by decide +kernel
theorem dX12_undo_38 : decode cX12_undo 38 = .ok (.ireturn, 1) := by decide +kernel
theorem dX12_figureOf_0 : decode cX12_figureOf 0 = .ok (.iload_n 0, 1) := by decide +kernel
theorem dX12_figureOf_1 : decode cX12_figureOf 1 = .ok (.i2l, 1) := by decide +kernel
theorem dX12_figureOf_2 : decode cX12_figureOf 2 = .ok (.ldc2_w 107, 3) := by decide +kernel
theorem dX12_figureOf_5 : decode cX12_figureOf 5 = .ok (.bipush 48, 2) := by decide +kernel
theorem dX12_figureOf_7 : decode cX12_figureOf 7 = .ok (.iload_n 1, 1) := by decide +kernel
theorem dX12_figureOf_8 : decode cX12_figureOf 8 = .ok (.iadd, 1) := by decide +kernel
theorem dX12_figureOf_9 : decode cX12_figureOf 9 = .ok (.i2l, 1) := by decide +kernel
theorem dX12_figureOf_10 : decode cX12_figureOf 10 = .ok (.invokestatic 73, 3) := by decide +kernel
theorem dX12_figureOf_13 : decode cX12_figureOf 13 = .ok (.ifCond .eq 10, 3) := by decide +kernel
theorem dX12_figureOf_16 : decode cX12_figureOf 16 = .ok (.iload_n 0, 1) := by decide +kernel
theorem dX12_figureOf_17 : decode cX12_figureOf 17 = .ok (.bipush 48, 2) := by decide +kernel
theorem dX12_figureOf_19 : decode cX12_figureOf 19 = .ok (.isub, 1) := by decide +kernel
theorem dX12_figureOf_20 : decode cX12_figureOf 20 = .ok (.goto 5, 3) := by decide +kernel
theorem dX12_figureOf_23 : decode cX12_figureOf 23 = .ok (.bipush (-9), 2) := by decide +kernel
theorem dX12_figureOf_25 : decode cX12_figureOf 25 = .ok (.ireturn, 1) := by decide +kernel
theorem dX12_felonOf_0 : decode cX12_felonOf 0 = .ok (.iload_n 0, 1) := by decide +kernel
theorem dX12_felonOf_1 : decode cX12_felonOf 1 = .ok (.tableswitch 135 0 5 #[39, 135, 135, 82, 105, 122], 39) := by decide +kernel
theorem dX12_felonOf_40 : decode cX12_felonOf 40 = .ok (.iload_n 1, 1) := by decide +kernel
theorem dX12_felonOf_41 : decode cX12_felonOf 41 = .ok (.bipush 102, 2) := by decide +kernel
theorem dX12_felonOf_43 : decode cX12_felonOf 43 = .ok (.if_icmp .ne 7, 3) := by decide +kernel
theorem dX12_felonOf_46 : decode cX12_felonOf 46 = .ok (.iconst 0, 1) := by decide +kernel
theorem dX12_felonOf_47 : decode cX12_felonOf 47 = .ok (.goto 35, 3) := by decide +kernel
theorem dX12_felonOf_50 : decode cX12_felonOf 50 = .ok (.iload_n 1, 1) := by decide +kernel
theorem dX12_felonOf_51 : decode cX12_felonOf 51 = .ok (.bipush 99, 2) := by decide +kernel
theorem dX12_felonOf_53 : decode cX12_felonOf 53 = .ok (.if_icmp .ne 7, 3) := by decide +kernel
theorem dX12_felonOf_56 : decode cX12_felonOf 56 = .ok (.iconst 1, 1) := by decide +kernel
theorem dX12_felonOf_57 : decode cX12_felonOf 57 = .ok (.goto 25, 3) := by decide +kernel
theorem dX12_felonOf_60 : decode cX12_felonOf 60 = .ok (.iload_n 1, 1) := by decide +kernel
theorem dX12_felonOf_61 : decode cX12_felonOf 61 = .ok (.bipush 114, 2) := by decide +kernel
theorem dX12_felonOf_63 : decode cX12_felonOf 63 = .ok (.if_icmp .ne 7, 3) := by decide +kernel
theorem dX12_felonOf_66 : decode cX12_felonOf 66 = .ok (.iconst 2, 1) := by decide +kernel
theorem dX12_felonOf_67 : decode cX12_felonOf 67 = .ok (.goto 15, 3) := by decide +kernel
theorem dX12_felonOf_70 : decode cX12_felonOf 70 = .ok (.iload_n 1, 1) := by decide +kernel
theorem dX12_felonOf_71 : decode cX12_felonOf 71 = .ok (.bipush 100, 2) := by decide +kernel
theorem dX12_felonOf_73 : decode cX12_felonOf 73 = .ok (.if_icmp .ne 7, 3) := by decide +kernel
theorem dX12_felonOf_76 : decode cX12_felonOf 76 = .ok (.iconst 3, 1) := by decide +kernel
theorem dX12_felonOf_77 : decode cX12_felonOf 77 = .ok (.goto 5, 3) := by decide +kernel
theorem dX12_felonOf_80 : decode cX12_felonOf 80 = .ok (.bipush (-9), 2) := by decide +kernel
theorem dX12_felonOf_82 : decode cX12_felonOf 82 = .ok (.ireturn, 1) := by decide +kernel
theorem dX12_felonOf_83 : decode cX12_felonOf 83 = .ok (.iload_n 1, 1) := by decide +kernel
theorem dX12_felonOf_84 : decode cX12_felonOf 84 = .ok (.bipush 103, 2) := by decide +kernel
theorem dX12_felonOf_86 : decode cX12_felonOf 86 = .ok (.if_icmp .ne 7, 3) := by decide +kernel
theorem dX12_felonOf_89 : decode cX12_felonOf 89 = .ok (.iconst 1, 1) := by decide +kernel
theorem dX12_felonOf_90 : decode cX12_felonOf 90 = .ok (.goto 15, 3) := by decide +kernel
theorem dX12_felonOf_93 : decode cX12_felonOf 93 = .ok (.iload_n 1, 1) := by decide +kernel
theorem dX12_felonOf_94 : decode cX12_felonOf 94 = .ok (.bipush 105, 2) := by decide +kernel
theorem dX12_felonOf_96 : decode cX12_felonOf 96 = .ok (.if_icmp .ne 7, 3) := by decide +kernel
theorem dX12_felonOf_99 : decode cX12_felonOf 99 = .ok (.iconst 0, 1) := by decide +kernel
theorem dX12_felonOf_100 : decode cX12_felonOf 100 = .ok (.goto 5, 3) := by decide +kernel
theorem dX12_felonOf_103 : decode cX12_felonOf 103 = .ok (.bipush (-9), 2) := by decide +kernel
theorem dX12_felonOf_105 : decode cX12_felonOf 105 = .ok (.ireturn, 1) := by decide +kernel
theorem dX12_felonOf_106 : decode cX12_felonOf 106 = .ok (.iload_n 1, 1) := by decide +kernel
theorem dX12_felonOf_107 : decode cX12_felonOf 107 = .ok (.bipush 46, 2) := by decide +kernel
theorem dX12_felonOf_109 : decode cX12_felonOf 109 = .ok (.if_icmp .ne 7, 3) := by decide +kernel
theorem dX12_felonOf_112 : decode cX12_felonOf 112 = .ok (.iconst (-1), 1) := by decide +kernel
theorem dX12_felonOf_113 : decode cX12_felonOf 113 = .ok (.goto 9, 3) := by decide +kernel
theorem dX12_felonOf_116 : decode cX12_felonOf 116 = .ok (.iload_n 1, 1) := by decide +kernel
theorem dX12_felonOf_117 : decode cX12_felonOf 117 = .ok (.bipush 7, 2) := by decide +kernel
theorem dX12_felonOf_119 : decode cX12_felonOf 119 = .ok (.invokestatic 109, 3) := by decide +kernel
theorem dX12_felonOf_122 : decode cX12_felonOf 122 = .ok (.ireturn, 1) := by decide +kernel
theorem dX12_felonOf_123 : decode cX12_felonOf 123 = .ok (.iload_n 1, 1) := by decide +kernel
theorem dX12_felonOf_124 : decode cX12_felonOf 124 = .ok (.bipush 59, 2) := by decide +kernel
theorem dX12_felonOf_126 : decode cX12_felonOf 126 = .ok (.if_icmp .ne 7, 3) := by decide +kernel
theorem dX12_felonOf_129 : decode cX12_felonOf 129 = .ok (.iconst 0, 1) := by decide +kernel
theorem dX12_felonOf_130 : decode cX12_felonOf 130 = .ok (.goto 5, 3) := by decide +kernel
theorem dX12_felonOf_133 : decode cX12_felonOf 133 = .ok (.bipush (-9), 2) := by decide +kernel
theorem dX12_felonOf_135 : decode cX12_felonOf 135 = .ok (.ireturn, 1) := by decide +kernel
theorem dX12_felonOf_136 : decode cX12_felonOf 136 = .ok (.iload_n 1, 1) := by decide +kernel
theorem dX12_felonOf_137 : decode cX12_felonOf 137 = .ok (.bipush 9, 2) := by decide +kernel
theorem dX12_felonOf_139 : decode cX12_felonOf 139 = .ok (.invokestatic 109, 3) := by decide +kernel
theorem dX12_felonOf_142 : decode cX12_felonOf 142 = .ok (.ireturn, 1) := by decide +kernel
theorem dX12_readsFelons_0 : decode cX12_readsFelons 0 = .ok (.aload_n 0, 1) := by decide +kernel
theorem dX12_readsFelons_1 : decode cX12_readsFelons 1 = .ok (.iconst 0, 1) := by decide +kernel
theorem dX12_readsFelons_2 : decode cX12_readsFelons 2 = .ok (.putfield 112, 3) := by decide +kernel
theorem dX12_readsFelons_5 : decode cX12_readsFelons 5 = .ok (.aload_n 0, 1) := by decide +kernel
theorem dX12_readsFelons_6 : decode cX12_readsFelons 6 = .ok (.getfield 25, 3) := by decide +kernel
theorem dX12_readsFelons_9 : decode cX12_readsFelons 9 = .ok (.iconst 0, 1) := by decide +kernel
theorem dX12_readsFelons_10 : decode cX12_readsFelons 10 = .ok (.iaload, 1) := by decide +kernel
theorem dX12_readsFelons_11 : decode cX12_readsFelons 11 = .ok (.istore_n 1, 1) := by decide +kernel
theorem dX12_readsFelons_12 : decode cX12_readsFelons 12 = .ok (.iconst 0, 1) := by decide +kernel
theorem dX12_readsFelons_13 : decode cX12_readsFelons 13 = .ok (.istore_n 2, 1) := by decide +kernel
theorem dX12_readsFelons_14 : decode cX12_readsFelons 14 = .ok (.iload_n 2, 1) := by decide +kernel
theorem dX12_readsFelons_15 : decode cX12_readsFelons 15 = .ok (.iload_n 1, 1) := by decide +kernel
theorem dX12_readsFelons_16 : decode cX12_readsFelons 16 = .ok (.if_icmp .ge 79, 3) := by decide +kernel
theorem dX12_readsFelons_19 : decode cX12_readsFelons 19 = .ok (.iload_n 2, 1) := by decide +kernel
theorem dX12_readsFelons_20 : decode cX12_readsFelons 20 = .ok (.bipush 6, 2) := by decide +kernel
theorem dX12_readsFelons_22 : decode cX12_readsFelons 22 = .ok (.irem, 1) := by decide +kernel
theorem dX12_readsFelons_23 : decode cX12_readsFelons 23 = .ok (.istore_n 3, 1) := by decide +kernel
theorem dX12_readsFelons_24 : decode cX12_readsFelons 24 = .ok (.iload_n 3, 1) := by decide +kernel
theorem dX12_readsFelons_25 : decode cX12_readsFelons 25 = .ok (.aload_n 0, 1) := by decide +kernel
theorem dX12_readsFelons_26 : decode cX12_readsFelons 26 = .ok (.getfield 22, 3) := by decide +kernel
theorem dX12_readsFelons_29 : decode cX12_readsFelons 29 = .ok (.iload_n 2, 1) := by decide +kernel
theorem dX12_readsFelons_30 : decode cX12_readsFelons 30 = .ok (.iaload, 1) := by decide +kernel
theorem dX12_readsFelons_31 : decode cX12_readsFelons 31 = .ok (.invokestatic 115, 3) := by decide +kernel
theorem dX12_readsFelons_34 : decode cX12_readsFelons 34 = .ok (.istore 4, 2) := by decide +kernel
theorem dX12_readsFelons_36 : decode cX12_readsFelons 36 = .ok (.iload 4, 2) := by decide +kernel
theorem dX12_readsFelons_38 : decode cX12_readsFelons 38 = .ok (.bipush (-9), 2) := by decide +kernel
theorem dX12_readsFelons_40 : decode cX12_readsFelons 40 = .ok (.if_icmp .ne 10, 3) := by decide +kernel
theorem dX12_readsFelons_43 : decode cX12_readsFelons 43 = .ok (.aload_n 0, 1) := by decide +kernel
theorem dX12_readsFelons_44 : decode cX12_readsFelons 44 = .ok (.iconst 0, 1) := by decide +kernel
theorem dX12_readsFelons_45 : decode cX12_readsFelons 45 = .ok (.putfield 112, 3) := by decide +kernel
theorem dX12_readsFelons_48 : decode cX12_readsFelons 48 = .ok (.iload_n 2, 1) := by decide +kernel
theorem dX12_readsFelons_49 : decode cX12_readsFelons 49 = .ok (.ireturn, 1) := by decide +kernel
theorem dX12_readsFelons_50 : decode cX12_readsFelons 50 = .ok (.iload_n 3, 1) := by decide +kernel
theorem dX12_readsFelons_51 : decode cX12_readsFelons 51 = .ok (.iconst 5, 1) := by decide +kernel
theorem dX12_readsFelons_52 : decode cX12_readsFelons 52 = .ok (.if_icmp .ge 18, 3) := by decide +kernel
theorem dX12_readsFelons_55 : decode cX12_readsFelons 55 = .ok (.aload_n 0, 1) := by decide +kernel
theorem dX12_readsFelons_56 : decode cX12_readsFelons 56 = .ok (.getfield 28, 3) := by decide +kernel
theorem dX12_readsFelons_59 : decode cX12_readsFelons 59 = .ok (.iconst 5, 1) := by decide +kernel
theorem dX12_readsFelons_60 : decode cX12_readsFelons 60 = .ok (.iload_n 2, 1) := by decide +kernel
theorem dX12_readsFelons_61 : decode cX12_readsFelons 61 = .ok (.bipush 6, 2) := by decide +kernel
theorem dX12_readsFelons_63 : decode cX12_readsFelons 63 = .ok (.idiv, 1) := by decide +kernel
theorem dX12_readsFelons_64 : decode cX12_readsFelons 64 = .ok (.imul, 1) := by decide +kernel
theorem dX12_readsFelons_65 : decode cX12_readsFelons 65 = .ok (.iload_n 3, 1) := by decide +kernel
theorem dX12_readsFelons_66 : decode cX12_readsFelons 66 = .ok (.iadd, 1) := by decide +kernel
theorem dX12_readsFelons_67 : decode cX12_readsFelons 67 = .ok (.iload 4, 2) := by decide +kernel
theorem dX12_readsFelons_69 : decode cX12_readsFelons 69 = .ok (.iastore, 1) := by decide +kernel
theorem dX12_readsFelons_70 : decode cX12_readsFelons 70 = .ok (.aload_n 0, 1) := by decide +kernel
theorem dX12_readsFelons_71 : decode cX12_readsFelons 71 = .ok (.dup, 1) := by decide +kernel
theorem dX12_readsFelons_72 : decode cX12_readsFelons 72 = .ok (.getfield 112, 3) := by decide +kernel
theorem dX12_readsFelons_75 : decode cX12_readsFelons 75 = .ok (.iload_n 3, 1) := by decide +kernel
theorem dX12_readsFelons_76 : decode cX12_readsFelons 76 = .ok (.iconst 4, 1) := by decide +kernel
theorem dX12_readsFelons_77 : decode cX12_readsFelons 77 = .ok (.if_icmp .ne 7, 3) := by decide +kernel
theorem dX12_readsFelons_80 : decode cX12_readsFelons 80 = .ok (.iconst 1, 1) := by decide +kernel
theorem dX12_readsFelons_81 : decode cX12_readsFelons 81 = .ok (.goto 4, 3) := by decide +kernel
theorem dX12_readsFelons_84 : decode cX12_readsFelons 84 = .ok (.iconst 0, 1) := by decide +kernel
theorem dX12_readsFelons_85 : decode cX12_readsFelons 85 = .ok (.iadd, 1) := by decide +kernel
theorem dX12_readsFelons_86 : decode cX12_readsFelons 86 = .ok (.putfield 112, 3) := by decide +kernel
theorem dX12_readsFelons_89 : decode cX12_readsFelons 89 = .ok (.iinc 2 1, 3) := by decide +kernel
theorem dX12_readsFelons_92 : decode cX12_readsFelons 92 = .ok (.goto (-78), 3) := by decide +kernel
theorem dX12_readsFelons_95 : decode cX12_readsFelons 95 = .ok (.iload_n 1, 1) := by decide +kernel
theorem dX12_readsFelons_96 : decode cX12_readsFelons 96 = .ok (.ifCond .le 18, 3) := by decide +kernel
theorem dX12_readsFelons_99 : decode cX12_readsFelons 99 = .ok (.iload_n 1, 1) := by decide +kernel
theorem dX12_readsFelons_100 : decode cX12_readsFelons 100 = .ok (.bipush 6, 2) := by decide +kernel
theorem dX12_readsFelons_102 : decode cX12_readsFelons 102 = .ok (.irem, 1) := by decide +kernel
theorem dX12_readsFelons_103 : decode cX12_readsFelons 103 = .ok (.iconst 5, 1) := by decide +kernel
theorem dX12_readsFelons_104 : decode cX12_readsFelons 104 = .ok (.if_icmp .eq 10, 3) := by decide +kernel
theorem dX12_readsFelons_107 : decode cX12_readsFelons 107 = .ok (.aload_n 0, 1) := by decide +kernel
theorem dX12_readsFelons_108 : decode cX12_readsFelons 108 = .ok (.iconst 0, 1) := by decide +kernel
theorem dX12_readsFelons_109 : decode cX12_readsFelons 109 = .ok (.putfield 112, 3) := by decide +kernel
theorem dX12_readsFelons_112 : decode cX12_readsFelons 112 = .ok (.iload_n 1, 1) := by decide +kernel
theorem dX12_readsFelons_113 : decode cX12_readsFelons 113 = .ok (.ireturn, 1) := by decide +kernel
theorem dX12_readsFelons_114 : decode cX12_readsFelons 114 = .ok (.iconst (-1), 1) := by decide +kernel
theorem dX12_readsFelons_115 : decode cX12_readsFelons 115 = .ok (.ireturn, 1) := by decide +kernel
theorem dX12_readsNames_0 : decode cX12_readsNames 0 = .ok (.aload_n 0, 1) := by decide +kernel
theorem dX12_readsNames_1 : decode cX12_readsNames 1 = .ok (.iconst 0, 1) := by decide +kernel
theorem dX12_readsNames_2 : decode cX12_readsNames 2 = .ok (.putfield 118, 3) := by decide +kernel
theorem dX12_readsNames_5 : decode cX12_readsNames 5 = .ok (.iconst 0, 1) := by decide +kernel
theorem dX12_readsNames_6 : decode cX12_readsNames 6 = .ok (.istore_n 1, 1) := by decide +kernel
theorem dX12_readsNames_7 : decode cX12_readsNames 7 = .ok (.iload_n 1, 1) := by decide +kernel
theorem dX12_readsNames_8 : decode cX12_readsNames 8 = .ok (.aload_n 0, 1) := by decide +kernel
theorem dX12_readsNames_9 : decode cX12_readsNames 9 = .ok (.getfield 25, 3) := by decide +kernel
theorem dX12_readsNames_12 : decode cX12_readsNames 12 = .ok (.iconst 1, 1) := by decide +kernel
theorem dX12_readsNames_13 : decode cX12_readsNames 13 = .ok (.iaload, 1) := by decide +kernel
theorem dX12_readsNames_14 : decode cX12_readsNames 14 = .ok (.if_icmp .ge 60, 3) := by decide +kernel
theorem dX12_readsNames_17 : decode cX12_readsNames 17 = .ok (.aload_n 0, 1) := by decide +kernel
theorem dX12_readsNames_18 : decode cX12_readsNames 18 = .ok (.getfield 22, 3) := by decide +kernel
theorem dX12_readsNames_21 : decode cX12_readsNames 21 = .ok (.bipush 48, 2) := by decide +kernel
theorem dX12_readsNames_23 : decode cX12_readsNames 23 = .ok (.iload_n 1, 1) := by decide +kernel
theorem dX12_readsNames_24 : decode cX12_readsNames 24 = .ok (.iadd, 1) := by decide +kernel
theorem dX12_readsNames_25 : decode cX12_readsNames 25 = .ok (.iaload, 1) := by decide +kernel
theorem dX12_readsNames_26 : decode cX12_readsNames 26 = .ok (.istore_n 2, 1) := by decide +kernel
theorem dX12_readsNames_27 : decode cX12_readsNames 27 = .ok (.iload_n 2, 1) := by decide +kernel
theorem dX12_readsNames_28 : decode cX12_readsNames 28 = .ok (.i2l, 1) := by decide +kernel
theorem dX12_readsNames_29 : decode cX12_readsNames 29 = .ok (.ldc2_w 121, 3) := by decide +kernel
theorem dX12_readsNames_32 : decode cX12_readsNames 32 = .ok (.ldc2_w 123, 3) := by decide +kernel
theorem dX12_readsNames_35 : decode cX12_readsNames 35 = .ok (.invokestatic 73, 3) := by decide +kernel
theorem dX12_readsNames_38 : decode cX12_readsNames 38 = .ok (.ifCond .ne 10, 3) := by decide +kernel
theorem dX12_readsNames_41 : decode cX12_readsNames 41 = .ok (.aload_n 0, 1) := by decide +kernel
theorem dX12_readsNames_42 : decode cX12_readsNames 42 = .ok (.iconst 0, 1) := by decide +kernel
theorem dX12_readsNames_43 : decode cX12_readsNames 43 = .ok (.putfield 118, 3) := by decide +kernel
theorem dX12_readsNames_46 : decode cX12_readsNames 46 = .ok (.iload_n 1, 1) := by decide +kernel
theorem dX12_readsNames_47 : decode cX12_readsNames 47 = .ok (.ireturn, 1) := by decide +kernel
theorem dX12_readsNames_48 : decode cX12_readsNames 48 = .ok (.aload_n 0, 1) := by decide +kernel
theorem dX12_readsNames_49 : decode cX12_readsNames 49 = .ok (.getfield 31, 3) := by decide +kernel
theorem dX12_readsNames_52 : decode cX12_readsNames 52 = .ok (.iload_n 1, 1) := by decide +kernel
theorem dX12_readsNames_53 : decode cX12_readsNames 53 = .ok (.iload_n 2, 1) := by decide +kernel
theorem dX12_readsNames_54 : decode cX12_readsNames 54 = .ok (.bipush 97, 2) := by decide +kernel
theorem dX12_readsNames_56 : decode cX12_readsNames 56 = .ok (.isub, 1) := by decide +kernel
theorem dX12_readsNames_57 : decode cX12_readsNames 57 = .ok (.iastore, 1) := by decide +kernel
theorem dX12_readsNames_58 : decode cX12_readsNames 58 = .ok (.aload_n 0, 1) := by decide +kernel
theorem dX12_readsNames_59 : decode cX12_readsNames 59 = .ok (.dup, 1) := by decide +kernel
theorem dX12_readsNames_60 : decode cX12_readsNames 60 = .ok (.getfield 118, 3) := by decide +kernel
theorem dX12_readsNames_63 : decode cX12_readsNames 63 = .ok (.iconst 1, 1) := by decide +kernel
theorem dX12_readsNames_64 : decode cX12_readsNames 64 = .ok (.iadd, 1) := by decide +kernel
theorem dX12_readsNames_65 : decode cX12_readsNames 65 = .ok (.putfield 118, 3) := by decide +kernel
theorem dX12_readsNames_68 : decode cX12_readsNames 68 = .ok (.iinc 1 1, 3) := by decide +kernel
theorem dX12_readsNames_71 : decode cX12_readsNames 71 = .ok (.goto (-64), 3) := by decide +kernel
theorem dX12_readsNames_74 : decode cX12_readsNames 74 = .ok (.iconst (-1), 1) := by decide +kernel
theorem dX12_readsNames_75 : decode cX12_readsNames 75 = .ok (.ireturn, 1) := by decide +kernel
theorem dX12_fault_0 : decode cX12_fault 0 = .ok (.iload_n 1, 1) := by decide +kernel
theorem dX12_fault_1 : decode cX12_fault 1 = .ok (.invokestatic 102, 3) := by decide +kernel
theorem dX12_fault_4 : decode cX12_fault 4 = .ok (.ifCond .ne 8, 3) := by decide +kernel
theorem dX12_fault_7 : decode cX12_fault 7 = .ok (.bipush (-2), 2) := by decide +kernel
theorem dX12_fault_9 : decode cX12_fault 9 = .ok (.goto 18, 3) := by decide +kernel
theorem dX12_fault_12 : decode cX12_fault 12 = .ok (.iload_n 1, 1) := by decide +kernel
theorem dX12_fault_13 : decode cX12_fault 13 = .ok (.ifCond .ne 10, 3) := by decide +kernel
theorem dX12_fault_16 : decode cX12_fault 16 = .ok (.aload_n 0, 1) := by decide +kernel
theorem dX12_fault_17 : decode cX12_fault 17 = .ok (.invokevirtual 125, 3) := by decide +kernel
theorem dX12_fault_20 : decode cX12_fault 20 = .ok (.goto 7, 3) := by decide +kernel
theorem dX12_fault_23 : decode cX12_fault 23 = .ok (.aload_n 0, 1) := by decide +kernel
theorem dX12_fault_24 : decode cX12_fault 24 = .ok (.invokevirtual 129, 3) := by decide +kernel
theorem dX12_fault_27 : decode cX12_fault 27 = .ok (.ireturn, 1) := by decide +kernel
theorem dX12_isFelon_0 : decode cX12_isFelon 0 = .ok (.iload_n 1, 1) := by decide +kernel
theorem dX12_isFelon_1 : decode cX12_isFelon 1 = .ok (.i2l, 1) := by decide +kernel
theorem dX12_isFelon_2 : decode cX12_isFelon 2 = .ok (.lconst 0, 1) := by decide +kernel
theorem dX12_isFelon_3 : decode cX12_isFelon 3 = .ok (.aload_n 0, 1) := by decide +kernel
theorem dX12_isFelon_4 : decode cX12_isFelon 4 = .ok (.getfield 112, 3) := by decide +kernel
theorem dX12_isFelon_7 : decode cX12_isFelon 7 = .ok (.iconst 1, 1) := by decide +kernel
theorem dX12_isFelon_8 : decode cX12_isFelon 8 = .ok (.isub, 1) := by decide +kernel
theorem dX12_isFelon_9 : decode cX12_isFelon 9 = .ok (.i2l, 1) := by decide +kernel
theorem dX12_isFelon_10 : decode cX12_isFelon 10 = .ok (.invokestatic 73, 3) := by decide +kernel
theorem dX12_isFelon_13 : decode cX12_isFelon 13 = .ok (.ireturn, 1) := by decide +kernel
theorem dX12_felon_0 : decode cX12_felon 0 = .ok (.aload_n 0, 1) := by decide +kernel
theorem dX12_felon_1 : decode cX12_felon 1 = .ok (.invokevirtual 125, 3) := by decide +kernel
theorem dX12_felon_4 : decode cX12_felon 4 = .ok (.pop, 1) := by decide +kernel
theorem dX12_felon_5 : decode cX12_felon 5 = .ok (.aload_n 0, 1) := by decide +kernel
theorem dX12_felon_6 : decode cX12_felon 6 = .ok (.iload_n 1, 1) := by decide +kernel
theorem dX12_felon_7 : decode cX12_felon 7 = .ok (.invokevirtual 132, 3) := by decide +kernel
theorem dX12_felon_10 : decode cX12_felon 10 = .ok (.ifCond .eq 28, 3) := by decide +kernel
theorem dX12_felon_13 : decode cX12_felon 13 = .ok (.iload_n 2, 1) := by decide +kernel
theorem dX12_felon_14 : decode cX12_felon 14 = .ok (.i2l, 1) := by decide +kernel
theorem dX12_felon_15 : decode cX12_felon 15 = .ok (.lconst 0, 1) := by decide +kernel
theorem dX12_felon_16 : decode cX12_felon 16 = .ok (.ldc2_w 135, 3) := by decide +kernel
theorem dX12_felon_19 : decode cX12_felon 19 = .ok (.invokestatic 73, 3) := by decide +kernel
theorem dX12_felon_22 : decode cX12_felon 22 = .ok (.ifCond .eq 16, 3) := by decide +kernel
theorem dX12_felon_25 : decode cX12_felon 25 = .ok (.aload_n 0, 1) := by decide +kernel
theorem dX12_felon_26 : decode cX12_felon 26 = .ok (.getfield 28, 3) := by decide +kernel
theorem dX12_felon_29 : decode cX12_felon 29 = .ok (.iconst 5, 1) := by decide +kernel
theorem dX12_felon_30 : decode cX12_felon 30 = .ok (.iload_n 1, 1) := by decide +kernel
theorem dX12_felon_31 : decode cX12_felon 31 = .ok (.imul, 1) := by decide +kernel
theorem dX12_felon_32 : decode cX12_felon 32 = .ok (.iload_n 2, 1) := by decide +kernel
theorem dX12_felon_33 : decode cX12_felon 33 = .ok (.iadd, 1) := by decide +kernel
theorem dX12_felon_34 : decode cX12_felon 34 = .ok (.iaload, 1) := by decide +kernel
theorem dX12_felon_35 : decode cX12_felon 35 = .ok (.goto 5, 3) := by decide +kernel
theorem dX12_felon_38 : decode cX12_felon 38 = .ok (.bipush (-2), 2) := by decide +kernel
theorem dX12_felon_40 : decode cX12_felon 40 = .ok (.ireturn, 1) := by decide +kernel
theorem dX12_name_0 : decode cX12_name 0 = .ok (.aload_n 0, 1) := by decide +kernel
theorem dX12_name_1 : decode cX12_name 1 = .ok (.invokevirtual 129, 3) := by decide +kernel
theorem dX12_name_4 : decode cX12_name 4 = .ok (.pop, 1) := by decide +kernel
theorem dX12_name_5 : decode cX12_name 5 = .ok (.iload_n 1, 1) := by decide +kernel
theorem dX12_name_6 : decode cX12_name 6 = .ok (.i2l, 1) := by decide +kernel
theorem dX12_name_7 : decode cX12_name 7 = .ok (.lconst 0, 1) := by decide +kernel
theorem dX12_name_8 : decode cX12_name 8 = .ok (.ldc2_w 137, 3) := by decide +kernel
theorem dX12_name_11 : decode cX12_name 11 = .ok (.invokestatic 73, 3) := by decide +kernel
theorem dX12_name_14 : decode cX12_name 14 = .ok (.ifCond .ne 8, 3) := by decide +kernel
theorem dX12_name_17 : decode cX12_name 17 = .ok (.bipush (-2), 2) := by decide +kernel
theorem dX12_name_19 : decode cX12_name 19 = .ok (.goto 21, 3) := by decide +kernel
theorem dX12_name_22 : decode cX12_name 22 = .ok (.iload_n 1, 1) := by decide +kernel
theorem dX12_name_23 : decode cX12_name 23 = .ok (.aload_n 0, 1) := by decide +kernel
theorem dX12_name_24 : decode cX12_name 24 = .ok (.getfield 118, 3) := by decide +kernel
theorem dX12_name_27 : decode cX12_name 27 = .ok (.if_icmp .ge 12, 3) := by decide +kernel
theorem dX12_name_30 : decode cX12_name 30 = .ok (.aload_n 0, 1) := by decide +kernel
theorem dX12_name_31 : decode cX12_name 31 = .ok (.getfield 31, 3) := by decide +kernel
theorem dX12_name_34 : decode cX12_name 34 = .ok (.iload_n 1, 1) := by decide +kernel
theorem dX12_name_35 : decode cX12_name 35 = .ok (.iaload, 1) := by decide +kernel
theorem dX12_name_36 : decode cX12_name 36 = .ok (.goto 4, 3) := by decide +kernel
theorem dX12_name_39 : decode cX12_name 39 = .ok (.iconst (-1), 1) := by decide +kernel
theorem dX12_name_40 : decode cX12_name 40 = .ok (.ireturn, 1) := by decide +kernel
theorem dX12_set_0 : decode cX12_set 0 = .ok (.iload_n 1, 1) := by decide +kernel
theorem dX12_set_1 : decode cX12_set 1 = .ok (.i2l, 1) := by decide +kernel
theorem dX12_set_2 : decode cX12_set 2 = .ok (.lconst 0, 1) := by decide +kernel
theorem dX12_set_3 : decode cX12_set 3 = .ok (.ldc2_w 87, 3) := by decide +kernel
theorem dX12_set_6 : decode cX12_set 6 = .ok (.invokestatic 73, 3) := by decide +kernel
theorem dX12_set_9 : decode cX12_set 9 = .ok (.ifCond .eq 35, 3) := by decide +kernel
theorem dX12_set_12 : decode cX12_set 12 = .ok (.iload_n 2, 1) := by decide +kernel
theorem dX12_set_13 : decode cX12_set 13 = .ok (.i2l, 1) := by decide +kernel
theorem dX12_set_14 : decode cX12_set 14 = .ok (.iload_n 1, 1) := by decide +kernel
theorem dX12_set_15 : decode cX12_set 15 = .ok (.iconst 1, 1) := by decide +kernel
theorem dX12_set_16 : decode cX12_set 16 = .ok (.if_icmp .ne 7, 3) := by decide +kernel
theorem dX12_set_19 : decode cX12_set 19 = .ok (.lconst 1, 1) := by decide +kernel
theorem dX12_set_20 : decode cX12_set 20 = .ok (.goto 4, 3) := by decide +kernel
theorem dX12_set_23 : decode cX12_set 23 = .ok (.lconst 0, 1) := by decide +kernel
theorem dX12_set_24 : decode cX12_set 24 = .ok (.iload_n 1, 1) := by decide +kernel
theorem dX12_set_25 : decode cX12_set 25 = .ok (.iconst 1, 1) := by decide +kernel
theorem dX12_set_26 : decode cX12_set 26 = .ok (.if_icmp .ne 9, 3) := by decide +kernel
theorem dX12_set_29 : decode cX12_set 29 = .ok (.ldc2_w 139, 3) := by decide +kernel
theorem dX12_set_32 : decode cX12_set 32 = .ok (.goto 6, 3) := by decide +kernel
theorem dX12_set_35 : decode cX12_set 35 = .ok (.ldc2_w 141, 3) := by decide +kernel
theorem dX12_set_38 : decode cX12_set 38 = .ok (.invokestatic 73, 3) := by decide +kernel
theorem dX12_set_41 : decode cX12_set 41 = .ok (.ifCond .ne 6, 3) := by decide +kernel
theorem dX12_set_44 : decode cX12_set 44 = .ok (.bipush (-2), 2) := by decide +kernel
theorem dX12_set_46 : decode cX12_set 46 = .ok (.ireturn, 1) := by decide +kernel
theorem dX12_set_47 : decode cX12_set 47 = .ok (.aload_n 0, 1) := by decide +kernel
theorem dX12_set_48 : decode cX12_set 48 = .ok (.getfield 34, 3) := by decide +kernel
theorem dX12_set_51 : decode cX12_set 51 = .ok (.iload_n 1, 1) := by decide +kernel
theorem dX12_set_52 : decode cX12_set 52 = .ok (.iaload, 1) := by decide +kernel
theorem dX12_set_53 : decode cX12_set 53 = .ok (.istore_n 3, 1) := by decide +kernel
theorem dX12_set_54 : decode cX12_set 54 = .ok (.aload_n 0, 1) := by decide +kernel
theorem dX12_set_55 : decode cX12_set 55 = .ok (.getfield 34, 3) := by decide +kernel
theorem dX12_set_58 : decode cX12_set 58 = .ok (.iload_n 1, 1) := by decide +kernel
theorem dX12_set_59 : decode cX12_set 59 = .ok (.iload_n 2, 1) := by decide +kernel
theorem dX12_set_60 : decode cX12_set 60 = .ok (.iastore, 1) := by decide +kernel
theorem dX12_set_61 : decode cX12_set 61 = .ok (.iload_n 3, 1) := by decide +kernel
theorem dX12_set_62 : decode cX12_set 62 = .ok (.ireturn, 1) := by decide +kernel
theorem dX12_endOf_0 : decode cX12_endOf 0 = .ok (.aload_n 0, 1) := by decide +kernel
theorem dX12_endOf_1 : decode cX12_endOf 1 = .ok (.getfield 28, 3) := by decide +kernel
theorem dX12_endOf_4 : decode cX12_endOf 4 = .ok (.iconst 5, 1) := by decide +kernel
theorem dX12_endOf_5 : decode cX12_endOf 5 = .ok (.iload_n 1, 1) := by decide +kernel
theorem dX12_endOf_6 : decode cX12_endOf 6 = .ok (.imul, 1) := by decide +kernel
theorem dX12_endOf_7 : decode cX12_endOf 7 = .ok (.iaload, 1) := by decide +kernel
theorem dX12_endOf_8 : decode cX12_endOf 8 = .ok (.istore_n 2, 1) := by decide +kernel
theorem dX12_endOf_9 : decode cX12_endOf 9 = .ok (.iload_n 2, 1) := by decide +kernel
theorem dX12_endOf_10 : decode cX12_endOf 10 = .ok (.iconst 3, 1) := by decide +kernel
theorem dX12_endOf_11 : decode cX12_endOf 11 = .ok (.if_icmp .ne 5, 3) := by decide +kernel
theorem dX12_endOf_14 : decode cX12_endOf 14 = .ok (.iconst 4, 1) := by decide +kernel
theorem dX12_endOf_15 : decode cX12_endOf 15 = .ok (.ireturn, 1) := by decide +kernel
theorem dX12_endOf_16 : decode cX12_endOf 16 = .ok (.iload_n 2, 1) := by decide +kernel
theorem dX12_endOf_17 : decode cX12_endOf 17 = .ok (.iconst 1, 1) := by decide +kernel
theorem dX12_endOf_18 : decode cX12_endOf 18 = .ok (.if_icmp .ne 19, 3) := by decide +kernel
theorem dX12_endOf_21 : decode cX12_endOf 21 = .ok (.aload_n 0, 1) := by decide +kernel
theorem dX12_endOf_22 : decode cX12_endOf 22 = .ok (.getfield 28, 3) := by decide +kernel
theorem dX12_endOf_25 : decode cX12_endOf 25 = .ok (.iconst 5, 1) := by decide +kernel
theorem dX12_endOf_26 : decode cX12_endOf 26 = .ok (.iload_n 1, 1) := by decide +kernel
theorem dX12_endOf_27 : decode cX12_endOf 27 = .ok (.imul, 1) := by decide +kernel
theorem dX12_endOf_28 : decode cX12_endOf 28 = .ok (.iconst 3, 1) := by decide +kernel
theorem dX12_endOf_29 : decode cX12_endOf 29 = .ok (.iadd, 1) := by decide +kernel
theorem dX12_endOf_30 : decode cX12_endOf 30 = .ok (.iaload, 1) := by decide +kernel
theorem dX12_endOf_31 : decode cX12_endOf 31 = .ok (.iconst 1, 1) := by decide +kernel
theorem dX12_endOf_32 : decode cX12_endOf 32 = .ok (.if_icmp .ne 5, 3) := by decide +kernel
theorem dX12_endOf_35 : decode cX12_endOf 35 = .ok (.iconst 1, 1) := by decide +kernel
theorem dX12_endOf_36 : decode cX12_endOf 36 = .ok (.ireturn, 1) := by decide +kernel
theorem dX12_endOf_37 : decode cX12_endOf 37 = .ok (.iload_n 2, 1) := by decide +kernel
theorem dX12_endOf_38 : decode cX12_endOf 38 = .ok (.iconst 2, 1) := by decide +kernel
theorem dX12_endOf_39 : decode cX12_endOf 39 = .ok (.if_icmp .ne 26, 3) := by decide +kernel
theorem dX12_endOf_42 : decode cX12_endOf 42 = .ok (.aload_n 0, 1) := by decide +kernel
theorem dX12_endOf_43 : decode cX12_endOf 43 = .ok (.getfield 28, 3) := by decide +kernel
theorem dX12_endOf_46 : decode cX12_endOf 46 = .ok (.iconst 5, 1) := by decide +kernel
theorem dX12_endOf_47 : decode cX12_endOf 47 = .ok (.iload_n 1, 1) := by decide +kernel
theorem dX12_endOf_48 : decode cX12_endOf 48 = .ok (.imul, 1) := by decide +kernel
theorem dX12_endOf_49 : decode cX12_endOf 49 = .ok (.iconst 2, 1) := by decide +kernel
theorem dX12_endOf_50 : decode cX12_endOf 50 = .ok (.iadd, 1) := by decide +kernel
theorem dX12_endOf_51 : decode cX12_endOf 51 = .ok (.iaload, 1) := by decide +kernel
theorem dX12_endOf_52 : decode cX12_endOf 52 = .ok (.aload_n 0, 1) := by decide +kernel
theorem dX12_endOf_53 : decode cX12_endOf 53 = .ok (.getfield 34, 3) := by decide +kernel
theorem dX12_endOf_56 : decode cX12_endOf 56 = .ok (.iconst 2, 1) := by decide +kernel
theorem dX12_endOf_57 : decode cX12_endOf 57 = .ok (.iaload, 1) := by decide +kernel
theorem dX12_endOf_58 : decode cX12_endOf 58 = .ok (.if_icmp .lt 7, 3) := by decide +kernel
theorem dX12_endOf_61 : decode cX12_endOf 61 = .ok (.iconst 2, 1) := by decide +kernel
theorem dX12_endOf_62 : decode cX12_endOf 62 = .ok (.goto 4, 3) := by decide +kernel
theorem dX12_endOf_65 : decode cX12_endOf 65 = .ok (.iconst 3, 1) := by decide +kernel
theorem dX12_endOf_66 : decode cX12_endOf 66 = .ok (.ireturn, 1) := by decide +kernel
theorem dX12_winsBy_0 : decode cX12_winsBy 0 = .ok (.bipush 8, 2) := by decide +kernel
theorem dX12_winsBy_2 : decode cX12_winsBy 2 = .ok (.iload_n 2, 1) := by decide +kernel
theorem dX12_winsBy_3 : decode cX12_winsBy 3 = .ok (.iadd, 1) := by decide +kernel
theorem dX12_winsBy_4 : decode cX12_winsBy 4 = .ok (.aload_n 0, 1) := by decide +kernel
theorem dX12_winsBy_5 : decode cX12_winsBy 5 = .ok (.getfield 28, 3) := by decide +kernel
theorem dX12_winsBy_8 : decode cX12_winsBy 8 = .ok (.iconst 5, 1) := by decide +kernel
theorem dX12_winsBy_9 : decode cX12_winsBy 9 = .ok (.iload_n 1, 1) := by decide +kernel
theorem dX12_winsBy_10 : decode cX12_winsBy 10 = .ok (.imul, 1) := by decide +kernel
theorem dX12_winsBy_11 : decode cX12_winsBy 11 = .ok (.iconst 1, 1) := by decide +kernel
theorem dX12_winsBy_12 : decode cX12_winsBy 12 = .ok (.iadd, 1) := by decide +kernel
theorem dX12_winsBy_13 : decode cX12_winsBy 13 = .ok (.iaload, 1) := by decide +kernel
theorem dX12_winsBy_14 : decode cX12_winsBy 14 = .ok (.isub, 1) := by decide +kernel
theorem dX12_winsBy_15 : decode cX12_winsBy 15 = .ok (.iconst 0, 1) := by decide +kernel
theorem dX12_winsBy_16 : decode cX12_winsBy 16 = .ok (.invokestatic 143, 3) := by decide +kernel
theorem dX12_winsBy_19 : decode cX12_winsBy 19 = .ok (.bipush 16, 2) := by decide +kernel
theorem dX12_winsBy_21 : decode cX12_winsBy 21 = .ok (.invokestatic 146, 3) := by decide +kernel
theorem dX12_winsBy_24 : decode cX12_winsBy 24 = .ok (.ireturn, 1) := by decide +kernel
theorem dX12_strongBehind_0 : decode cX12_strongBehind 0 = .ok (.iload_n 2, 1) := by decide +kernel
theorem dX12_strongBehind_1 : decode cX12_strongBehind 1 = .ok (.iconst 3, 1) := by decide +kernel
theorem dX12_strongBehind_2 : decode cX12_strongBehind 2 = .ok (.if_icmp .ne 13, 3) := by decide +kernel
theorem dX12_strongBehind_5 : decode cX12_strongBehind 5 = .ok (.iload_n 1, 1) := by decide +kernel
theorem dX12_strongBehind_6 : decode cX12_strongBehind 6 = .ok (.iconst 1, 1) := by decide +kernel
theorem dX12_strongBehind_7 : decode cX12_strongBehind 7 = .ok (.isub, 1) := by decide +kernel
theorem dX12_strongBehind_8 : decode cX12_strongBehind 8 = .ok (.iconst 0, 1) := by decide +kernel
theorem dX12_strongBehind_9 : decode cX12_strongBehind 9 = .ok (.invokestatic 143, 3) := by decide +kernel
theorem dX12_strongBehind_12 : decode cX12_strongBehind 12 = .ok (.goto 29, 3) := by decide +kernel
theorem dX12_strongBehind_15 : decode cX12_strongBehind 15 = .ok (.iload_n 2, 1) := by decide +kernel
theorem dX12_strongBehind_16 : decode cX12_strongBehind 16 = .ok (.iconst 1, 1) := by decide +kernel
theorem dX12_strongBehind_17 : decode cX12_strongBehind 17 = .ok (.if_icmp .eq 8, 3) := by decide +kernel
theorem dX12_strongBehind_20 : decode cX12_strongBehind 20 = .ok (.iload_n 2, 1) := by decide +kernel
theorem dX12_strongBehind_21 : decode cX12_strongBehind 21 = .ok (.iconst 2, 1) := by decide +kernel
theorem dX12_strongBehind_22 : decode cX12_strongBehind 22 = .ok (.if_icmp .ne 18, 3) := by decide +kernel
theorem dX12_strongBehind_25 : decode cX12_strongBehind 25 = .ok (.iload_n 1, 1) := by decide +kernel
theorem dX12_strongBehind_26 : decode cX12_strongBehind 26 = .ok (.iconst 1, 1) := by decide +kernel
theorem dX12_strongBehind_27 : decode cX12_strongBehind 27 = .ok (.iadd, 1) := by decide +kernel
theorem dX12_strongBehind_28 : decode cX12_strongBehind 28 = .ok (.aload_n 0, 1) := by decide +kernel
theorem dX12_strongBehind_29 : decode cX12_strongBehind 29 = .ok (.getfield 34, 3) := by decide +kernel
theorem dX12_strongBehind_32 : decode cX12_strongBehind 32 = .ok (.iconst 0, 1) := by decide +kernel
theorem dX12_strongBehind_33 : decode cX12_strongBehind 33 = .ok (.iaload, 1) := by decide +kernel
theorem dX12_strongBehind_34 : decode cX12_strongBehind 34 = .ok (.invokestatic 146, 3) := by decide +kernel
theorem dX12_strongBehind_37 : decode cX12_strongBehind 37 = .ok (.goto 4, 3) := by decide +kernel
theorem dX12_strongBehind_40 : decode cX12_strongBehind 40 = .ok (.iload_n 1, 1) := by decide +kernel
theorem dX12_strongBehind_41 : decode cX12_strongBehind 41 = .ok (.ireturn, 1) := by decide +kernel
theorem dX12_goes_0 : decode cX12_goes 0 = .ok (.iconst 0, 1) := by decide +kernel
theorem dX12_goes_1 : decode cX12_goes 1 = .ok (.istore_n 1, 1) := by decide +kernel
theorem dX12_goes_2 : decode cX12_goes 2 = .ok (.aload_n 0, 1) := by decide +kernel
theorem dX12_goes_3 : decode cX12_goes 3 = .ok (.getfield 43, 3) := by decide +kernel
theorem dX12_goes_6 : decode cX12_goes 6 = .ok (.iconst 0, 1) := by decide +kernel
theorem dX12_goes_7 : decode cX12_goes 7 = .ok (.aload_n 0, 1) := by decide +kernel
theorem dX12_goes_8 : decode cX12_goes 8 = .ok (.getfield 34, 3) := by decide +kernel
theorem dX12_goes_11 : decode cX12_goes 11 = .ok (.iconst 0, 1) := by decide +kernel
theorem dX12_goes_12 : decode cX12_goes 12 = .ok (.iaload, 1) := by decide +kernel
theorem dX12_goes_13 : decode cX12_goes 13 = .ok (.iastore, 1) := by decide +kernel
theorem dX12_goes_14 : decode cX12_goes 14 = .ok (.aload_n 0, 1) := by decide +kernel
theorem dX12_goes_15 : decode cX12_goes 15 = .ok (.getfield 46, 3) := by decide +kernel
theorem dX12_goes_18 : decode cX12_goes 18 = .ok (.iconst 0, 1) := by decide +kernel
theorem dX12_goes_19 : decode cX12_goes 19 = .ok (.iconst 0, 1) := by decide +kernel
theorem dX12_goes_20 : decode cX12_goes 20 = .ok (.iastore, 1) := by decide +kernel
theorem dX12_goes_21 : decode cX12_goes 21 = .ok (.iconst 0, 1) := by decide +kernel
theorem dX12_goes_22 : decode cX12_goes 22 = .ok (.istore_n 2, 1) := by decide +kernel
theorem dX12_goes_23 : decode cX12_goes 23 = .ok (.iload_n 2, 1) := by decide +kernel
theorem dX12_goes_24 : decode cX12_goes 24 = .ok (.aload_n 0, 1) := by decide +kernel
theorem dX12_goes_25 : decode cX12_goes 25 = .ok (.getfield 118, 3) := by decide +kernel
theorem dX12_goes_28 : decode cX12_goes 28 = .ok (.if_icmp .ge 173, 3) := by decide +kernel
theorem dX12_goes_31 : decode cX12_goes 31 = .ok (.aload_n 0, 1) := by decide +kernel
theorem dX12_goes_32 : decode cX12_goes 32 = .ok (.getfield 31, 3) := by decide +kernel
theorem dX12_goes_35 : decode cX12_goes 35 = .ok (.iload_n 2, 1) := by decide +kernel
theorem dX12_goes_36 : decode cX12_goes 36 = .ok (.iaload, 1) := by decide +kernel
theorem dX12_goes_37 : decode cX12_goes 37 = .ok (.istore_n 3, 1) := by decide +kernel
theorem dX12_goes_38 : decode cX12_goes 38 = .ok (.aload_n 0, 1) := by decide +kernel
theorem dX12_goes_39 : decode cX12_goes 39 = .ok (.getfield 46, 3) := by decide +kernel
theorem dX12_goes_42 : decode cX12_goes 42 = .ok (.iload_n 2, 1) := by decide +kernel
theorem dX12_goes_43 : decode cX12_goes 43 = .ok (.iaload, 1) := by decide +kernel
theorem dX12_goes_44 : decode cX12_goes 44 = .ok (.aload_n 0, 1) := by decide +kernel
theorem dX12_goes_45 : decode cX12_goes 45 = .ok (.getfield 34, 3) := by decide +kernel
theorem dX12_goes_48 : decode cX12_goes 48 = .ok (.iconst 1, 1) := by decide +kernel
theorem dX12_goes_49 : decode cX12_goes 49 = .ok (.iaload, 1) := by decide +kernel
theorem dX12_goes_50 : decode cX12_goes 50 = .ok (.if_icmp .ge 19, 3) := by decide +kernel
theorem dX12_goes_53 : decode cX12_goes 53 = .ok (.aload_n 0, 1) := by decide +kernel
theorem dX12_goes_54 : decode cX12_goes 54 = .ok (.iload_n 3, 1) := by decide +kernel
theorem dX12_goes_55 : decode cX12_goes 55 = .ok (.invokevirtual 132, 3) := by decide +kernel
theorem dX12_goes_58 : decode cX12_goes 58 = .ok (.ifCond .eq 11, 3) := by decide +kernel
theorem dX12_goes_61 : decode cX12_goes 61 = .ok (.iload_n 1, 1) := by decide +kernel
theorem dX12_goes_62 : decode cX12_goes 62 = .ok (.iload_n 3, 1) := by decide +kernel
theorem dX12_goes_63 : decode cX12_goes 63 = .ok (.invokestatic 149, 3) := by decide +kernel
theorem dX12_goes_66 : decode cX12_goes 66 = .ok (.ifCond .eq 7, 3) := by decide +kernel
theorem dX12_goes_69 : decode cX12_goes 69 = .ok (.iconst 1, 1) := by decide +kernel
theorem dX12_goes_70 : decode cX12_goes 70 = .ok (.goto 4, 3) := by decide +kernel
theorem dX12_goes_73 : decode cX12_goes 73 = .ok (.iconst 0, 1) := by decide +kernel
theorem dX12_goes_74 : decode cX12_goes 74 = .ok (.istore 4, 2) := by decide +kernel
theorem dX12_goes_76 : decode cX12_goes 76 = .ok (.iload_n 1, 1) := by decide +kernel
theorem dX12_goes_77 : decode cX12_goes 77 = .ok (.iconst 1, 1) := by decide +kernel
theorem dX12_goes_78 : decode cX12_goes 78 = .ok (.iload_n 3, 1) := by decide +kernel
theorem dX12_goes_79 : decode cX12_goes 79 = .ok (.ishl, 1) := by decide +kernel
theorem dX12_goes_80 : decode cX12_goes 80 = .ok (.ior, 1) := by decide +kernel
theorem dX12_goes_81 : decode cX12_goes 81 = .ok (.istore_n 1, 1) := by decide +kernel
theorem dX12_goes_82 : decode cX12_goes 82 = .ok (.aload_n 0, 1) := by decide +kernel
theorem dX12_goes_83 : decode cX12_goes 83 = .ok (.getfield 37, 3) := by decide +kernel
theorem dX12_goes_86 : decode cX12_goes 86 = .ok (.iload_n 2, 1) := by decide +kernel
theorem dX12_goes_87 : decode cX12_goes 87 = .ok (.iload 4, 2) := by decide +kernel
theorem dX12_goes_89 : decode cX12_goes 89 = .ok (.ifCond .eq 7, 3) := by decide +kernel
theorem dX12_goes_92 : decode cX12_goes 92 = .ok (.iconst 0, 1) := by decide +kernel
theorem dX12_goes_93 : decode cX12_goes 93 = .ok (.goto 8, 3) := by decide +kernel
theorem dX12_goes_96 : decode cX12_goes 96 = .ok (.aload_n 0, 1) := by decide +kernel
theorem dX12_goes_97 : decode cX12_goes 97 = .ok (.iload_n 3, 1) := by decide +kernel
theorem dX12_goes_98 : decode cX12_goes 98 = .ok (.invokevirtual 153, 3) := by decide +kernel
theorem dX12_goes_101 : decode cX12_goes 101 = .ok (.iastore, 1) := by decide +kernel
theorem dX12_goes_102 : decode cX12_goes 102 = .ok (.aload_n 0, 1) := by decide +kernel
theorem dX12_goes_103 : decode cX12_goes 103 = .ok (.getfield 40, 3) := by decide +kernel
theorem dX12_goes_106 : decode cX12_goes 106 = .ok (.iload_n 2, 1) := by decide +kernel
theorem dX12_goes_107 : decode cX12_goes 107 = .ok (.aload_n 0, 1) := by decide +kernel
theorem dX12_goes_108 : decode cX12_goes 108 = .ok (.getfield 37, 3) := by decide +kernel
theorem dX12_goes_111 : decode cX12_goes 111 = .ok (.iload_n 2, 1) := by decide +kernel
theorem dX12_goes_112 : decode cX12_goes 112 = .ok (.iaload, 1) := by decide +kernel
theorem dX12_goes_113 : decode cX12_goes 113 = .ok (.iconst 3, 1) := by decide +kernel
theorem dX12_goes_114 : decode cX12_goes 114 = .ok (.if_icmp .ne 17, 3) := by decide +kernel
theorem dX12_goes_117 : decode cX12_goes 117 = .ok (.aload_n 0, 1) := by decide +kernel
theorem dX12_goes_118 : decode cX12_goes 118 = .ok (.iload_n 3, 1) := by decide +kernel
theorem dX12_goes_119 : decode cX12_goes 119 = .ok (.aload_n 0, 1) := by decide +kernel
theorem dX12_goes_120 : decode cX12_goes 120 = .ok (.getfield 43, 3) := by decide +kernel
theorem dX12_goes_123 : decode cX12_goes 123 = .ok (.iload_n 2, 1) := by decide +kernel
theorem dX12_goes_124 : decode cX12_goes 124 = .ok (.iaload, 1) := by decide +kernel
theorem dX12_goes_125 : decode cX12_goes 125 = .ok (.invokevirtual 156, 3) := by decide +kernel
theorem dX12_goes_128 : decode cX12_goes 128 = .ok (.goto 5, 3) := by decide +kernel
theorem dX12_goes_131 : decode cX12_goes 131 = .ok (.bipush 16, 2) := by decide +kernel
theorem dX12_goes_133 : decode cX12_goes 133 = .ok (.iastore, 1) := by decide +kernel
theorem dX12_goes_134 : decode cX12_goes 134 = .ok (.aload_n 0, 1) := by decide +kernel
theorem dX12_goes_135 : decode cX12_goes 135 = .ok (.getfield 43, 3) := by decide +kernel
theorem dX12_goes_138 : decode cX12_goes 138 = .ok (.iload_n 2, 1) := by decide +kernel
theorem dX12_goes_139 : decode cX12_goes 139 = .ok (.iconst 1, 1) := by decide +kernel
theorem dX12_goes_140 : decode cX12_goes 140 = .ok (.iadd, 1) := by decide +kernel
theorem dX12_goes_141 : decode cX12_goes 141 = .ok (.aload_n 0, 1) := by decide +kernel
theorem dX12_goes_142 : decode cX12_goes 142 = .ok (.aload_n 0, 1) := by decide +kernel
theorem dX12_goes_143 : decode cX12_goes 143 = .ok (.getfield 43, 3) := by decide +kernel
theorem dX12_goes_146 : decode cX12_goes 146 = .ok (.iload_n 2, 1) := by decide +kernel
theorem dX12_goes_147 : decode cX12_goes 147 = .ok (.iaload, 1) := by decide +kernel
theorem dX12_goes_148 : decode cX12_goes 148 = .ok (.aload_n 0, 1) := by decide +kernel
theorem dX12_goes_149 : decode cX12_goes 149 = .ok (.getfield 37, 3) := by decide +kernel
theorem dX12_goes_152 : decode cX12_goes 152 = .ok (.iload_n 2, 1) := by decide +kernel
theorem dX12_goes_153 : decode cX12_goes 153 = .ok (.iaload, 1) := by decide +kernel
theorem dX12_goes_154 : decode cX12_goes 154 = .ok (.invokevirtual 159, 3) := by decide +kernel
theorem dX12_goes_157 : decode cX12_goes 157 = .ok (.iastore, 1) := by decide +kernel
theorem dX12_goes_158 : decode cX12_goes 158 = .ok (.aload_n 0, 1) := by decide +kernel
theorem dX12_goes_159 : decode cX12_goes 159 = .ok (.getfield 46, 3) := by decide +kernel
theorem dX12_goes_162 : decode cX12_goes 162 = .ok (.iload_n 2, 1) := by decide +kernel
theorem dX12_goes_163 : decode cX12_goes 163 = .ok (.iconst 1, 1) := by decide +kernel
theorem dX12_goes_164 : decode cX12_goes 164 = .ok (.iadd, 1) := by decide +kernel
theorem dX12_goes_165 : decode cX12_goes 165 = .ok (.aload_n 0, 1) := by decide +kernel
theorem dX12_goes_166 : decode cX12_goes 166 = .ok (.getfield 46, 3) := by decide +kernel
theorem dX12_goes_169 : decode cX12_goes 169 = .ok (.iload_n 2, 1) := by decide +kernel
theorem dX12_goes_170 : decode cX12_goes 170 = .ok (.iaload, 1) := by decide +kernel
theorem dX12_goes_171 : decode cX12_goes 171 = .ok (.aload_n 0, 1) := by decide +kernel
theorem dX12_goes_172 : decode cX12_goes 172 = .ok (.getfield 37, 3) := by decide +kernel
theorem dX12_goes_175 : decode cX12_goes 175 = .ok (.iload_n 2, 1) := by decide +kernel
theorem dX12_goes_176 : decode cX12_goes 176 = .ok (.iaload, 1) := by decide +kernel
theorem dX12_goes_177 : decode cX12_goes 177 = .ok (.i2l, 1) := by decide +kernel
theorem dX12_goes_178 : decode cX12_goes 178 = .ok (.lconst 1, 1) := by decide +kernel
theorem dX12_goes_179 : decode cX12_goes 179 = .ok (.ldc2_w 81, 3) := by decide +kernel
theorem dX12_goes_182 : decode cX12_goes 182 = .ok (.invokestatic 73, 3) := by decide +kernel
theorem dX12_goes_185 : decode cX12_goes 185 = .ok (.ifCond .eq 7, 3) := by decide +kernel
theorem dX12_goes_188 : decode cX12_goes 188 = .ok (.iconst 1, 1) := by decide +kernel
theorem dX12_goes_189 : decode cX12_goes 189 = .ok (.goto 4, 3) := by decide +kernel
theorem dX12_goes_192 : decode cX12_goes 192 = .ok (.iconst 0, 1) := by decide +kernel
theorem dX12_goes_193 : decode cX12_goes 193 = .ok (.iadd, 1) := by decide +kernel
theorem dX12_goes_194 : decode cX12_goes 194 = .ok (.iastore, 1) := by decide +kernel
theorem dX12_goes_195 : decode cX12_goes 195 = .ok (.iinc 2 1, 3) := by decide +kernel
theorem dX12_goes_198 : decode cX12_goes 198 = .ok (.goto (-175), 3) := by decide +kernel
theorem dX12_goes_201 : decode cX12_goes 201 = .ok (.return_, 1) := by decide +kernel
theorem dX12_find_0 : decode cX12_find 0 = .ok (.aload_n 0, 1) := by decide +kernel
theorem dX12_find_1 : decode cX12_find 1 = .ok (.invokevirtual 125, 3) := by decide +kernel
theorem dX12_find_4 : decode cX12_find 4 = .ok (.pop, 1) := by decide +kernel
theorem dX12_find_5 : decode cX12_find 5 = .ok (.aload_n 0, 1) := by decide +kernel
theorem dX12_find_6 : decode cX12_find 6 = .ok (.invokevirtual 129, 3) := by decide +kernel
theorem dX12_find_9 : decode cX12_find 9 = .ok (.pop, 1) := by decide +kernel
theorem dX12_find_10 : decode cX12_find 10 = .ok (.aload_n 0, 1) := by decide +kernel
theorem dX12_find_11 : decode cX12_find 11 = .ok (.invokevirtual 162, 3) := by decide +kernel
theorem dX12_find_14 : decode cX12_find 14 = .ok (.return_, 1) := by decide +kernel
theorem dX12_comes_0 : decode cX12_comes 0 = .ok (.aload_n 0, 1) := by decide +kernel
theorem dX12_comes_1 : decode cX12_comes 1 = .ok (.invokevirtual 165, 3) := by decide +kernel
theorem dX12_comes_4 : decode cX12_comes 4 = .ok (.iload_n 1, 1) := by decide +kernel
theorem dX12_comes_5 : decode cX12_comes 5 = .ok (.i2l, 1) := by decide +kernel
theorem dX12_comes_6 : decode cX12_comes 6 = .ok (.lconst 0, 1) := by decide +kernel
