theorem dX11_get_22 : decode cX11_get 22 = .ok (.iload_n 1, 1) := by decide +kernel
theorem dX11_get_23 : decode cX11_get 23 = .ok (.aaload, 1) := by decide +kernel
theorem dX11_get_24 : decode cX11_get 24 = .ok (.iload_n 2, 1) := by decide +kernel
theorem dX11_get_25 : decode cX11_get 25 = .ok (.iload_n 3, 1) := by decide +kernel
theorem dX11_get_26 : decode cX11_get 26 = .ok (.invokevirtual 262, 3) := by decide +kernel
theorem dX11_get_29 : decode cX11_get 29 = .ok (.istore 4, 2) := by decide +kernel
theorem dX11_get_31 : decode cX11_get 31 = .ok (.iload 4, 2) := by decide +kernel
theorem dX11_get_33 : decode cX11_get 33 = .ok (.ifCond .eq 13, 3) := by decide +kernel
theorem dX11_get_36 : decode cX11_get 36 = .ok (.aload_n 0, 1) := by decide +kernel
theorem dX11_get_37 : decode cX11_get 37 = .ok (.iload 4, 2) := by decide +kernel
theorem dX11_get_39 : decode cX11_get 39 = .ok (.putfield 269, 3) := by decide +kernel
theorem dX11_get_42 : decode cX11_get 42 = .ok (.ldc_w 268, 3) := by decide +kernel
theorem dX11_get_45 : decode cX11_get 45 = .ok (.ireturn, 1) := by decide +kernel
theorem dX11_get_46 : decode cX11_get 46 = .ok (.aload_n 0, 1) := by decide +kernel
theorem dX11_get_47 : decode cX11_get 47 = .ok (.getfield 68, 3) := by decide +kernel
theorem dX11_get_50 : decode cX11_get 50 = .ok (.iload_n 1, 1) := by decide +kernel
theorem dX11_get_51 : decode cX11_get 51 = .ok (.aaload, 1) := by decide +kernel
theorem dX11_get_52 : decode cX11_get 52 = .ok (.getfield 227, 3) := by decide +kernel
theorem dX11_get_55 : decode cX11_get 55 = .ok (.iload_n 3, 1) := by decide +kernel
theorem dX11_get_56 : decode cX11_get 56 = .ok (.iaload, 1) := by decide +kernel
theorem dX11_get_57 : decode cX11_get 57 = .ok (.ireturn, 1) := by decide +kernel
theorem dX11_copy_0 : decode cX11_copy 0 = .ok (.iload_n 1, 1) := by decide +kernel
theorem dX11_copy_1 : decode cX11_copy 1 = .ok (.invokestatic 216, 3) := by decide +kernel
theorem dX11_copy_4 : decode cX11_copy 4 = .ok (.ifCond .eq 10, 3) := by decide +kernel
theorem dX11_copy_7 : decode cX11_copy 7 = .ok (.iload_n 3, 1) := by decide +kernel
theorem dX11_copy_8 : decode cX11_copy 8 = .ok (.invokestatic 216, 3) := by decide +kernel
theorem dX11_copy_11 : decode cX11_copy 11 = .ok (.ifCond .ne 6, 3) := by decide +kernel
theorem dX11_copy_14 : decode cX11_copy 14 = .ok (.bipush (-2), 2) := by decide +kernel
theorem dX11_copy_16 : decode cX11_copy 16 = .ok (.ireturn, 1) := by decide +kernel
theorem dX11_copy_17 : decode cX11_copy 17 = .ok (.aload_n 0, 1) := by decide +kernel
theorem dX11_copy_18 : decode cX11_copy 18 = .ok (.getfield 68, 3) := by decide +kernel
theorem dX11_copy_21 : decode cX11_copy 21 = .ok (.iload_n 1, 1) := by decide +kernel
theorem dX11_copy_22 : decode cX11_copy 22 = .ok (.aaload, 1) := by decide +kernel
theorem dX11_copy_23 : decode cX11_copy 23 = .ok (.astore 6, 2) := by decide +kernel
theorem dX11_copy_25 : decode cX11_copy 25 = .ok (.aload_n 0, 1) := by decide +kernel
theorem dX11_copy_26 : decode cX11_copy 26 = .ok (.getfield 68, 3) := by decide +kernel
theorem dX11_copy_29 : decode cX11_copy 29 = .ok (.iload_n 3, 1) := by decide +kernel
theorem dX11_copy_30 : decode cX11_copy 30 = .ok (.aaload, 1) := by decide +kernel
theorem dX11_copy_31 : decode cX11_copy 31 = .ok (.astore 7, 2) := by decide +kernel
theorem dX11_copy_33 : decode cX11_copy 33 = .ok (.aload 6, 2) := by decide +kernel
theorem dX11_copy_35 : decode cX11_copy 35 = .ok (.getfield 219, 3) := by decide +kernel
theorem dX11_copy_38 : decode cX11_copy 38 = .ok (.ifCond .ne 11, 3) := by decide +kernel
theorem dX11_copy_41 : decode cX11_copy 41 = .ok (.aload 7, 2) := by decide +kernel
theorem dX11_copy_43 : decode cX11_copy 43 = .ok (.getfield 219, 3) := by decide +kernel
theorem dX11_copy_46 : decode cX11_copy 46 = .ok (.ifCond .eq 9, 3) := by decide +kernel
theorem dX11_copy_49 : decode cX11_copy 49 = .ok (.aload_n 0, 1) := by decide +kernel
theorem dX11_copy_50 : decode cX11_copy 50 = .ok (.iconst 1, 1) := by decide +kernel
theorem dX11_copy_51 : decode cX11_copy 51 = .ok (.invokevirtual 223, 3) := by decide +kernel
theorem dX11_copy_54 : decode cX11_copy 54 = .ok (.ireturn, 1) := by decide +kernel
theorem dX11_copy_55 : decode cX11_copy 55 = .ok (.aload 6, 2) := by decide +kernel
theorem dX11_copy_57 : decode cX11_copy 57 = .ok (.getfield 272, 3) := by decide +kernel
theorem dX11_copy_60 : decode cX11_copy 60 = .ok (.aload 7, 2) := by decide +kernel
theorem dX11_copy_62 : decode cX11_copy 62 = .ok (.getfield 272, 3) := by decide +kernel
theorem dX11_copy_65 : decode cX11_copy 65 = .ok (.if_icmp .eq 9, 3) := by decide +kernel
theorem dX11_copy_68 : decode cX11_copy 68 = .ok (.aload_n 0, 1) := by decide +kernel
theorem dX11_copy_69 : decode cX11_copy 69 = .ok (.iconst 4, 1) := by decide +kernel
theorem dX11_copy_70 : decode cX11_copy 70 = .ok (.invokevirtual 223, 3) := by decide +kernel
theorem dX11_copy_73 : decode cX11_copy 73 = .ok (.ireturn, 1) := by decide +kernel
theorem dX11_copy_74 : decode cX11_copy 74 = .ok (.aload 6, 2) := by decide +kernel
theorem dX11_copy_76 : decode cX11_copy 76 = .ok (.iload_n 2, 1) := by decide +kernel
theorem dX11_copy_77 : decode cX11_copy 77 = .ok (.iload 5, 2) := by decide +kernel
theorem dX11_copy_79 : decode cX11_copy 79 = .ok (.invokevirtual 275, 3) := by decide +kernel
theorem dX11_copy_82 : decode cX11_copy 82 = .ok (.ifCond .eq 15, 3) := by decide +kernel
theorem dX11_copy_85 : decode cX11_copy 85 = .ok (.aload 7, 2) := by decide +kernel
theorem dX11_copy_87 : decode cX11_copy 87 = .ok (.iload 4, 2) := by decide +kernel
theorem dX11_copy_89 : decode cX11_copy 89 = .ok (.iload 5, 2) := by decide +kernel
theorem dX11_copy_91 : decode cX11_copy 91 = .ok (.invokevirtual 275, 3) := by decide +kernel
theorem dX11_copy_94 : decode cX11_copy 94 = .ok (.ifCond .ne 9, 3) := by decide +kernel
theorem dX11_copy_97 : decode cX11_copy 97 = .ok (.aload_n 0, 1) := by decide +kernel
theorem dX11_copy_98 : decode cX11_copy 98 = .ok (.iconst 2, 1) := by decide +kernel
theorem dX11_copy_99 : decode cX11_copy 99 = .ok (.invokevirtual 223, 3) := by decide +kernel
theorem dX11_copy_102 : decode cX11_copy 102 = .ok (.ireturn, 1) := by decide +kernel
theorem dX11_copy_103 : decode cX11_copy 103 = .ok (.aload 6, 2) := by decide +kernel
theorem dX11_copy_105 : decode cX11_copy 105 = .ok (.getfield 227, 3) := by decide +kernel
theorem dX11_copy_108 : decode cX11_copy 108 = .ok (.iload_n 2, 1) := by decide +kernel
theorem dX11_copy_109 : decode cX11_copy 109 = .ok (.aload 7, 2) := by decide +kernel
theorem dX11_copy_111 : decode cX11_copy 111 = .ok (.getfield 227, 3) := by decide +kernel
theorem dX11_copy_114 : decode cX11_copy 114 = .ok (.iload 4, 2) := by decide +kernel
theorem dX11_copy_116 : decode cX11_copy 116 = .ok (.iload 5, 2) := by decide +kernel
theorem dX11_copy_118 : decode cX11_copy 118 = .ok (.invokestatic 278, 3) := by decide +kernel
theorem dX11_copy_121 : decode cX11_copy 121 = .ok (.iconst 1, 1) := by decide +kernel
theorem dX11_copy_122 : decode cX11_copy 122 = .ok (.ireturn, 1) := by decide +kernel
theorem dX11_write_0 : decode cX11_write 0 = .ok (.iload_n 1, 1) := by decide +kernel
theorem dX11_write_1 : decode cX11_write 1 = .ok (.invokestatic 216, 3) := by decide +kernel
theorem dX11_write_4 : decode cX11_write 4 = .ok (.ifCond .ne 6, 3) := by decide +kernel
theorem dX11_write_7 : decode cX11_write 7 = .ok (.bipush (-2), 2) := by decide +kernel
theorem dX11_write_9 : decode cX11_write 9 = .ok (.ireturn, 1) := by decide +kernel
theorem dX11_write_10 : decode cX11_write 10 = .ok (.aload_n 0, 1) := by decide +kernel
theorem dX11_write_11 : decode cX11_write 11 = .ok (.getfield 68, 3) := by decide +kernel
theorem dX11_write_14 : decode cX11_write 14 = .ok (.iload_n 1, 1) := by decide +kernel
theorem dX11_write_15 : decode cX11_write 15 = .ok (.aaload, 1) := by decide +kernel
theorem dX11_write_16 : decode cX11_write 16 = .ok (.astore_n 2, 1) := by decide +kernel
theorem dX11_write_17 : decode cX11_write 17 = .ok (.aload_n 2, 1) := by decide +kernel
theorem dX11_write_18 : decode cX11_write 18 = .ok (.getfield 219, 3) := by decide +kernel
theorem dX11_write_21 : decode cX11_write 21 = .ok (.ifCond .eq 9, 3) := by decide +kernel
theorem dX11_write_24 : decode cX11_write 24 = .ok (.aload_n 0, 1) := by decide +kernel
theorem dX11_write_25 : decode cX11_write 25 = .ok (.iconst 1, 1) := by decide +kernel
theorem dX11_write_26 : decode cX11_write 26 = .ok (.invokevirtual 223, 3) := by decide +kernel
theorem dX11_write_29 : decode cX11_write 29 = .ok (.ireturn, 1) := by decide +kernel
theorem dX11_write_30 : decode cX11_write 30 = .ok (.aload_n 2, 1) := by decide +kernel
theorem dX11_write_31 : decode cX11_write 31 = .ok (.getfield 226, 3) := by decide +kernel
theorem dX11_write_34 : decode cX11_write 34 = .ok (.aload_n 0, 1) := by decide +kernel
theorem dX11_write_35 : decode cX11_write 35 = .ok (.getfield 31, 3) := by decide +kernel
theorem dX11_write_38 : decode cX11_write 38 = .ok (.getfield 134, 3) := by decide +kernel
theorem dX11_write_41 : decode cX11_write 41 = .ok (.invokestatic 284, 3) := by decide +kernel
theorem dX11_write_44 : decode cX11_write 44 = .ok (.istore_n 3, 1) := by decide +kernel
theorem dX11_write_45 : decode cX11_write 45 = .ok (.iconst 0, 1) := by decide +kernel
theorem dX11_write_46 : decode cX11_write 46 = .ok (.istore 4, 2) := by decide +kernel
theorem dX11_write_48 : decode cX11_write 48 = .ok (.iload 4, 2) := by decide +kernel
theorem dX11_write_50 : decode cX11_write 50 = .ok (.iload_n 3, 1) := by decide +kernel
theorem dX11_write_51 : decode cX11_write 51 = .ok (.if_icmp .ge 25, 3) := by decide +kernel
theorem dX11_write_54 : decode cX11_write 54 = .ok (.aload_n 2, 1) := by decide +kernel
theorem dX11_write_55 : decode cX11_write 55 = .ok (.iload 4, 2) := by decide +kernel
theorem dX11_write_57 : decode cX11_write 57 = .ok (.aload_n 0, 1) := by decide +kernel
theorem dX11_write_58 : decode cX11_write 58 = .ok (.getfield 45, 3) := by decide +kernel
theorem dX11_write_61 : decode cX11_write 61 = .ok (.getfield 138, 3) := by decide +kernel
theorem dX11_write_64 : decode cX11_write 64 = .ok (.iload 4, 2) := by decide +kernel
theorem dX11_write_66 : decode cX11_write 66 = .ok (.iaload, 1) := by decide +kernel
theorem dX11_write_67 : decode cX11_write 67 = .ok (.invokevirtual 265, 3) := by decide +kernel
theorem dX11_write_70 : decode cX11_write 70 = .ok (.iinc 4 1, 3) := by decide +kernel
theorem dX11_write_73 : decode cX11_write 73 = .ok (.goto (-25), 3) := by decide +kernel
theorem dX11_write_76 : decode cX11_write 76 = .ok (.iload_n 3, 1) := by decide +kernel
theorem dX11_write_77 : decode cX11_write 77 = .ok (.ireturn, 1) := by decide +kernel
theorem dX11_count_0 : decode cX11_count 0 = .ok (.iload_n 1, 1) := by decide +kernel
theorem dX11_count_1 : decode cX11_count 1 = .ok (.tableswitch 135 0 8 #[51, 59, 67, 75, 83, 91, 107, 122, 130], 51) := by decide +kernel
theorem dX11_count_52 : decode cX11_count 52 = .ok (.aload_n 0, 1) := by decide +kernel
theorem dX11_count_53 : decode cX11_count 53 = .ok (.getfield 24, 3) := by decide +kernel
theorem dX11_count_56 : decode cX11_count 56 = .ok (.getfield 238, 3) := by decide +kernel
theorem dX11_count_59 : decode cX11_count 59 = .ok (.ireturn, 1) := by decide +kernel
theorem dX11_count_60 : decode cX11_count 60 = .ok (.aload_n 0, 1) := by decide +kernel
theorem dX11_count_61 : decode cX11_count 61 = .ok (.getfield 31, 3) := by decide +kernel
theorem dX11_count_64 : decode cX11_count 64 = .ok (.getfield 134, 3) := by decide +kernel
theorem dX11_count_67 : decode cX11_count 67 = .ok (.ireturn, 1) := by decide +kernel
theorem dX11_count_68 : decode cX11_count 68 = .ok (.aload_n 0, 1) := by decide +kernel
theorem dX11_count_69 : decode cX11_count 69 = .ok (.getfield 14, 3) := by decide +kernel
theorem dX11_count_72 : decode cX11_count 72 = .ok (.getfield 106, 3) := by decide +kernel
theorem dX11_count_75 : decode cX11_count 75 = .ok (.ireturn, 1) := by decide +kernel
theorem dX11_count_76 : decode cX11_count 76 = .ok (.aload_n 0, 1) := by decide +kernel
theorem dX11_count_77 : decode cX11_count 77 = .ok (.getfield 18, 3) := by decide +kernel
theorem dX11_count_80 : decode cX11_count 80 = .ok (.getfield 106, 3) := by decide +kernel
theorem dX11_count_83 : decode cX11_count 83 = .ok (.ireturn, 1) := by decide +kernel
theorem dX11_count_84 : decode cX11_count 84 = .ok (.aload_n 0, 1) := by decide +kernel
theorem dX11_count_85 : decode cX11_count 85 = .ok (.getfield 45, 3) := by decide +kernel
theorem dX11_count_88 : decode cX11_count 88 = .ok (.invokevirtual 289, 3) := by decide +kernel
theorem dX11_count_91 : decode cX11_count 91 = .ok (.ireturn, 1) := by decide +kernel
theorem dX11_count_92 : decode cX11_count 92 = .ok (.aload_n 0, 1) := by decide +kernel
theorem dX11_count_93 : decode cX11_count 93 = .ok (.getfield 45, 3) := by decide +kernel
theorem dX11_count_96 : decode cX11_count 96 = .ok (.getfield 149, 3) := by decide +kernel
theorem dX11_count_99 : decode cX11_count 99 = .ok (.aload_n 0, 1) := by decide +kernel
theorem dX11_count_100 : decode cX11_count 100 = .ok (.getfield 45, 3) := by decide +kernel
theorem dX11_count_103 : decode cX11_count 103 = .ok (.getfield 252, 3) := by decide +kernel
theorem dX11_count_106 : decode cX11_count 106 = .ok (.iaload, 1) := by decide +kernel
theorem dX11_count_107 : decode cX11_count 107 = .ok (.ireturn, 1) := by decide +kernel
theorem dX11_count_108 : decode cX11_count 108 = .ok (.aload_n 0, 1) := by decide +kernel
theorem dX11_count_109 : decode cX11_count 109 = .ok (.getfield 45, 3) := by decide +kernel
theorem dX11_count_112 : decode cX11_count 112 = .ok (.aload_n 0, 1) := by decide +kernel
theorem dX11_count_113 : decode cX11_count 113 = .ok (.getfield 24, 3) := by decide +kernel
theorem dX11_count_116 : decode cX11_count 116 = .ok (.getfield 238, 3) := by decide +kernel
theorem dX11_count_119 : decode cX11_count 119 = .ok (.invokevirtual 292, 3) := by decide +kernel
theorem dX11_count_122 : decode cX11_count 122 = .ok (.ireturn, 1) := by decide +kernel
theorem dX11_count_123 : decode cX11_count 123 = .ok (.aload_n 0, 1) := by decide +kernel
theorem dX11_count_124 : decode cX11_count 124 = .ok (.getfield 62, 3) := by decide +kernel
theorem dX11_count_127 : decode cX11_count 127 = .ok (.getfield 215, 3) := by decide +kernel
theorem dX11_count_130 : decode cX11_count 130 = .ok (.ireturn, 1) := by decide +kernel
theorem dX11_count_131 : decode cX11_count 131 = .ok (.aload_n 0, 1) := by decide +kernel
theorem dX11_count_132 : decode cX11_count 132 = .ok (.getfield 269, 3) := by decide +kernel
theorem dX11_count_135 : decode cX11_count 135 = .ok (.ireturn, 1) := by decide +kernel
theorem dX11_count_136 : decode cX11_count 136 = .ok (.bipush (-2), 2) := by decide +kernel
theorem dX11_count_138 : decode cX11_count 138 = .ok (.ireturn, 1) := by decide +kernel
theorem dX11_digest_0 : decode cX11_digest 0 = .ok (.ldc2_w 295, 3) := by decide +kernel
theorem dX11_digest_3 : decode cX11_digest 3 = .ok (.lstore_n 1, 1) := by decide +kernel
theorem dX11_digest_4 : decode cX11_digest 4 = .ok (.iconst 0, 1) := by decide +kernel
theorem dX11_digest_5 : decode cX11_digest 5 = .ok (.istore_n 3, 1) := by decide +kernel
theorem dX11_digest_6 : decode cX11_digest 6 = .ok (.iload_n 3, 1) := by decide +kernel
theorem dX11_digest_7 : decode cX11_digest 7 = .ok (.bipush 7, 2) := by decide +kernel
theorem dX11_digest_9 : decode cX11_digest 9 = .ok (.if_icmp .gt 22, 3) := by decide +kernel
theorem dX11_digest_12 : decode cX11_digest 12 = .ok (.ldc2_w 297, 3) := by decide +kernel
theorem dX11_digest_15 : decode cX11_digest 15 = .ok (.lload_n 1, 1) := by decide +kernel
theorem dX11_digest_16 : decode cX11_digest 16 = .ok (.lmul, 1) := by decide +kernel
theorem dX11_digest_17 : decode cX11_digest 17 = .ok (.aload_n 0, 1) := by decide +kernel
theorem dX11_digest_18 : decode cX11_digest 18 = .ok (.iload_n 3, 1) := by decide +kernel
theorem dX11_digest_19 : decode cX11_digest 19 = .ok (.invokevirtual 299, 3) := by decide +kernel
theorem dX11_digest_22 : decode cX11_digest 22 = .ok (.i2l, 1) := by decide +kernel
theorem dX11_digest_23 : decode cX11_digest 23 = .ok (.ladd, 1) := by decide +kernel
theorem dX11_digest_24 : decode cX11_digest 24 = .ok (.lstore_n 1, 1) := by decide +kernel
theorem dX11_digest_25 : decode cX11_digest 25 = .ok (.iinc 3 1, 3) := by decide +kernel
theorem dX11_digest_28 : decode cX11_digest 28 = .ok (.goto (-22), 3) := by decide +kernel
theorem dX11_digest_31 : decode cX11_digest 31 = .ok (.ldc2_w 297, 3) := by decide +kernel
theorem dX11_digest_34 : decode cX11_digest 34 = .ok (.lload_n 1, 1) := by decide +kernel
theorem dX11_digest_35 : decode cX11_digest 35 = .ok (.lmul, 1) := by decide +kernel
theorem dX11_digest_36 : decode cX11_digest 36 = .ok (.aload_n 0, 1) := by decide +kernel
theorem dX11_digest_37 : decode cX11_digest 37 = .ok (.iconst 0, 1) := by decide +kernel
theorem dX11_digest_38 : decode cX11_digest 38 = .ok (.invokevirtual 302, 3) := by decide +kernel
theorem dX11_digest_41 : decode cX11_digest 41 = .ok (.i2l, 1) := by decide +kernel
theorem dX11_digest_42 : decode cX11_digest 42 = .ok (.ladd, 1) := by decide +kernel
theorem dX11_digest_43 : decode cX11_digest 43 = .ok (.lstore_n 1, 1) := by decide +kernel
theorem dX11_digest_44 : decode cX11_digest 44 = .ok (.ldc2_w 297, 3) := by decide +kernel
theorem dX11_digest_47 : decode cX11_digest 47 = .ok (.lload_n 1, 1) := by decide +kernel
theorem dX11_digest_48 : decode cX11_digest 48 = .ok (.lmul, 1) := by decide +kernel
theorem dX11_digest_49 : decode cX11_digest 49 = .ok (.aload_n 0, 1) := by decide +kernel
theorem dX11_digest_50 : decode cX11_digest 50 = .ok (.iconst 1, 1) := by decide +kernel
theorem dX11_digest_51 : decode cX11_digest 51 = .ok (.invokevirtual 302, 3) := by decide +kernel
theorem dX11_digest_54 : decode cX11_digest 54 = .ok (.i2l, 1) := by decide +kernel
theorem dX11_digest_55 : decode cX11_digest 55 = .ok (.ladd, 1) := by decide +kernel
theorem dX11_digest_56 : decode cX11_digest 56 = .ok (.lstore_n 1, 1) := by decide +kernel
theorem dX11_digest_57 : decode cX11_digest 57 = .ok (.aload_n 0, 1) := by decide +kernel
theorem dX11_digest_58 : decode cX11_digest 58 = .ok (.aload_n 0, 1) := by decide +kernel
theorem dX11_digest_59 : decode cX11_digest 59 = .ok (.aload_n 0, 1) := by decide +kernel
theorem dX11_digest_60 : decode cX11_digest 60 = .ok (.lload_n 1, 1) := by decide +kernel
theorem dX11_digest_61 : decode cX11_digest 61 = .ok (.invokevirtual 305, 3) := by decide +kernel
theorem dX11_digest_64 : decode cX11_digest 64 = .ok (.invokevirtual 309, 3) := by decide +kernel
theorem dX11_digest_67 : decode cX11_digest 67 = .ok (.invokevirtual 312, 3) := by decide +kernel
theorem dX11_digest_70 : decode cX11_digest 70 = .ok (.lstore_n 1, 1) := by decide +kernel
theorem dX11_digest_71 : decode cX11_digest 71 = .ok (.ldc2_w 297, 3) := by decide +kernel
theorem dX11_digest_74 : decode cX11_digest 74 = .ok (.lload_n 1, 1) := by decide +kernel
theorem dX11_digest_75 : decode cX11_digest 75 = .ok (.lmul, 1) := by decide +kernel
theorem dX11_digest_76 : decode cX11_digest 76 = .ok (.aload_n 0, 1) := by decide +kernel
theorem dX11_digest_77 : decode cX11_digest 77 = .ok (.invokevirtual 315, 3) := by decide +kernel
theorem dX11_digest_80 : decode cX11_digest 80 = .ok (.i2l, 1) := by decide +kernel
theorem dX11_digest_81 : decode cX11_digest 81 = .ok (.ladd, 1) := by decide +kernel
theorem dX11_digest_82 : decode cX11_digest 82 = .ok (.lstore_n 1, 1) := by decide +kernel
theorem dX11_digest_83 : decode cX11_digest 83 = .ok (.ldc2_w 297, 3) := by decide +kernel
theorem dX11_digest_86 : decode cX11_digest 86 = .ok (.lload_n 1, 1) := by decide +kernel
theorem dX11_digest_87 : decode cX11_digest 87 = .ok (.lmul, 1) := by decide +kernel
theorem dX11_digest_88 : decode cX11_digest 88 = .ok (.aload_n 0, 1) := by decide +kernel
theorem dX11_digest_89 : decode cX11_digest 89 = .ok (.invokevirtual 318, 3) := by decide +kernel
theorem dX11_digest_92 : decode cX11_digest 92 = .ok (.i2l, 1) := by decide +kernel
theorem dX11_digest_93 : decode cX11_digest 93 = .ok (.ladd, 1) := by decide +kernel
theorem dX11_digest_94 : decode cX11_digest 94 = .ok (.lstore_n 1, 1) := by decide +kernel
theorem dX11_digest_95 : decode cX11_digest 95 = .ok (.ldc2_w 297, 3) := by decide +kernel
theorem dX11_digest_98 : decode cX11_digest 98 = .ok (.lload_n 1, 1) := by decide +kernel
theorem dX11_digest_99 : decode cX11_digest 99 = .ok (.lmul, 1) := by decide +kernel
theorem dX11_digest_100 : decode cX11_digest 100 = .ok (.aload_n 0, 1) := by decide +kernel
theorem dX11_digest_101 : decode cX11_digest 101 = .ok (.bipush 7, 2) := by decide +kernel
theorem dX11_digest_103 : decode cX11_digest 103 = .ok (.bipush 30, 2) := by decide +kernel
theorem dX11_digest_105 : decode cX11_digest 105 = .ok (.iconst 0, 1) := by decide +kernel
theorem dX11_digest_106 : decode cX11_digest 106 = .ok (.invokevirtual 321, 3) := by decide +kernel
theorem dX11_digest_109 : decode cX11_digest 109 = .ok (.i2l, 1) := by decide +kernel
theorem dX11_digest_110 : decode cX11_digest 110 = .ok (.ladd, 1) := by decide +kernel
theorem dX11_digest_111 : decode cX11_digest 111 = .ok (.lstore_n 1, 1) := by decide +kernel
theorem dX11_digest_112 : decode cX11_digest 112 = .ok (.ldc2_w 297, 3) := by decide +kernel
theorem dX11_digest_115 : decode cX11_digest 115 = .ok (.lload_n 1, 1) := by decide +kernel
theorem dX11_digest_116 : decode cX11_digest 116 = .ok (.lmul, 1) := by decide +kernel
theorem dX11_digest_117 : decode cX11_digest 117 = .ok (.aload_n 0, 1) := by decide +kernel
theorem dX11_digest_118 : decode cX11_digest 118 = .ok (.bipush 7, 2) := by decide +kernel
theorem dX11_digest_120 : decode cX11_digest 120 = .ok (.bipush 30, 2) := by decide +kernel
theorem dX11_digest_122 : decode cX11_digest 122 = .ok (.iconst 1, 1) := by decide +kernel
theorem dX11_digest_123 : decode cX11_digest 123 = .ok (.invokevirtual 321, 3) := by decide +kernel
theorem dX11_digest_126 : decode cX11_digest 126 = .ok (.i2l, 1) := by decide +kernel
theorem dX11_digest_127 : decode cX11_digest 127 = .ok (.ladd, 1) := by decide +kernel
theorem dX11_digest_128 : decode cX11_digest 128 = .ok (.lreturn, 1) := by decide +kernel
theorem dX11_digestOfFelons_0 : decode cX11_digestOfFelons 0 = .ok (.lload_n 1, 1) := by decide +kernel
theorem dX11_digestOfFelons_1 : decode cX11_digestOfFelons 1 = .ok (.lstore_n 3, 1) := by decide +kernel
theorem dX11_digestOfFelons_2 : decode cX11_digestOfFelons 2 = .ok (.iconst 0, 1) := by decide +kernel
theorem dX11_digestOfFelons_3 : decode cX11_digestOfFelons 3 = .ok (.istore 5, 2) := by decide +kernel
theorem dX11_digestOfFelons_5 : decode cX11_digestOfFelons 5 = .ok (.iload 5, 2) := by decide +kernel
theorem dX11_digestOfFelons_7 : decode cX11_digestOfFelons 7 = .ok (.aload_n 0, 1) := by decide +kernel
theorem dX11_digestOfFelons_8 : decode cX11_digestOfFelons 8 = .ok (.getfield 24, 3) := by decide +kernel
theorem dX11_digestOfFelons_11 : decode cX11_digestOfFelons 11 = .ok (.getfield 238, 3) := by decide +kernel
theorem dX11_digestOfFelons_14 : decode cX11_digestOfFelons 14 = .ok (.if_icmp .ge 82, 3) := by decide +kernel
theorem dX11_digestOfFelons_17 : decode cX11_digestOfFelons 17 = .ok (.iconst 0, 1) := by decide +kernel
theorem dX11_digestOfFelons_18 : decode cX11_digestOfFelons 18 = .ok (.istore 6, 2) := by decide +kernel
theorem dX11_digestOfFelons_20 : decode cX11_digestOfFelons 20 = .ok (.iload 6, 2) := by decide +kernel
theorem dX11_digestOfFelons_22 : decode cX11_digestOfFelons 22 = .ok (.iconst 4, 1) := by decide +kernel
theorem dX11_digestOfFelons_23 : decode cX11_digestOfFelons 23 = .ok (.if_icmp .gt 25, 3) := by decide +kernel
theorem dX11_digestOfFelons_26 : decode cX11_digestOfFelons 26 = .ok (.ldc2_w 297, 3) := by decide +kernel
theorem dX11_digestOfFelons_29 : decode cX11_digestOfFelons 29 = .ok (.lload_n 3, 1) := by decide +kernel
theorem dX11_digestOfFelons_30 : decode cX11_digestOfFelons 30 = .ok (.lmul, 1) := by decide +kernel
theorem dX11_digestOfFelons_31 : decode cX11_digestOfFelons 31 = .ok (.aload_n 0, 1) := by decide +kernel
theorem dX11_digestOfFelons_32 : decode cX11_digestOfFelons 32 = .ok (.iload 5, 2) := by decide +kernel
theorem dX11_digestOfFelons_34 : decode cX11_digestOfFelons 34 = .ok (.iload 6, 2) := by decide +kernel
theorem dX11_digestOfFelons_36 : decode cX11_digestOfFelons 36 = .ok (.invokevirtual 325, 3) := by decide +kernel
theorem dX11_digestOfFelons_39 : decode cX11_digestOfFelons 39 = .ok (.i2l, 1) := by decide +kernel
theorem dX11_digestOfFelons_40 : decode cX11_digestOfFelons 40 = .ok (.ladd, 1) := by decide +kernel
theorem dX11_digestOfFelons_41 : decode cX11_digestOfFelons 41 = .ok (.lstore_n 3, 1) := by decide +kernel
theorem dX11_digestOfFelons_42 : decode cX11_digestOfFelons 42 = .ok (.iinc 6 1, 3) := by decide +kernel
theorem dX11_digestOfFelons_45 : decode cX11_digestOfFelons 45 = .ok (.goto (-25), 3) := by decide +kernel
theorem dX11_digestOfFelons_48 : decode cX11_digestOfFelons 48 = .ok (.ldc2_w 297, 3) := by decide +kernel
theorem dX11_digestOfFelons_51 : decode cX11_digestOfFelons 51 = .ok (.lload_n 3, 1) := by decide +kernel
theorem dX11_digestOfFelons_52 : decode cX11_digestOfFelons 52 = .ok (.lmul, 1) := by decide +kernel
theorem dX11_digestOfFelons_53 : decode cX11_digestOfFelons 53 = .ok (.aload_n 0, 1) := by decide +kernel
theorem dX11_digestOfFelons_54 : decode cX11_digestOfFelons 54 = .ok (.iload 5, 2) := by decide +kernel
theorem dX11_digestOfFelons_56 : decode cX11_digestOfFelons 56 = .ok (.invokevirtual 328, 3) := by decide +kernel
theorem dX11_digestOfFelons_59 : decode cX11_digestOfFelons 59 = .ok (.i2l, 1) := by decide +kernel
theorem dX11_digestOfFelons_60 : decode cX11_digestOfFelons 60 = .ok (.ladd, 1) := by decide +kernel
theorem dX11_digestOfFelons_61 : decode cX11_digestOfFelons 61 = .ok (.lstore_n 3, 1) := by decide +kernel
theorem dX11_digestOfFelons_62 : decode cX11_digestOfFelons 62 = .ok (.ldc2_w 297, 3) := by decide +kernel
theorem dX11_digestOfFelons_65 : decode cX11_digestOfFelons 65 = .ok (.lload_n 3, 1) := by decide +kernel
theorem dX11_digestOfFelons_66 : decode cX11_digestOfFelons 66 = .ok (.lmul, 1) := by decide +kernel
theorem dX11_digestOfFelons_67 : decode cX11_digestOfFelons 67 = .ok (.aload_n 0, 1) := by decide +kernel
theorem dX11_digestOfFelons_68 : decode cX11_digestOfFelons 68 = .ok (.iload 5, 2) := by decide +kernel
theorem dX11_digestOfFelons_70 : decode cX11_digestOfFelons 70 = .ok (.invokevirtual 331, 3) := by decide +kernel
theorem dX11_digestOfFelons_73 : decode cX11_digestOfFelons 73 = .ok (.i2l, 1) := by decide +kernel
theorem dX11_digestOfFelons_74 : decode cX11_digestOfFelons 74 = .ok (.ladd, 1) := by decide +kernel
theorem dX11_digestOfFelons_75 : decode cX11_digestOfFelons 75 = .ok (.lstore_n 3, 1) := by decide +kernel
theorem dX11_digestOfFelons_76 : decode cX11_digestOfFelons 76 = .ok (.ldc2_w 297, 3) := by decide +kernel
theorem dX11_digestOfFelons_79 : decode cX11_digestOfFelons 79 = .ok (.lload_n 3, 1) := by decide +kernel
theorem dX11_digestOfFelons_80 : decode cX11_digestOfFelons 80 = .ok (.lmul, 1) := by decide +kernel
theorem dX11_digestOfFelons_81 : decode cX11_digestOfFelons 81 = .ok (.aload_n 0, 1) := by decide +kernel
theorem dX11_digestOfFelons_82 : decode cX11_digestOfFelons 82 = .ok (.iload 5, 2) := by decide +kernel
theorem dX11_digestOfFelons_84 : decode cX11_digestOfFelons 84 = .ok (.invokevirtual 334, 3) := by decide +kernel
theorem dX11_digestOfFelons_87 : decode cX11_digestOfFelons 87 = .ok (.i2l, 1) := by decide +kernel
theorem dX11_digestOfFelons_88 : decode cX11_digestOfFelons 88 = .ok (.ladd, 1) := by decide +kernel
theorem dX11_digestOfFelons_89 : decode cX11_digestOfFelons 89 = .ok (.lstore_n 3, 1) := by decide +kernel
theorem dX11_digestOfFelons_90 : decode cX11_digestOfFelons 90 = .ok (.iinc 5 1, 3) := by decide +kernel
theorem dX11_digestOfFelons_93 : decode cX11_digestOfFelons 93 = .ok (.goto (-88), 3) := by decide +kernel
theorem dX11_digestOfFelons_96 : decode cX11_digestOfFelons 96 = .ok (.lload_n 3, 1) := by decide +kernel
theorem dX11_digestOfFelons_97 : decode cX11_digestOfFelons 97 = .ok (.lreturn, 1) := by decide +kernel
theorem dX11_digestOfNames_0 : decode cX11_digestOfNames 0 = .ok (.lload_n 1, 1) := by decide +kernel
theorem dX11_digestOfNames_1 : decode cX11_digestOfNames 1 = .ok (.lstore_n 3, 1) := by decide +kernel
theorem dX11_digestOfNames_2 : decode cX11_digestOfNames 2 = .ok (.iconst 0, 1) := by decide +kernel
theorem dX11_digestOfNames_3 : decode cX11_digestOfNames 3 = .ok (.istore 5, 2) := by decide +kernel
theorem dX11_digestOfNames_5 : decode cX11_digestOfNames 5 = .ok (.iload 5, 2) := by decide +kernel
theorem dX11_digestOfNames_7 : decode cX11_digestOfNames 7 = .ok (.aload_n 0, 1) := by decide +kernel
theorem dX11_digestOfNames_8 : decode cX11_digestOfNames 8 = .ok (.getfield 31, 3) := by decide +kernel
theorem dX11_digestOfNames_11 : decode cX11_digestOfNames 11 = .ok (.getfield 134, 3) := by decide +kernel
theorem dX11_digestOfNames_14 : decode cX11_digestOfNames 14 = .ok (.if_icmp .ge 53, 3) := by decide +kernel
theorem dX11_digestOfNames_17 : decode cX11_digestOfNames 17 = .ok (.ldc2_w 297, 3) := by decide +kernel
theorem dX11_digestOfNames_20 : decode cX11_digestOfNames 20 = .ok (.lload_n 3, 1) := by decide +kernel
theorem dX11_digestOfNames_21 : decode cX11_digestOfNames 21 = .ok (.lmul, 1) := by decide +kernel
theorem dX11_digestOfNames_22 : decode cX11_digestOfNames 22 = .ok (.aload_n 0, 1) := by decide +kernel
theorem dX11_digestOfNames_23 : decode cX11_digestOfNames 23 = .ok (.iload 5, 2) := by decide +kernel
theorem dX11_digestOfNames_25 : decode cX11_digestOfNames 25 = .ok (.invokevirtual 337, 3) := by decide +kernel
theorem dX11_digestOfNames_28 : decode cX11_digestOfNames 28 = .ok (.i2l, 1) := by decide +kernel
theorem dX11_digestOfNames_29 : decode cX11_digestOfNames 29 = .ok (.ladd, 1) := by decide +kernel
theorem dX11_digestOfNames_30 : decode cX11_digestOfNames 30 = .ok (.lstore_n 3, 1) := by decide +kernel
theorem dX11_digestOfNames_31 : decode cX11_digestOfNames 31 = .ok (.ldc2_w 297, 3) := by decide +kernel
theorem dX11_digestOfNames_34 : decode cX11_digestOfNames 34 = .ok (.lload_n 3, 1) := by decide +kernel
theorem dX11_digestOfNames_35 : decode cX11_digestOfNames 35 = .ok (.lmul, 1) := by decide +kernel
theorem dX11_digestOfNames_36 : decode cX11_digestOfNames 36 = .ok (.aload_n 0, 1) := by decide +kernel
theorem dX11_digestOfNames_37 : decode cX11_digestOfNames 37 = .ok (.iload 5, 2) := by decide +kernel
theorem dX11_digestOfNames_39 : decode cX11_digestOfNames 39 = .ok (.iconst 0, 1) := by decide +kernel
theorem dX11_digestOfNames_40 : decode cX11_digestOfNames 40 = .ok (.invokevirtual 340, 3) := by decide +kernel
theorem dX11_digestOfNames_43 : decode cX11_digestOfNames 43 = .ok (.i2l, 1) := by decide +kernel
theorem dX11_digestOfNames_44 : decode cX11_digestOfNames 44 = .ok (.ladd, 1) := by decide +kernel
theorem dX11_digestOfNames_45 : decode cX11_digestOfNames 45 = .ok (.lstore_n 3, 1) := by decide +kernel
theorem dX11_digestOfNames_46 : decode cX11_digestOfNames 46 = .ok (.ldc2_w 297, 3) := by decide +kernel
theorem dX11_digestOfNames_49 : decode cX11_digestOfNames 49 = .ok (.lload_n 3, 1) := by decide +kernel
theorem dX11_digestOfNames_50 : decode cX11_digestOfNames 50 = .ok (.lmul, 1) := by decide +kernel
theorem dX11_digestOfNames_51 : decode cX11_digestOfNames 51 = .ok (.aload_n 0, 1) := by decide +kernel
theorem dX11_digestOfNames_52 : decode cX11_digestOfNames 52 = .ok (.iload 5, 2) := by decide +kernel
theorem dX11_digestOfNames_54 : decode cX11_digestOfNames 54 = .ok (.iconst 1, 1) := by decide +kernel
theorem dX11_digestOfNames_55 : decode cX11_digestOfNames 55 = .ok (.invokevirtual 340, 3) := by decide +kernel
theorem dX11_digestOfNames_58 : decode cX11_digestOfNames 58 = .ok (.i2l, 1) := by decide +kernel
theorem dX11_digestOfNames_59 : decode cX11_digestOfNames 59 = .ok (.ladd, 1) := by decide +kernel
theorem dX11_digestOfNames_60 : decode cX11_digestOfNames 60 = .ok (.lstore_n 3, 1) := by decide +kernel
theorem dX11_digestOfNames_61 : decode cX11_digestOfNames 61 = .ok (.iinc 5 1, 3) := by decide +kernel
theorem dX11_digestOfNames_64 : decode cX11_digestOfNames 64 = .ok (.goto (-59), 3) := by decide +kernel
theorem dX11_digestOfNames_67 : decode cX11_digestOfNames 67 = .ok (.iconst 0, 1) := by decide +kernel
theorem dX11_digestOfNames_68 : decode cX11_digestOfNames 68 = .ok (.istore 5, 2) := by decide +kernel
theorem dX11_digestOfNames_70 : decode cX11_digestOfNames 70 = .ok (.iload 5, 2) := by decide +kernel
theorem dX11_digestOfNames_72 : decode cX11_digestOfNames 72 = .ok (.aload_n 0, 1) := by decide +kernel
theorem dX11_digestOfNames_73 : decode cX11_digestOfNames 73 = .ok (.getfield 31, 3) := by decide +kernel
theorem dX11_digestOfNames_76 : decode cX11_digestOfNames 76 = .ok (.getfield 134, 3) := by decide +kernel
theorem dX11_digestOfNames_79 : decode cX11_digestOfNames 79 = .ok (.if_icmp .gt 67, 3) := by decide +kernel
theorem dX11_digestOfNames_82 : decode cX11_digestOfNames 82 = .ok (.ldc2_w 297, 3) := by decide +kernel
theorem dX11_digestOfNames_85 : decode cX11_digestOfNames 85 = .ok (.lload_n 3, 1) := by decide +kernel
theorem dX11_digestOfNames_86 : decode cX11_digestOfNames 86 = .ok (.lmul, 1) := by decide +kernel
theorem dX11_digestOfNames_87 : decode cX11_digestOfNames 87 = .ok (.aload_n 0, 1) := by decide +kernel
theorem dX11_digestOfNames_88 : decode cX11_digestOfNames 88 = .ok (.iload 5, 2) := by decide +kernel
theorem dX11_digestOfNames_90 : decode cX11_digestOfNames 90 = .ok (.iconst 0, 1) := by decide +kernel
theorem dX11_digestOfNames_91 : decode cX11_digestOfNames 91 = .ok (.invokevirtual 343, 3) := by decide +kernel
theorem dX11_digestOfNames_94 : decode cX11_digestOfNames 94 = .ok (.i2l, 1) := by decide +kernel
theorem dX11_digestOfNames_95 : decode cX11_digestOfNames 95 = .ok (.ladd, 1) := by decide +kernel
theorem dX11_digestOfNames_96 : decode cX11_digestOfNames 96 = .ok (.lstore_n 3, 1) := by decide +kernel
theorem dX11_digestOfNames_97 : decode cX11_digestOfNames 97 = .ok (.ldc2_w 297, 3) := by decide +kernel
theorem dX11_digestOfNames_100 : decode cX11_digestOfNames 100 = .ok (.lload_n 3, 1) := by decide +kernel
theorem dX11_digestOfNames_101 : decode cX11_digestOfNames 101 = .ok (.lmul, 1) := by decide +kernel
theorem dX11_digestOfNames_102 : decode cX11_digestOfNames 102 = .ok (.aload_n 0, 1) := by decide +kernel
theorem dX11_digestOfNames_103 : decode cX11_digestOfNames 103 = .ok (.iload 5, 2) := by decide +kernel
theorem dX11_digestOfNames_105 : decode cX11_digestOfNames 105 = .ok (.iconst 1, 1) := by decide +kernel
theorem dX11_digestOfNames_106 : decode cX11_digestOfNames 106 = .ok (.invokevirtual 343, 3) := by decide +kernel
theorem dX11_digestOfNames_109 : decode cX11_digestOfNames 109 = .ok (.i2l, 1) := by decide +kernel
theorem dX11_digestOfNames_110 : decode cX11_digestOfNames 110 = .ok (.ladd, 1) := by decide +kernel
theorem dX11_digestOfNames_111 : decode cX11_digestOfNames 111 = .ok (.lstore_n 3, 1) := by decide +kernel
theorem dX11_digestOfNames_112 : decode cX11_digestOfNames 112 = .ok (.ldc2_w 297, 3) := by decide +kernel
theorem dX11_digestOfNames_115 : decode cX11_digestOfNames 115 = .ok (.lload_n 3, 1) := by decide +kernel
theorem dX11_digestOfNames_116 : decode cX11_digestOfNames 116 = .ok (.lmul, 1) := by decide +kernel
theorem dX11_digestOfNames_117 : decode cX11_digestOfNames 117 = .ok (.aload_n 0, 1) := by decide +kernel
theorem dX11_digestOfNames_118 : decode cX11_digestOfNames 118 = .ok (.iload 5, 2) := by decide +kernel
theorem dX11_digestOfNames_120 : decode cX11_digestOfNames 120 = .ok (.iconst 0, 1) := by decide +kernel
theorem dX11_digestOfNames_121 : decode cX11_digestOfNames 121 = .ok (.invokevirtual 346, 3) := by decide +kernel
theorem dX11_digestOfNames_124 : decode cX11_digestOfNames 124 = .ok (.ladd, 1) := by decide +kernel
theorem dX11_digestOfNames_125 : decode cX11_digestOfNames 125 = .ok (.lstore_n 3, 1) := by decide +kernel
theorem dX11_digestOfNames_126 : decode cX11_digestOfNames 126 = .ok (.ldc2_w 297, 3) := by decide +kernel
theorem dX11_digestOfNames_129 : decode cX11_digestOfNames 129 = .ok (.lload_n 3, 1) := by decide +kernel
theorem dX11_digestOfNames_130 : decode cX11_digestOfNames 130 = .ok (.lmul, 1) := by decide +kernel
theorem dX11_digestOfNames_131 : decode cX11_digestOfNames 131 = .ok (.aload_n 0, 1) := by decide +kernel
theorem dX11_digestOfNames_132 : decode cX11_digestOfNames 132 = .ok (.iload 5, 2) := by decide +kernel
theorem dX11_digestOfNames_134 : decode cX11_digestOfNames 134 = .ok (.iconst 1, 1) := by decide +kernel
theorem dX11_digestOfNames_135 : decode cX11_digestOfNames 135 = .ok (.invokevirtual 346, 3) := by decide +kernel
theorem dX11_digestOfNames_138 : decode cX11_digestOfNames 138 = .ok (.ladd, 1) := by decide +kernel
theorem dX11_digestOfNames_139 : decode cX11_digestOfNames 139 = .ok (.lstore_n 3, 1) := by decide +kernel
theorem dX11_digestOfNames_140 : decode cX11_digestOfNames 140 = .ok (.iinc 5 1, 3) := by decide +kernel
theorem dX11_digestOfNames_143 : decode cX11_digestOfNames 143 = .ok (.goto (-73), 3) := by decide +kernel
theorem dX11_digestOfNames_146 : decode cX11_digestOfNames 146 = .ok (.lload_n 3, 1) := by decide +kernel
theorem dX11_digestOfNames_147 : decode cX11_digestOfNames 147 = .ok (.lreturn, 1) := by decide +kernel
theorem dX11_digestOfPlans_0 : decode cX11_digestOfPlans 0 = .ok (.ldc2_w 297, 3) := by decide +kernel
theorem dX11_digestOfPlans_3 : decode cX11_digestOfPlans 3 = .ok (.lload_n 1, 1) := by decide +kernel
theorem dX11_digestOfPlans_4 : decode cX11_digestOfPlans 4 = .ok (.lmul, 1) := by decide +kernel
theorem dX11_digestOfPlans_5 : decode cX11_digestOfPlans 5 = .ok (.aload_n 0, 1) := by decide +kernel
theorem dX11_digestOfPlans_6 : decode cX11_digestOfPlans 6 = .ok (.iconst 0, 1) := by decide +kernel
theorem dX11_digestOfPlans_7 : decode cX11_digestOfPlans 7 = .ok (.invokevirtual 350, 3) := by decide +kernel
theorem dX11_digestOfPlans_10 : decode cX11_digestOfPlans 10 = .ok (.ladd, 1) := by decide +kernel
theorem dX11_digestOfPlans_11 : decode cX11_digestOfPlans 11 = .ok (.lstore_n 3, 1) := by decide +kernel
theorem dX11_digestOfPlans_12 : decode cX11_digestOfPlans 12 = .ok (.ldc2_w 297, 3) := by decide +kernel
theorem dX11_digestOfPlans_15 : decode cX11_digestOfPlans 15 = .ok (.lload_n 3, 1) := by decide +kernel
theorem dX11_digestOfPlans_16 : decode cX11_digestOfPlans 16 = .ok (.lmul, 1) := by decide +kernel
theorem dX11_digestOfPlans_17 : decode cX11_digestOfPlans 17 = .ok (.aload_n 0, 1) := by decide +kernel
theorem dX11_digestOfPlans_18 : decode cX11_digestOfPlans 18 = .ok (.iconst 1, 1) := by decide +kernel
theorem dX11_digestOfPlans_19 : decode cX11_digestOfPlans 19 = .ok (.invokevirtual 350, 3) := by decide +kernel
theorem dX11_digestOfPlans_22 : decode cX11_digestOfPlans 22 = .ok (.ladd, 1) := by decide +kernel
theorem dX11_digestOfPlans_23 : decode cX11_digestOfPlans 23 = .ok (.lstore_n 3, 1) := by decide +kernel
theorem dX11_digestOfPlans_24 : decode cX11_digestOfPlans 24 = .ok (.ldc2_w 297, 3) := by decide +kernel
theorem dX11_digestOfPlans_27 : decode cX11_digestOfPlans 27 = .ok (.lload_n 3, 1) := by decide +kernel
theorem dX11_digestOfPlans_28 : decode cX11_digestOfPlans 28 = .ok (.lmul, 1) := by decide +kernel
theorem dX11_digestOfPlans_29 : decode cX11_digestOfPlans 29 = .ok (.aload_n 0, 1) := by decide +kernel
theorem dX11_digestOfPlans_30 : decode cX11_digestOfPlans 30 = .ok (.iconst 0, 1) := by decide +kernel
theorem dX11_digestOfPlans_31 : decode cX11_digestOfPlans 31 = .ok (.invokevirtual 353, 3) := by decide +kernel
theorem dX11_digestOfPlans_34 : decode cX11_digestOfPlans 34 = .ok (.ladd, 1) := by decide +kernel
theorem dX11_digestOfPlans_35 : decode cX11_digestOfPlans 35 = .ok (.lstore_n 3, 1) := by decide +kernel
theorem dX11_digestOfPlans_36 : decode cX11_digestOfPlans 36 = .ok (.ldc2_w 297, 3) := by decide +kernel
theorem dX11_digestOfPlans_39 : decode cX11_digestOfPlans 39 = .ok (.lload_n 3, 1) := by decide +kernel
theorem dX11_digestOfPlans_40 : decode cX11_digestOfPlans 40 = .ok (.lmul, 1) := by decide +kernel
theorem dX11_digestOfPlans_41 : decode cX11_digestOfPlans 41 = .ok (.aload_n 0, 1) := by decide +kernel
theorem dX11_digestOfPlans_42 : decode cX11_digestOfPlans 42 = .ok (.iconst 1, 1) := by decide +kernel
theorem dX11_digestOfPlans_43 : decode cX11_digestOfPlans 43 = .ok (.invokevirtual 353, 3) := by decide +kernel
theorem dX11_digestOfPlans_46 : decode cX11_digestOfPlans 46 = .ok (.ladd, 1) := by decide +kernel
theorem dX11_digestOfPlans_47 : decode cX11_digestOfPlans 47 = .ok (.lstore_n 3, 1) := by decide +kernel
theorem dX11_digestOfPlans_48 : decode cX11_digestOfPlans 48 = .ok (.ldc2_w 297, 3) := by decide +kernel
theorem dX11_digestOfPlans_51 : decode cX11_digestOfPlans 51 = .ok (.lload_n 3, 1) := by decide +kernel
theorem dX11_digestOfPlans_52 : decode cX11_digestOfPlans 52 = .ok (.lmul, 1) := by decide +kernel
theorem dX11_digestOfPlans_53 : decode cX11_digestOfPlans 53 = .ok (.aload_n 0, 1) := by decide +kernel
theorem dX11_digestOfPlans_54 : decode cX11_digestOfPlans 54 = .ok (.invokevirtual 356, 3) := by decide +kernel
theorem dX11_digestOfPlans_57 : decode cX11_digestOfPlans 57 = .ok (.i2l, 1) := by decide +kernel
theorem dX11_digestOfPlans_58 : decode cX11_digestOfPlans 58 = .ok (.ladd, 1) := by decide +kernel
theorem dX11_digestOfPlans_59 : decode cX11_digestOfPlans 59 = .ok (.lstore_n 3, 1) := by decide +kernel
theorem dX11_digestOfPlans_60 : decode cX11_digestOfPlans 60 = .ok (.ldc2_w 297, 3) := by decide +kernel
theorem dX11_digestOfPlans_63 : decode cX11_digestOfPlans 63 = .ok (.lload_n 3, 1) := by decide +kernel
theorem dX11_digestOfPlans_64 : decode cX11_digestOfPlans 64 = .ok (.lmul, 1) := by decide +kernel
theorem dX11_digestOfPlans_65 : decode cX11_digestOfPlans 65 = .ok (.aload_n 0, 1) := by decide +kernel
theorem dX11_digestOfPlans_66 : decode cX11_digestOfPlans 66 = .ok (.iconst (-1), 1) := by decide +kernel
theorem dX11_digestOfPlans_67 : decode cX11_digestOfPlans 67 = .ok (.invokevirtual 359, 3) := by decide +kernel
theorem dX11_digestOfPlans_70 : decode cX11_digestOfPlans 70 = .ok (.i2l, 1) := by decide +kernel
theorem dX11_digestOfPlans_71 : decode cX11_digestOfPlans 71 = .ok (.ladd, 1) := by decide +kernel
theorem dX11_digestOfPlans_72 : decode cX11_digestOfPlans 72 = .ok (.lstore_n 3, 1) := by decide +kernel
theorem dX11_digestOfPlans_73 : decode cX11_digestOfPlans 73 = .ok (.ldc2_w 297, 3) := by decide +kernel
theorem dX11_digestOfPlans_76 : decode cX11_digestOfPlans 76 = .ok (.lload_n 3, 1) := by decide +kernel
theorem dX11_digestOfPlans_77 : decode cX11_digestOfPlans 77 = .ok (.lmul, 1) := by decide +kernel
theorem dX11_digestOfPlans_78 : decode cX11_digestOfPlans 78 = .ok (.aload_n 0, 1) := by decide +kernel
theorem dX11_digestOfPlans_79 : decode cX11_digestOfPlans 79 = .ok (.iconst 0, 1) := by decide +kernel
theorem dX11_digestOfPlans_80 : decode cX11_digestOfPlans 80 = .ok (.invokevirtual 359, 3) := by decide +kernel
theorem dX11_digestOfPlans_83 : decode cX11_digestOfPlans 83 = .ok (.i2l, 1) := by decide +kernel
theorem dX11_digestOfPlans_84 : decode cX11_digestOfPlans 84 = .ok (.ladd, 1) := by decide +kernel
theorem dX11_digestOfPlans_85 : decode cX11_digestOfPlans 85 = .ok (.lstore_n 3, 1) := by decide +kernel
theorem dX11_digestOfPlans_86 : decode cX11_digestOfPlans 86 = .ok (.ldc2_w 297, 3) := by decide +kernel
theorem dX11_digestOfPlans_89 : decode cX11_digestOfPlans 89 = .ok (.lload_n 3, 1) := by decide +kernel
theorem dX11_digestOfPlans_90 : decode cX11_digestOfPlans 90 = .ok (.lmul, 1) := by decide +kernel
theorem dX11_digestOfPlans_91 : decode cX11_digestOfPlans 91 = .ok (.aload_n 0, 1) := by decide +kernel
theorem dX11_digestOfPlans_92 : decode cX11_digestOfPlans 92 = .ok (.iconst 0, 1) := by decide +kernel
theorem dX11_digestOfPlans_93 : decode cX11_digestOfPlans 93 = .ok (.invokevirtual 362, 3) := by decide +kernel
theorem dX11_digestOfPlans_96 : decode cX11_digestOfPlans 96 = .ok (.ladd, 1) := by decide +kernel
theorem dX11_digestOfPlans_97 : decode cX11_digestOfPlans 97 = .ok (.lstore_n 3, 1) := by decide +kernel
theorem dX11_digestOfPlans_98 : decode cX11_digestOfPlans 98 = .ok (.ldc2_w 297, 3) := by decide +kernel
theorem dX11_digestOfPlans_101 : decode cX11_digestOfPlans 101 = .ok (.lload_n 3, 1) := by decide +kernel
theorem dX11_digestOfPlans_102 : decode cX11_digestOfPlans 102 = .ok (.lmul, 1) := by decide +kernel
theorem dX11_digestOfPlans_103 : decode cX11_digestOfPlans 103 = .ok (.aload_n 0, 1) := by decide +kernel
theorem dX11_digestOfPlans_104 : decode cX11_digestOfPlans 104 = .ok (.iconst 1, 1) := by decide +kernel
theorem dX11_digestOfPlans_105 : decode cX11_digestOfPlans 105 = .ok (.invokevirtual 362, 3) := by decide +kernel
theorem dX11_digestOfPlans_108 : decode cX11_digestOfPlans 108 = .ok (.ladd, 1) := by decide +kernel
theorem dX11_digestOfPlans_109 : decode cX11_digestOfPlans 109 = .ok (.lstore_n 3, 1) := by decide +kernel
theorem dX11_digestOfPlans_110 : decode cX11_digestOfPlans 110 = .ok (.ldc2_w 297, 3) := by decide +kernel
theorem dX11_digestOfPlans_113 : decode cX11_digestOfPlans 113 = .ok (.lload_n 3, 1) := by decide +kernel
theorem dX11_digestOfPlans_114 : decode cX11_digestOfPlans 114 = .ok (.lmul, 1) := by decide +kernel
theorem dX11_digestOfPlans_115 : decode cX11_digestOfPlans 115 = .ok (.aload_n 0, 1) := by decide +kernel
theorem dX11_digestOfPlans_116 : decode cX11_digestOfPlans 116 = .ok (.invokevirtual 365, 3) := by decide +kernel
theorem dX11_digestOfPlans_119 : decode cX11_digestOfPlans 119 = .ok (.i2l, 1) := by decide +kernel
theorem dX11_digestOfPlans_120 : decode cX11_digestOfPlans 120 = .ok (.ladd, 1) := by decide +kernel
theorem dX11_digestOfPlans_121 : decode cX11_digestOfPlans 121 = .ok (.lstore_n 3, 1) := by decide +kernel
theorem dX11_digestOfPlans_122 : decode cX11_digestOfPlans 122 = .ok (.ldc2_w 297, 3) := by decide +kernel
theorem dX11_digestOfPlans_125 : decode cX11_digestOfPlans 125 = .ok (.lload_n 3, 1) := by decide +kernel
theorem dX11_digestOfPlans_126 : decode cX11_digestOfPlans 126 = .ok (.lmul, 1) := by decide +kernel
theorem dX11_digestOfPlans_127 : decode cX11_digestOfPlans 127 = .ok (.aload_n 0, 1) := by decide +kernel
theorem dX11_digestOfPlans_128 : decode cX11_digestOfPlans 128 = .ok (.iconst 4, 1) := by decide +kernel
theorem dX11_digestOfPlans_129 : decode cX11_digestOfPlans 129 = .ok (.invokevirtual 368, 3) := by decide +kernel
theorem dX11_digestOfPlans_132 : decode cX11_digestOfPlans 132 = .ok (.i2l, 1) := by decide +kernel
theorem dX11_digestOfPlans_133 : decode cX11_digestOfPlans 133 = .ok (.ladd, 1) := by decide +kernel
theorem dX11_digestOfPlans_134 : decode cX11_digestOfPlans 134 = .ok (.lstore_n 3, 1) := by decide +kernel
theorem dX11_digestOfPlans_135 : decode cX11_digestOfPlans 135 = .ok (.ldc2_w 297, 3) := by decide +kernel
theorem dX11_digestOfPlans_138 : decode cX11_digestOfPlans 138 = .ok (.lload_n 3, 1) := by decide +kernel
theorem dX11_digestOfPlans_139 : decode cX11_digestOfPlans 139 = .ok (.lmul, 1) := by decide +kernel
theorem dX11_digestOfPlans_140 : decode cX11_digestOfPlans 140 = .ok (.aload_n 0, 1) := by decide +kernel
theorem dX11_digestOfPlans_141 : decode cX11_digestOfPlans 141 = .ok (.bipush 9, 2) := by decide +kernel
theorem dX11_digestOfPlans_143 : decode cX11_digestOfPlans 143 = .ok (.invokevirtual 368, 3) := by decide +kernel
theorem dX11_digestOfPlans_146 : decode cX11_digestOfPlans 146 = .ok (.i2l, 1) := by decide +kernel
theorem dX11_digestOfPlans_147 : decode cX11_digestOfPlans 147 = .ok (.ladd, 1) := by decide +kernel
theorem dX11_digestOfPlans_148 : decode cX11_digestOfPlans 148 = .ok (.lreturn, 1) := by decide +kernel
theorem dX11_isText_0 : decode cX11_isText 0 = .ok (.iload_n 0, 1) := by decide +kernel
theorem dX11_isText_1 : decode cX11_isText 1 = .ok (.ifCond .eq 8, 3) := by decide +kernel
theorem dX11_isText_4 : decode cX11_isText 4 = .ok (.iload_n 0, 1) := by decide +kernel
theorem dX11_isText_5 : decode cX11_isText 5 = .ok (.iconst 1, 1) := by decide +kernel
theorem dX11_isText_6 : decode cX11_isText 6 = .ok (.if_icmp .ne 7, 3) := by decide +kernel
theorem dX11_isText_9 : decode cX11_isText 9 = .ok (.iconst 1, 1) := by decide +kernel
theorem dX11_isText_10 : decode cX11_isText 10 = .ok (.goto 4, 3) := by decide +kernel
theorem dX11_isText_13 : decode cX11_isText 13 = .ok (.iconst 0, 1) := by decide +kernel
theorem dX11_isText_14 : decode cX11_isText 14 = .ok (.ireturn, 1) := by decide +kernel
theorem dX11_isEither_0 : decode cX11_isEither 0 = .ok (.iload_n 0, 1) := by decide +kernel
theorem dX11_isEither_1 : decode cX11_isEither 1 = .ok (.ifCond .eq 8, 3) := by decide +kernel
theorem dX11_isEither_4 : decode cX11_isEither 4 = .ok (.iload_n 0, 1) := by decide +kernel
theorem dX11_isEither_5 : decode cX11_isEither 5 = .ok (.iconst 1, 1) := by decide +kernel
theorem dX11_isEither_6 : decode cX11_isEither 6 = .ok (.if_icmp .ne 7, 3) := by decide +kernel
theorem dX11_isEither_9 : decode cX11_isEither 9 = .ok (.iconst 1, 1) := by decide +kernel
theorem dX11_isEither_10 : decode cX11_isEither 10 = .ok (.goto 4, 3) := by decide +kernel
theorem dX11_isEither_13 : decode cX11_isEither 13 = .ok (.iconst 0, 1) := by decide +kernel
theorem dX11_isEither_14 : decode cX11_isEither 14 = .ok (.ireturn, 1) := by decide +kernel
theorem dX11_isSheet_0 : decode cX11_isSheet 0 = .ok (.iload_n 0, 1) := by decide +kernel
theorem dX11_isSheet_1 : decode cX11_isSheet 1 = .ok (.ifCond .lt 12, 3) := by decide +kernel
theorem dX11_isSheet_4 : decode cX11_isSheet 4 = .ok (.iload_n 0, 1) := by decide +kernel
theorem dX11_isSheet_5 : decode cX11_isSheet 5 = .ok (.iconst 4, 1) := by decide +kernel
theorem dX11_isSheet_6 : decode cX11_isSheet 6 = .ok (.if_icmp .ge 7, 3) := by decide +kernel
theorem dX11_isSheet_9 : decode cX11_isSheet 9 = .ok (.iconst 1, 1) := by decide +kernel
theorem dX11_isSheet_10 : decode cX11_isSheet 10 = .ok (.goto 4, 3) := by decide +kernel
theorem dX11_isSheet_13 : decode cX11_isSheet 13 = .ok (.iconst 0, 1) := by decide +kernel
theorem dX11_isSheet_14 : decode cX11_isSheet 14 = .ok (.ireturn, 1) := by decide +kernel
theorem dX11_isForm_0 : decode cX11_isForm 0 = .ok (.iload_n 0, 1) := by decide +kernel
theorem dX11_isForm_1 : decode cX11_isForm 1 = .ok (.ifCond .lt 12, 3) := by decide +kernel
theorem dX11_isForm_4 : decode cX11_isForm 4 = .ok (.iload_n 0, 1) := by decide +kernel
theorem dX11_isForm_5 : decode cX11_isForm 5 = .ok (.iconst 3, 1) := by decide +kernel
theorem dX11_isForm_6 : decode cX11_isForm 6 = .ok (.if_icmp .ge 7, 3) := by decide +kernel
theorem dX11_isForm_9 : decode cX11_isForm 9 = .ok (.iconst 1, 1) := by decide +kernel
theorem dX11_isForm_10 : decode cX11_isForm 10 = .ok (.goto 4, 3) := by decide +kernel
theorem dX11_isForm_13 : decode cX11_isForm 13 = .ok (.iconst 0, 1) := by decide +kernel
theorem dX11_isForm_14 : decode cX11_isForm 14 = .ok (.ireturn, 1) := by decide +kernel
theorem dX11_longRefusal_0 : decode cX11_longRefusal 0 = .ok (.ldc2_w 371, 3) := by decide +kernel
theorem dX11_longRefusal_3 : decode cX11_longRefusal 3 = .ok (.iload_n 0, 1) := by decide +kernel
theorem dX11_longRefusal_4 : decode cX11_longRefusal 4 = .ok (.i2l, 1) := by decide +kernel
theorem dX11_longRefusal_5 : decode cX11_longRefusal 5 = .ok (.lsub, 1) := by decide +kernel
theorem dX11_longRefusal_6 : decode cX11_longRefusal 6 = .ok (.lreturn, 1) := by decide +kernel
theorem dX11_isNumberOfNames_0 : decode cX11_isNumberOfNames 0 = .ok (.iload_n 1, 1) := by decide +kernel
theorem dX11_isNumberOfNames_1 : decode cX11_isNumberOfNames 1 = .ok (.ifCond .lt 18, 3) := by decide +kernel
theorem dX11_isNumberOfNames_4 : decode cX11_isNumberOfNames 4 = .ok (.iload_n 1, 1) := by decide +kernel
theorem dX11_isNumberOfNames_5 : decode cX11_isNumberOfNames 5 = .ok (.aload_n 0, 1) := by decide +kernel
theorem dX11_isNumberOfNames_6 : decode cX11_isNumberOfNames 6 = .ok (.getfield 31, 3) := by decide +kernel
theorem dX11_isNumberOfNames_9 : decode cX11_isNumberOfNames 9 = .ok (.getfield 134, 3) := by decide +kernel
theorem dX11_isNumberOfNames_12 : decode cX11_isNumberOfNames 12 = .ok (.if_icmp .gt 7, 3) := by decide +kernel
theorem dX11_isNumberOfNames_15 : decode cX11_isNumberOfNames 15 = .ok (.iconst 1, 1) := by decide +kernel
theorem dX11_isNumberOfNames_16 : decode cX11_isNumberOfNames 16 = .ok (.goto 4, 3) := by decide +kernel
theorem dX11_isNumberOfNames_19 : decode cX11_isNumberOfNames 19 = .ok (.iconst 0, 1) := by decide +kernel
theorem dX11_isNumberOfNames_20 : decode cX11_isNumberOfNames 20 = .ok (.ireturn, 1) := by decide +kernel
theorem dX11_textOf_0 : decode cX11_textOf 0 = .ok (.iload_n 1, 1) := by decide +kernel
theorem dX11_textOf_1 : decode cX11_textOf 1 = .ok (.ifCond .ne 10, 3) := by decide +kernel
theorem dX11_textOf_4 : decode cX11_textOf 4 = .ok (.aload_n 0, 1) := by decide +kernel
theorem dX11_textOf_5 : decode cX11_textOf 5 = .ok (.getfield 14, 3) := by decide +kernel
theorem dX11_textOf_8 : decode cX11_textOf 8 = .ok (.goto 7, 3) := by decide +kernel
theorem dX11_textOf_11 : decode cX11_textOf 11 = .ok (.aload_n 0, 1) := by decide +kernel
theorem dX11_textOf_12 : decode cX11_textOf 12 = .ok (.getfield 18, 3) := by decide +kernel
theorem dX11_textOf_15 : decode cX11_textOf 15 = .ok (.areturn, 1) := by decide +kernel
theorem dX11_finding_0 : decode cX11_finding 0 = .ok (.aload_n 0, 1) := by decide +kernel
theorem dX11_finding_1 : decode cX11_finding 1 = .ok (.iload_n 1, 1) := by decide +kernel
theorem dX11_finding_2 : decode cX11_finding 2 = .ok (.putfield 269, 3) := by decide +kernel
theorem dX11_finding_5 : decode cX11_finding 5 = .ok (.bipush (-10), 2) := by decide +kernel
theorem dX11_finding_7 : decode cX11_finding 7 = .ok (.iload_n 1, 1) := by decide +kernel
theorem dX11_finding_8 : decode cX11_finding 8 = .ok (.isub, 1) := by decide +kernel
theorem dX11_finding_9 : decode cX11_finding 9 = .ok (.ireturn, 1) := by decide +kernel
theorem dX11_readAnew_0 : decode cX11_readAnew 0 = .ok (.iload_n 1, 1) := by decide +kernel
theorem dX11_readAnew_1 : decode cX11_readAnew 1 = .ok (.ifCond .ne 17, 3) := by decide +kernel
theorem dX11_readAnew_4 : decode cX11_readAnew 4 = .ok (.aload_n 0, 1) := by decide +kernel
theorem dX11_readAnew_5 : decode cX11_readAnew 5 = .ok (.getfield 24, 3) := by decide +kernel
theorem dX11_readAnew_8 : decode cX11_readAnew 8 = .ok (.aload_n 0, 1) := by decide +kernel
theorem dX11_readAnew_9 : decode cX11_readAnew 9 = .ok (.getfield 14, 3) := by decide +kernel
theorem dX11_readAnew_12 : decode cX11_readAnew 12 = .ok (.invokevirtual 373, 3) := by decide +kernel
theorem dX11_readAnew_15 : decode cX11_readAnew 15 = .ok (.goto 14, 3) := by decide +kernel
theorem dX11_readAnew_18 : decode cX11_readAnew 18 = .ok (.aload_n 0, 1) := by decide +kernel
theorem dX11_readAnew_19 : decode cX11_readAnew 19 = .ok (.getfield 31, 3) := by decide +kernel
theorem dX11_readAnew_22 : decode cX11_readAnew 22 = .ok (.aload_n 0, 1) := by decide +kernel
theorem dX11_readAnew_23 : decode cX11_readAnew 23 = .ok (.getfield 18, 3) := by decide +kernel
theorem dX11_readAnew_26 : decode cX11_readAnew 26 = .ok (.invokevirtual 377, 3) := by decide +kernel
theorem dX11_readAnew_29 : decode cX11_readAnew 29 = .ok (.aload_n 0, 1) := by decide +kernel
theorem dX11_readAnew_30 : decode cX11_readAnew 30 = .ok (.invokevirtual 131, 3) := by decide +kernel
theorem dX11_readAnew_33 : decode cX11_readAnew 33 = .ok (.return_, 1) := by decide +kernel
theorem dX11_reckonAnew_0 : decode cX11_reckonAnew 0 = .ok (.aload_n 0, 1) := by decide +kernel
theorem dX11_reckonAnew_1 : decode cX11_reckonAnew 1 = .ok (.getfield 45, 3) := by decide +kernel
theorem dX11_reckonAnew_4 : decode cX11_reckonAnew 4 = .ok (.aload_n 0, 1) := by decide +kernel
theorem dX11_reckonAnew_5 : decode cX11_reckonAnew 5 = .ok (.getfield 24, 3) := by decide +kernel
theorem dX11_reckonAnew_8 : decode cX11_reckonAnew 8 = .ok (.aload_n 0, 1) := by decide +kernel
theorem dX11_reckonAnew_9 : decode cX11_reckonAnew 9 = .ok (.getfield 31, 3) := by decide +kernel
theorem dX11_reckonAnew_12 : decode cX11_reckonAnew 12 = .ok (.aload_n 0, 1) := by decide +kernel
theorem dX11_reckonAnew_13 : decode cX11_reckonAnew 13 = .ok (.getfield 38, 3) := by decide +kernel
theorem dX11_reckonAnew_16 : decode cX11_reckonAnew 16 = .ok (.getfield 77, 3) := by decide +kernel
theorem dX11_reckonAnew_19 : decode cX11_reckonAnew 19 = .ok (.aload_n 0, 1) := by decide +kernel
theorem dX11_reckonAnew_20 : decode cX11_reckonAnew 20 = .ok (.getfield 38, 3) := by decide +kernel
theorem dX11_reckonAnew_23 : decode cX11_reckonAnew 23 = .ok (.getfield 81, 3) := by decide +kernel
theorem dX11_reckonAnew_26 : decode cX11_reckonAnew 26 = .ok (.aload_n 0, 1) := by decide +kernel
theorem dX11_reckonAnew_27 : decode cX11_reckonAnew 27 = .ok (.getfield 38, 3) := by decide +kernel
theorem dX11_reckonAnew_30 : decode cX11_reckonAnew 30 = .ok (.getfield 201, 3) := by decide +kernel
theorem dX11_reckonAnew_33 : decode cX11_reckonAnew 33 = .ok (.invokevirtual 204, 3) := by decide +kernel
theorem dX11_reckonAnew_36 : decode cX11_reckonAnew 36 = .ok (.aload_n 0, 1) := by decide +kernel
theorem dX11_reckonAnew_37 : decode cX11_reckonAnew 37 = .ok (.getfield 55, 3) := by decide +kernel
theorem dX11_reckonAnew_40 : decode cX11_reckonAnew 40 = .ok (.iconst 0, 1) := by decide +kernel
theorem dX11_reckonAnew_41 : decode cX11_reckonAnew 41 = .ok (.putfield 378, 3) := by decide +kernel
