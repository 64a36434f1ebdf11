theorem dX6_renew_36 : decode cX6_renew 36 = .ok (.iload_n 3, 1) := by decide +kernel
theorem dX6_renew_37 : decode cX6_renew 37 = .ok (.iconst 0, 1) := by decide +kernel
theorem dX6_renew_38 : decode cX6_renew 38 = .ok (.iastore, 1) := by decide +kernel
theorem dX6_renew_39 : decode cX6_renew 39 = .ok (.iinc 3 1, 3) := by decide +kernel
theorem dX6_renew_42 : decode cX6_renew 42 = .ok (.goto (-16), 3) := by decide +kernel
theorem dX6_renew_45 : decode cX6_renew 45 = .ok (.return_, 1) := by decide +kernel
theorem dX6_findingAt_0 : decode cX6_findingAt 0 = .ok (.aload_n 0, 1) := by decide +kernel
theorem dX6_findingAt_1 : decode cX6_findingAt 1 = .ok (.getfield 15, 3) := by decide +kernel
theorem dX6_findingAt_4 : decode cX6_findingAt 4 = .ok (.ifCond .eq 5, 3) := by decide +kernel
theorem dX6_findingAt_7 : decode cX6_findingAt 7 = .ok (.iconst 1, 1) := by decide +kernel
theorem dX6_findingAt_8 : decode cX6_findingAt 8 = .ok (.ireturn, 1) := by decide +kernel
theorem dX6_findingAt_9 : decode cX6_findingAt 9 = .ok (.aload_n 0, 1) := by decide +kernel
theorem dX6_findingAt_10 : decode cX6_findingAt 10 = .ok (.getfield 19, 3) := by decide +kernel
theorem dX6_findingAt_13 : decode cX6_findingAt 13 = .ok (.iload_n 1, 1) := by decide +kernel
theorem dX6_findingAt_14 : decode cX6_findingAt 14 = .ok (.if_icmp .eq 5, 3) := by decide +kernel
theorem dX6_findingAt_17 : decode cX6_findingAt 17 = .ok (.iconst 3, 1) := by decide +kernel
theorem dX6_findingAt_18 : decode cX6_findingAt 18 = .ok (.ireturn, 1) := by decide +kernel
theorem dX6_findingAt_19 : decode cX6_findingAt 19 = .ok (.iload_n 2, 1) := by decide +kernel
theorem dX6_findingAt_20 : decode cX6_findingAt 20 = .ok (.ifCond .lt 11, 3) := by decide +kernel
theorem dX6_findingAt_23 : decode cX6_findingAt 23 = .ok (.iload_n 2, 1) := by decide +kernel
theorem dX6_findingAt_24 : decode cX6_findingAt 24 = .ok (.aload_n 0, 1) := by decide +kernel
theorem dX6_findingAt_25 : decode cX6_findingAt 25 = .ok (.getfield 32, 3) := by decide +kernel
theorem dX6_findingAt_28 : decode cX6_findingAt 28 = .ok (.if_icmp .lt 7, 3) := by decide +kernel
theorem dX6_findingAt_31 : decode cX6_findingAt 31 = .ok (.iconst 2, 1) := by decide +kernel
theorem dX6_findingAt_32 : decode cX6_findingAt 32 = .ok (.goto 4, 3) := by decide +kernel
theorem dX6_findingAt_35 : decode cX6_findingAt 35 = .ok (.iconst 0, 1) := by decide +kernel
theorem dX6_findingAt_36 : decode cX6_findingAt 36 = .ok (.ireturn, 1) := by decide +kernel
theorem dX6_put_0 : decode cX6_put 0 = .ok (.iload_n 1, 1) := by decide +kernel
theorem dX6_put_1 : decode cX6_put 1 = .ok (.ifCond .lt 43, 3) := by decide +kernel
theorem dX6_put_4 : decode cX6_put 4 = .ok (.iload_n 1, 1) := by decide +kernel
theorem dX6_put_5 : decode cX6_put 5 = .ok (.aload_n 0, 1) := by decide +kernel
theorem dX6_put_6 : decode cX6_put 6 = .ok (.getfield 32, 3) := by decide +kernel
theorem dX6_put_9 : decode cX6_put 9 = .ok (.if_icmp .ge 35, 3) := by decide +kernel
theorem dX6_put_12 : decode cX6_put 12 = .ok (.aload_n 0, 1) := by decide +kernel
theorem dX6_put_13 : decode cX6_put 13 = .ok (.getfield 9, 3) := by decide +kernel
theorem dX6_put_16 : decode cX6_put 16 = .ok (.iload_n 1, 1) := by decide +kernel
theorem dX6_put_17 : decode cX6_put 17 = .ok (.aload_n 0, 1) := by decide +kernel
theorem dX6_put_18 : decode cX6_put 18 = .ok (.getfield 19, 3) := by decide +kernel
theorem dX6_put_21 : decode cX6_put 21 = .ok (.ifCond .ne 8, 3) := by decide +kernel
theorem dX6_put_24 : decode cX6_put 24 = .ok (.iload_n 2, 1) := by decide +kernel
theorem dX6_put_25 : decode cX6_put 25 = .ok (.i2b, 1) := by decide +kernel
theorem dX6_put_26 : decode cX6_put 26 = .ok (.goto 17, 3) := by decide +kernel
theorem dX6_put_29 : decode cX6_put 29 = .ok (.aload_n 0, 1) := by decide +kernel
theorem dX6_put_30 : decode cX6_put 30 = .ok (.getfield 19, 3) := by decide +kernel
theorem dX6_put_33 : decode cX6_put 33 = .ok (.iconst 1, 1) := by decide +kernel
theorem dX6_put_34 : decode cX6_put 34 = .ok (.if_icmp .ne 8, 3) := by decide +kernel
theorem dX6_put_37 : decode cX6_put 37 = .ok (.iload_n 2, 1) := by decide +kernel
theorem dX6_put_38 : decode cX6_put 38 = .ok (.i2s, 1) := by decide +kernel
theorem dX6_put_39 : decode cX6_put 39 = .ok (.goto 4, 3) := by decide +kernel
theorem dX6_put_42 : decode cX6_put 42 = .ok (.iload_n 2, 1) := by decide +kernel
theorem dX6_put_43 : decode cX6_put 43 = .ok (.iastore, 1) := by decide +kernel
theorem dX6_put_44 : decode cX6_put 44 = .ok (.return_, 1) := by decide +kernel
theorem dX6_hasStretch_0 : decode cX6_hasStretch 0 = .ok (.iload_n 1, 1) := by decide +kernel
theorem dX6_hasStretch_1 : decode cX6_hasStretch 1 = .ok (.ifCond .lt 29, 3) := by decide +kernel
theorem dX6_hasStretch_4 : decode cX6_hasStretch 4 = .ok (.iload_n 2, 1) := by decide +kernel
theorem dX6_hasStretch_5 : decode cX6_hasStretch 5 = .ok (.ifCond .lt 25, 3) := by decide +kernel
theorem dX6_hasStretch_8 : decode cX6_hasStretch 8 = .ok (.iload_n 1, 1) := by decide +kernel
theorem dX6_hasStretch_9 : decode cX6_hasStretch 9 = .ok (.aload_n 0, 1) := by decide +kernel
theorem dX6_hasStretch_10 : decode cX6_hasStretch 10 = .ok (.getfield 32, 3) := by decide +kernel
theorem dX6_hasStretch_13 : decode cX6_hasStretch 13 = .ok (.if_icmp .gt 17, 3) := by decide +kernel
theorem dX6_hasStretch_16 : decode cX6_hasStretch 16 = .ok (.iload_n 2, 1) := by decide +kernel
theorem dX6_hasStretch_17 : decode cX6_hasStretch 17 = .ok (.aload_n 0, 1) := by decide +kernel
theorem dX6_hasStretch_18 : decode cX6_hasStretch 18 = .ok (.getfield 32, 3) := by decide +kernel
theorem dX6_hasStretch_21 : decode cX6_hasStretch 21 = .ok (.iload_n 1, 1) := by decide +kernel
theorem dX6_hasStretch_22 : decode cX6_hasStretch 22 = .ok (.isub, 1) := by decide +kernel
theorem dX6_hasStretch_23 : decode cX6_hasStretch 23 = .ok (.if_icmp .gt 7, 3) := by decide +kernel
theorem dX6_hasStretch_26 : decode cX6_hasStretch 26 = .ok (.iconst 1, 1) := by decide +kernel
theorem dX6_hasStretch_27 : decode cX6_hasStretch 27 = .ok (.goto 4, 3) := by decide +kernel
theorem dX6_hasStretch_30 : decode cX6_hasStretch 30 = .ok (.iconst 0, 1) := by decide +kernel
theorem dX6_hasStretch_31 : decode cX6_hasStretch 31 = .ok (.ireturn, 1) := by decide +kernel
theorem dX7_init_0 : decode cX7_init 0 = .ok (.aload_n 0, 1) := by decide +kernel
theorem dX7_init_1 : decode cX7_init 1 = .ok (.invokespecial 3, 3) := by decide +kernel
theorem dX7_init_4 : decode cX7_init 4 = .ok (.aload_n 0, 1) := by decide +kernel
theorem dX7_init_5 : decode cX7_init 5 = .ok (.bipush 8, 2) := by decide +kernel
theorem dX7_init_7 : decode cX7_init 7 = .ok (.newarray .int, 2) := by decide +kernel
theorem dX7_init_9 : decode cX7_init 9 = .ok (.putfield 9, 3) := by decide +kernel
theorem dX7_init_12 : decode cX7_init 12 = .ok (.aload_n 0, 1) := by decide +kernel
theorem dX7_init_13 : decode cX7_init 13 = .ok (.bipush 8, 2) := by decide +kernel
theorem dX7_init_15 : decode cX7_init 15 = .ok (.newarray .int, 2) := by decide +kernel
theorem dX7_init_17 : decode cX7_init 17 = .ok (.putfield 15, 3) := by decide +kernel
theorem dX7_init_20 : decode cX7_init 20 = .ok (.return_, 1) := by decide +kernel
theorem dX7_allows_0 : decode cX7_allows 0 = .ok (.iload_n 0, 1) := by decide +kernel
theorem dX7_allows_1 : decode cX7_allows 1 = .ok (.ifCond .lt 22, 3) := by decide +kernel
theorem dX7_allows_4 : decode cX7_allows 4 = .ok (.iload_n 0, 1) := by decide +kernel
theorem dX7_allows_5 : decode cX7_allows 5 = .ok (.bipush 8, 2) := by decide +kernel
theorem dX7_allows_7 : decode cX7_allows 7 = .ok (.if_icmp .ge 16, 3) := by decide +kernel
theorem dX7_allows_10 : decode cX7_allows 10 = .ok (.iload_n 1, 1) := by decide +kernel
theorem dX7_allows_11 : decode cX7_allows 11 = .ok (.ifCond .lt 12, 3) := by decide +kernel
theorem dX7_allows_14 : decode cX7_allows 14 = .ok (.iload_n 1, 1) := by decide +kernel
theorem dX7_allows_15 : decode cX7_allows 15 = .ok (.iconst 5, 1) := by decide +kernel
theorem dX7_allows_16 : decode cX7_allows 16 = .ok (.if_icmp .ge 7, 3) := by decide +kernel
theorem dX7_allows_19 : decode cX7_allows 19 = .ok (.iconst 1, 1) := by decide +kernel
theorem dX7_allows_20 : decode cX7_allows 20 = .ok (.goto 4, 3) := by decide +kernel
theorem dX7_allows_23 : decode cX7_allows 23 = .ok (.iconst 0, 1) := by decide +kernel
theorem dX7_allows_24 : decode cX7_allows 24 = .ok (.ireturn, 1) := by decide +kernel
theorem dX7_isFull_0 : decode cX7_isFull 0 = .ok (.aload_n 0, 1) := by decide +kernel
theorem dX7_isFull_1 : decode cX7_isFull 1 = .ok (.getfield 18, 3) := by decide +kernel
theorem dX7_isFull_4 : decode cX7_isFull 4 = .ok (.bipush 8, 2) := by decide +kernel
theorem dX7_isFull_6 : decode cX7_isFull 6 = .ok (.if_icmp .lt 7, 3) := by decide +kernel
theorem dX7_isFull_9 : decode cX7_isFull 9 = .ok (.iconst 1, 1) := by decide +kernel
theorem dX7_isFull_10 : decode cX7_isFull 10 = .ok (.goto 4, 3) := by decide +kernel
theorem dX7_isFull_13 : decode cX7_isFull 13 = .ok (.iconst 0, 1) := by decide +kernel
theorem dX7_isFull_14 : decode cX7_isFull 14 = .ok (.ireturn, 1) := by decide +kernel
theorem dX7_add_0 : decode cX7_add 0 = .ok (.aload_n 0, 1) := by decide +kernel
theorem dX7_add_1 : decode cX7_add 1 = .ok (.getfield 18, 3) := by decide +kernel
theorem dX7_add_4 : decode cX7_add 4 = .ok (.bipush 8, 2) := by decide +kernel
theorem dX7_add_6 : decode cX7_add 6 = .ok (.if_icmp .ge 33, 3) := by decide +kernel
theorem dX7_add_9 : decode cX7_add 9 = .ok (.aload_n 0, 1) := by decide +kernel
theorem dX7_add_10 : decode cX7_add 10 = .ok (.getfield 9, 3) := by decide +kernel
theorem dX7_add_13 : decode cX7_add 13 = .ok (.aload_n 0, 1) := by decide +kernel
theorem dX7_add_14 : decode cX7_add 14 = .ok (.getfield 18, 3) := by decide +kernel
theorem dX7_add_17 : decode cX7_add 17 = .ok (.iload_n 1, 1) := by decide +kernel
theorem dX7_add_18 : decode cX7_add 18 = .ok (.iastore, 1) := by decide +kernel
theorem dX7_add_19 : decode cX7_add 19 = .ok (.aload_n 0, 1) := by decide +kernel
theorem dX7_add_20 : decode cX7_add 20 = .ok (.getfield 15, 3) := by decide +kernel
theorem dX7_add_23 : decode cX7_add 23 = .ok (.aload_n 0, 1) := by decide +kernel
theorem dX7_add_24 : decode cX7_add 24 = .ok (.getfield 18, 3) := by decide +kernel
theorem dX7_add_27 : decode cX7_add 27 = .ok (.iload_n 2, 1) := by decide +kernel
theorem dX7_add_28 : decode cX7_add 28 = .ok (.iastore, 1) := by decide +kernel
theorem dX7_add_29 : decode cX7_add 29 = .ok (.aload_n 0, 1) := by decide +kernel
theorem dX7_add_30 : decode cX7_add 30 = .ok (.dup, 1) := by decide +kernel
theorem dX7_add_31 : decode cX7_add 31 = .ok (.getfield 18, 3) := by decide +kernel
theorem dX7_add_34 : decode cX7_add 34 = .ok (.iconst 1, 1) := by decide +kernel
theorem dX7_add_35 : decode cX7_add 35 = .ok (.iadd, 1) := by decide +kernel
theorem dX7_add_36 : decode cX7_add 36 = .ok (.putfield 18, 3) := by decide +kernel
theorem dX7_add_39 : decode cX7_add 39 = .ok (.return_, 1) := by decide +kernel
theorem dX7_comeOutBy_0 : decode cX7_comeOutBy 0 = .ok (.iconst 0, 1) := by decide +kernel
theorem dX7_comeOutBy_1 : decode cX7_comeOutBy 1 = .ok (.istore_n 2, 1) := by decide +kernel
theorem dX7_comeOutBy_2 : decode cX7_comeOutBy 2 = .ok (.iload_n 2, 1) := by decide +kernel
theorem dX7_comeOutBy_3 : decode cX7_comeOutBy 3 = .ok (.aload_n 0, 1) := by decide +kernel
theorem dX7_comeOutBy_4 : decode cX7_comeOutBy 4 = .ok (.getfield 18, 3) := by decide +kernel
theorem dX7_comeOutBy_7 : decode cX7_comeOutBy 7 = .ok (.if_icmp .ge 30, 3) := by decide +kernel
theorem dX7_comeOutBy_10 : decode cX7_comeOutBy 10 = .ok (.aload_n 1, 1) := by decide +kernel
theorem dX7_comeOutBy_11 : decode cX7_comeOutBy 11 = .ok (.aload_n 0, 1) := by decide +kernel
theorem dX7_comeOutBy_12 : decode cX7_comeOutBy 12 = .ok (.getfield 9, 3) := by decide +kernel
theorem dX7_comeOutBy_15 : decode cX7_comeOutBy 15 = .ok (.iload_n 2, 1) := by decide +kernel
theorem dX7_comeOutBy_16 : decode cX7_comeOutBy 16 = .ok (.iaload, 1) := by decide +kernel
theorem dX7_comeOutBy_17 : decode cX7_comeOutBy 17 = .ok (.invokevirtual 22, 3) := by decide +kernel
theorem dX7_comeOutBy_20 : decode cX7_comeOutBy 20 = .ok (.aload_n 0, 1) := by decide +kernel
theorem dX7_comeOutBy_21 : decode cX7_comeOutBy 21 = .ok (.getfield 15, 3) := by decide +kernel
theorem dX7_comeOutBy_24 : decode cX7_comeOutBy 24 = .ok (.iload_n 2, 1) := by decide +kernel
theorem dX7_comeOutBy_25 : decode cX7_comeOutBy 25 = .ok (.iaload, 1) := by decide +kernel
theorem dX7_comeOutBy_26 : decode cX7_comeOutBy 26 = .ok (.if_icmp .eq 5, 3) := by decide +kernel
theorem dX7_comeOutBy_29 : decode cX7_comeOutBy 29 = .ok (.iconst 0, 1) := by decide +kernel
theorem dX7_comeOutBy_30 : decode cX7_comeOutBy 30 = .ok (.ireturn, 1) := by decide +kernel
theorem dX7_comeOutBy_31 : decode cX7_comeOutBy 31 = .ok (.iinc 2 1, 3) := by decide +kernel
theorem dX7_comeOutBy_34 : decode cX7_comeOutBy 34 = .ok (.goto (-32), 3) := by decide +kernel
theorem dX7_comeOutBy_37 : decode cX7_comeOutBy 37 = .ok (.iconst 1, 1) := by decide +kernel
theorem dX7_comeOutBy_38 : decode cX7_comeOutBy 38 = .ok (.ireturn, 1) := by decide +kernel
theorem dX8_isWin_0 : decode cX8_isWin 0 = .ok (.iload_n 0, 1) := by decide +kernel
theorem dX8_isWin_1 : decode cX8_isWin 1 = .ok (.iconst 1, 1) := by decide +kernel
theorem dX8_isWin_2 : decode cX8_isWin 2 = .ok (.if_icmp .eq 13, 3) := by decide +kernel
theorem dX8_isWin_5 : decode cX8_isWin 5 = .ok (.iload_n 0, 1) := by decide +kernel
theorem dX8_isWin_6 : decode cX8_isWin 6 = .ok (.iconst 2, 1) := by decide +kernel
theorem dX8_isWin_7 : decode cX8_isWin 7 = .ok (.if_icmp .eq 8, 3) := by decide +kernel
theorem dX8_isWin_10 : decode cX8_isWin 10 = .ok (.iload_n 0, 1) := by decide +kernel
theorem dX8_isWin_11 : decode cX8_isWin 11 = .ok (.iconst 3, 1) := by decide +kernel
theorem dX8_isWin_12 : decode cX8_isWin 12 = .ok (.if_icmp .ne 7, 3) := by decide +kernel
theorem dX8_isWin_15 : decode cX8_isWin 15 = .ok (.iconst 1, 1) := by decide +kernel
theorem dX8_isWin_16 : decode cX8_isWin 16 = .ok (.goto 4, 3) := by decide +kernel
theorem dX8_isWin_19 : decode cX8_isWin 19 = .ok (.iconst 0, 1) := by decide +kernel
theorem dX8_isWin_20 : decode cX8_isWin 20 = .ok (.ireturn, 1) := by decide +kernel
theorem dX8_sixteenths_0 : decode cX8_sixteenths 0 = .ok (.iload_n 0, 1) := by decide +kernel
theorem dX8_sixteenths_1 : decode cX8_sixteenths 1 = .ok (.iconst 3, 1) := by decide +kernel
theorem dX8_sixteenths_2 : decode cX8_sixteenths 2 = .ok (.if_icmp .eq 6, 3) := by decide +kernel
theorem dX8_sixteenths_5 : decode cX8_sixteenths 5 = .ok (.bipush 16, 2) := by decide +kernel
theorem dX8_sixteenths_7 : decode cX8_sixteenths 7 = .ok (.ireturn, 1) := by decide +kernel
theorem dX8_sixteenths_8 : decode cX8_sixteenths 8 = .ok (.iconst 0, 1) := by decide +kernel
theorem dX8_sixteenths_9 : decode cX8_sixteenths 9 = .ok (.bipush 16, 2) := by decide +kernel
theorem dX8_sixteenths_11 : decode cX8_sixteenths 11 = .ok (.bipush 8, 2) := by decide +kernel
theorem dX8_sixteenths_13 : decode cX8_sixteenths 13 = .ok (.iload_n 1, 1) := by decide +kernel
theorem dX8_sixteenths_14 : decode cX8_sixteenths 14 = .ok (.iadd, 1) := by decide +kernel
theorem dX8_sixteenths_15 : decode cX8_sixteenths 15 = .ok (.iload_n 2, 1) := by decide +kernel
theorem dX8_sixteenths_16 : decode cX8_sixteenths 16 = .ok (.isub, 1) := by decide +kernel
theorem dX8_sixteenths_17 : decode cX8_sixteenths 17 = .ok (.invokestatic 11, 3) := by decide +kernel
theorem dX8_sixteenths_20 : decode cX8_sixteenths 20 = .ok (.invokestatic 17, 3) := by decide +kernel
theorem dX8_sixteenths_23 : decode cX8_sixteenths 23 = .ok (.ireturn, 1) := by decide +kernel
theorem dX8_strongBehind_0 : decode cX8_strongBehind 0 = .ok (.iload_n 0, 1) := by decide +kernel
theorem dX8_strongBehind_1 : decode cX8_strongBehind 1 = .ok (.iconst 3, 1) := by decide +kernel
theorem dX8_strongBehind_2 : decode cX8_strongBehind 2 = .ok (.if_icmp .ne 15, 3) := by decide +kernel
theorem dX8_strongBehind_5 : decode cX8_strongBehind 5 = .ok (.iload_n 1, 1) := by decide +kernel
theorem dX8_strongBehind_6 : decode cX8_strongBehind 6 = .ok (.ifCond .le 9, 3) := by decide +kernel
theorem dX8_strongBehind_9 : decode cX8_strongBehind 9 = .ok (.iload_n 1, 1) := by decide +kernel
theorem dX8_strongBehind_10 : decode cX8_strongBehind 10 = .ok (.iconst 1, 1) := by decide +kernel
theorem dX8_strongBehind_11 : decode cX8_strongBehind 11 = .ok (.isub, 1) := by decide +kernel
theorem dX8_strongBehind_12 : decode cX8_strongBehind 12 = .ok (.goto 4, 3) := by decide +kernel
theorem dX8_strongBehind_15 : decode cX8_strongBehind 15 = .ok (.iconst 0, 1) := by decide +kernel
theorem dX8_strongBehind_16 : decode cX8_strongBehind 16 = .ok (.ireturn, 1) := by decide +kernel
theorem dX8_strongBehind_17 : decode cX8_strongBehind 17 = .ok (.iload_n 0, 1) := by decide +kernel
theorem dX8_strongBehind_18 : decode cX8_strongBehind 18 = .ok (.iconst 1, 1) := by decide +kernel
theorem dX8_strongBehind_19 : decode cX8_strongBehind 19 = .ok (.if_icmp .eq 8, 3) := by decide +kernel
theorem dX8_strongBehind_22 : decode cX8_strongBehind 22 = .ok (.iload_n 0, 1) := by decide +kernel
theorem dX8_strongBehind_23 : decode cX8_strongBehind 23 = .ok (.iconst 2, 1) := by decide +kernel
theorem dX8_strongBehind_24 : decode cX8_strongBehind 24 = .ok (.if_icmp .ne 7, 3) := by decide +kernel
theorem dX8_strongBehind_27 : decode cX8_strongBehind 27 = .ok (.iconst 1, 1) := by decide +kernel
theorem dX8_strongBehind_28 : decode cX8_strongBehind 28 = .ok (.goto 4, 3) := by decide +kernel
theorem dX8_strongBehind_31 : decode cX8_strongBehind 31 = .ok (.iconst 0, 1) := by decide +kernel
theorem dX8_strongBehind_32 : decode cX8_strongBehind 32 = .ok (.istore_n 3, 1) := by decide +kernel
theorem dX8_strongBehind_33 : decode cX8_strongBehind 33 = .ok (.iload_n 3, 1) := by decide +kernel
theorem dX8_strongBehind_34 : decode cX8_strongBehind 34 = .ok (.ifCond .eq 14, 3) := by decide +kernel
theorem dX8_strongBehind_37 : decode cX8_strongBehind 37 = .ok (.iload_n 1, 1) := by decide +kernel
theorem dX8_strongBehind_38 : decode cX8_strongBehind 38 = .ok (.iload_n 2, 1) := by decide +kernel
theorem dX8_strongBehind_39 : decode cX8_strongBehind 39 = .ok (.if_icmp .ge 9, 3) := by decide +kernel
theorem dX8_strongBehind_42 : decode cX8_strongBehind 42 = .ok (.iload_n 1, 1) := by decide +kernel
theorem dX8_strongBehind_43 : decode cX8_strongBehind 43 = .ok (.iconst 1, 1) := by decide +kernel
theorem dX8_strongBehind_44 : decode cX8_strongBehind 44 = .ok (.iadd, 1) := by decide +kernel
theorem dX8_strongBehind_45 : decode cX8_strongBehind 45 = .ok (.goto 4, 3) := by decide +kernel
theorem dX8_strongBehind_48 : decode cX8_strongBehind 48 = .ok (.iload_n 1, 1) := by decide +kernel
theorem dX8_strongBehind_49 : decode cX8_strongBehind 49 = .ok (.ireturn, 1) := by decide +kernel
theorem dX9_init_0 : decode cX9_init 0 = .ok (.aload_n 0, 1) := by decide +kernel
theorem dX9_init_1 : decode cX9_init 1 = .ok (.invokespecial 3, 3) := by decide +kernel
theorem dX9_init_4 : decode cX9_init 4 = .ok (.aload_n 0, 1) := by decide +kernel
theorem dX9_init_5 : decode cX9_init 5 = .ok (.iconst 5, 1) := by decide +kernel
theorem dX9_init_6 : decode cX9_init 6 = .ok (.putfield 9, 3) := by decide +kernel
theorem dX9_init_9 : decode cX9_init 9 = .ok (.aload_n 0, 1) := by decide +kernel
theorem dX9_init_10 : decode cX9_init 10 = .ok (.iconst 5, 1) := by decide +kernel
theorem dX9_init_11 : decode cX9_init 11 = .ok (.putfield 15, 3) := by decide +kernel
theorem dX9_init_14 : decode cX9_init 14 = .ok (.aload_n 0, 1) := by decide +kernel
theorem dX9_init_15 : decode cX9_init 15 = .ok (.iconst 5, 1) := by decide +kernel
theorem dX9_init_16 : decode cX9_init 16 = .ok (.putfield 18, 3) := by decide +kernel
theorem dX9_init_19 : decode cX9_init 19 = .ok (.return_, 1) := by decide +kernel
theorem dX9_allows_0 : decode cX9_allows 0 = .ok (.iload_n 0, 1) := by decide +kernel
theorem dX9_allows_1 : decode cX9_allows 1 = .ok (.iconst 1, 1) := by decide +kernel
theorem dX9_allows_2 : decode cX9_allows 2 = .ok (.if_icmp .ne 22, 3) := by decide +kernel
theorem dX9_allows_5 : decode cX9_allows 5 = .ok (.iload_n 1, 1) := by decide +kernel
theorem dX9_allows_6 : decode cX9_allows 6 = .ok (.iconst 1, 1) := by decide +kernel
theorem dX9_allows_7 : decode cX9_allows 7 = .ok (.if_icmp .lt 13, 3) := by decide +kernel
theorem dX9_allows_10 : decode cX9_allows 10 = .ok (.iload_n 1, 1) := by decide +kernel
theorem dX9_allows_11 : decode cX9_allows 11 = .ok (.bipush 8, 2) := by decide +kernel
theorem dX9_allows_13 : decode cX9_allows 13 = .ok (.if_icmp .gt 7, 3) := by decide +kernel
theorem dX9_allows_16 : decode cX9_allows 16 = .ok (.iconst 1, 1) := by decide +kernel
theorem dX9_allows_17 : decode cX9_allows 17 = .ok (.goto 22, 3) := by decide +kernel
theorem dX9_allows_20 : decode cX9_allows 20 = .ok (.iconst 0, 1) := by decide +kernel
theorem dX9_allows_21 : decode cX9_allows 21 = .ok (.goto 18, 3) := by decide +kernel
theorem dX9_allows_24 : decode cX9_allows 24 = .ok (.iload_n 1, 1) := by decide +kernel
theorem dX9_allows_25 : decode cX9_allows 25 = .ok (.ifCond .lt 13, 3) := by decide +kernel
theorem dX9_allows_28 : decode cX9_allows 28 = .ok (.iload_n 1, 1) := by decide +kernel
theorem dX9_allows_29 : decode cX9_allows 29 = .ok (.bipush 9, 2) := by decide +kernel
theorem dX9_allows_31 : decode cX9_allows 31 = .ok (.if_icmp .gt 7, 3) := by decide +kernel
theorem dX9_allows_34 : decode cX9_allows 34 = .ok (.iconst 1, 1) := by decide +kernel
theorem dX9_allows_35 : decode cX9_allows 35 = .ok (.goto 4, 3) := by decide +kernel
theorem dX9_allows_38 : decode cX9_allows 38 = .ok (.iconst 0, 1) := by decide +kernel
theorem dX9_allows_39 : decode cX9_allows 39 = .ok (.ireturn, 1) := by decide +kernel
theorem dX9_change_0 : decode cX9_change 0 = .ok (.iload_n 1, 1) := by decide +kernel
theorem dX9_change_1 : decode cX9_change 1 = .ok (.ifCond .ne 16, 3) := by decide +kernel
theorem dX9_change_4 : decode cX9_change 4 = .ok (.aload_n 0, 1) := by decide +kernel
theorem dX9_change_5 : decode cX9_change 5 = .ok (.getfield 9, 3) := by decide +kernel
theorem dX9_change_8 : decode cX9_change 8 = .ok (.istore_n 3, 1) := by decide +kernel
theorem dX9_change_9 : decode cX9_change 9 = .ok (.aload_n 0, 1) := by decide +kernel
theorem dX9_change_10 : decode cX9_change 10 = .ok (.iload_n 2, 1) := by decide +kernel
theorem dX9_change_11 : decode cX9_change 11 = .ok (.putfield 9, 3) := by decide +kernel
theorem dX9_change_14 : decode cX9_change 14 = .ok (.goto 31, 3) := by decide +kernel
theorem dX9_change_17 : decode cX9_change 17 = .ok (.iload_n 1, 1) := by decide +kernel
theorem dX9_change_18 : decode cX9_change 18 = .ok (.iconst 1, 1) := by decide +kernel
theorem dX9_change_19 : decode cX9_change 19 = .ok (.if_icmp .ne 16, 3) := by decide +kernel
theorem dX9_change_22 : decode cX9_change 22 = .ok (.aload_n 0, 1) := by decide +kernel
theorem dX9_change_23 : decode cX9_change 23 = .ok (.getfield 15, 3) := by decide +kernel
theorem dX9_change_26 : decode cX9_change 26 = .ok (.istore_n 3, 1) := by decide +kernel
theorem dX9_change_27 : decode cX9_change 27 = .ok (.aload_n 0, 1) := by decide +kernel
theorem dX9_change_28 : decode cX9_change 28 = .ok (.iload_n 2, 1) := by decide +kernel
theorem dX9_change_29 : decode cX9_change 29 = .ok (.putfield 15, 3) := by decide +kernel
theorem dX9_change_32 : decode cX9_change 32 = .ok (.goto 13, 3) := by decide +kernel
theorem dX9_change_35 : decode cX9_change 35 = .ok (.aload_n 0, 1) := by decide +kernel
theorem dX9_change_36 : decode cX9_change 36 = .ok (.getfield 18, 3) := by decide +kernel
theorem dX9_change_39 : decode cX9_change 39 = .ok (.istore_n 3, 1) := by decide +kernel
theorem dX9_change_40 : decode cX9_change 40 = .ok (.aload_n 0, 1) := by decide +kernel
theorem dX9_change_41 : decode cX9_change 41 = .ok (.iload_n 2, 1) := by decide +kernel
theorem dX9_change_42 : decode cX9_change 42 = .ok (.putfield 18, 3) := by decide +kernel
theorem dX9_change_45 : decode cX9_change 45 = .ok (.iload_n 3, 1) := by decide +kernel
theorem dX9_change_46 : decode cX9_change 46 = .ok (.ireturn, 1) := by decide +kernel
theorem dX10_init_0 : decode cX10_init 0 = .ok (.aload_n 0, 1) := by decide +kernel
theorem dX10_init_1 : decode cX10_init 1 = .ok (.invokespecial 3, 3) := by decide +kernel
theorem dX10_init_4 : decode cX10_init 4 = .ok (.aload_n 0, 1) := by decide +kernel
theorem dX10_init_5 : decode cX10_init 5 = .ok (.iconst 0, 1) := by decide +kernel
theorem dX10_init_6 : decode cX10_init 6 = .ok (.iload_n 1, 1) := by decide +kernel
theorem dX10_init_7 : decode cX10_init 7 = .ok (.invokestatic 9, 3) := by decide +kernel
theorem dX10_init_10 : decode cX10_init 10 = .ok (.newarray .int, 2) := by decide +kernel
theorem dX10_init_12 : decode cX10_init 12 = .ok (.putfield 15, 3) := by decide +kernel
theorem dX10_init_15 : decode cX10_init 15 = .ok (.return_, 1) := by decide +kernel
theorem dX10_isFull_0 : decode cX10_isFull 0 = .ok (.aload_n 0, 1) := by decide +kernel
theorem dX10_isFull_1 : decode cX10_isFull 1 = .ok (.getfield 21, 3) := by decide +kernel
theorem dX10_isFull_4 : decode cX10_isFull 4 = .ok (.aload_n 0, 1) := by decide +kernel
theorem dX10_isFull_5 : decode cX10_isFull 5 = .ok (.getfield 15, 3) := by decide +kernel
theorem dX10_isFull_8 : decode cX10_isFull 8 = .ok (.arraylength, 1) := by decide +kernel
theorem dX10_isFull_9 : decode cX10_isFull 9 = .ok (.if_icmp .lt 7, 3) := by decide +kernel
theorem dX10_isFull_12 : decode cX10_isFull 12 = .ok (.iconst 1, 1) := by decide +kernel
theorem dX10_isFull_13 : decode cX10_isFull 13 = .ok (.goto 4, 3) := by decide +kernel
theorem dX10_isFull_16 : decode cX10_isFull 16 = .ok (.iconst 0, 1) := by decide +kernel
theorem dX10_isFull_17 : decode cX10_isFull 17 = .ok (.ireturn, 1) := by decide +kernel
theorem dX10_push_0 : decode cX10_push 0 = .ok (.aload_n 0, 1) := by decide +kernel
theorem dX10_push_1 : decode cX10_push 1 = .ok (.getfield 21, 3) := by decide +kernel
theorem dX10_push_4 : decode cX10_push 4 = .ok (.aload_n 0, 1) := by decide +kernel
theorem dX10_push_5 : decode cX10_push 5 = .ok (.getfield 15, 3) := by decide +kernel
theorem dX10_push_8 : decode cX10_push 8 = .ok (.arraylength, 1) := by decide +kernel
theorem dX10_push_9 : decode cX10_push 9 = .ok (.if_icmp .ge 23, 3) := by decide +kernel
theorem dX10_push_12 : decode cX10_push 12 = .ok (.aload_n 0, 1) := by decide +kernel
theorem dX10_push_13 : decode cX10_push 13 = .ok (.getfield 15, 3) := by decide +kernel
theorem dX10_push_16 : decode cX10_push 16 = .ok (.aload_n 0, 1) := by decide +kernel
theorem dX10_push_17 : decode cX10_push 17 = .ok (.getfield 21, 3) := by decide +kernel
theorem dX10_push_20 : decode cX10_push 20 = .ok (.iload_n 1, 1) := by decide +kernel
theorem dX10_push_21 : decode cX10_push 21 = .ok (.iastore, 1) := by decide +kernel
theorem dX10_push_22 : decode cX10_push 22 = .ok (.aload_n 0, 1) := by decide +kernel
theorem dX10_push_23 : decode cX10_push 23 = .ok (.dup, 1) := by decide +kernel
theorem dX10_push_24 : decode cX10_push 24 = .ok (.getfield 21, 3) := by decide +kernel
theorem dX10_push_27 : decode cX10_push 27 = .ok (.iconst 1, 1) := by decide +kernel
theorem dX10_push_28 : decode cX10_push 28 = .ok (.iadd, 1) := by decide +kernel
theorem dX10_push_29 : decode cX10_push 29 = .ok (.putfield 21, 3) := by decide +kernel
theorem dX10_push_32 : decode cX10_push 32 = .ok (.return_, 1) := by decide +kernel
theorem dX10_byteAt_0 : decode cX10_byteAt 0 = .ok (.iload_n 1, 1) := by decide +kernel
theorem dX10_byteAt_1 : decode cX10_byteAt 1 = .ok (.ifCond .lt 20, 3) := by decide +kernel
theorem dX10_byteAt_4 : decode cX10_byteAt 4 = .ok (.iload_n 1, 1) := by decide +kernel
theorem dX10_byteAt_5 : decode cX10_byteAt 5 = .ok (.aload_n 0, 1) := by decide +kernel
theorem dX10_byteAt_6 : decode cX10_byteAt 6 = .ok (.getfield 21, 3) := by decide +kernel
theorem dX10_byteAt_9 : decode cX10_byteAt 9 = .ok (.if_icmp .ge 12, 3) := by decide +kernel
theorem dX10_byteAt_12 : decode cX10_byteAt 12 = .ok (.aload_n 0, 1) := by decide +kernel
theorem dX10_byteAt_13 : decode cX10_byteAt 13 = .ok (.getfield 15, 3) := by decide +kernel
theorem dX10_byteAt_16 : decode cX10_byteAt 16 = .ok (.iload_n 1, 1) := by decide +kernel
theorem dX10_byteAt_17 : decode cX10_byteAt 17 = .ok (.iaload, 1) := by decide +kernel
theorem dX10_byteAt_18 : decode cX10_byteAt 18 = .ok (.goto 4, 3) := by decide +kernel
theorem dX10_byteAt_21 : decode cX10_byteAt 21 = .ok (.iconst (-1), 1) := by decide +kernel
theorem dX10_byteAt_22 : decode cX10_byteAt 22 = .ok (.ireturn, 1) := by decide +kernel
theorem dX11_init_0 : decode cX11_init 0 = .ok (.aload_n 0, 1) := by decide +kernel
theorem dX11_init_1 : decode cX11_init 1 = .ok (.invokespecial 1, 3) := by decide +kernel
theorem dX11_init_4 : decode cX11_init 4 = .ok (.aload_n 0, 1) := by decide +kernel
theorem dX11_init_5 : decode cX11_init 5 = .ok (.new 7, 3) := by decide +kernel
theorem dX11_init_8 : decode cX11_init 8 = .ok (.dup, 1) := by decide +kernel
theorem dX11_init_9 : decode cX11_init 9 = .ok (.bipush 47, 2) := by decide +kernel
theorem dX11_init_11 : decode cX11_init 11 = .ok (.invokespecial 11, 3) := by decide +kernel
theorem dX11_init_14 : decode cX11_init 14 = .ok (.putfield 14, 3) := by decide +kernel
theorem dX11_init_17 : decode cX11_init 17 = .ok (.aload_n 0, 1) := by decide +kernel
theorem dX11_init_18 : decode cX11_init 18 = .ok (.new 7, 3) := by decide +kernel
theorem dX11_init_21 : decode cX11_init 21 = .ok (.dup, 1) := by decide +kernel
theorem dX11_init_22 : decode cX11_init 22 = .ok (.bipush 12, 2) := by decide +kernel
theorem dX11_init_24 : decode cX11_init 24 = .ok (.invokespecial 11, 3) := by decide +kernel
theorem dX11_init_27 : decode cX11_init 27 = .ok (.putfield 18, 3) := by decide +kernel
theorem dX11_init_30 : decode cX11_init 30 = .ok (.aload_n 0, 1) := by decide +kernel
theorem dX11_init_31 : decode cX11_init 31 = .ok (.new 21, 3) := by decide +kernel
theorem dX11_init_34 : decode cX11_init 34 = .ok (.dup, 1) := by decide +kernel
theorem dX11_init_35 : decode cX11_init 35 = .ok (.invokespecial 23, 3) := by decide +kernel
theorem dX11_init_38 : decode cX11_init 38 = .ok (.putfield 24, 3) := by decide +kernel
theorem dX11_init_41 : decode cX11_init 41 = .ok (.aload_n 0, 1) := by decide +kernel
theorem dX11_init_42 : decode cX11_init 42 = .ok (.new 28, 3) := by decide +kernel
theorem dX11_init_45 : decode cX11_init 45 = .ok (.dup, 1) := by decide +kernel
theorem dX11_init_46 : decode cX11_init 46 = .ok (.invokespecial 30, 3) := by decide +kernel
theorem dX11_init_49 : decode cX11_init 49 = .ok (.putfield 31, 3) := by decide +kernel
theorem dX11_init_52 : decode cX11_init 52 = .ok (.aload_n 0, 1) := by decide +kernel
theorem dX11_init_53 : decode cX11_init 53 = .ok (.new 35, 3) := by decide +kernel
theorem dX11_init_56 : decode cX11_init 56 = .ok (.dup, 1) := by decide +kernel
theorem dX11_init_57 : decode cX11_init 57 = .ok (.invokespecial 37, 3) := by decide +kernel
theorem dX11_init_60 : decode cX11_init 60 = .ok (.putfield 38, 3) := by decide +kernel
theorem dX11_init_63 : decode cX11_init 63 = .ok (.aload_n 0, 1) := by decide +kernel
theorem dX11_init_64 : decode cX11_init 64 = .ok (.new 42, 3) := by decide +kernel
theorem dX11_init_67 : decode cX11_init 67 = .ok (.dup, 1) := by decide +kernel
theorem dX11_init_68 : decode cX11_init 68 = .ok (.invokespecial 44, 3) := by decide +kernel
theorem dX11_init_71 : decode cX11_init 71 = .ok (.putfield 45, 3) := by decide +kernel
theorem dX11_init_74 : decode cX11_init 74 = .ok (.aload_n 0, 1) := by decide +kernel
theorem dX11_init_75 : decode cX11_init 75 = .ok (.new 42, 3) := by decide +kernel
theorem dX11_init_78 : decode cX11_init 78 = .ok (.dup, 1) := by decide +kernel
theorem dX11_init_79 : decode cX11_init 79 = .ok (.invokespecial 44, 3) := by decide +kernel
theorem dX11_init_82 : decode cX11_init 82 = .ok (.putfield 49, 3) := by decide +kernel
theorem dX11_init_85 : decode cX11_init 85 = .ok (.aload_n 0, 1) := by decide +kernel
theorem dX11_init_86 : decode cX11_init 86 = .ok (.new 52, 3) := by decide +kernel
theorem dX11_init_89 : decode cX11_init 89 = .ok (.dup, 1) := by decide +kernel
theorem dX11_init_90 : decode cX11_init 90 = .ok (.invokespecial 54, 3) := by decide +kernel
theorem dX11_init_93 : decode cX11_init 93 = .ok (.putfield 55, 3) := by decide +kernel
theorem dX11_init_96 : decode cX11_init 96 = .ok (.aload_n 0, 1) := by decide +kernel
theorem dX11_init_97 : decode cX11_init 97 = .ok (.new 59, 3) := by decide +kernel
theorem dX11_init_100 : decode cX11_init 100 = .ok (.dup, 1) := by decide +kernel
theorem dX11_init_101 : decode cX11_init 101 = .ok (.invokespecial 61, 3) := by decide +kernel
theorem dX11_init_104 : decode cX11_init 104 = .ok (.putfield 62, 3) := by decide +kernel
theorem dX11_init_107 : decode cX11_init 107 = .ok (.aload_n 0, 1) := by decide +kernel
theorem dX11_init_108 : decode cX11_init 108 = .ok (.iconst 4, 1) := by decide +kernel
theorem dX11_init_109 : decode cX11_init 109 = .ok (.anewarray 66, 3) := by decide +kernel
theorem dX11_init_112 : decode cX11_init 112 = .ok (.putfield 68, 3) := by decide +kernel
theorem dX11_init_115 : decode cX11_init 115 = .ok (.aload_n 0, 1) := by decide +kernel
theorem dX11_init_116 : decode cX11_init 116 = .ok (.bipush 48, 2) := by decide +kernel
theorem dX11_init_118 : decode cX11_init 118 = .ok (.newarray .int, 2) := by decide +kernel
theorem dX11_init_120 : decode cX11_init 120 = .ok (.putfield 72, 3) := by decide +kernel
theorem dX11_init_123 : decode cX11_init 123 = .ok (.iconst 0, 1) := by decide +kernel
theorem dX11_init_124 : decode cX11_init 124 = .ok (.istore_n 1, 1) := by decide +kernel
theorem dX11_init_125 : decode cX11_init 125 = .ok (.iload_n 1, 1) := by decide +kernel
theorem dX11_init_126 : decode cX11_init 126 = .ok (.iconst 4, 1) := by decide +kernel
theorem dX11_init_127 : decode cX11_init 127 = .ok (.if_icmp .ge 22, 3) := by decide +kernel
theorem dX11_init_130 : decode cX11_init 130 = .ok (.aload_n 0, 1) := by decide +kernel
theorem dX11_init_131 : decode cX11_init 131 = .ok (.getfield 68, 3) := by decide +kernel
theorem dX11_init_134 : decode cX11_init 134 = .ok (.iload_n 1, 1) := by decide +kernel
theorem dX11_init_135 : decode cX11_init 135 = .ok (.new 66, 3) := by decide +kernel
theorem dX11_init_138 : decode cX11_init 138 = .ok (.dup, 1) := by decide +kernel
theorem dX11_init_139 : decode cX11_init 139 = .ok (.invokespecial 76, 3) := by decide +kernel
theorem dX11_init_142 : decode cX11_init 142 = .ok (.aastore, 1) := by decide +kernel
theorem dX11_init_143 : decode cX11_init 143 = .ok (.iinc 1 1, 3) := by decide +kernel
theorem dX11_init_146 : decode cX11_init 146 = .ok (.goto (-21), 3) := by decide +kernel
theorem dX11_init_149 : decode cX11_init 149 = .ok (.aload_n 0, 1) := by decide +kernel
theorem dX11_init_150 : decode cX11_init 150 = .ok (.getfield 45, 3) := by decide +kernel
theorem dX11_init_153 : decode cX11_init 153 = .ok (.aload_n 0, 1) := by decide +kernel
theorem dX11_init_154 : decode cX11_init 154 = .ok (.getfield 38, 3) := by decide +kernel
theorem dX11_init_157 : decode cX11_init 157 = .ok (.getfield 77, 3) := by decide +kernel
theorem dX11_init_160 : decode cX11_init 160 = .ok (.aload_n 0, 1) := by decide +kernel
theorem dX11_init_161 : decode cX11_init 161 = .ok (.getfield 38, 3) := by decide +kernel
theorem dX11_init_164 : decode cX11_init 164 = .ok (.getfield 81, 3) := by decide +kernel
theorem dX11_init_167 : decode cX11_init 167 = .ok (.invokevirtual 84, 3) := by decide +kernel
theorem dX11_init_170 : decode cX11_init 170 = .ok (.return_, 1) := by decide +kernel
theorem dX11_type_0 : decode cX11_type 0 = .ok (.iload_n 1, 1) := by decide +kernel
theorem dX11_type_1 : decode cX11_type 1 = .ok (.invokestatic 88, 3) := by decide +kernel
theorem dX11_type_4 : decode cX11_type 4 = .ok (.ifCond .eq 14, 3) := by decide +kernel
theorem dX11_type_7 : decode cX11_type 7 = .ok (.iload_n 2, 1) := by decide +kernel
theorem dX11_type_8 : decode cX11_type 8 = .ok (.ifCond .lt 10, 3) := by decide +kernel
theorem dX11_type_11 : decode cX11_type 11 = .ok (.iload_n 2, 1) := by decide +kernel
theorem dX11_type_12 : decode cX11_type 12 = .ok (.sipush 255, 3) := by decide +kernel
theorem dX11_type_15 : decode cX11_type 15 = .ok (.if_icmp .le 6, 3) := by decide +kernel
theorem dX11_type_18 : decode cX11_type 18 = .ok (.bipush (-2), 2) := by decide +kernel
theorem dX11_type_20 : decode cX11_type 20 = .ok (.ireturn, 1) := by decide +kernel
theorem dX11_type_21 : decode cX11_type 21 = .ok (.aload_n 0, 1) := by decide +kernel
theorem dX11_type_22 : decode cX11_type 22 = .ok (.iload_n 1, 1) := by decide +kernel
theorem dX11_type_23 : decode cX11_type 23 = .ok (.invokevirtual 92, 3) := by decide +kernel
theorem dX11_type_26 : decode cX11_type 26 = .ok (.astore_n 3, 1) := by decide +kernel
theorem dX11_type_27 : decode cX11_type 27 = .ok (.aload_n 3, 1) := by decide +kernel
theorem dX11_type_28 : decode cX11_type 28 = .ok (.invokevirtual 96, 3) := by decide +kernel
theorem dX11_type_31 : decode cX11_type 31 = .ok (.ifCond .eq 6, 3) := by decide +kernel
theorem dX11_type_34 : decode cX11_type 34 = .ok (.bipush (-4), 2) := by decide +kernel
theorem dX11_type_36 : decode cX11_type 36 = .ok (.ireturn, 1) := by decide +kernel
theorem dX11_type_37 : decode cX11_type 37 = .ok (.aload_n 3, 1) := by decide +kernel
theorem dX11_type_38 : decode cX11_type 38 = .ok (.iload_n 2, 1) := by decide +kernel
theorem dX11_type_39 : decode cX11_type 39 = .ok (.invokevirtual 100, 3) := by decide +kernel
theorem dX11_type_42 : decode cX11_type 42 = .ok (.aload_n 0, 1) := by decide +kernel
theorem dX11_type_43 : decode cX11_type 43 = .ok (.iload_n 1, 1) := by decide +kernel
theorem dX11_type_44 : decode cX11_type 44 = .ok (.invokevirtual 103, 3) := by decide +kernel
theorem dX11_type_47 : decode cX11_type 47 = .ok (.aload_n 3, 1) := by decide +kernel
theorem dX11_type_48 : decode cX11_type 48 = .ok (.getfield 106, 3) := by decide +kernel
theorem dX11_type_51 : decode cX11_type 51 = .ok (.ireturn, 1) := by decide +kernel
theorem dX11_wipe_0 : decode cX11_wipe 0 = .ok (.iload_n 1, 1) := by decide +kernel
theorem dX11_wipe_1 : decode cX11_wipe 1 = .ok (.invokestatic 88, 3) := by decide +kernel
theorem dX11_wipe_4 : decode cX11_wipe 4 = .ok (.ifCond .ne 6, 3) := by decide +kernel
theorem dX11_wipe_7 : decode cX11_wipe 7 = .ok (.bipush (-2), 2) := by decide +kernel
theorem dX11_wipe_9 : decode cX11_wipe 9 = .ok (.ireturn, 1) := by decide +kernel
theorem dX11_wipe_10 : decode cX11_wipe 10 = .ok (.aload_n 0, 1) := by decide +kernel
theorem dX11_wipe_11 : decode cX11_wipe 11 = .ok (.iload_n 1, 1) := by decide +kernel
theorem dX11_wipe_12 : decode cX11_wipe 12 = .ok (.invokevirtual 92, 3) := by decide +kernel
theorem dX11_wipe_15 : decode cX11_wipe 15 = .ok (.astore_n 2, 1) := by decide +kernel
theorem dX11_wipe_16 : decode cX11_wipe 16 = .ok (.aload_n 2, 1) := by decide +kernel
theorem dX11_wipe_17 : decode cX11_wipe 17 = .ok (.getfield 106, 3) := by decide +kernel
theorem dX11_wipe_20 : decode cX11_wipe 20 = .ok (.istore_n 3, 1) := by decide +kernel
theorem dX11_wipe_21 : decode cX11_wipe 21 = .ok (.aload_n 2, 1) := by decide +kernel
theorem dX11_wipe_22 : decode cX11_wipe 22 = .ok (.iconst 0, 1) := by decide +kernel
theorem dX11_wipe_23 : decode cX11_wipe 23 = .ok (.putfield 106, 3) := by decide +kernel
theorem dX11_wipe_26 : decode cX11_wipe 26 = .ok (.aload_n 0, 1) := by decide +kernel
theorem dX11_wipe_27 : decode cX11_wipe 27 = .ok (.iload_n 1, 1) := by decide +kernel
theorem dX11_wipe_28 : decode cX11_wipe 28 = .ok (.invokevirtual 103, 3) := by decide +kernel
theorem dX11_wipe_31 : decode cX11_wipe 31 = .ok (.iload_n 3, 1) := by decide +kernel
theorem dX11_wipe_32 : decode cX11_wipe 32 = .ok (.ireturn, 1) := by decide +kernel
theorem dX11_undo_0 : decode cX11_undo 0 = .ok (.iload_n 1, 1) := by decide +kernel
theorem dX11_undo_1 : decode cX11_undo 1 = .ok (.invokestatic 88, 3) := by decide +kernel
theorem dX11_undo_4 : decode cX11_undo 4 = .ok (.ifCond .ne 6, 3) := by decide +kernel
theorem dX11_undo_7 : decode cX11_undo 7 = .ok (.bipush (-2), 2) := by decide +kernel
theorem dX11_undo_9 : decode cX11_undo 9 = .ok (.ireturn, 1) := by decide +kernel
theorem dX11_undo_10 : decode cX11_undo 10 = .ok (.aload_n 0, 1) := by decide +kernel
theorem dX11_undo_11 : decode cX11_undo 11 = .ok (.iload_n 1, 1) := by decide +kernel
theorem dX11_undo_12 : decode cX11_undo 12 = .ok (.invokevirtual 92, 3) := by decide +kernel
theorem dX11_undo_15 : decode cX11_undo 15 = .ok (.astore_n 2, 1) := by decide +kernel
theorem dX11_undo_16 : decode cX11_undo 16 = .ok (.aload_n 2, 1) := by decide +kernel
theorem dX11_undo_17 : decode cX11_undo 17 = .ok (.getfield 106, 3) := by decide +kernel
theorem dX11_undo_20 : decode cX11_undo 20 = .ok (.ifCond .ne 6, 3) := by decide +kernel
theorem dX11_undo_23 : decode cX11_undo 23 = .ok (.bipush (-3), 2) := by decide +kernel
theorem dX11_undo_25 : decode cX11_undo 25 = .ok (.ireturn, 1) := by decide +kernel
theorem dX11_undo_26 : decode cX11_undo 26 = .ok (.aload_n 2, 1) := by decide +kernel
theorem dX11_undo_27 : decode cX11_undo 27 = .ok (.dup, 1) := by decide +kernel
theorem dX11_undo_28 : decode cX11_undo 28 = .ok (.getfield 106, 3) := by decide +kernel
theorem dX11_undo_31 : decode cX11_undo 31 = .ok (.iconst 1, 1) := by decide +kernel
theorem dX11_undo_32 : decode cX11_undo 32 = .ok (.isub, 1) := by decide +kernel
theorem dX11_undo_33 : decode cX11_undo 33 = .ok (.putfield 106, 3) := by decide +kernel
theorem dX11_undo_36 : decode cX11_undo 36 = .ok (.aload_n 0, 1) := by decide +kernel
theorem dX11_undo_37 : decode cX11_undo 37 = .ok (.iload_n 1, 1) := by decide +kernel
theorem dX11_undo_38 : decode cX11_undo 38 = .ok (.invokevirtual 103, 3) := by decide +kernel
theorem dX11_undo_41 : decode cX11_undo 41 = .ok (.aload_n 2, 1) := by decide +kernel
theorem dX11_undo_42 : decode cX11_undo 42 = .ok (.getfield 106, 3) := by decide +kernel
theorem dX11_undo_45 : decode cX11_undo 45 = .ok (.ireturn, 1) := by decide +kernel
theorem dX11_fault_0 : decode cX11_fault 0 = .ok (.iload_n 1, 1) := by decide +kernel
theorem dX11_fault_1 : decode cX11_fault 1 = .ok (.invokestatic 88, 3) := by decide +kernel
theorem dX11_fault_4 : decode cX11_fault 4 = .ok (.ifCond .ne 6, 3) := by decide +kernel
theorem dX11_fault_7 : decode cX11_fault 7 = .ok (.bipush (-2), 2) := by decide +kernel
theorem dX11_fault_9 : decode cX11_fault 9 = .ok (.ireturn, 1) := by decide +kernel
theorem dX11_fault_10 : decode cX11_fault 10 = .ok (.iload_n 1, 1) := by decide +kernel
theorem dX11_fault_11 : decode cX11_fault 11 = .ok (.ifCond .ne 13, 3) := by decide +kernel
theorem dX11_fault_14 : decode cX11_fault 14 = .ok (.aload_n 0, 1) := by decide +kernel
theorem dX11_fault_15 : decode cX11_fault 15 = .ok (.getfield 24, 3) := by decide +kernel
theorem dX11_fault_18 : decode cX11_fault 18 = .ok (.getfield 109, 3) := by decide +kernel
theorem dX11_fault_21 : decode cX11_fault 21 = .ok (.goto 10, 3) := by decide +kernel
theorem dX11_fault_24 : decode cX11_fault 24 = .ok (.aload_n 0, 1) := by decide +kernel
theorem dX11_fault_25 : decode cX11_fault 25 = .ok (.getfield 31, 3) := by decide +kernel
theorem dX11_fault_28 : decode cX11_fault 28 = .ok (.getfield 112, 3) := by decide +kernel
theorem dX11_fault_31 : decode cX11_fault 31 = .ok (.ireturn, 1) := by decide +kernel
theorem dX11_felon_0 : decode cX11_felon 0 = .ok (.aload_n 0, 1) := by decide +kernel
theorem dX11_felon_1 : decode cX11_felon 1 = .ok (.getfield 24, 3) := by decide +kernel
theorem dX11_felon_4 : decode cX11_felon 4 = .ok (.iload_n 1, 1) := by decide +kernel
theorem dX11_felon_5 : decode cX11_felon 5 = .ok (.invokevirtual 113, 3) := by decide +kernel
theorem dX11_felon_8 : decode cX11_felon 8 = .ok (.ifCond .eq 12, 3) := by decide +kernel
theorem dX11_felon_11 : decode cX11_felon 11 = .ok (.iload_n 2, 1) := by decide +kernel
theorem dX11_felon_12 : decode cX11_felon 12 = .ok (.ifCond .lt 8, 3) := by decide +kernel
theorem dX11_felon_15 : decode cX11_felon 15 = .ok (.iload_n 2, 1) := by decide +kernel
theorem dX11_felon_16 : decode cX11_felon 16 = .ok (.iconst 4, 1) := by decide +kernel
theorem dX11_felon_17 : decode cX11_felon 17 = .ok (.if_icmp .le 6, 3) := by decide +kernel
theorem dX11_felon_20 : decode cX11_felon 20 = .ok (.bipush (-2), 2) := by decide +kernel
theorem dX11_felon_22 : decode cX11_felon 22 = .ok (.ireturn, 1) := by decide +kernel
theorem dX11_felon_23 : decode cX11_felon 23 = .ok (.aload_n 0, 1) := by decide +kernel
theorem dX11_felon_24 : decode cX11_felon 24 = .ok (.getfield 24, 3) := by decide +kernel
theorem dX11_felon_27 : decode cX11_felon 27 = .ok (.iload_n 1, 1) := by decide +kernel
theorem dX11_felon_28 : decode cX11_felon 28 = .ok (.iload_n 2, 1) := by decide +kernel
theorem dX11_felon_29 : decode cX11_felon 29 = .ok (.invokevirtual 116, 3) := by decide +kernel
theorem dX11_felon_32 : decode cX11_felon 32 = .ok (.ireturn, 1) := by decide +kernel
theorem dX11_name_0 : decode cX11_name 0 = .ok (.iload_n 1, 1) := by decide +kernel
theorem dX11_name_1 : decode cX11_name 1 = .ok (.ifCond .lt 9, 3) := by decide +kernel
theorem dX11_name_4 : decode cX11_name 4 = .ok (.iload_n 1, 1) := by decide +kernel
theorem dX11_name_5 : decode cX11_name 5 = .ok (.bipush 12, 2) := by decide +kernel
theorem dX11_name_7 : decode cX11_name 7 = .ok (.if_icmp .lt 6, 3) := by decide +kernel
theorem dX11_name_10 : decode cX11_name 10 = .ok (.bipush (-2), 2) := by decide +kernel
theorem dX11_name_12 : decode cX11_name 12 = .ok (.ireturn, 1) := by decide +kernel
theorem dX11_name_13 : decode cX11_name 13 = .ok (.aload_n 0, 1) := by decide +kernel
theorem dX11_name_14 : decode cX11_name 14 = .ok (.getfield 31, 3) := by decide +kernel
theorem dX11_name_17 : decode cX11_name 17 = .ok (.iload_n 1, 1) := by decide +kernel
theorem dX11_name_18 : decode cX11_name 18 = .ok (.invokevirtual 120, 3) := by decide +kernel
theorem dX11_name_21 : decode cX11_name 21 = .ok (.ireturn, 1) := by decide +kernel
theorem dX11_set_0 : decode cX11_set 0 = .ok (.iload_n 1, 1) := by decide +kernel
theorem dX11_set_1 : decode cX11_set 1 = .ok (.ifCond .lt 16, 3) := by decide +kernel
theorem dX11_set_4 : decode cX11_set 4 = .ok (.iload_n 1, 1) := by decide +kernel
theorem dX11_set_5 : decode cX11_set 5 = .ok (.iconst 2, 1) := by decide +kernel
theorem dX11_set_6 : decode cX11_set 6 = .ok (.if_icmp .gt 11, 3) := by decide +kernel
theorem dX11_set_9 : decode cX11_set 9 = .ok (.iload_n 1, 1) := by decide +kernel
theorem dX11_set_10 : decode cX11_set 10 = .ok (.iload_n 2, 1) := by decide +kernel
theorem dX11_set_11 : decode cX11_set 11 = .ok (.invokestatic 124, 3) := by decide +kernel
theorem dX11_set_14 : decode cX11_set 14 = .ok (.ifCond .ne 6, 3) := by decide +kernel
theorem dX11_set_17 : decode cX11_set 17 = .ok (.bipush (-2), 2) := by decide +kernel
theorem dX11_set_19 : decode cX11_set 19 = .ok (.ireturn, 1) := by decide +kernel
theorem dX11_set_20 : decode cX11_set 20 = .ok (.aload_n 0, 1) := by decide +kernel
theorem dX11_set_21 : decode cX11_set 21 = .ok (.getfield 38, 3) := by decide +kernel
theorem dX11_set_24 : decode cX11_set 24 = .ok (.iload_n 1, 1) := by decide +kernel
theorem dX11_set_25 : decode cX11_set 25 = .ok (.iload_n 2, 1) := by decide +kernel
theorem dX11_set_26 : decode cX11_set 26 = .ok (.invokevirtual 128, 3) := by decide +kernel
theorem dX11_set_29 : decode cX11_set 29 = .ok (.istore_n 3, 1) := by decide +kernel
theorem dX11_set_30 : decode cX11_set 30 = .ok (.aload_n 0, 1) := by decide +kernel
theorem dX11_set_31 : decode cX11_set 31 = .ok (.invokevirtual 131, 3) := by decide +kernel
theorem dX11_set_34 : decode cX11_set 34 = .ok (.iload_n 3, 1) := by decide +kernel
theorem dX11_set_35 : decode cX11_set 35 = .ok (.ireturn, 1) := by decide +kernel
theorem dX11_comes_0 : decode cX11_comes 0 = .ok (.iload_n 1, 1) := by decide +kernel
theorem dX11_comes_1 : decode cX11_comes 1 = .ok (.ifCond .lt 21, 3) := by decide +kernel
theorem dX11_comes_4 : decode cX11_comes 4 = .ok (.iload_n 1, 1) := by decide +kernel
theorem dX11_comes_5 : decode cX11_comes 5 = .ok (.aload_n 0, 1) := by decide +kernel
theorem dX11_comes_6 : decode cX11_comes 6 = .ok (.getfield 31, 3) := by decide +kernel
theorem dX11_comes_9 : decode cX11_comes 9 = .ok (.getfield 134, 3) := by decide +kernel
theorem dX11_comes_12 : decode cX11_comes 12 = .ok (.if_icmp .ge 10, 3) := by decide +kernel
theorem dX11_comes_15 : decode cX11_comes 15 = .ok (.iload_n 2, 1) := by decide +kernel
theorem dX11_comes_16 : decode cX11_comes 16 = .ok (.invokestatic 135, 3) := by decide +kernel
theorem dX11_comes_19 : decode cX11_comes 19 = .ok (.ifCond .ne 6, 3) := by decide +kernel
theorem dX11_comes_22 : decode cX11_comes 22 = .ok (.bipush (-2), 2) := by decide +kernel
theorem dX11_comes_24 : decode cX11_comes 24 = .ok (.ireturn, 1) := by decide +kernel
theorem dX11_comes_25 : decode cX11_comes 25 = .ok (.iload_n 2, 1) := by decide +kernel
theorem dX11_comes_26 : decode cX11_comes 26 = .ok (.ifCond .ne 15, 3) := by decide +kernel
theorem dX11_comes_29 : decode cX11_comes 29 = .ok (.aload_n 0, 1) := by decide +kernel
theorem dX11_comes_30 : decode cX11_comes 30 = .ok (.getfield 45, 3) := by decide +kernel
theorem dX11_comes_33 : decode cX11_comes 33 = .ok (.getfield 138, 3) := by decide +kernel
theorem dX11_comes_36 : decode cX11_comes 36 = .ok (.iload_n 1, 1) := by decide +kernel
theorem dX11_comes_37 : decode cX11_comes 37 = .ok (.iaload, 1) := by decide +kernel
theorem dX11_comes_38 : decode cX11_comes 38 = .ok (.goto 12, 3) := by decide +kernel
theorem dX11_comes_41 : decode cX11_comes 41 = .ok (.aload_n 0, 1) := by decide +kernel
theorem dX11_comes_42 : decode cX11_comes 42 = .ok (.getfield 45, 3) := by decide +kernel
theorem dX11_comes_45 : decode cX11_comes 45 = .ok (.getfield 141, 3) := by decide +kernel
theorem dX11_comes_48 : decode cX11_comes 48 = .ok (.iload_n 1, 1) := by decide +kernel
theorem dX11_comes_49 : decode cX11_comes 49 = .ok (.iaload, 1) := by decide +kernel
theorem dX11_comes_50 : decode cX11_comes 50 = .ok (.ireturn, 1) := by decide +kernel
theorem dX11_behind_0 : decode cX11_behind 0 = .ok (.aload_n 0, 1) := by decide +kernel
theorem dX11_behind_1 : decode cX11_behind 1 = .ok (.iload_n 1, 1) := by decide +kernel
theorem dX11_behind_2 : decode cX11_behind 2 = .ok (.invokevirtual 144, 3) := by decide +kernel
theorem dX11_behind_5 : decode cX11_behind 5 = .ok (.ifCond .eq 10, 3) := by decide +kernel
theorem dX11_behind_8 : decode cX11_behind 8 = .ok (.iload_n 2, 1) := by decide +kernel
theorem dX11_behind_9 : decode cX11_behind 9 = .ok (.invokestatic 135, 3) := by decide +kernel
theorem dX11_behind_12 : decode cX11_behind 12 = .ok (.ifCond .ne 6, 3) := by decide +kernel
theorem dX11_behind_15 : decode cX11_behind 15 = .ok (.bipush (-2), 2) := by decide +kernel
theorem dX11_behind_17 : decode cX11_behind 17 = .ok (.ireturn, 1) := by decide +kernel
theorem dX11_behind_18 : decode cX11_behind 18 = .ok (.iload_n 2, 1) := by decide +kernel
theorem dX11_behind_19 : decode cX11_behind 19 = .ok (.ifCond .ne 15, 3) := by decide +kernel
theorem dX11_behind_22 : decode cX11_behind 22 = .ok (.aload_n 0, 1) := by decide +kernel
theorem dX11_behind_23 : decode cX11_behind 23 = .ok (.getfield 45, 3) := by decide +kernel
theorem dX11_behind_26 : decode cX11_behind 26 = .ok (.getfield 147, 3) := by decide +kernel
theorem dX11_behind_29 : decode cX11_behind 29 = .ok (.iload_n 1, 1) := by decide +kernel
theorem dX11_behind_30 : decode cX11_behind 30 = .ok (.iaload, 1) := by decide +kernel
theorem dX11_behind_31 : decode cX11_behind 31 = .ok (.goto 12, 3) := by decide +kernel
theorem dX11_behind_34 : decode cX11_behind 34 = .ok (.aload_n 0, 1) := by decide +kernel
theorem dX11_behind_35 : decode cX11_behind 35 = .ok (.getfield 45, 3) := by decide +kernel
theorem dX11_behind_38 : decode cX11_behind 38 = .ok (.getfield 149, 3) := by decide +kernel
theorem dX11_behind_41 : decode cX11_behind 41 = .ok (.iload_n 1, 1) := by decide +kernel
theorem dX11_behind_42 : decode cX11_behind 42 = .ok (.iaload, 1) := by decide +kernel
theorem dX11_behind_43 : decode cX11_behind 43 = .ok (.ireturn, 1) := by decide +kernel
theorem dX11_alive_0 : decode cX11_alive 0 = .ok (.aload_n 0, 1) := by decide +kernel
theorem dX11_alive_1 : decode cX11_alive 1 = .ok (.iload_n 1, 1) := by decide +kernel
theorem dX11_alive_2 : decode cX11_alive 2 = .ok (.invokevirtual 144, 3) := by decide +kernel
theorem dX11_alive_5 : decode cX11_alive 5 = .ok (.ifCond .eq 10, 3) := by decide +kernel
theorem dX11_alive_8 : decode cX11_alive 8 = .ok (.iload_n 2, 1) := by decide +kernel
theorem dX11_alive_9 : decode cX11_alive 9 = .ok (.invokestatic 135, 3) := by decide +kernel
theorem dX11_alive_12 : decode cX11_alive 12 = .ok (.ifCond .ne 9, 3) := by decide +kernel
theorem dX11_alive_15 : decode cX11_alive 15 = .ok (.bipush (-2), 2) := by decide +kernel
theorem dX11_alive_17 : decode cX11_alive 17 = .ok (.invokestatic 152, 3) := by decide +kernel
