theorem dX3_init_0 : decode cX3_init 0 = .ok (.aload_n 0, 1) := by decide +kernel
theorem dX3_init_1 : decode cX3_init 1 = .ok (.invokespecial 1, 3) := by decide +kernel
theorem dX3_init_4 : decode cX3_init 4 = .ok (.aload_n 0, 1) := by decide +kernel
theorem dX3_init_5 : decode cX3_init 5 = .ok (.sipush 201, 3) := by decide +kernel
theorem dX3_init_8 : decode cX3_init 8 = .ok (.anewarray 9, 3) := by decide +kernel
theorem dX3_init_11 : decode cX3_init 11 = .ok (.putfield 11, 3) := by decide +kernel
theorem dX3_init_14 : decode cX3_init 14 = .ok (.aload_n 0, 1) := by decide +kernel
theorem dX3_init_15 : decode cX3_init 15 = .ok (.iconst 0, 1) := by decide +kernel
theorem dX3_init_16 : decode cX3_init 16 = .ok (.putfield 15, 3) := by decide +kernel
theorem dX3_init_19 : decode cX3_init 19 = .ok (.aload_n 0, 1) := by decide +kernel
theorem dX3_init_20 : decode cX3_init 20 = .ok (.new 19, 3) := by decide +kernel
theorem dX3_init_23 : decode cX3_init 23 = .ok (.dup, 1) := by decide +kernel
theorem dX3_init_24 : decode cX3_init 24 = .ok (.invokespecial 21, 3) := by decide +kernel
theorem dX3_init_27 : decode cX3_init 27 = .ok (.putfield 22, 3) := by decide +kernel
theorem dX3_init_30 : decode cX3_init 30 = .ok (.aload_n 0, 1) := by decide +kernel
theorem dX3_init_31 : decode cX3_init 31 = .ok (.new 26, 3) := by decide +kernel
theorem dX3_init_34 : decode cX3_init 34 = .ok (.dup, 1) := by decide +kernel
theorem dX3_init_35 : decode cX3_init 35 = .ok (.invokespecial 28, 3) := by decide +kernel
theorem dX3_init_38 : decode cX3_init 38 = .ok (.putfield 29, 3) := by decide +kernel
theorem dX3_init_41 : decode cX3_init 41 = .ok (.aload_n 0, 1) := by decide +kernel
theorem dX3_init_42 : decode cX3_init 42 = .ok (.iconst (-1), 1) := by decide +kernel
theorem dX3_init_43 : decode cX3_init 43 = .ok (.putfield 33, 3) := by decide +kernel
theorem dX3_init_46 : decode cX3_init 46 = .ok (.return_, 1) := by decide +kernel
theorem dX3_entry_0 : decode cX3_entry 0 = .ok (.aload_n 0, 1) := by decide +kernel
theorem dX3_entry_1 : decode cX3_entry 1 = .ok (.getfield 15, 3) := by decide +kernel
theorem dX3_entry_4 : decode cX3_entry 4 = .ok (.sipush 200, 3) := by decide +kernel
theorem dX3_entry_7 : decode cX3_entry 7 = .ok (.if_icmp .lt 6, 3) := by decide +kernel
theorem dX3_entry_10 : decode cX3_entry 10 = .ok (.bipush (-4), 2) := by decide +kernel
theorem dX3_entry_12 : decode cX3_entry 12 = .ok (.ireturn, 1) := by decide +kernel
theorem dX3_entry_13 : decode cX3_entry 13 = .ok (.aload_n 0, 1) := by decide +kernel
theorem dX3_entry_14 : decode cX3_entry 14 = .ok (.dup, 1) := by decide +kernel
theorem dX3_entry_15 : decode cX3_entry 15 = .ok (.getfield 15, 3) := by decide +kernel
theorem dX3_entry_18 : decode cX3_entry 18 = .ok (.iconst 1, 1) := by decide +kernel
theorem dX3_entry_19 : decode cX3_entry 19 = .ok (.iadd, 1) := by decide +kernel
theorem dX3_entry_20 : decode cX3_entry 20 = .ok (.putfield 15, 3) := by decide +kernel
theorem dX3_entry_23 : decode cX3_entry 23 = .ok (.aload_n 0, 1) := by decide +kernel
theorem dX3_entry_24 : decode cX3_entry 24 = .ok (.getfield 11, 3) := by decide +kernel
theorem dX3_entry_27 : decode cX3_entry 27 = .ok (.aload_n 0, 1) := by decide +kernel
theorem dX3_entry_28 : decode cX3_entry 28 = .ok (.getfield 15, 3) := by decide +kernel
theorem dX3_entry_31 : decode cX3_entry 31 = .ok (.new 9, 3) := by decide +kernel
theorem dX3_entry_34 : decode cX3_entry 34 = .ok (.dup, 1) := by decide +kernel
theorem dX3_entry_35 : decode cX3_entry 35 = .ok (.invokespecial 36, 3) := by decide +kernel
theorem dX3_entry_38 : decode cX3_entry 38 = .ok (.aastore, 1) := by decide +kernel
theorem dX3_entry_39 : decode cX3_entry 39 = .ok (.aload_n 0, 1) := by decide +kernel
theorem dX3_entry_40 : decode cX3_entry 40 = .ok (.getfield 15, 3) := by decide +kernel
theorem dX3_entry_43 : decode cX3_entry 43 = .ok (.ireturn, 1) := by decide +kernel
theorem dX3_letter_0 : decode cX3_letter 0 = .ok (.aload_n 0, 1) := by decide +kernel
theorem dX3_letter_1 : decode cX3_letter 1 = .ok (.iload_n 1, 1) := by decide +kernel
theorem dX3_letter_2 : decode cX3_letter 2 = .ok (.invokevirtual 37, 3) := by decide +kernel
theorem dX3_letter_5 : decode cX3_letter 5 = .ok (.astore_n 3, 1) := by decide +kernel
theorem dX3_letter_6 : decode cX3_letter 6 = .ok (.aload_n 3, 1) := by decide +kernel
theorem dX3_letter_7 : decode cX3_letter 7 = .ok (.ifnonnull 5, 3) := by decide +kernel
theorem dX3_letter_10 : decode cX3_letter 10 = .ok (.iconst (-1), 1) := by decide +kernel
theorem dX3_letter_11 : decode cX3_letter 11 = .ok (.ireturn, 1) := by decide +kernel
theorem dX3_letter_12 : decode cX3_letter 12 = .ok (.iload_n 2, 1) := by decide +kernel
theorem dX3_letter_13 : decode cX3_letter 13 = .ok (.invokestatic 41, 3) := by decide +kernel
theorem dX3_letter_16 : decode cX3_letter 16 = .ok (.ifCond .ne 6, 3) := by decide +kernel
theorem dX3_letter_19 : decode cX3_letter 19 = .ok (.bipush (-2), 2) := by decide +kernel
theorem dX3_letter_21 : decode cX3_letter 21 = .ok (.ireturn, 1) := by decide +kernel
theorem dX3_letter_22 : decode cX3_letter 22 = .ok (.aload_n 3, 1) := by decide +kernel
theorem dX3_letter_23 : decode cX3_letter 23 = .ok (.iload_n 2, 1) := by decide +kernel
theorem dX3_letter_24 : decode cX3_letter 24 = .ok (.invokevirtual 45, 3) := by decide +kernel
theorem dX3_letter_27 : decode cX3_letter 27 = .ok (.ifCond .eq 10, 3) := by decide +kernel
theorem dX3_letter_30 : decode cX3_letter 30 = .ok (.aload_n 3, 1) := by decide +kernel
theorem dX3_letter_31 : decode cX3_letter 31 = .ok (.getfield 48, 3) := by decide +kernel
theorem dX3_letter_34 : decode cX3_letter 34 = .ok (.goto 5, 3) := by decide +kernel
theorem dX3_letter_37 : decode cX3_letter 37 = .ok (.bipush (-4), 2) := by decide +kernel
theorem dX3_letter_39 : decode cX3_letter 39 = .ok (.ireturn, 1) := by decide +kernel
theorem dX3_drop_0 : decode cX3_drop 0 = .ok (.aload_n 0, 1) := by decide +kernel
theorem dX3_drop_1 : decode cX3_drop 1 = .ok (.iload_n 1, 1) := by decide +kernel
theorem dX3_drop_2 : decode cX3_drop 2 = .ok (.invokevirtual 37, 3) := by decide +kernel
theorem dX3_drop_5 : decode cX3_drop 5 = .ok (.astore_n 2, 1) := by decide +kernel
theorem dX3_drop_6 : decode cX3_drop 6 = .ok (.aload_n 2, 1) := by decide +kernel
theorem dX3_drop_7 : decode cX3_drop 7 = .ok (.ifnonnull 5, 3) := by decide +kernel
theorem dX3_drop_10 : decode cX3_drop 10 = .ok (.iconst (-1), 1) := by decide +kernel
theorem dX3_drop_11 : decode cX3_drop 11 = .ok (.ireturn, 1) := by decide +kernel
theorem dX3_drop_12 : decode cX3_drop 12 = .ok (.aload_n 2, 1) := by decide +kernel
theorem dX3_drop_13 : decode cX3_drop 13 = .ok (.iconst 1, 1) := by decide +kernel
theorem dX3_drop_14 : decode cX3_drop 14 = .ok (.putfield 51, 3) := by decide +kernel
theorem dX3_drop_17 : decode cX3_drop 17 = .ok (.aload_n 2, 1) := by decide +kernel
theorem dX3_drop_18 : decode cX3_drop 18 = .ok (.aconst_null, 1) := by decide +kernel
theorem dX3_drop_19 : decode cX3_drop 19 = .ok (.putfield 55, 3) := by decide +kernel
theorem dX3_drop_22 : decode cX3_drop 22 = .ok (.iconst 1, 1) := by decide +kernel
theorem dX3_drop_23 : decode cX3_drop 23 = .ok (.istore_n 3, 1) := by decide +kernel
theorem dX3_drop_24 : decode cX3_drop 24 = .ok (.iload_n 3, 1) := by decide +kernel
theorem dX3_drop_25 : decode cX3_drop 25 = .ok (.aload_n 0, 1) := by decide +kernel
theorem dX3_drop_26 : decode cX3_drop 26 = .ok (.getfield 15, 3) := by decide +kernel
theorem dX3_drop_29 : decode cX3_drop 29 = .ok (.if_icmp .gt 36, 3) := by decide +kernel
theorem dX3_drop_32 : decode cX3_drop 32 = .ok (.aload_n 0, 1) := by decide +kernel
theorem dX3_drop_33 : decode cX3_drop 33 = .ok (.iload_n 3, 1) := by decide +kernel
theorem dX3_drop_34 : decode cX3_drop 34 = .ok (.invokevirtual 37, 3) := by decide +kernel
theorem dX3_drop_37 : decode cX3_drop 37 = .ok (.astore 4, 2) := by decide +kernel
theorem dX3_drop_39 : decode cX3_drop 39 = .ok (.aload 4, 2) := by decide +kernel
theorem dX3_drop_41 : decode cX3_drop 41 = .ok (.ifnull 18, 3) := by decide +kernel
theorem dX3_drop_44 : decode cX3_drop 44 = .ok (.aload 4, 2) := by decide +kernel
theorem dX3_drop_46 : decode cX3_drop 46 = .ok (.getfield 55, 3) := by decide +kernel
theorem dX3_drop_49 : decode cX3_drop 49 = .ok (.aload_n 2, 1) := by decide +kernel
theorem dX3_drop_50 : decode cX3_drop 50 = .ok (.if_acmp .ne 9, 3) := by decide +kernel
theorem dX3_drop_53 : decode cX3_drop 53 = .ok (.aload 4, 2) := by decide +kernel
theorem dX3_drop_55 : decode cX3_drop 55 = .ok (.aconst_null, 1) := by decide +kernel
theorem dX3_drop_56 : decode cX3_drop 56 = .ok (.putfield 55, 3) := by decide +kernel
theorem dX3_drop_59 : decode cX3_drop 59 = .ok (.iinc 3 1, 3) := by decide +kernel
theorem dX3_drop_62 : decode cX3_drop 62 = .ok (.goto (-38), 3) := by decide +kernel
theorem dX3_drop_65 : decode cX3_drop 65 = .ok (.aload_n 0, 1) := by decide +kernel
theorem dX3_drop_66 : decode cX3_drop 66 = .ok (.iconst (-1), 1) := by decide +kernel
theorem dX3_drop_67 : decode cX3_drop 67 = .ok (.invokevirtual 59, 3) := by decide +kernel
theorem dX3_drop_70 : decode cX3_drop 70 = .ok (.ireturn, 1) := by decide +kernel
theorem dX3_cost_0 : decode cX3_cost 0 = .ok (.iload_n 1, 1) := by decide +kernel
theorem dX3_cost_1 : decode cX3_cost 1 = .ok (.ifCond .lt 27, 3) := by decide +kernel
theorem dX3_cost_4 : decode cX3_cost 4 = .ok (.iload_n 1, 1) := by decide +kernel
theorem dX3_cost_5 : decode cX3_cost 5 = .ok (.bipush 20, 2) := by decide +kernel
theorem dX3_cost_7 : decode cX3_cost 7 = .ok (.if_icmp .ge 21, 3) := by decide +kernel
theorem dX3_cost_10 : decode cX3_cost 10 = .ok (.iload_n 2, 1) := by decide +kernel
theorem dX3_cost_11 : decode cX3_cost 11 = .ok (.invokestatic 41, 3) := by decide +kernel
theorem dX3_cost_14 : decode cX3_cost 14 = .ok (.ifCond .eq 14, 3) := by decide +kernel
theorem dX3_cost_17 : decode cX3_cost 17 = .ok (.iload_n 3, 1) := by decide +kernel
theorem dX3_cost_18 : decode cX3_cost 18 = .ok (.ifCond .lt 10, 3) := by decide +kernel
theorem dX3_cost_21 : decode cX3_cost 21 = .ok (.iload_n 3, 1) := by decide +kernel
theorem dX3_cost_22 : decode cX3_cost 22 = .ok (.sipush 1000, 3) := by decide +kernel
theorem dX3_cost_25 : decode cX3_cost 25 = .ok (.if_icmp .le 6, 3) := by decide +kernel
theorem dX3_cost_28 : decode cX3_cost 28 = .ok (.bipush (-2), 2) := by decide +kernel
theorem dX3_cost_30 : decode cX3_cost 30 = .ok (.ireturn, 1) := by decide +kernel
theorem dX3_cost_31 : decode cX3_cost 31 = .ok (.aload_n 0, 1) := by decide +kernel
theorem dX3_cost_32 : decode cX3_cost 32 = .ok (.getfield 22, 3) := by decide +kernel
theorem dX3_cost_35 : decode cX3_cost 35 = .ok (.iload_n 1, 1) := by decide +kernel
theorem dX3_cost_36 : decode cX3_cost 36 = .ok (.iload_n 2, 1) := by decide +kernel
theorem dX3_cost_37 : decode cX3_cost 37 = .ok (.iload_n 3, 1) := by decide +kernel
theorem dX3_cost_38 : decode cX3_cost 38 = .ok (.invokevirtual 63, 3) := by decide +kernel
theorem dX3_cost_41 : decode cX3_cost 41 = .ok (.aload_n 0, 1) := by decide +kernel
theorem dX3_cost_42 : decode cX3_cost 42 = .ok (.getfield 22, 3) := by decide +kernel
theorem dX3_cost_45 : decode cX3_cost 45 = .ok (.getfield 67, 3) := by decide +kernel
theorem dX3_cost_48 : decode cX3_cost 48 = .ok (.ireturn, 1) := by decide +kernel
theorem dX3_clear_0 : decode cX3_clear 0 = .ok (.aload_n 0, 1) := by decide +kernel
theorem dX3_clear_1 : decode cX3_clear 1 = .ok (.getfield 22, 3) := by decide +kernel
theorem dX3_clear_4 : decode cX3_clear 4 = .ok (.getfield 67, 3) := by decide +kernel
theorem dX3_clear_7 : decode cX3_clear 7 = .ok (.istore_n 1, 1) := by decide +kernel
theorem dX3_clear_8 : decode cX3_clear 8 = .ok (.aload_n 0, 1) := by decide +kernel
theorem dX3_clear_9 : decode cX3_clear 9 = .ok (.getfield 22, 3) := by decide +kernel
theorem dX3_clear_12 : decode cX3_clear 12 = .ok (.invokevirtual 70, 3) := by decide +kernel
theorem dX3_clear_15 : decode cX3_clear 15 = .ok (.iload_n 1, 1) := by decide +kernel
theorem dX3_clear_16 : decode cX3_clear 16 = .ok (.ireturn, 1) := by decide +kernel
theorem dX3_find_0 : decode cX3_find 0 = .ok (.iload_n 1, 1) := by decide +kernel
theorem dX3_find_1 : decode cX3_find 1 = .ok (.invokestatic 73, 3) := by decide +kernel
theorem dX3_find_4 : decode cX3_find 4 = .ok (.ifCond .ne 6, 3) := by decide +kernel
theorem dX3_find_7 : decode cX3_find 7 = .ok (.bipush (-2), 2) := by decide +kernel
theorem dX3_find_9 : decode cX3_find 9 = .ok (.ireturn, 1) := by decide +kernel
theorem dX3_find_10 : decode cX3_find 10 = .ok (.aload_n 0, 1) := by decide +kernel
theorem dX3_find_11 : decode cX3_find 11 = .ok (.invokevirtual 76, 3) := by decide +kernel
theorem dX3_find_14 : decode cX3_find 14 = .ok (.aload_n 0, 1) := by decide +kernel
theorem dX3_find_15 : decode cX3_find 15 = .ok (.getfield 29, 3) := by decide +kernel
theorem dX3_find_18 : decode cX3_find 18 = .ok (.invokevirtual 79, 3) := by decide +kernel
theorem dX3_find_21 : decode cX3_find 21 = .ok (.iconst 1, 1) := by decide +kernel
theorem dX3_find_22 : decode cX3_find 22 = .ok (.istore_n 2, 1) := by decide +kernel
theorem dX3_find_23 : decode cX3_find 23 = .ok (.iload_n 2, 1) := by decide +kernel
theorem dX3_find_24 : decode cX3_find 24 = .ok (.aload_n 0, 1) := by decide +kernel
theorem dX3_find_25 : decode cX3_find 25 = .ok (.getfield 15, 3) := by decide +kernel
theorem dX3_find_28 : decode cX3_find 28 = .ok (.if_icmp .gt 49, 3) := by decide +kernel
theorem dX3_find_31 : decode cX3_find 31 = .ok (.aload_n 0, 1) := by decide +kernel
theorem dX3_find_32 : decode cX3_find 32 = .ok (.iload_n 2, 1) := by decide +kernel
theorem dX3_find_33 : decode cX3_find 33 = .ok (.invokevirtual 37, 3) := by decide +kernel
theorem dX3_find_36 : decode cX3_find 36 = .ok (.astore_n 3, 1) := by decide +kernel
theorem dX3_find_37 : decode cX3_find 37 = .ok (.aload_n 3, 1) := by decide +kernel
theorem dX3_find_38 : decode cX3_find 38 = .ok (.ifnull 33, 3) := by decide +kernel
theorem dX3_find_41 : decode cX3_find 41 = .ok (.aload_n 0, 1) := by decide +kernel
theorem dX3_find_42 : decode cX3_find 42 = .ok (.aload_n 3, 1) := by decide +kernel
theorem dX3_find_43 : decode cX3_find 43 = .ok (.invokevirtual 80, 3) := by decide +kernel
theorem dX3_find_46 : decode cX3_find 46 = .ok (.ifCond .eq 25, 3) := by decide +kernel
theorem dX3_find_49 : decode cX3_find 49 = .ok (.aload_n 3, 1) := by decide +kernel
theorem dX3_find_50 : decode cX3_find 50 = .ok (.getfield 84, 3) := by decide +kernel
theorem dX3_find_53 : decode cX3_find 53 = .ok (.sipush 400, 3) := by decide +kernel
theorem dX3_find_56 : decode cX3_find 56 = .ok (.if_icmp .gt 15, 3) := by decide +kernel
theorem dX3_find_59 : decode cX3_find 59 = .ok (.aload_n 0, 1) := by decide +kernel
theorem dX3_find_60 : decode cX3_find 60 = .ok (.getfield 29, 3) := by decide +kernel
theorem dX3_find_63 : decode cX3_find 63 = .ok (.iload_n 2, 1) := by decide +kernel
theorem dX3_find_64 : decode cX3_find 64 = .ok (.aload_n 3, 1) := by decide +kernel
theorem dX3_find_65 : decode cX3_find 65 = .ok (.getfield 84, 3) := by decide +kernel
theorem dX3_find_68 : decode cX3_find 68 = .ok (.invokevirtual 87, 3) := by decide +kernel
theorem dX3_find_71 : decode cX3_find 71 = .ok (.iinc 2 1, 3) := by decide +kernel
theorem dX3_find_74 : decode cX3_find 74 = .ok (.goto (-51), 3) := by decide +kernel
theorem dX3_find_77 : decode cX3_find 77 = .ok (.aload_n 0, 1) := by decide +kernel
theorem dX3_find_78 : decode cX3_find 78 = .ok (.getfield 29, 3) := by decide +kernel
theorem dX3_find_81 : decode cX3_find 81 = .ok (.iload_n 1, 1) := by decide +kernel
theorem dX3_find_82 : decode cX3_find 82 = .ok (.invokevirtual 91, 3) := by decide +kernel
theorem dX3_find_85 : decode cX3_find 85 = .ok (.aload_n 0, 1) := by decide +kernel
theorem dX3_find_86 : decode cX3_find 86 = .ok (.getfield 29, 3) := by decide +kernel
theorem dX3_find_89 : decode cX3_find 89 = .ok (.getfield 95, 3) := by decide +kernel
theorem dX3_find_92 : decode cX3_find 92 = .ok (.ireturn, 1) := by decide +kernel
theorem dX3_word_0 : decode cX3_word 0 = .ok (.aload_n 0, 1) := by decide +kernel
theorem dX3_word_1 : decode cX3_word 1 = .ok (.getfield 29, 3) := by decide +kernel
theorem dX3_word_4 : decode cX3_word 4 = .ok (.iload_n 1, 1) := by decide +kernel
theorem dX3_word_5 : decode cX3_word 5 = .ok (.invokevirtual 98, 3) := by decide +kernel
theorem dX3_word_8 : decode cX3_word 8 = .ok (.ifCond .eq 15, 3) := by decide +kernel
theorem dX3_word_11 : decode cX3_word 11 = .ok (.aload_n 0, 1) := by decide +kernel
theorem dX3_word_12 : decode cX3_word 12 = .ok (.getfield 29, 3) := by decide +kernel
theorem dX3_word_15 : decode cX3_word 15 = .ok (.getfield 101, 3) := by decide +kernel
theorem dX3_word_18 : decode cX3_word 18 = .ok (.iload_n 1, 1) := by decide +kernel
theorem dX3_word_19 : decode cX3_word 19 = .ok (.iaload, 1) := by decide +kernel
theorem dX3_word_20 : decode cX3_word 20 = .ok (.goto 4, 3) := by decide +kernel
theorem dX3_word_23 : decode cX3_word 23 = .ok (.iconst (-1), 1) := by decide +kernel
theorem dX3_word_24 : decode cX3_word 24 = .ok (.ireturn, 1) := by decide +kernel
theorem dX3_sum_0 : decode cX3_sum 0 = .ok (.aload_n 0, 1) := by decide +kernel
theorem dX3_sum_1 : decode cX3_sum 1 = .ok (.getfield 29, 3) := by decide +kernel
theorem dX3_sum_4 : decode cX3_sum 4 = .ok (.iload_n 1, 1) := by decide +kernel
theorem dX3_sum_5 : decode cX3_sum 5 = .ok (.invokevirtual 98, 3) := by decide +kernel
theorem dX3_sum_8 : decode cX3_sum 8 = .ok (.ifCond .eq 16, 3) := by decide +kernel
theorem dX3_sum_11 : decode cX3_sum 11 = .ok (.aload_n 0, 1) := by decide +kernel
theorem dX3_sum_12 : decode cX3_sum 12 = .ok (.getfield 29, 3) := by decide +kernel
theorem dX3_sum_15 : decode cX3_sum 15 = .ok (.getfield 105, 3) := by decide +kernel
theorem dX3_sum_18 : decode cX3_sum 18 = .ok (.iload_n 1, 1) := by decide +kernel
theorem dX3_sum_19 : decode cX3_sum 19 = .ok (.iaload, 1) := by decide +kernel
theorem dX3_sum_20 : decode cX3_sum 20 = .ok (.i2l, 1) := by decide +kernel
theorem dX3_sum_21 : decode cX3_sum 21 = .ok (.goto 6, 3) := by decide +kernel
theorem dX3_sum_24 : decode cX3_sum 24 = .ok (.ldc2_w 108, 3) := by decide +kernel
theorem dX3_sum_27 : decode cX3_sum 27 = .ok (.lreturn, 1) := by decide +kernel
theorem dX3_within_0 : decode cX3_within 0 = .ok (.iload_n 2, 1) := by decide +kernel
theorem dX3_within_1 : decode cX3_within 1 = .ok (.ifCond .ne 9, 3) := by decide +kernel
theorem dX3_within_4 : decode cX3_within 4 = .ok (.aload_n 0, 1) := by decide +kernel
theorem dX3_within_5 : decode cX3_within 5 = .ok (.iload_n 1, 1) := by decide +kernel
theorem dX3_within_6 : decode cX3_within 6 = .ok (.invokevirtual 110, 3) := by decide +kernel
theorem dX3_within_9 : decode cX3_within 9 = .ok (.ireturn, 1) := by decide +kernel
theorem dX3_within_10 : decode cX3_within 10 = .ok (.aload_n 0, 1) := by decide +kernel
theorem dX3_within_11 : decode cX3_within 11 = .ok (.iload_n 2, 1) := by decide +kernel
theorem dX3_within_12 : decode cX3_within 12 = .ok (.invokevirtual 37, 3) := by decide +kernel
theorem dX3_within_15 : decode cX3_within 15 = .ok (.astore_n 3, 1) := by decide +kernel
theorem dX3_within_16 : decode cX3_within 16 = .ok (.aload_n 3, 1) := by decide +kernel
theorem dX3_within_17 : decode cX3_within 17 = .ok (.ifnonnull 5, 3) := by decide +kernel
theorem dX3_within_20 : decode cX3_within 20 = .ok (.iconst (-1), 1) := by decide +kernel
theorem dX3_within_21 : decode cX3_within 21 = .ok (.ireturn, 1) := by decide +kernel
theorem dX3_within_22 : decode cX3_within 22 = .ok (.iload_n 1, 1) := by decide +kernel
theorem dX3_within_23 : decode cX3_within 23 = .ok (.invokestatic 113, 3) := by decide +kernel
theorem dX3_within_26 : decode cX3_within 26 = .ok (.ifCond .ne 6, 3) := by decide +kernel
theorem dX3_within_29 : decode cX3_within 29 = .ok (.bipush (-2), 2) := by decide +kernel
theorem dX3_within_31 : decode cX3_within 31 = .ok (.ireturn, 1) := by decide +kernel
theorem dX3_within_32 : decode cX3_within 32 = .ok (.aload_n 3, 1) := by decide +kernel
theorem dX3_within_33 : decode cX3_within 33 = .ok (.iload_n 1, 1) := by decide +kernel
theorem dX3_within_34 : decode cX3_within 34 = .ok (.invokevirtual 116, 3) := by decide +kernel
theorem dX3_within_37 : decode cX3_within 37 = .ok (.aload_n 0, 1) := by decide +kernel
theorem dX3_within_38 : decode cX3_within 38 = .ok (.iload_n 1, 1) := by decide +kernel
theorem dX3_within_39 : decode cX3_within 39 = .ok (.invokevirtual 59, 3) := by decide +kernel
theorem dX3_within_42 : decode cX3_within 42 = .ok (.ireturn, 1) := by decide +kernel
theorem dX3_abbreviation_0 : decode cX3_abbreviation 0 = .ok (.aload_n 0, 1) := by decide +kernel
theorem dX3_abbreviation_1 : decode cX3_abbreviation 1 = .ok (.iload_n 1, 1) := by decide +kernel
theorem dX3_abbreviation_2 : decode cX3_abbreviation 2 = .ok (.invokevirtual 37, 3) := by decide +kernel
theorem dX3_abbreviation_5 : decode cX3_abbreviation 5 = .ok (.astore_n 3, 1) := by decide +kernel
theorem dX3_abbreviation_6 : decode cX3_abbreviation 6 = .ok (.aload_n 0, 1) := by decide +kernel
theorem dX3_abbreviation_7 : decode cX3_abbreviation 7 = .ok (.iload_n 2, 1) := by decide +kernel
theorem dX3_abbreviation_8 : decode cX3_abbreviation 8 = .ok (.invokevirtual 37, 3) := by decide +kernel
theorem dX3_abbreviation_11 : decode cX3_abbreviation 11 = .ok (.astore 4, 2) := by decide +kernel
theorem dX3_abbreviation_13 : decode cX3_abbreviation 13 = .ok (.aload_n 3, 1) := by decide +kernel
theorem dX3_abbreviation_14 : decode cX3_abbreviation 14 = .ok (.ifnull 8, 3) := by decide +kernel
theorem dX3_abbreviation_17 : decode cX3_abbreviation 17 = .ok (.aload 4, 2) := by decide +kernel
theorem dX3_abbreviation_19 : decode cX3_abbreviation 19 = .ok (.ifnonnull 5, 3) := by decide +kernel
theorem dX3_abbreviation_22 : decode cX3_abbreviation 22 = .ok (.iconst (-1), 1) := by decide +kernel
theorem dX3_abbreviation_23 : decode cX3_abbreviation 23 = .ok (.ireturn, 1) := by decide +kernel
theorem dX3_abbreviation_24 : decode cX3_abbreviation 24 = .ok (.aload_n 3, 1) := by decide +kernel
theorem dX3_abbreviation_25 : decode cX3_abbreviation 25 = .ok (.aload 4, 2) := by decide +kernel
theorem dX3_abbreviation_27 : decode cX3_abbreviation 27 = .ok (.if_acmp .eq 19, 3) := by decide +kernel
theorem dX3_abbreviation_30 : decode cX3_abbreviation 30 = .ok (.aload 4, 2) := by decide +kernel
theorem dX3_abbreviation_32 : decode cX3_abbreviation 32 = .ok (.getfield 55, 3) := by decide +kernel
theorem dX3_abbreviation_35 : decode cX3_abbreviation 35 = .ok (.ifnonnull 11, 3) := by decide +kernel
theorem dX3_abbreviation_38 : decode cX3_abbreviation 38 = .ok (.aload_n 0, 1) := by decide +kernel
theorem dX3_abbreviation_39 : decode cX3_abbreviation 39 = .ok (.aload_n 3, 1) := by decide +kernel
theorem dX3_abbreviation_40 : decode cX3_abbreviation 40 = .ok (.invokevirtual 119, 3) := by decide +kernel
theorem dX3_abbreviation_43 : decode cX3_abbreviation 43 = .ok (.ifCond .le 6, 3) := by decide +kernel
theorem dX3_abbreviation_46 : decode cX3_abbreviation 46 = .ok (.bipush (-3), 2) := by decide +kernel
theorem dX3_abbreviation_48 : decode cX3_abbreviation 48 = .ok (.ireturn, 1) := by decide +kernel
theorem dX3_abbreviation_49 : decode cX3_abbreviation 49 = .ok (.aload_n 3, 1) := by decide +kernel
theorem dX3_abbreviation_50 : decode cX3_abbreviation 50 = .ok (.aload 4, 2) := by decide +kernel
theorem dX3_abbreviation_52 : decode cX3_abbreviation 52 = .ok (.putfield 55, 3) := by decide +kernel
theorem dX3_abbreviation_55 : decode cX3_abbreviation 55 = .ok (.aload_n 0, 1) := by decide +kernel
theorem dX3_abbreviation_56 : decode cX3_abbreviation 56 = .ok (.aload 4, 2) := by decide +kernel
theorem dX3_abbreviation_58 : decode cX3_abbreviation 58 = .ok (.invokevirtual 119, 3) := by decide +kernel
theorem dX3_abbreviation_61 : decode cX3_abbreviation 61 = .ok (.ireturn, 1) := by decide +kernel
theorem dX3_plain_0 : decode cX3_plain 0 = .ok (.iload_n 1, 1) := by decide +kernel
theorem dX3_plain_1 : decode cX3_plain 1 = .ok (.invokestatic 73, 3) := by decide +kernel
theorem dX3_plain_4 : decode cX3_plain 4 = .ok (.ifCond .ne 6, 3) := by decide +kernel
theorem dX3_plain_7 : decode cX3_plain 7 = .ok (.bipush (-2), 2) := by decide +kernel
theorem dX3_plain_9 : decode cX3_plain 9 = .ok (.ireturn, 1) := by decide +kernel
theorem dX3_plain_10 : decode cX3_plain 10 = .ok (.aload_n 0, 1) := by decide +kernel
theorem dX3_plain_11 : decode cX3_plain 11 = .ok (.invokevirtual 76, 3) := by decide +kernel
theorem dX3_plain_14 : decode cX3_plain 14 = .ok (.aload_n 0, 1) := by decide +kernel
theorem dX3_plain_15 : decode cX3_plain 15 = .ok (.getfield 29, 3) := by decide +kernel
theorem dX3_plain_18 : decode cX3_plain 18 = .ok (.invokevirtual 79, 3) := by decide +kernel
theorem dX3_plain_21 : decode cX3_plain 21 = .ok (.iconst 1, 1) := by decide +kernel
theorem dX3_plain_22 : decode cX3_plain 22 = .ok (.istore_n 2, 1) := by decide +kernel
theorem dX3_plain_23 : decode cX3_plain 23 = .ok (.iload_n 2, 1) := by decide +kernel
theorem dX3_plain_24 : decode cX3_plain 24 = .ok (.aload_n 0, 1) := by decide +kernel
theorem dX3_plain_25 : decode cX3_plain 25 = .ok (.getfield 15, 3) := by decide +kernel
theorem dX3_plain_28 : decode cX3_plain 28 = .ok (.if_icmp .gt 50, 3) := by decide +kernel
theorem dX3_plain_31 : decode cX3_plain 31 = .ok (.aload_n 0, 1) := by decide +kernel
theorem dX3_plain_32 : decode cX3_plain 32 = .ok (.iload_n 2, 1) := by decide +kernel
theorem dX3_plain_33 : decode cX3_plain 33 = .ok (.invokevirtual 37, 3) := by decide +kernel
theorem dX3_plain_36 : decode cX3_plain 36 = .ok (.astore_n 3, 1) := by decide +kernel
theorem dX3_plain_37 : decode cX3_plain 37 = .ok (.aload_n 3, 1) := by decide +kernel
theorem dX3_plain_38 : decode cX3_plain 38 = .ok (.ifnull 34, 3) := by decide +kernel
theorem dX3_plain_41 : decode cX3_plain 41 = .ok (.aload_n 0, 1) := by decide +kernel
theorem dX3_plain_42 : decode cX3_plain 42 = .ok (.aload_n 3, 1) := by decide +kernel
theorem dX3_plain_43 : decode cX3_plain 43 = .ok (.invokevirtual 80, 3) := by decide +kernel
theorem dX3_plain_46 : decode cX3_plain 46 = .ok (.ifCond .eq 26, 3) := by decide +kernel
theorem dX3_plain_49 : decode cX3_plain 49 = .ok (.aload_n 0, 1) := by decide +kernel
theorem dX3_plain_50 : decode cX3_plain 50 = .ok (.getfield 22, 3) := by decide +kernel
theorem dX3_plain_53 : decode cX3_plain 53 = .ok (.aload_n 3, 1) := by decide +kernel
theorem dX3_plain_54 : decode cX3_plain 54 = .ok (.invokevirtual 123, 3) := by decide +kernel
theorem dX3_plain_57 : decode cX3_plain 57 = .ok (.ifCond .eq 15, 3) := by decide +kernel
theorem dX3_plain_60 : decode cX3_plain 60 = .ok (.aload_n 0, 1) := by decide +kernel
theorem dX3_plain_61 : decode cX3_plain 61 = .ok (.getfield 29, 3) := by decide +kernel
theorem dX3_plain_64 : decode cX3_plain 64 = .ok (.iload_n 2, 1) := by decide +kernel
theorem dX3_plain_65 : decode cX3_plain 65 = .ok (.aload_n 3, 1) := by decide +kernel
theorem dX3_plain_66 : decode cX3_plain 66 = .ok (.getfield 84, 3) := by decide +kernel
theorem dX3_plain_69 : decode cX3_plain 69 = .ok (.invokevirtual 126, 3) := by decide +kernel
theorem dX3_plain_72 : decode cX3_plain 72 = .ok (.iinc 2 1, 3) := by decide +kernel
theorem dX3_plain_75 : decode cX3_plain 75 = .ok (.goto (-52), 3) := by decide +kernel
theorem dX3_plain_78 : decode cX3_plain 78 = .ok (.aload_n 0, 1) := by decide +kernel
theorem dX3_plain_79 : decode cX3_plain 79 = .ok (.getfield 29, 3) := by decide +kernel
theorem dX3_plain_82 : decode cX3_plain 82 = .ok (.getfield 95, 3) := by decide +kernel
theorem dX3_plain_85 : decode cX3_plain 85 = .ok (.istore_n 2, 1) := by decide +kernel
theorem dX3_plain_86 : decode cX3_plain 86 = .ok (.aload_n 0, 1) := by decide +kernel
theorem dX3_plain_87 : decode cX3_plain 87 = .ok (.getfield 29, 3) := by decide +kernel
theorem dX3_plain_90 : decode cX3_plain 90 = .ok (.iload_n 1, 1) := by decide +kernel
theorem dX3_plain_91 : decode cX3_plain 91 = .ok (.invokevirtual 91, 3) := by decide +kernel
theorem dX3_plain_94 : decode cX3_plain 94 = .ok (.iload_n 2, 1) := by decide +kernel
theorem dX3_plain_95 : decode cX3_plain 95 = .ok (.ireturn, 1) := by decide +kernel
theorem dX3_isSign_0 : decode cX3_isSign 0 = .ok (.iload_n 0, 1) := by decide +kernel
theorem dX3_isSign_1 : decode cX3_isSign 1 = .ok (.bipush 33, 2) := by decide +kernel
theorem dX3_isSign_3 : decode cX3_isSign 3 = .ok (.if_icmp .lt 13, 3) := by decide +kernel
theorem dX3_isSign_6 : decode cX3_isSign 6 = .ok (.iload_n 0, 1) := by decide +kernel
theorem dX3_isSign_7 : decode cX3_isSign 7 = .ok (.bipush 126, 2) := by decide +kernel
theorem dX3_isSign_9 : decode cX3_isSign 9 = .ok (.if_icmp .gt 7, 3) := by decide +kernel
theorem dX3_isSign_12 : decode cX3_isSign 12 = .ok (.iconst 1, 1) := by decide +kernel
theorem dX3_isSign_13 : decode cX3_isSign 13 = .ok (.goto 4, 3) := by decide +kernel
theorem dX3_isSign_16 : decode cX3_isSign 16 = .ok (.iconst 0, 1) := by decide +kernel
theorem dX3_isSign_17 : decode cX3_isSign 17 = .ok (.ireturn, 1) := by decide +kernel
theorem dX3_isGroup_0 : decode cX3_isGroup 0 = .ok (.iload_n 0, 1) := by decide +kernel
theorem dX3_isGroup_1 : decode cX3_isGroup 1 = .ok (.ifCond .lt 13, 3) := by decide +kernel
theorem dX3_isGroup_4 : decode cX3_isGroup 4 = .ok (.iload_n 0, 1) := by decide +kernel
theorem dX3_isGroup_5 : decode cX3_isGroup 5 = .ok (.bipush 8, 2) := by decide +kernel
theorem dX3_isGroup_7 : decode cX3_isGroup 7 = .ok (.if_icmp .ge 7, 3) := by decide +kernel
theorem dX3_isGroup_10 : decode cX3_isGroup 10 = .ok (.iconst 1, 1) := by decide +kernel
theorem dX3_isGroup_11 : decode cX3_isGroup 11 = .ok (.goto 4, 3) := by decide +kernel
theorem dX3_isGroup_14 : decode cX3_isGroup 14 = .ok (.iconst 0, 1) := by decide +kernel
theorem dX3_isGroup_15 : decode cX3_isGroup 15 = .ok (.ireturn, 1) := by decide +kernel
theorem dX3_mayBeAsked_0 : decode cX3_mayBeAsked 0 = .ok (.iload_n 0, 1) := by decide +kernel
theorem dX3_mayBeAsked_1 : decode cX3_mayBeAsked 1 = .ok (.iconst 1, 1) := by decide +kernel
theorem dX3_mayBeAsked_2 : decode cX3_mayBeAsked 2 = .ok (.if_icmp .lt 14, 3) := by decide +kernel
theorem dX3_mayBeAsked_5 : decode cX3_mayBeAsked 5 = .ok (.iload_n 0, 1) := by decide +kernel
theorem dX3_mayBeAsked_6 : decode cX3_mayBeAsked 6 = .ok (.sipush 1000, 3) := by decide +kernel
theorem dX3_mayBeAsked_9 : decode cX3_mayBeAsked 9 = .ok (.if_icmp .gt 7, 3) := by decide +kernel
theorem dX3_mayBeAsked_12 : decode cX3_mayBeAsked 12 = .ok (.iconst 1, 1) := by decide +kernel
theorem dX3_mayBeAsked_13 : decode cX3_mayBeAsked 13 = .ok (.goto 4, 3) := by decide +kernel
theorem dX3_mayBeAsked_16 : decode cX3_mayBeAsked 16 = .ok (.iconst 0, 1) := by decide +kernel
theorem dX3_mayBeAsked_17 : decode cX3_mayBeAsked 17 = .ok (.ireturn, 1) := by decide +kernel
theorem dX3_living_0 : decode cX3_living 0 = .ok (.iload_n 1, 1) := by decide +kernel
theorem dX3_living_1 : decode cX3_living 1 = .ok (.iconst 1, 1) := by decide +kernel
theorem dX3_living_2 : decode cX3_living 2 = .ok (.if_icmp .lt 20, 3) := by decide +kernel
theorem dX3_living_5 : decode cX3_living 5 = .ok (.iload_n 1, 1) := by decide +kernel
theorem dX3_living_6 : decode cX3_living 6 = .ok (.aload_n 0, 1) := by decide +kernel
theorem dX3_living_7 : decode cX3_living 7 = .ok (.getfield 15, 3) := by decide +kernel
theorem dX3_living_10 : decode cX3_living 10 = .ok (.if_icmp .gt 12, 3) := by decide +kernel
theorem dX3_living_13 : decode cX3_living 13 = .ok (.iload_n 1, 1) := by decide +kernel
theorem dX3_living_14 : decode cX3_living 14 = .ok (.aload_n 0, 1) := by decide +kernel
theorem dX3_living_15 : decode cX3_living 15 = .ok (.getfield 11, 3) := by decide +kernel
theorem dX3_living_18 : decode cX3_living 18 = .ok (.arraylength, 1) := by decide +kernel
theorem dX3_living_19 : decode cX3_living 19 = .ok (.if_icmp .lt 5, 3) := by decide +kernel
theorem dX3_living_22 : decode cX3_living 22 = .ok (.aconst_null, 1) := by decide +kernel
theorem dX3_living_23 : decode cX3_living 23 = .ok (.areturn, 1) := by decide +kernel
theorem dX3_living_24 : decode cX3_living 24 = .ok (.aload_n 0, 1) := by decide +kernel
theorem dX3_living_25 : decode cX3_living 25 = .ok (.getfield 11, 3) := by decide +kernel
theorem dX3_living_28 : decode cX3_living 28 = .ok (.iload_n 1, 1) := by decide +kernel
theorem dX3_living_29 : decode cX3_living 29 = .ok (.aaload, 1) := by decide +kernel
theorem dX3_living_30 : decode cX3_living 30 = .ok (.astore_n 2, 1) := by decide +kernel
theorem dX3_living_31 : decode cX3_living 31 = .ok (.aload_n 2, 1) := by decide +kernel
theorem dX3_living_32 : decode cX3_living 32 = .ok (.ifnull 10, 3) := by decide +kernel
theorem dX3_living_35 : decode cX3_living 35 = .ok (.aload_n 2, 1) := by decide +kernel
theorem dX3_living_36 : decode cX3_living 36 = .ok (.getfield 51, 3) := by decide +kernel
theorem dX3_living_39 : decode cX3_living 39 = .ok (.ifCond .eq 7, 3) := by decide +kernel
theorem dX3_living_42 : decode cX3_living 42 = .ok (.aconst_null, 1) := by decide +kernel
theorem dX3_living_43 : decode cX3_living 43 = .ok (.goto 4, 3) := by decide +kernel
theorem dX3_living_46 : decode cX3_living 46 = .ok (.aload_n 2, 1) := by decide +kernel
theorem dX3_living_47 : decode cX3_living 47 = .ok (.areturn, 1) := by decide +kernel
theorem dX3_mayBeFound_0 : decode cX3_mayBeFound 0 = .ok (.aload_n 1, 1) := by decide +kernel
theorem dX3_mayBeFound_1 : decode cX3_mayBeFound 1 = .ok (.getfield 55, 3) := by decide +kernel
theorem dX3_mayBeFound_4 : decode cX3_mayBeFound 4 = .ok (.ifnonnull 18, 3) := by decide +kernel
theorem dX3_mayBeFound_7 : decode cX3_mayBeFound 7 = .ok (.aload_n 1, 1) := by decide +kernel
theorem dX3_mayBeFound_8 : decode cX3_mayBeFound 8 = .ok (.aload_n 0, 1) := by decide +kernel
theorem dX3_mayBeFound_9 : decode cX3_mayBeFound 9 = .ok (.getfield 33, 3) := by decide +kernel
theorem dX3_mayBeFound_12 : decode cX3_mayBeFound 12 = .ok (.invokevirtual 129, 3) := by decide +kernel
theorem dX3_mayBeFound_15 : decode cX3_mayBeFound 15 = .ok (.ifCond .eq 7, 3) := by decide +kernel
theorem dX3_mayBeFound_18 : decode cX3_mayBeFound 18 = .ok (.iconst 1, 1) := by decide +kernel
theorem dX3_mayBeFound_19 : decode cX3_mayBeFound 19 = .ok (.goto 4, 3) := by decide +kernel
theorem dX3_mayBeFound_22 : decode cX3_mayBeFound 22 = .ok (.iconst 0, 1) := by decide +kernel
theorem dX3_mayBeFound_23 : decode cX3_mayBeFound 23 = .ok (.ireturn, 1) := by decide +kernel
theorem dX3_lookAt_0 : decode cX3_lookAt 0 = .ok (.iload_n 1, 1) := by decide +kernel
theorem dX3_lookAt_1 : decode cX3_lookAt 1 = .ok (.iconst (-1), 1) := by decide +kernel
theorem dX3_lookAt_2 : decode cX3_lookAt 2 = .ok (.if_icmp .eq 13, 3) := by decide +kernel
theorem dX3_lookAt_5 : decode cX3_lookAt 5 = .ok (.iload_n 1, 1) := by decide +kernel
theorem dX3_lookAt_6 : decode cX3_lookAt 6 = .ok (.invokestatic 113, 3) := by decide +kernel
theorem dX3_lookAt_9 : decode cX3_lookAt 9 = .ok (.ifCond .ne 6, 3) := by decide +kernel
theorem dX3_lookAt_12 : decode cX3_lookAt 12 = .ok (.bipush (-2), 2) := by decide +kernel
theorem dX3_lookAt_14 : decode cX3_lookAt 14 = .ok (.ireturn, 1) := by decide +kernel
theorem dX3_lookAt_15 : decode cX3_lookAt 15 = .ok (.aload_n 0, 1) := by decide +kernel
theorem dX3_lookAt_16 : decode cX3_lookAt 16 = .ok (.iload_n 1, 1) := by decide +kernel
theorem dX3_lookAt_17 : decode cX3_lookAt 17 = .ok (.putfield 33, 3) := by decide +kernel
theorem dX3_lookAt_20 : decode cX3_lookAt 20 = .ok (.aload_n 0, 1) := by decide +kernel
theorem dX3_lookAt_21 : decode cX3_lookAt 21 = .ok (.iload_n 1, 1) := by decide +kernel
theorem dX3_lookAt_22 : decode cX3_lookAt 22 = .ok (.invokevirtual 59, 3) := by decide +kernel
theorem dX3_lookAt_25 : decode cX3_lookAt 25 = .ok (.ireturn, 1) := by decide +kernel
theorem dX3_countWithin_0 : decode cX3_countWithin 0 = .ok (.iconst 0, 1) := by decide +kernel
theorem dX3_countWithin_1 : decode cX3_countWithin 1 = .ok (.istore_n 2, 1) := by decide +kernel
theorem dX3_countWithin_2 : decode cX3_countWithin 2 = .ok (.iconst 1, 1) := by decide +kernel
theorem dX3_countWithin_3 : decode cX3_countWithin 3 = .ok (.istore_n 3, 1) := by decide +kernel
theorem dX3_countWithin_4 : decode cX3_countWithin 4 = .ok (.iload_n 3, 1) := by decide +kernel
theorem dX3_countWithin_5 : decode cX3_countWithin 5 = .ok (.aload_n 0, 1) := by decide +kernel
theorem dX3_countWithin_6 : decode cX3_countWithin 6 = .ok (.getfield 15, 3) := by decide +kernel
theorem dX3_countWithin_9 : decode cX3_countWithin 9 = .ok (.if_icmp .gt 33, 3) := by decide +kernel
theorem dX3_countWithin_12 : decode cX3_countWithin 12 = .ok (.aload_n 0, 1) := by decide +kernel
theorem dX3_countWithin_13 : decode cX3_countWithin 13 = .ok (.iload_n 3, 1) := by decide +kernel
theorem dX3_countWithin_14 : decode cX3_countWithin 14 = .ok (.invokevirtual 37, 3) := by decide +kernel
theorem dX3_countWithin_17 : decode cX3_countWithin 17 = .ok (.astore 4, 2) := by decide +kernel
theorem dX3_countWithin_19 : decode cX3_countWithin 19 = .ok (.aload 4, 2) := by decide +kernel
theorem dX3_countWithin_21 : decode cX3_countWithin 21 = .ok (.ifnull 15, 3) := by decide +kernel
