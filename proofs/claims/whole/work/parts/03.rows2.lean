theorem dX3_countWithin_24 : decode cX3_countWithin 24 = .ok (.aload 4, 2) := by decide +kernel
theorem dX3_countWithin_26 : decode cX3_countWithin 26 = .ok (.iload_n 1, 1) := by decide +kernel
theorem dX3_countWithin_27 : decode cX3_countWithin 27 = .ok (.invokevirtual 129, 3) := by decide +kernel
theorem dX3_countWithin_30 : decode cX3_countWithin 30 = .ok (.ifCond .eq 6, 3) := by decide +kernel
theorem dX3_countWithin_33 : decode cX3_countWithin 33 = .ok (.iinc 2 1, 3) := by decide +kernel
theorem dX3_countWithin_36 : decode cX3_countWithin 36 = .ok (.iinc 3 1, 3) := by decide +kernel
theorem dX3_countWithin_39 : decode cX3_countWithin 39 = .ok (.goto (-35), 3) := by decide +kernel
theorem dX3_countWithin_42 : decode cX3_countWithin 42 = .ok (.iload_n 2, 1) := by decide +kernel
theorem dX3_countWithin_43 : decode cX3_countWithin 43 = .ok (.ireturn, 1) := by decide +kernel
theorem dX3_countAbbreviations_0 : decode cX3_countAbbreviations 0 = .ok (.iconst 0, 1) := by decide +kernel
theorem dX3_countAbbreviations_1 : decode cX3_countAbbreviations 1 = .ok (.istore_n 2, 1) := by decide +kernel
theorem dX3_countAbbreviations_2 : decode cX3_countAbbreviations 2 = .ok (.iconst 1, 1) := by decide +kernel
theorem dX3_countAbbreviations_3 : decode cX3_countAbbreviations 3 = .ok (.istore_n 3, 1) := by decide +kernel
theorem dX3_countAbbreviations_4 : decode cX3_countAbbreviations 4 = .ok (.iload_n 3, 1) := by decide +kernel
theorem dX3_countAbbreviations_5 : decode cX3_countAbbreviations 5 = .ok (.aload_n 0, 1) := by decide +kernel
theorem dX3_countAbbreviations_6 : decode cX3_countAbbreviations 6 = .ok (.getfield 15, 3) := by decide +kernel
theorem dX3_countAbbreviations_9 : decode cX3_countAbbreviations 9 = .ok (.if_icmp .gt 33, 3) := by decide +kernel
theorem dX3_countAbbreviations_12 : decode cX3_countAbbreviations 12 = .ok (.aload_n 0, 1) := by decide +kernel
theorem dX3_countAbbreviations_13 : decode cX3_countAbbreviations 13 = .ok (.iload_n 3, 1) := by decide +kernel
theorem dX3_countAbbreviations_14 : decode cX3_countAbbreviations 14 = .ok (.invokevirtual 37, 3) := by decide +kernel
theorem dX3_countAbbreviations_17 : decode cX3_countAbbreviations 17 = .ok (.astore 4, 2) := by decide +kernel
theorem dX3_countAbbreviations_19 : decode cX3_countAbbreviations 19 = .ok (.aload 4, 2) := by decide +kernel
theorem dX3_countAbbreviations_21 : decode cX3_countAbbreviations 21 = .ok (.ifnull 15, 3) := by decide +kernel
theorem dX3_countAbbreviations_24 : decode cX3_countAbbreviations 24 = .ok (.aload 4, 2) := by decide +kernel
theorem dX3_countAbbreviations_26 : decode cX3_countAbbreviations 26 = .ok (.getfield 55, 3) := by decide +kernel
theorem dX3_countAbbreviations_29 : decode cX3_countAbbreviations 29 = .ok (.aload_n 1, 1) := by decide +kernel
theorem dX3_countAbbreviations_30 : decode cX3_countAbbreviations 30 = .ok (.if_acmp .ne 6, 3) := by decide +kernel
theorem dX3_countAbbreviations_33 : decode cX3_countAbbreviations 33 = .ok (.iinc 2 1, 3) := by decide +kernel
theorem dX3_countAbbreviations_36 : decode cX3_countAbbreviations 36 = .ok (.iinc 3 1, 3) := by decide +kernel
theorem dX3_countAbbreviations_39 : decode cX3_countAbbreviations 39 = .ok (.goto (-35), 3) := by decide +kernel
theorem dX3_countAbbreviations_42 : decode cX3_countAbbreviations 42 = .ok (.iload_n 2, 1) := by decide +kernel
theorem dX3_countAbbreviations_43 : decode cX3_countAbbreviations 43 = .ok (.ireturn, 1) := by decide +kernel
theorem dX3_reckonSums_0 : decode cX3_reckonSums 0 = .ok (.iconst 1, 1) := by decide +kernel
theorem dX3_reckonSums_1 : decode cX3_reckonSums 1 = .ok (.istore_n 1, 1) := by decide +kernel
theorem dX3_reckonSums_2 : decode cX3_reckonSums 2 = .ok (.iload_n 1, 1) := by decide +kernel
theorem dX3_reckonSums_3 : decode cX3_reckonSums 3 = .ok (.aload_n 0, 1) := by decide +kernel
theorem dX3_reckonSums_4 : decode cX3_reckonSums 4 = .ok (.getfield 15, 3) := by decide +kernel
theorem dX3_reckonSums_7 : decode cX3_reckonSums 7 = .ok (.if_icmp .gt 31, 3) := by decide +kernel
theorem dX3_reckonSums_10 : decode cX3_reckonSums 10 = .ok (.aload_n 0, 1) := by decide +kernel
theorem dX3_reckonSums_11 : decode cX3_reckonSums 11 = .ok (.iload_n 1, 1) := by decide +kernel
theorem dX3_reckonSums_12 : decode cX3_reckonSums 12 = .ok (.invokevirtual 37, 3) := by decide +kernel
theorem dX3_reckonSums_15 : decode cX3_reckonSums 15 = .ok (.astore_n 2, 1) := by decide +kernel
theorem dX3_reckonSums_16 : decode cX3_reckonSums 16 = .ok (.aload_n 2, 1) := by decide +kernel
theorem dX3_reckonSums_17 : decode cX3_reckonSums 17 = .ok (.ifnull 15, 3) := by decide +kernel
theorem dX3_reckonSums_20 : decode cX3_reckonSums 20 = .ok (.aload_n 2, 1) := by decide +kernel
theorem dX3_reckonSums_21 : decode cX3_reckonSums 21 = .ok (.aload_n 0, 1) := by decide +kernel
theorem dX3_reckonSums_22 : decode cX3_reckonSums 22 = .ok (.getfield 22, 3) := by decide +kernel
theorem dX3_reckonSums_25 : decode cX3_reckonSums 25 = .ok (.aload_n 2, 1) := by decide +kernel
theorem dX3_reckonSums_26 : decode cX3_reckonSums 26 = .ok (.invokevirtual 132, 3) := by decide +kernel
theorem dX3_reckonSums_29 : decode cX3_reckonSums 29 = .ok (.putfield 84, 3) := by decide +kernel
theorem dX3_reckonSums_32 : decode cX3_reckonSums 32 = .ok (.iinc 1 1, 3) := by decide +kernel
theorem dX3_reckonSums_35 : decode cX3_reckonSums 35 = .ok (.goto (-33), 3) := by decide +kernel
theorem dX3_reckonSums_38 : decode cX3_reckonSums 38 = .ok (.iconst 1, 1) := by decide +kernel
theorem dX3_reckonSums_39 : decode cX3_reckonSums 39 = .ok (.istore_n 1, 1) := by decide +kernel
theorem dX3_reckonSums_40 : decode cX3_reckonSums 40 = .ok (.iload_n 1, 1) := by decide +kernel
theorem dX3_reckonSums_41 : decode cX3_reckonSums 41 = .ok (.aload_n 0, 1) := by decide +kernel
theorem dX3_reckonSums_42 : decode cX3_reckonSums 42 = .ok (.getfield 15, 3) := by decide +kernel
theorem dX3_reckonSums_45 : decode cX3_reckonSums 45 = .ok (.if_icmp .gt 47, 3) := by decide +kernel
theorem dX3_reckonSums_48 : decode cX3_reckonSums 48 = .ok (.aload_n 0, 1) := by decide +kernel
theorem dX3_reckonSums_49 : decode cX3_reckonSums 49 = .ok (.iload_n 1, 1) := by decide +kernel
theorem dX3_reckonSums_50 : decode cX3_reckonSums 50 = .ok (.invokevirtual 37, 3) := by decide +kernel
theorem dX3_reckonSums_53 : decode cX3_reckonSums 53 = .ok (.astore_n 2, 1) := by decide +kernel
theorem dX3_reckonSums_54 : decode cX3_reckonSums 54 = .ok (.aload_n 2, 1) := by decide +kernel
theorem dX3_reckonSums_55 : decode cX3_reckonSums 55 = .ok (.ifnull 31, 3) := by decide +kernel
theorem dX3_reckonSums_58 : decode cX3_reckonSums 58 = .ok (.aload_n 2, 1) := by decide +kernel
theorem dX3_reckonSums_59 : decode cX3_reckonSums 59 = .ok (.getfield 55, 3) := by decide +kernel
theorem dX3_reckonSums_62 : decode cX3_reckonSums 62 = .ok (.ifnull 24, 3) := by decide +kernel
theorem dX3_reckonSums_65 : decode cX3_reckonSums 65 = .ok (.aload_n 2, 1) := by decide +kernel
theorem dX3_reckonSums_66 : decode cX3_reckonSums 66 = .ok (.getfield 55, 3) := by decide +kernel
theorem dX3_reckonSums_69 : decode cX3_reckonSums 69 = .ok (.aload_n 2, 1) := by decide +kernel
theorem dX3_reckonSums_70 : decode cX3_reckonSums 70 = .ok (.getfield 55, 3) := by decide +kernel
theorem dX3_reckonSums_73 : decode cX3_reckonSums 73 = .ok (.getfield 84, 3) := by decide +kernel
theorem dX3_reckonSums_76 : decode cX3_reckonSums 76 = .ok (.aload_n 2, 1) := by decide +kernel
theorem dX3_reckonSums_77 : decode cX3_reckonSums 77 = .ok (.getfield 84, 3) := by decide +kernel
theorem dX3_reckonSums_80 : decode cX3_reckonSums 80 = .ok (.invokestatic 135, 3) := by decide +kernel
theorem dX3_reckonSums_83 : decode cX3_reckonSums 83 = .ok (.putfield 84, 3) := by decide +kernel
theorem dX3_reckonSums_86 : decode cX3_reckonSums 86 = .ok (.iinc 1 1, 3) := by decide +kernel
theorem dX3_reckonSums_89 : decode cX3_reckonSums 89 = .ok (.goto (-49), 3) := by decide +kernel
theorem dX3_reckonSums_92 : decode cX3_reckonSums 92 = .ok (.return_, 1) := by decide +kernel
theorem dX4_init_0 : decode cX4_init 0 = .ok (.aload_n 0, 1) := by decide +kernel
theorem dX4_init_1 : decode cX4_init 1 = .ok (.invokespecial 1, 3) := by decide +kernel
theorem dX4_init_4 : decode cX4_init 4 = .ok (.aload_n 0, 1) := by decide +kernel
theorem dX4_init_5 : decode cX4_init 5 = .ok (.sipush 201, 3) := by decide +kernel
theorem dX4_init_8 : decode cX4_init 8 = .ok (.newarray .boolean, 2) := by decide +kernel
theorem dX4_init_10 : decode cX4_init 10 = .ok (.putfield 7, 3) := by decide +kernel
theorem dX4_init_13 : decode cX4_init 13 = .ok (.aload_n 0, 1) := by decide +kernel
theorem dX4_init_14 : decode cX4_init 14 = .ok (.sipush 201, 3) := by decide +kernel
theorem dX4_init_17 : decode cX4_init 17 = .ok (.newarray .int, 2) := by decide +kernel
theorem dX4_init_19 : decode cX4_init 19 = .ok (.putfield 13, 3) := by decide +kernel
theorem dX4_init_22 : decode cX4_init 22 = .ok (.aload_n 0, 1) := by decide +kernel
theorem dX4_init_23 : decode cX4_init 23 = .ok (.sipush 4020, 3) := by decide +kernel
theorem dX4_init_26 : decode cX4_init 26 = .ok (.newarray .int, 2) := by decide +kernel
theorem dX4_init_28 : decode cX4_init 28 = .ok (.putfield 17, 3) := by decide +kernel
theorem dX4_init_31 : decode cX4_init 31 = .ok (.aload_n 0, 1) := by decide +kernel
theorem dX4_init_32 : decode cX4_init 32 = .ok (.sipush 201, 3) := by decide +kernel
theorem dX4_init_35 : decode cX4_init 35 = .ok (.newarray .int, 2) := by decide +kernel
theorem dX4_init_37 : decode cX4_init 37 = .ok (.putfield 20, 3) := by decide +kernel
theorem dX4_init_40 : decode cX4_init 40 = .ok (.aload_n 0, 1) := by decide +kernel
theorem dX4_init_41 : decode cX4_init 41 = .ok (.sipush 201, 3) := by decide +kernel
theorem dX4_init_44 : decode cX4_init 44 = .ok (.newarray .int, 2) := by decide +kernel
theorem dX4_init_46 : decode cX4_init 46 = .ok (.putfield 23, 3) := by decide +kernel
theorem dX4_init_49 : decode cX4_init 49 = .ok (.aload_n 0, 1) := by decide +kernel
theorem dX4_init_50 : decode cX4_init 50 = .ok (.iconst (-1), 1) := by decide +kernel
theorem dX4_init_51 : decode cX4_init 51 = .ok (.putfield 26, 3) := by decide +kernel
theorem dX4_init_54 : decode cX4_init 54 = .ok (.aload_n 0, 1) := by decide +kernel
theorem dX4_init_55 : decode cX4_init 55 = .ok (.sipush 2560, 3) := by decide +kernel
theorem dX4_init_58 : decode cX4_init 58 = .ok (.newarray .int, 2) := by decide +kernel
theorem dX4_init_60 : decode cX4_init 60 = .ok (.putfield 30, 3) := by decide +kernel
theorem dX4_init_63 : decode cX4_init 63 = .ok (.aload_n 0, 1) := by decide +kernel
theorem dX4_init_64 : decode cX4_init 64 = .ok (.sipush 441, 3) := by decide +kernel
theorem dX4_init_67 : decode cX4_init 67 = .ok (.newarray .int, 2) := by decide +kernel
theorem dX4_init_69 : decode cX4_init 69 = .ok (.putfield 33, 3) := by decide +kernel
theorem dX4_init_72 : decode cX4_init 72 = .ok (.aload_n 0, 1) := by decide +kernel
theorem dX4_init_73 : decode cX4_init 73 = .ok (.sipush 200, 3) := by decide +kernel
theorem dX4_init_76 : decode cX4_init 76 = .ok (.newarray .int, 2) := by decide +kernel
theorem dX4_init_78 : decode cX4_init 78 = .ok (.putfield 36, 3) := by decide +kernel
theorem dX4_init_81 : decode cX4_init 81 = .ok (.aload_n 0, 1) := by decide +kernel
theorem dX4_init_82 : decode cX4_init 82 = .ok (.sipush 200, 3) := by decide +kernel
theorem dX4_init_85 : decode cX4_init 85 = .ok (.newarray .int, 2) := by decide +kernel
theorem dX4_init_87 : decode cX4_init 87 = .ok (.putfield 39, 3) := by decide +kernel
theorem dX4_init_90 : decode cX4_init 90 = .ok (.aload_n 0, 1) := by decide +kernel
theorem dX4_init_91 : decode cX4_init 91 = .ok (.sipush 201, 3) := by decide +kernel
theorem dX4_init_94 : decode cX4_init 94 = .ok (.newarray .int, 2) := by decide +kernel
theorem dX4_init_96 : decode cX4_init 96 = .ok (.putfield 42, 3) := by decide +kernel
theorem dX4_init_99 : decode cX4_init 99 = .ok (.aload_n 0, 1) := by decide +kernel
theorem dX4_init_100 : decode cX4_init 100 = .ok (.invokevirtual 45, 3) := by decide +kernel
theorem dX4_init_103 : decode cX4_init 103 = .ok (.return_, 1) := by decide +kernel
theorem dX4_forget_0 : decode cX4_forget 0 = .ok (.aload_n 0, 1) := by decide +kernel
theorem dX4_forget_1 : decode cX4_forget 1 = .ok (.iconst 0, 1) := by decide +kernel
theorem dX4_forget_2 : decode cX4_forget 2 = .ok (.putfield 48, 3) := by decide +kernel
theorem dX4_forget_5 : decode cX4_forget 5 = .ok (.iconst 0, 1) := by decide +kernel
theorem dX4_forget_6 : decode cX4_forget 6 = .ok (.istore_n 1, 1) := by decide +kernel
theorem dX4_forget_7 : decode cX4_forget 7 = .ok (.iload_n 1, 1) := by decide +kernel
theorem dX4_forget_8 : decode cX4_forget 8 = .ok (.sipush 2560, 3) := by decide +kernel
theorem dX4_forget_11 : decode cX4_forget 11 = .ok (.if_icmp .ge 16, 3) := by decide +kernel
theorem dX4_forget_14 : decode cX4_forget 14 = .ok (.aload_n 0, 1) := by decide +kernel
theorem dX4_forget_15 : decode cX4_forget 15 = .ok (.getfield 30, 3) := by decide +kernel
theorem dX4_forget_18 : decode cX4_forget 18 = .ok (.iload_n 1, 1) := by decide +kernel
theorem dX4_forget_19 : decode cX4_forget 19 = .ok (.iconst (-1), 1) := by decide +kernel
theorem dX4_forget_20 : decode cX4_forget 20 = .ok (.iastore, 1) := by decide +kernel
theorem dX4_forget_21 : decode cX4_forget 21 = .ok (.iinc 1 1, 3) := by decide +kernel
theorem dX4_forget_24 : decode cX4_forget 24 = .ok (.goto (-17), 3) := by decide +kernel
theorem dX4_forget_27 : decode cX4_forget 27 = .ok (.return_, 1) := by decide +kernel
theorem dX4_between_0 : decode cX4_between 0 = .ok (.iload_n 0, 1) := by decide +kernel
theorem dX4_between_1 : decode cX4_between 1 = .ok (.iload_n 1, 1) := by decide +kernel
theorem dX4_between_2 : decode cX4_between 2 = .ok (.if_icmp .lt 12, 3) := by decide +kernel
theorem dX4_between_5 : decode cX4_between 5 = .ok (.iload_n 0, 1) := by decide +kernel
theorem dX4_between_6 : decode cX4_between 6 = .ok (.iload_n 2, 1) := by decide +kernel
theorem dX4_between_7 : decode cX4_between 7 = .ok (.if_icmp .gt 7, 3) := by decide +kernel
theorem dX4_between_10 : decode cX4_between 10 = .ok (.iconst 1, 1) := by decide +kernel
theorem dX4_between_11 : decode cX4_between 11 = .ok (.goto 4, 3) := by decide +kernel
theorem dX4_between_14 : decode cX4_between 14 = .ok (.iconst 0, 1) := by decide +kernel
theorem dX4_between_15 : decode cX4_between 15 = .ok (.ireturn, 1) := by decide +kernel
theorem dX4_isEntry_0 : decode cX4_isEntry 0 = .ok (.iload_n 1, 1) := by decide +kernel
theorem dX4_isEntry_1 : decode cX4_isEntry 1 = .ok (.iconst 1, 1) := by decide +kernel
theorem dX4_isEntry_2 : decode cX4_isEntry 2 = .ok (.aload_n 0, 1) := by decide +kernel
theorem dX4_isEntry_3 : decode cX4_isEntry 3 = .ok (.getfield 51, 3) := by decide +kernel
theorem dX4_isEntry_6 : decode cX4_isEntry 6 = .ok (.invokestatic 54, 3) := by decide +kernel
theorem dX4_isEntry_9 : decode cX4_isEntry 9 = .ok (.ifCond .eq 16, 3) := by decide +kernel
theorem dX4_isEntry_12 : decode cX4_isEntry 12 = .ok (.aload_n 0, 1) := by decide +kernel
theorem dX4_isEntry_13 : decode cX4_isEntry 13 = .ok (.getfield 7, 3) := by decide +kernel
theorem dX4_isEntry_16 : decode cX4_isEntry 16 = .ok (.iload_n 1, 1) := by decide +kernel
theorem dX4_isEntry_17 : decode cX4_isEntry 17 = .ok (.baload, 1) := by decide +kernel
theorem dX4_isEntry_18 : decode cX4_isEntry 18 = .ok (.ifCond .eq 7, 3) := by decide +kernel
theorem dX4_isEntry_21 : decode cX4_isEntry 21 = .ok (.iconst 1, 1) := by decide +kernel
theorem dX4_isEntry_22 : decode cX4_isEntry 22 = .ok (.goto 4, 3) := by decide +kernel
theorem dX4_isEntry_25 : decode cX4_isEntry 25 = .ok (.iconst 0, 1) := by decide +kernel
theorem dX4_isEntry_26 : decode cX4_isEntry 26 = .ok (.ireturn, 1) := by decide +kernel
theorem dX4_entry_0 : decode cX4_entry 0 = .ok (.aload_n 0, 1) := by decide +kernel
theorem dX4_entry_1 : decode cX4_entry 1 = .ok (.getfield 51, 3) := by decide +kernel
theorem dX4_entry_4 : decode cX4_entry 4 = .ok (.sipush 200, 3) := by decide +kernel
theorem dX4_entry_7 : decode cX4_entry 7 = .ok (.if_icmp .ne 6, 3) := by decide +kernel
theorem dX4_entry_10 : decode cX4_entry 10 = .ok (.bipush (-4), 2) := by decide +kernel
theorem dX4_entry_12 : decode cX4_entry 12 = .ok (.ireturn, 1) := by decide +kernel
theorem dX4_entry_13 : decode cX4_entry 13 = .ok (.aload_n 0, 1) := by decide +kernel
theorem dX4_entry_14 : decode cX4_entry 14 = .ok (.dup, 1) := by decide +kernel
theorem dX4_entry_15 : decode cX4_entry 15 = .ok (.getfield 51, 3) := by decide +kernel
theorem dX4_entry_18 : decode cX4_entry 18 = .ok (.iconst 1, 1) := by decide +kernel
theorem dX4_entry_19 : decode cX4_entry 19 = .ok (.iadd, 1) := by decide +kernel
theorem dX4_entry_20 : decode cX4_entry 20 = .ok (.putfield 51, 3) := by decide +kernel
theorem dX4_entry_23 : decode cX4_entry 23 = .ok (.aload_n 0, 1) := by decide +kernel
theorem dX4_entry_24 : decode cX4_entry 24 = .ok (.getfield 7, 3) := by decide +kernel
theorem dX4_entry_27 : decode cX4_entry 27 = .ok (.aload_n 0, 1) := by decide +kernel
theorem dX4_entry_28 : decode cX4_entry 28 = .ok (.getfield 51, 3) := by decide +kernel
theorem dX4_entry_31 : decode cX4_entry 31 = .ok (.iconst 1, 1) := by decide +kernel
theorem dX4_entry_32 : decode cX4_entry 32 = .ok (.bastore, 1) := by decide +kernel
theorem dX4_entry_33 : decode cX4_entry 33 = .ok (.aload_n 0, 1) := by decide +kernel
theorem dX4_entry_34 : decode cX4_entry 34 = .ok (.getfield 51, 3) := by decide +kernel
theorem dX4_entry_37 : decode cX4_entry 37 = .ok (.ireturn, 1) := by decide +kernel
theorem dX4_letter_0 : decode cX4_letter 0 = .ok (.aload_n 0, 1) := by decide +kernel
theorem dX4_letter_1 : decode cX4_letter 1 = .ok (.iload_n 1, 1) := by decide +kernel
theorem dX4_letter_2 : decode cX4_letter 2 = .ok (.invokevirtual 58, 3) := by decide +kernel
theorem dX4_letter_5 : decode cX4_letter 5 = .ok (.ifCond .ne 5, 3) := by decide +kernel
theorem dX4_letter_8 : decode cX4_letter 8 = .ok (.iconst (-1), 1) := by decide +kernel
theorem dX4_letter_9 : decode cX4_letter 9 = .ok (.ireturn, 1) := by decide +kernel
theorem dX4_letter_10 : decode cX4_letter 10 = .ok (.iload_n 2, 1) := by decide +kernel
theorem dX4_letter_11 : decode cX4_letter 11 = .ok (.bipush 33, 2) := by decide +kernel
theorem dX4_letter_13 : decode cX4_letter 13 = .ok (.bipush 126, 2) := by decide +kernel
theorem dX4_letter_15 : decode cX4_letter 15 = .ok (.invokestatic 54, 3) := by decide +kernel
theorem dX4_letter_18 : decode cX4_letter 18 = .ok (.ifCond .ne 6, 3) := by decide +kernel
theorem dX4_letter_21 : decode cX4_letter 21 = .ok (.bipush (-2), 2) := by decide +kernel
theorem dX4_letter_23 : decode cX4_letter 23 = .ok (.ireturn, 1) := by decide +kernel
theorem dX4_letter_24 : decode cX4_letter 24 = .ok (.aload_n 0, 1) := by decide +kernel
theorem dX4_letter_25 : decode cX4_letter 25 = .ok (.getfield 13, 3) := by decide +kernel
theorem dX4_letter_28 : decode cX4_letter 28 = .ok (.iload_n 1, 1) := by decide +kernel
theorem dX4_letter_29 : decode cX4_letter 29 = .ok (.iaload, 1) := by decide +kernel
theorem dX4_letter_30 : decode cX4_letter 30 = .ok (.bipush 20, 2) := by decide +kernel
theorem dX4_letter_32 : decode cX4_letter 32 = .ok (.if_icmp .ne 6, 3) := by decide +kernel
theorem dX4_letter_35 : decode cX4_letter 35 = .ok (.bipush (-4), 2) := by decide +kernel
theorem dX4_letter_37 : decode cX4_letter 37 = .ok (.ireturn, 1) := by decide +kernel
theorem dX4_letter_38 : decode cX4_letter 38 = .ok (.aload_n 0, 1) := by decide +kernel
theorem dX4_letter_39 : decode cX4_letter 39 = .ok (.getfield 17, 3) := by decide +kernel
theorem dX4_letter_42 : decode cX4_letter 42 = .ok (.bipush 20, 2) := by decide +kernel
theorem dX4_letter_44 : decode cX4_letter 44 = .ok (.iload_n 1, 1) := by decide +kernel
theorem dX4_letter_45 : decode cX4_letter 45 = .ok (.imul, 1) := by decide +kernel
theorem dX4_letter_46 : decode cX4_letter 46 = .ok (.aload_n 0, 1) := by decide +kernel
theorem dX4_letter_47 : decode cX4_letter 47 = .ok (.getfield 13, 3) := by decide +kernel
theorem dX4_letter_50 : decode cX4_letter 50 = .ok (.iload_n 1, 1) := by decide +kernel
theorem dX4_letter_51 : decode cX4_letter 51 = .ok (.iaload, 1) := by decide +kernel
theorem dX4_letter_52 : decode cX4_letter 52 = .ok (.iadd, 1) := by decide +kernel
theorem dX4_letter_53 : decode cX4_letter 53 = .ok (.iload_n 2, 1) := by decide +kernel
theorem dX4_letter_54 : decode cX4_letter 54 = .ok (.iastore, 1) := by decide +kernel
theorem dX4_letter_55 : decode cX4_letter 55 = .ok (.aload_n 0, 1) := by decide +kernel
theorem dX4_letter_56 : decode cX4_letter 56 = .ok (.getfield 13, 3) := by decide +kernel
theorem dX4_letter_59 : decode cX4_letter 59 = .ok (.iload_n 1, 1) := by decide +kernel
theorem dX4_letter_60 : decode cX4_letter 60 = .ok (.dup2, 1) := by decide +kernel
theorem dX4_letter_61 : decode cX4_letter 61 = .ok (.iaload, 1) := by decide +kernel
theorem dX4_letter_62 : decode cX4_letter 62 = .ok (.iconst 1, 1) := by decide +kernel
theorem dX4_letter_63 : decode cX4_letter 63 = .ok (.iadd, 1) := by decide +kernel
theorem dX4_letter_64 : decode cX4_letter 64 = .ok (.iastore, 1) := by decide +kernel
theorem dX4_letter_65 : decode cX4_letter 65 = .ok (.aload_n 0, 1) := by decide +kernel
theorem dX4_letter_66 : decode cX4_letter 66 = .ok (.getfield 13, 3) := by decide +kernel
theorem dX4_letter_69 : decode cX4_letter 69 = .ok (.iload_n 1, 1) := by decide +kernel
theorem dX4_letter_70 : decode cX4_letter 70 = .ok (.iaload, 1) := by decide +kernel
theorem dX4_letter_71 : decode cX4_letter 71 = .ok (.ireturn, 1) := by decide +kernel
theorem dX4_count_0 : decode cX4_count 0 = .ok (.iconst 0, 1) := by decide +kernel
theorem dX4_count_1 : decode cX4_count 1 = .ok (.istore_n 1, 1) := by decide +kernel
theorem dX4_count_2 : decode cX4_count 2 = .ok (.iconst 1, 1) := by decide +kernel
theorem dX4_count_3 : decode cX4_count 3 = .ok (.istore_n 2, 1) := by decide +kernel
theorem dX4_count_4 : decode cX4_count 4 = .ok (.iload_n 2, 1) := by decide +kernel
theorem dX4_count_5 : decode cX4_count 5 = .ok (.aload_n 0, 1) := by decide +kernel
theorem dX4_count_6 : decode cX4_count 6 = .ok (.getfield 51, 3) := by decide +kernel
theorem dX4_count_9 : decode cX4_count 9 = .ok (.if_icmp .gt 26, 3) := by decide +kernel
theorem dX4_count_12 : decode cX4_count 12 = .ok (.aload_n 0, 1) := by decide +kernel
theorem dX4_count_13 : decode cX4_count 13 = .ok (.getfield 7, 3) := by decide +kernel
theorem dX4_count_16 : decode cX4_count 16 = .ok (.iload_n 2, 1) := by decide +kernel
theorem dX4_count_17 : decode cX4_count 17 = .ok (.baload, 1) := by decide +kernel
theorem dX4_count_18 : decode cX4_count 18 = .ok (.ifCond .eq 9, 3) := by decide +kernel
theorem dX4_count_21 : decode cX4_count 21 = .ok (.iload_n 1, 1) := by decide +kernel
theorem dX4_count_22 : decode cX4_count 22 = .ok (.iconst 1, 1) := by decide +kernel
theorem dX4_count_23 : decode cX4_count 23 = .ok (.iadd, 1) := by decide +kernel
theorem dX4_count_24 : decode cX4_count 24 = .ok (.goto 4, 3) := by decide +kernel
theorem dX4_count_27 : decode cX4_count 27 = .ok (.iload_n 1, 1) := by decide +kernel
theorem dX4_count_28 : decode cX4_count 28 = .ok (.istore_n 1, 1) := by decide +kernel
theorem dX4_count_29 : decode cX4_count 29 = .ok (.iinc 2 1, 3) := by decide +kernel
theorem dX4_count_32 : decode cX4_count 32 = .ok (.goto (-28), 3) := by decide +kernel
theorem dX4_count_35 : decode cX4_count 35 = .ok (.iload_n 1, 1) := by decide +kernel
theorem dX4_count_36 : decode cX4_count 36 = .ok (.ireturn, 1) := by decide +kernel
theorem dX4_drop_0 : decode cX4_drop 0 = .ok (.aload_n 0, 1) := by decide +kernel
theorem dX4_drop_1 : decode cX4_drop 1 = .ok (.iload_n 1, 1) := by decide +kernel
theorem dX4_drop_2 : decode cX4_drop 2 = .ok (.invokevirtual 58, 3) := by decide +kernel
theorem dX4_drop_5 : decode cX4_drop 5 = .ok (.ifCond .ne 5, 3) := by decide +kernel
theorem dX4_drop_8 : decode cX4_drop 8 = .ok (.iconst (-1), 1) := by decide +kernel
theorem dX4_drop_9 : decode cX4_drop 9 = .ok (.ireturn, 1) := by decide +kernel
theorem dX4_drop_10 : decode cX4_drop 10 = .ok (.aload_n 0, 1) := by decide +kernel
theorem dX4_drop_11 : decode cX4_drop 11 = .ok (.getfield 7, 3) := by decide +kernel
theorem dX4_drop_14 : decode cX4_drop 14 = .ok (.iload_n 1, 1) := by decide +kernel
theorem dX4_drop_15 : decode cX4_drop 15 = .ok (.iconst 0, 1) := by decide +kernel
theorem dX4_drop_16 : decode cX4_drop 16 = .ok (.bastore, 1) := by decide +kernel
theorem dX4_drop_17 : decode cX4_drop 17 = .ok (.iconst 1, 1) := by decide +kernel
theorem dX4_drop_18 : decode cX4_drop 18 = .ok (.istore_n 2, 1) := by decide +kernel
theorem dX4_drop_19 : decode cX4_drop 19 = .ok (.iload_n 2, 1) := by decide +kernel
theorem dX4_drop_20 : decode cX4_drop 20 = .ok (.aload_n 0, 1) := by decide +kernel
theorem dX4_drop_21 : decode cX4_drop 21 = .ok (.getfield 51, 3) := by decide +kernel
theorem dX4_drop_24 : decode cX4_drop 24 = .ok (.if_icmp .gt 35, 3) := by decide +kernel
theorem dX4_drop_27 : decode cX4_drop 27 = .ok (.aload_n 0, 1) := by decide +kernel
theorem dX4_drop_28 : decode cX4_drop 28 = .ok (.getfield 20, 3) := by decide +kernel
theorem dX4_drop_31 : decode cX4_drop 31 = .ok (.iload_n 2, 1) := by decide +kernel
theorem dX4_drop_32 : decode cX4_drop 32 = .ok (.aload_n 0, 1) := by decide +kernel
theorem dX4_drop_33 : decode cX4_drop 33 = .ok (.getfield 20, 3) := by decide +kernel
theorem dX4_drop_36 : decode cX4_drop 36 = .ok (.iload_n 2, 1) := by decide +kernel
theorem dX4_drop_37 : decode cX4_drop 37 = .ok (.iaload, 1) := by decide +kernel
theorem dX4_drop_38 : decode cX4_drop 38 = .ok (.iload_n 1, 1) := by decide +kernel
theorem dX4_drop_39 : decode cX4_drop 39 = .ok (.if_icmp .ne 7, 3) := by decide +kernel
theorem dX4_drop_42 : decode cX4_drop 42 = .ok (.iconst 0, 1) := by decide +kernel
theorem dX4_drop_43 : decode cX4_drop 43 = .ok (.goto 9, 3) := by decide +kernel
theorem dX4_drop_46 : decode cX4_drop 46 = .ok (.aload_n 0, 1) := by decide +kernel
theorem dX4_drop_47 : decode cX4_drop 47 = .ok (.getfield 20, 3) := by decide +kernel
theorem dX4_drop_50 : decode cX4_drop 50 = .ok (.iload_n 2, 1) := by decide +kernel
theorem dX4_drop_51 : decode cX4_drop 51 = .ok (.iaload, 1) := by decide +kernel
theorem dX4_drop_52 : decode cX4_drop 52 = .ok (.iastore, 1) := by decide +kernel
theorem dX4_drop_53 : decode cX4_drop 53 = .ok (.iinc 2 1, 3) := by decide +kernel
theorem dX4_drop_56 : decode cX4_drop 56 = .ok (.goto (-37), 3) := by decide +kernel
theorem dX4_drop_59 : decode cX4_drop 59 = .ok (.aload_n 0, 1) := by decide +kernel
theorem dX4_drop_60 : decode cX4_drop 60 = .ok (.invokevirtual 62, 3) := by decide +kernel
theorem dX4_drop_63 : decode cX4_drop 63 = .ok (.ireturn, 1) := by decide +kernel
theorem dX4_cost_0 : decode cX4_cost 0 = .ok (.iload_n 1, 1) := by decide +kernel
theorem dX4_cost_1 : decode cX4_cost 1 = .ok (.iconst 0, 1) := by decide +kernel
theorem dX4_cost_2 : decode cX4_cost 2 = .ok (.bipush 19, 2) := by decide +kernel
theorem dX4_cost_4 : decode cX4_cost 4 = .ok (.invokestatic 54, 3) := by decide +kernel
theorem dX4_cost_7 : decode cX4_cost 7 = .ok (.ifCond .eq 25, 3) := by decide +kernel
theorem dX4_cost_10 : decode cX4_cost 10 = .ok (.iload_n 2, 1) := by decide +kernel
theorem dX4_cost_11 : decode cX4_cost 11 = .ok (.bipush 33, 2) := by decide +kernel
theorem dX4_cost_13 : decode cX4_cost 13 = .ok (.bipush 126, 2) := by decide +kernel
theorem dX4_cost_15 : decode cX4_cost 15 = .ok (.invokestatic 54, 3) := by decide +kernel
theorem dX4_cost_18 : decode cX4_cost 18 = .ok (.ifCond .eq 14, 3) := by decide +kernel
theorem dX4_cost_21 : decode cX4_cost 21 = .ok (.iload_n 3, 1) := by decide +kernel
theorem dX4_cost_22 : decode cX4_cost 22 = .ok (.iconst 0, 1) := by decide +kernel
theorem dX4_cost_23 : decode cX4_cost 23 = .ok (.sipush 1000, 3) := by decide +kernel
theorem dX4_cost_26 : decode cX4_cost 26 = .ok (.invokestatic 54, 3) := by decide +kernel
theorem dX4_cost_29 : decode cX4_cost 29 = .ok (.ifCond .ne 6, 3) := by decide +kernel
theorem dX4_cost_32 : decode cX4_cost 32 = .ok (.bipush (-2), 2) := by decide +kernel
theorem dX4_cost_34 : decode cX4_cost 34 = .ok (.ireturn, 1) := by decide +kernel
theorem dX4_cost_35 : decode cX4_cost 35 = .ok (.aload_n 0, 1) := by decide +kernel
theorem dX4_cost_36 : decode cX4_cost 36 = .ok (.getfield 30, 3) := by decide +kernel
theorem dX4_cost_39 : decode cX4_cost 39 = .ok (.sipush 128, 3) := by decide +kernel
theorem dX4_cost_42 : decode cX4_cost 42 = .ok (.iload_n 1, 1) := by decide +kernel
theorem dX4_cost_43 : decode cX4_cost 43 = .ok (.imul, 1) := by decide +kernel
theorem dX4_cost_44 : decode cX4_cost 44 = .ok (.iload_n 2, 1) := by decide +kernel
theorem dX4_cost_45 : decode cX4_cost 45 = .ok (.iadd, 1) := by decide +kernel
theorem dX4_cost_46 : decode cX4_cost 46 = .ok (.iload_n 3, 1) := by decide +kernel
theorem dX4_cost_47 : decode cX4_cost 47 = .ok (.iastore, 1) := by decide +kernel
theorem dX4_cost_48 : decode cX4_cost 48 = .ok (.aload_n 0, 1) := by decide +kernel
theorem dX4_cost_49 : decode cX4_cost 49 = .ok (.iload_n 1, 1) := by decide +kernel
theorem dX4_cost_50 : decode cX4_cost 50 = .ok (.aload_n 0, 1) := by decide +kernel
theorem dX4_cost_51 : decode cX4_cost 51 = .ok (.getfield 48, 3) := by decide +kernel
theorem dX4_cost_54 : decode cX4_cost 54 = .ok (.if_icmp .ge 10, 3) := by decide +kernel
theorem dX4_cost_57 : decode cX4_cost 57 = .ok (.aload_n 0, 1) := by decide +kernel
theorem dX4_cost_58 : decode cX4_cost 58 = .ok (.getfield 48, 3) := by decide +kernel
theorem dX4_cost_61 : decode cX4_cost 61 = .ok (.goto 6, 3) := by decide +kernel
theorem dX4_cost_64 : decode cX4_cost 64 = .ok (.iload_n 1, 1) := by decide +kernel
theorem dX4_cost_65 : decode cX4_cost 65 = .ok (.iconst 1, 1) := by decide +kernel
theorem dX4_cost_66 : decode cX4_cost 66 = .ok (.iadd, 1) := by decide +kernel
theorem dX4_cost_67 : decode cX4_cost 67 = .ok (.putfield 48, 3) := by decide +kernel
theorem dX4_cost_70 : decode cX4_cost 70 = .ok (.aload_n 0, 1) := by decide +kernel
theorem dX4_cost_71 : decode cX4_cost 71 = .ok (.getfield 48, 3) := by decide +kernel
theorem dX4_cost_74 : decode cX4_cost 74 = .ok (.ireturn, 1) := by decide +kernel
theorem dX4_clear_0 : decode cX4_clear 0 = .ok (.aload_n 0, 1) := by decide +kernel
theorem dX4_clear_1 : decode cX4_clear 1 = .ok (.getfield 48, 3) := by decide +kernel
theorem dX4_clear_4 : decode cX4_clear 4 = .ok (.istore_n 1, 1) := by decide +kernel
theorem dX4_clear_5 : decode cX4_clear 5 = .ok (.aload_n 0, 1) := by decide +kernel
theorem dX4_clear_6 : decode cX4_clear 6 = .ok (.invokevirtual 45, 3) := by decide +kernel
theorem dX4_clear_9 : decode cX4_clear 9 = .ok (.iload_n 1, 1) := by decide +kernel
theorem dX4_clear_10 : decode cX4_clear 10 = .ok (.ireturn, 1) := by decide +kernel
theorem dX4_ownSum_0 : decode cX4_ownSum 0 = .ok (.iconst 0, 1) := by decide +kernel
theorem dX4_ownSum_1 : decode cX4_ownSum 1 = .ok (.istore_n 2, 1) := by decide +kernel
theorem dX4_ownSum_2 : decode cX4_ownSum 2 = .ok (.iload_n 2, 1) := by decide +kernel
theorem dX4_ownSum_3 : decode cX4_ownSum 3 = .ok (.aload_n 0, 1) := by decide +kernel
theorem dX4_ownSum_4 : decode cX4_ownSum 4 = .ok (.getfield 48, 3) := by decide +kernel
theorem dX4_ownSum_7 : decode cX4_ownSum 7 = .ok (.if_icmp .gt 227, 3) := by decide +kernel
theorem dX4_ownSum_10 : decode cX4_ownSum 10 = .ok (.iconst 0, 1) := by decide +kernel
theorem dX4_ownSum_11 : decode cX4_ownSum 11 = .ok (.istore_n 3, 1) := by decide +kernel
theorem dX4_ownSum_12 : decode cX4_ownSum 12 = .ok (.iload_n 3, 1) := by decide +kernel
theorem dX4_ownSum_13 : decode cX4_ownSum 13 = .ok (.aload_n 0, 1) := by decide +kernel
theorem dX4_ownSum_14 : decode cX4_ownSum 14 = .ok (.getfield 13, 3) := by decide +kernel
theorem dX4_ownSum_17 : decode cX4_ownSum 17 = .ok (.iload_n 1, 1) := by decide +kernel
theorem dX4_ownSum_18 : decode cX4_ownSum 18 = .ok (.iaload, 1) := by decide +kernel
theorem dX4_ownSum_19 : decode cX4_ownSum 19 = .ok (.if_icmp .gt 209, 3) := by decide +kernel
theorem dX4_ownSum_22 : decode cX4_ownSum 22 = .ok (.iload_n 2, 1) := by decide +kernel
theorem dX4_ownSum_23 : decode cX4_ownSum 23 = .ok (.ifCond .ne 11, 3) := by decide +kernel
theorem dX4_ownSum_26 : decode cX4_ownSum 26 = .ok (.iload_n 3, 1) := by decide +kernel
theorem dX4_ownSum_27 : decode cX4_ownSum 27 = .ok (.ifCond .ne 7, 3) := by decide +kernel
theorem dX4_ownSum_30 : decode cX4_ownSum 30 = .ok (.iconst 0, 1) := by decide +kernel
theorem dX4_ownSum_31 : decode cX4_ownSum 31 = .ok (.goto 5, 3) := by decide +kernel
theorem dX4_ownSum_34 : decode cX4_ownSum 34 = .ok (.ldc 66, 2) := by decide +kernel
theorem dX4_ownSum_36 : decode cX4_ownSum 36 = .ok (.istore 4, 2) := by decide +kernel
theorem dX4_ownSum_38 : decode cX4_ownSum 38 = .ok (.iload_n 3, 1) := by decide +kernel
theorem dX4_ownSum_39 : decode cX4_ownSum 39 = .ok (.ifCond .le 42, 3) := by decide +kernel
theorem dX4_ownSum_42 : decode cX4_ownSum 42 = .ok (.aload_n 0, 1) := by decide +kernel
theorem dX4_ownSum_43 : decode cX4_ownSum 43 = .ok (.getfield 33, 3) := by decide +kernel
theorem dX4_ownSum_46 : decode cX4_ownSum 46 = .ok (.bipush 21, 2) := by decide +kernel
theorem dX4_ownSum_48 : decode cX4_ownSum 48 = .ok (.iload_n 2, 1) := by decide +kernel
theorem dX4_ownSum_49 : decode cX4_ownSum 49 = .ok (.imul, 1) := by decide +kernel
theorem dX4_ownSum_50 : decode cX4_ownSum 50 = .ok (.iload_n 3, 1) := by decide +kernel
theorem dX4_ownSum_51 : decode cX4_ownSum 51 = .ok (.iadd, 1) := by decide +kernel
theorem dX4_ownSum_52 : decode cX4_ownSum 52 = .ok (.iconst 1, 1) := by decide +kernel
theorem dX4_ownSum_53 : decode cX4_ownSum 53 = .ok (.isub, 1) := by decide +kernel
theorem dX4_ownSum_54 : decode cX4_ownSum 54 = .ok (.iaload, 1) := by decide +kernel
theorem dX4_ownSum_55 : decode cX4_ownSum 55 = .ok (.bipush 30, 2) := by decide +kernel
theorem dX4_ownSum_57 : decode cX4_ownSum 57 = .ok (.iadd, 1) := by decide +kernel
theorem dX4_ownSum_58 : decode cX4_ownSum 58 = .ok (.iload 4, 2) := by decide +kernel
theorem dX4_ownSum_60 : decode cX4_ownSum 60 = .ok (.if_icmp .ge 21, 3) := by decide +kernel
theorem dX4_ownSum_63 : decode cX4_ownSum 63 = .ok (.aload_n 0, 1) := by decide +kernel
theorem dX4_ownSum_64 : decode cX4_ownSum 64 = .ok (.getfield 33, 3) := by decide +kernel
theorem dX4_ownSum_67 : decode cX4_ownSum 67 = .ok (.bipush 21, 2) := by decide +kernel
theorem dX4_ownSum_69 : decode cX4_ownSum 69 = .ok (.iload_n 2, 1) := by decide +kernel
theorem dX4_ownSum_70 : decode cX4_ownSum 70 = .ok (.imul, 1) := by decide +kernel
theorem dX4_ownSum_71 : decode cX4_ownSum 71 = .ok (.iload_n 3, 1) := by decide +kernel
theorem dX4_ownSum_72 : decode cX4_ownSum 72 = .ok (.iadd, 1) := by decide +kernel
theorem dX4_ownSum_73 : decode cX4_ownSum 73 = .ok (.iconst 1, 1) := by decide +kernel
theorem dX4_ownSum_74 : decode cX4_ownSum 74 = .ok (.isub, 1) := by decide +kernel
theorem dX4_ownSum_75 : decode cX4_ownSum 75 = .ok (.iaload, 1) := by decide +kernel
theorem dX4_ownSum_76 : decode cX4_ownSum 76 = .ok (.bipush 30, 2) := by decide +kernel
theorem dX4_ownSum_78 : decode cX4_ownSum 78 = .ok (.iadd, 1) := by decide +kernel
theorem dX4_ownSum_79 : decode cX4_ownSum 79 = .ok (.istore 4, 2) := by decide +kernel
theorem dX4_ownSum_81 : decode cX4_ownSum 81 = .ok (.iload_n 2, 1) := by decide +kernel
theorem dX4_ownSum_82 : decode cX4_ownSum 82 = .ok (.ifCond .le 44, 3) := by decide +kernel
theorem dX4_ownSum_85 : decode cX4_ownSum 85 = .ok (.aload_n 0, 1) := by decide +kernel
theorem dX4_ownSum_86 : decode cX4_ownSum 86 = .ok (.getfield 33, 3) := by decide +kernel
theorem dX4_ownSum_89 : decode cX4_ownSum 89 = .ok (.bipush 21, 2) := by decide +kernel
theorem dX4_ownSum_91 : decode cX4_ownSum 91 = .ok (.iload_n 2, 1) := by decide +kernel
theorem dX4_ownSum_92 : decode cX4_ownSum 92 = .ok (.imul, 1) := by decide +kernel
theorem dX4_ownSum_93 : decode cX4_ownSum 93 = .ok (.bipush 21, 2) := by decide +kernel
theorem dX4_ownSum_95 : decode cX4_ownSum 95 = .ok (.isub, 1) := by decide +kernel
theorem dX4_ownSum_96 : decode cX4_ownSum 96 = .ok (.iload_n 3, 1) := by decide +kernel
theorem dX4_ownSum_97 : decode cX4_ownSum 97 = .ok (.iadd, 1) := by decide +kernel
theorem dX4_ownSum_98 : decode cX4_ownSum 98 = .ok (.iaload, 1) := by decide +kernel
theorem dX4_ownSum_99 : decode cX4_ownSum 99 = .ok (.bipush 25, 2) := by decide +kernel
theorem dX4_ownSum_101 : decode cX4_ownSum 101 = .ok (.iadd, 1) := by decide +kernel
theorem dX4_ownSum_102 : decode cX4_ownSum 102 = .ok (.iload 4, 2) := by decide +kernel
theorem dX4_ownSum_104 : decode cX4_ownSum 104 = .ok (.if_icmp .ge 22, 3) := by decide +kernel
theorem dX4_ownSum_107 : decode cX4_ownSum 107 = .ok (.aload_n 0, 1) := by decide +kernel
theorem dX4_ownSum_108 : decode cX4_ownSum 108 = .ok (.getfield 33, 3) := by decide +kernel
theorem dX4_ownSum_111 : decode cX4_ownSum 111 = .ok (.bipush 21, 2) := by decide +kernel
theorem dX4_ownSum_113 : decode cX4_ownSum 113 = .ok (.iload_n 2, 1) := by decide +kernel
theorem dX4_ownSum_114 : decode cX4_ownSum 114 = .ok (.imul, 1) := by decide +kernel
theorem dX4_ownSum_115 : decode cX4_ownSum 115 = .ok (.bipush 21, 2) := by decide +kernel
theorem dX4_ownSum_117 : decode cX4_ownSum 117 = .ok (.isub, 1) := by decide +kernel
theorem dX4_ownSum_118 : decode cX4_ownSum 118 = .ok (.iload_n 3, 1) := by decide +kernel
theorem dX4_ownSum_119 : decode cX4_ownSum 119 = .ok (.iadd, 1) := by decide +kernel
