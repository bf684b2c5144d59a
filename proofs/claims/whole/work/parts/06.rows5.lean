theorem dX2_addSign_11 : decode cX2_addSign 11 = .ok (.iconst 0, 1) := by decide +kernel
theorem dX2_addSign_12 : decode cX2_addSign 12 = .ok (.iload_n 2, 1) := by decide +kernel
theorem dX2_addSign_13 : decode cX2_addSign 13 = .ok (.bipush 30, 2) := by decide +kernel
theorem dX2_addSign_15 : decode cX2_addSign 15 = .ok (.iadd, 1) := by decide +kernel
theorem dX2_addSign_16 : decode cX2_addSign 16 = .ok (.iastore, 1) := by decide +kernel
theorem dX2_addSign_17 : decode cX2_addSign 17 = .ok (.iconst 0, 1) := by decide +kernel
theorem dX2_addSign_18 : decode cX2_addSign 18 = .ok (.istore_n 3, 1) := by decide +kernel
theorem dX2_addSign_19 : decode cX2_addSign 19 = .ok (.iload_n 3, 1) := by decide +kernel
theorem dX2_addSign_20 : decode cX2_addSign 20 = .ok (.aload_n 0, 1) := by decide +kernel
theorem dX2_addSign_21 : decode cX2_addSign 21 = .ok (.getfield 24, 3) := by decide +kernel
theorem dX2_addSign_24 : decode cX2_addSign 24 = .ok (.if_icmp .ge 72, 3) := by decide +kernel
theorem dX2_addSign_27 : decode cX2_addSign 27 = .ok (.iload_n 2, 1) := by decide +kernel
theorem dX2_addSign_28 : decode cX2_addSign 28 = .ok (.aload_n 0, 1) := by decide +kernel
theorem dX2_addSign_29 : decode cX2_addSign 29 = .ok (.iload_n 3, 1) := by decide +kernel
theorem dX2_addSign_30 : decode cX2_addSign 30 = .ok (.iload_n 1, 1) := by decide +kernel
theorem dX2_addSign_31 : decode cX2_addSign 31 = .ok (.invokevirtual 52, 3) := by decide +kernel
theorem dX2_addSign_34 : decode cX2_addSign 34 = .ok (.iadd, 1) := by decide +kernel
theorem dX2_addSign_35 : decode cX2_addSign 35 = .ok (.istore 4, 2) := by decide +kernel
theorem dX2_addSign_37 : decode cX2_addSign 37 = .ok (.aload_n 0, 1) := by decide +kernel
theorem dX2_addSign_38 : decode cX2_addSign 38 = .ok (.getfield 21, 3) := by decide +kernel
theorem dX2_addSign_41 : decode cX2_addSign 41 = .ok (.iload_n 3, 1) := by decide +kernel
theorem dX2_addSign_42 : decode cX2_addSign 42 = .ok (.iconst 1, 1) := by decide +kernel
theorem dX2_addSign_43 : decode cX2_addSign 43 = .ok (.iadd, 1) := by decide +kernel
theorem dX2_addSign_44 : decode cX2_addSign 44 = .ok (.iaload, 1) := by decide +kernel
theorem dX2_addSign_45 : decode cX2_addSign 45 = .ok (.bipush 30, 2) := by decide +kernel
theorem dX2_addSign_47 : decode cX2_addSign 47 = .ok (.iadd, 1) := by decide +kernel
theorem dX2_addSign_48 : decode cX2_addSign 48 = .ok (.istore 5, 2) := by decide +kernel
theorem dX2_addSign_50 : decode cX2_addSign 50 = .ok (.aload_n 0, 1) := by decide +kernel
theorem dX2_addSign_51 : decode cX2_addSign 51 = .ok (.getfield 21, 3) := by decide +kernel
theorem dX2_addSign_54 : decode cX2_addSign 54 = .ok (.iload_n 3, 1) := by decide +kernel
theorem dX2_addSign_55 : decode cX2_addSign 55 = .ok (.iaload, 1) := by decide +kernel
theorem dX2_addSign_56 : decode cX2_addSign 56 = .ok (.bipush 25, 2) := by decide +kernel
theorem dX2_addSign_58 : decode cX2_addSign 58 = .ok (.iadd, 1) := by decide +kernel
theorem dX2_addSign_59 : decode cX2_addSign 59 = .ok (.istore 6, 2) := by decide +kernel
theorem dX2_addSign_61 : decode cX2_addSign 61 = .ok (.aload_n 0, 1) := by decide +kernel
theorem dX2_addSign_62 : decode cX2_addSign 62 = .ok (.getfield 21, 3) := by decide +kernel
theorem dX2_addSign_65 : decode cX2_addSign 65 = .ok (.iload_n 3, 1) := by decide +kernel
theorem dX2_addSign_66 : decode cX2_addSign 66 = .ok (.iconst 1, 1) := by decide +kernel
theorem dX2_addSign_67 : decode cX2_addSign 67 = .ok (.iadd, 1) := by decide +kernel
theorem dX2_addSign_68 : decode cX2_addSign 68 = .ok (.iaload, 1) := by decide +kernel
theorem dX2_addSign_69 : decode cX2_addSign 69 = .ok (.istore_n 2, 1) := by decide +kernel
theorem dX2_addSign_70 : decode cX2_addSign 70 = .ok (.aload_n 0, 1) := by decide +kernel
theorem dX2_addSign_71 : decode cX2_addSign 71 = .ok (.getfield 21, 3) := by decide +kernel
theorem dX2_addSign_74 : decode cX2_addSign 74 = .ok (.iload_n 3, 1) := by decide +kernel
theorem dX2_addSign_75 : decode cX2_addSign 75 = .ok (.iconst 1, 1) := by decide +kernel
theorem dX2_addSign_76 : decode cX2_addSign 76 = .ok (.iadd, 1) := by decide +kernel
theorem dX2_addSign_77 : decode cX2_addSign 77 = .ok (.iload 4, 2) := by decide +kernel
theorem dX2_addSign_79 : decode cX2_addSign 79 = .ok (.iload 5, 2) := by decide +kernel
theorem dX2_addSign_81 : decode cX2_addSign 81 = .ok (.iload 6, 2) := by decide +kernel
theorem dX2_addSign_83 : decode cX2_addSign 83 = .ok (.invokestatic 55, 3) := by decide +kernel
theorem dX2_addSign_86 : decode cX2_addSign 86 = .ok (.invokestatic 55, 3) := by decide +kernel
theorem dX2_addSign_89 : decode cX2_addSign 89 = .ok (.iastore, 1) := by decide +kernel
theorem dX2_addSign_90 : decode cX2_addSign 90 = .ok (.iinc 3 1, 3) := by decide +kernel
theorem dX2_addSign_93 : decode cX2_addSign 93 = .ok (.goto (-74), 3) := by decide +kernel
theorem dX2_addSign_96 : decode cX2_addSign 96 = .ok (.return_, 1) := by decide +kernel
theorem dX2_costAs_0 : decode cX2_costAs 0 = .ok (.aload_n 0, 1) := by decide +kernel
theorem dX2_costAs_1 : decode cX2_costAs 1 = .ok (.iload_n 1, 1) := by decide +kernel
theorem dX2_costAs_2 : decode cX2_costAs 2 = .ok (.iload_n 2, 1) := by decide +kernel
theorem dX2_costAs_3 : decode cX2_costAs 3 = .ok (.invokevirtual 45, 3) := by decide +kernel
theorem dX2_costAs_6 : decode cX2_costAs 6 = .ok (.istore_n 3, 1) := by decide +kernel
theorem dX2_costAs_7 : decode cX2_costAs 7 = .ok (.iload_n 3, 1) := by decide +kernel
theorem dX2_costAs_8 : decode cX2_costAs 8 = .ok (.iconst (-1), 1) := by decide +kernel
theorem dX2_costAs_9 : decode cX2_costAs 9 = .ok (.if_icmp .ne 8, 3) := by decide +kernel
theorem dX2_costAs_12 : decode cX2_costAs 12 = .ok (.bipush 60, 2) := by decide +kernel
theorem dX2_costAs_14 : decode cX2_costAs 14 = .ok (.goto 4, 3) := by decide +kernel
theorem dX2_costAs_17 : decode cX2_costAs 17 = .ok (.iload_n 3, 1) := by decide +kernel
theorem dX2_costAs_18 : decode cX2_costAs 18 = .ok (.ireturn, 1) := by decide +kernel
theorem dX2_told_0 : decode cX2_told 0 = .ok (.iload_n 1, 1) := by decide +kernel
theorem dX2_told_1 : decode cX2_told 1 = .ok (.iload_n 2, 1) := by decide +kernel
theorem dX2_told_2 : decode cX2_told 2 = .ok (.invokestatic 28, 3) := by decide +kernel
theorem dX2_told_5 : decode cX2_told 5 = .ok (.istore_n 3, 1) := by decide +kernel
theorem dX2_told_6 : decode cX2_told 6 = .ok (.iload_n 3, 1) := by decide +kernel
theorem dX2_told_7 : decode cX2_told 7 = .ok (.ifCond .ge 7, 3) := by decide +kernel
theorem dX2_told_10 : decode cX2_told 10 = .ok (.iconst (-1), 1) := by decide +kernel
theorem dX2_told_11 : decode cX2_told 11 = .ok (.goto 9, 3) := by decide +kernel
theorem dX2_told_14 : decode cX2_told 14 = .ok (.aload_n 0, 1) := by decide +kernel
theorem dX2_told_15 : decode cX2_told 15 = .ok (.getfield 11, 3) := by decide +kernel
theorem dX2_told_18 : decode cX2_told 18 = .ok (.iload_n 3, 1) := by decide +kernel
theorem dX2_told_19 : decode cX2_told 19 = .ok (.iaload, 1) := by decide +kernel
theorem dX2_told_20 : decode cX2_told 20 = .ok (.ireturn, 1) := by decide +kernel
theorem dX2_indexOf_0 : decode cX2_indexOf 0 = .ok (.iload_n 0, 1) := by decide +kernel
theorem dX2_indexOf_1 : decode cX2_indexOf 1 = .ok (.ifCond .lt 16, 3) := by decide +kernel
theorem dX2_indexOf_4 : decode cX2_indexOf 4 = .ok (.iload_n 0, 1) := by decide +kernel
theorem dX2_indexOf_5 : decode cX2_indexOf 5 = .ok (.bipush 20, 2) := by decide +kernel
theorem dX2_indexOf_7 : decode cX2_indexOf 7 = .ok (.if_icmp .ge 10, 3) := by decide +kernel
theorem dX2_indexOf_10 : decode cX2_indexOf 10 = .ok (.iload_n 1, 1) := by decide +kernel
theorem dX2_indexOf_11 : decode cX2_indexOf 11 = .ok (.invokestatic 58, 3) := by decide +kernel
theorem dX2_indexOf_14 : decode cX2_indexOf 14 = .ok (.ifCond .ne 5, 3) := by decide +kernel
theorem dX2_indexOf_17 : decode cX2_indexOf 17 = .ok (.iconst (-1), 1) := by decide +kernel
theorem dX2_indexOf_18 : decode cX2_indexOf 18 = .ok (.ireturn, 1) := by decide +kernel
theorem dX2_indexOf_19 : decode cX2_indexOf 19 = .ok (.iload_n 0, 1) := by decide +kernel
theorem dX2_indexOf_20 : decode cX2_indexOf 20 = .ok (.bipush 94, 2) := by decide +kernel
theorem dX2_indexOf_22 : decode cX2_indexOf 22 = .ok (.imul, 1) := by decide +kernel
theorem dX2_indexOf_23 : decode cX2_indexOf 23 = .ok (.iload_n 1, 1) := by decide +kernel
theorem dX2_indexOf_24 : decode cX2_indexOf 24 = .ok (.iadd, 1) := by decide +kernel
theorem dX2_indexOf_25 : decode cX2_indexOf 25 = .ok (.bipush 33, 2) := by decide +kernel
theorem dX2_indexOf_27 : decode cX2_indexOf 27 = .ok (.isub, 1) := by decide +kernel
theorem dX2_indexOf_28 : decode cX2_indexOf 28 = .ok (.ireturn, 1) := by decide +kernel
theorem dJ7_fill_0 : decode cJ7_fill 0 = .ok (.iconst 0, 1) := by decide +kernel
theorem dJ7_fill_1 : decode cJ7_fill 1 = .ok (.istore_n 2, 1) := by decide +kernel
theorem dJ7_fill_2 : decode cJ7_fill 2 = .ok (.aload_n 0, 1) := by decide +kernel
theorem dJ7_fill_3 : decode cJ7_fill 3 = .ok (.arraylength, 1) := by decide +kernel
theorem dJ7_fill_4 : decode cJ7_fill 4 = .ok (.istore_n 3, 1) := by decide +kernel
theorem dJ7_fill_5 : decode cJ7_fill 5 = .ok (.iload_n 2, 1) := by decide +kernel
theorem dJ7_fill_6 : decode cJ7_fill 6 = .ok (.iload_n 3, 1) := by decide +kernel
theorem dJ7_fill_7 : decode cJ7_fill 7 = .ok (.if_icmp .ge 13, 3) := by decide +kernel
theorem dJ7_fill_10 : decode cJ7_fill 10 = .ok (.aload_n 0, 1) := by decide +kernel
theorem dJ7_fill_11 : decode cJ7_fill 11 = .ok (.iload_n 2, 1) := by decide +kernel
theorem dJ7_fill_12 : decode cJ7_fill 12 = .ok (.iload_n 1, 1) := by decide +kernel
theorem dJ7_fill_13 : decode cJ7_fill 13 = .ok (.iastore, 1) := by decide +kernel
theorem dJ7_fill_14 : decode cJ7_fill 14 = .ok (.iinc 2 1, 3) := by decide +kernel
theorem dJ7_fill_17 : decode cJ7_fill 17 = .ok (.goto (-12), 3) := by decide +kernel
theorem dJ7_fill_20 : decode cJ7_fill 20 = .ok (.return_, 1) := by decide +kernel
