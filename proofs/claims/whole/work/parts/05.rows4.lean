theorem dX4_abbreviation_43 : decode cX4_abbreviation 43 = .ok (.aload_n 0, 1) := by decide +kernel
theorem dX4_abbreviation_44 : decode cX4_abbreviation 44 = .ok (.getfield 20, 3) := by decide +kernel
theorem dX4_abbreviation_47 : decode cX4_abbreviation 47 = .ok (.iload_n 1, 1) := by decide +kernel
theorem dX4_abbreviation_48 : decode cX4_abbreviation 48 = .ok (.iload_n 2, 1) := by decide +kernel
theorem dX4_abbreviation_49 : decode cX4_abbreviation 49 = .ok (.iastore, 1) := by decide +kernel
theorem dX4_abbreviation_50 : decode cX4_abbreviation 50 = .ok (.aload_n 0, 1) := by decide +kernel
theorem dX4_abbreviation_51 : decode cX4_abbreviation 51 = .ok (.iload_n 2, 1) := by decide +kernel
theorem dX4_abbreviation_52 : decode cX4_abbreviation 52 = .ok (.invokevirtual 82, 3) := by decide +kernel
theorem dX4_abbreviation_55 : decode cX4_abbreviation 55 = .ok (.ireturn, 1) := by decide +kernel
theorem dX4_plain_0 : decode cX4_plain 0 = .ok (.iload_n 1, 1) := by decide +kernel
theorem dX4_plain_1 : decode cX4_plain 1 = .ok (.iconst 1, 1) := by decide +kernel
theorem dX4_plain_2 : decode cX4_plain 2 = .ok (.sipush 1000, 3) := by decide +kernel
theorem dX4_plain_5 : decode cX4_plain 5 = .ok (.invokestatic 54, 3) := by decide +kernel
theorem dX4_plain_8 : decode cX4_plain 8 = .ok (.ifCond .ne 6, 3) := by decide +kernel
theorem dX4_plain_11 : decode cX4_plain 11 = .ok (.bipush (-2), 2) := by decide +kernel
theorem dX4_plain_13 : decode cX4_plain 13 = .ok (.ireturn, 1) := by decide +kernel
theorem dX4_plain_14 : decode cX4_plain 14 = .ok (.aload_n 0, 1) := by decide +kernel
theorem dX4_plain_15 : decode cX4_plain 15 = .ok (.iconst 0, 1) := by decide +kernel
theorem dX4_plain_16 : decode cX4_plain 16 = .ok (.putfield 71, 3) := by decide +kernel
theorem dX4_plain_19 : decode cX4_plain 19 = .ok (.iconst 0, 1) := by decide +kernel
theorem dX4_plain_20 : decode cX4_plain 20 = .ok (.istore_n 2, 1) := by decide +kernel
theorem dX4_plain_21 : decode cX4_plain 21 = .ok (.iconst 1, 1) := by decide +kernel
theorem dX4_plain_22 : decode cX4_plain 22 = .ok (.istore_n 3, 1) := by decide +kernel
theorem dX4_plain_23 : decode cX4_plain 23 = .ok (.iload_n 3, 1) := by decide +kernel
theorem dX4_plain_24 : decode cX4_plain 24 = .ok (.aload_n 0, 1) := by decide +kernel
theorem dX4_plain_25 : decode cX4_plain 25 = .ok (.getfield 51, 3) := by decide +kernel
theorem dX4_plain_28 : decode cX4_plain 28 = .ok (.if_icmp .gt 156, 3) := by decide +kernel
theorem dX4_plain_31 : decode cX4_plain 31 = .ok (.aload_n 0, 1) := by decide +kernel
theorem dX4_plain_32 : decode cX4_plain 32 = .ok (.iload_n 3, 1) := by decide +kernel
theorem dX4_plain_33 : decode cX4_plain 33 = .ok (.invokevirtual 74, 3) := by decide +kernel
theorem dX4_plain_36 : decode cX4_plain 36 = .ok (.ifCond .eq 20, 3) := by decide +kernel
theorem dX4_plain_39 : decode cX4_plain 39 = .ok (.aload_n 0, 1) := by decide +kernel
theorem dX4_plain_40 : decode cX4_plain 40 = .ok (.getfield 13, 3) := by decide +kernel
theorem dX4_plain_43 : decode cX4_plain 43 = .ok (.iload_n 3, 1) := by decide +kernel
theorem dX4_plain_44 : decode cX4_plain 44 = .ok (.iaload, 1) := by decide +kernel
theorem dX4_plain_45 : decode cX4_plain 45 = .ok (.aload_n 0, 1) := by decide +kernel
theorem dX4_plain_46 : decode cX4_plain 46 = .ok (.getfield 48, 3) := by decide +kernel
theorem dX4_plain_49 : decode cX4_plain 49 = .ok (.if_icmp .ne 7, 3) := by decide +kernel
theorem dX4_plain_52 : decode cX4_plain 52 = .ok (.iconst 1, 1) := by decide +kernel
theorem dX4_plain_53 : decode cX4_plain 53 = .ok (.goto 4, 3) := by decide +kernel
theorem dX4_plain_56 : decode cX4_plain 56 = .ok (.iconst 0, 1) := by decide +kernel
theorem dX4_plain_57 : decode cX4_plain 57 = .ok (.istore 4, 2) := by decide +kernel
theorem dX4_plain_59 : decode cX4_plain 59 = .ok (.iconst 0, 1) := by decide +kernel
theorem dX4_plain_60 : decode cX4_plain 60 = .ok (.istore 5, 2) := by decide +kernel
theorem dX4_plain_62 : decode cX4_plain 62 = .ok (.iload 5, 2) := by decide +kernel
theorem dX4_plain_64 : decode cX4_plain 64 = .ok (.aload_n 0, 1) := by decide +kernel
theorem dX4_plain_65 : decode cX4_plain 65 = .ok (.getfield 13, 3) := by decide +kernel
theorem dX4_plain_68 : decode cX4_plain 68 = .ok (.iload_n 3, 1) := by decide +kernel
theorem dX4_plain_69 : decode cX4_plain 69 = .ok (.iaload, 1) := by decide +kernel
theorem dX4_plain_70 : decode cX4_plain 70 = .ok (.if_icmp .ge 48, 3) := by decide +kernel
theorem dX4_plain_73 : decode cX4_plain 73 = .ok (.iload 4, 2) := by decide +kernel
theorem dX4_plain_75 : decode cX4_plain 75 = .ok (.ifCond .eq 43, 3) := by decide +kernel
theorem dX4_plain_78 : decode cX4_plain 78 = .ok (.aload_n 0, 1) := by decide +kernel
theorem dX4_plain_79 : decode cX4_plain 79 = .ok (.getfield 30, 3) := by decide +kernel
theorem dX4_plain_82 : decode cX4_plain 82 = .ok (.sipush 128, 3) := by decide +kernel
theorem dX4_plain_85 : decode cX4_plain 85 = .ok (.iload 5, 2) := by decide +kernel
theorem dX4_plain_87 : decode cX4_plain 87 = .ok (.imul, 1) := by decide +kernel
theorem dX4_plain_88 : decode cX4_plain 88 = .ok (.aload_n 0, 1) := by decide +kernel
theorem dX4_plain_89 : decode cX4_plain 89 = .ok (.getfield 17, 3) := by decide +kernel
theorem dX4_plain_92 : decode cX4_plain 92 = .ok (.bipush 20, 2) := by decide +kernel
theorem dX4_plain_94 : decode cX4_plain 94 = .ok (.iload_n 3, 1) := by decide +kernel
theorem dX4_plain_95 : decode cX4_plain 95 = .ok (.imul, 1) := by decide +kernel
theorem dX4_plain_96 : decode cX4_plain 96 = .ok (.iload 5, 2) := by decide +kernel
theorem dX4_plain_98 : decode cX4_plain 98 = .ok (.iadd, 1) := by decide +kernel
theorem dX4_plain_99 : decode cX4_plain 99 = .ok (.iaload, 1) := by decide +kernel
theorem dX4_plain_100 : decode cX4_plain 100 = .ok (.iadd, 1) := by decide +kernel
theorem dX4_plain_101 : decode cX4_plain 101 = .ok (.iaload, 1) := by decide +kernel
theorem dX4_plain_102 : decode cX4_plain 102 = .ok (.ifCond .lt 7, 3) := by decide +kernel
theorem dX4_plain_105 : decode cX4_plain 105 = .ok (.iconst 1, 1) := by decide +kernel
theorem dX4_plain_106 : decode cX4_plain 106 = .ok (.goto 4, 3) := by decide +kernel
theorem dX4_plain_109 : decode cX4_plain 109 = .ok (.iconst 0, 1) := by decide +kernel
theorem dX4_plain_110 : decode cX4_plain 110 = .ok (.istore 4, 2) := by decide +kernel
theorem dX4_plain_112 : decode cX4_plain 112 = .ok (.iinc 5 1, 3) := by decide +kernel
theorem dX4_plain_115 : decode cX4_plain 115 = .ok (.goto (-53), 3) := by decide +kernel
theorem dX4_plain_118 : decode cX4_plain 118 = .ok (.iload 4, 2) := by decide +kernel
theorem dX4_plain_120 : decode cX4_plain 120 = .ok (.ifCond .eq 45, 3) := by decide +kernel
theorem dX4_plain_123 : decode cX4_plain 123 = .ok (.aload_n 0, 1) := by decide +kernel
theorem dX4_plain_124 : decode cX4_plain 124 = .ok (.getfield 71, 3) := by decide +kernel
theorem dX4_plain_127 : decode cX4_plain 127 = .ok (.iload_n 1, 1) := by decide +kernel
theorem dX4_plain_128 : decode cX4_plain 128 = .ok (.if_icmp .ge 37, 3) := by decide +kernel
theorem dX4_plain_131 : decode cX4_plain 131 = .ok (.aload_n 0, 1) := by decide +kernel
theorem dX4_plain_132 : decode cX4_plain 132 = .ok (.getfield 36, 3) := by decide +kernel
theorem dX4_plain_135 : decode cX4_plain 135 = .ok (.aload_n 0, 1) := by decide +kernel
theorem dX4_plain_136 : decode cX4_plain 136 = .ok (.getfield 71, 3) := by decide +kernel
theorem dX4_plain_139 : decode cX4_plain 139 = .ok (.iload_n 3, 1) := by decide +kernel
theorem dX4_plain_140 : decode cX4_plain 140 = .ok (.iastore, 1) := by decide +kernel
theorem dX4_plain_141 : decode cX4_plain 141 = .ok (.aload_n 0, 1) := by decide +kernel
theorem dX4_plain_142 : decode cX4_plain 142 = .ok (.getfield 39, 3) := by decide +kernel
theorem dX4_plain_145 : decode cX4_plain 145 = .ok (.aload_n 0, 1) := by decide +kernel
theorem dX4_plain_146 : decode cX4_plain 146 = .ok (.getfield 71, 3) := by decide +kernel
theorem dX4_plain_149 : decode cX4_plain 149 = .ok (.aload_n 0, 1) := by decide +kernel
theorem dX4_plain_150 : decode cX4_plain 150 = .ok (.iload_n 3, 1) := by decide +kernel
theorem dX4_plain_151 : decode cX4_plain 151 = .ok (.invokevirtual 77, 3) := by decide +kernel
theorem dX4_plain_154 : decode cX4_plain 154 = .ok (.iastore, 1) := by decide +kernel
theorem dX4_plain_155 : decode cX4_plain 155 = .ok (.aload_n 0, 1) := by decide +kernel
theorem dX4_plain_156 : decode cX4_plain 156 = .ok (.dup, 1) := by decide +kernel
theorem dX4_plain_157 : decode cX4_plain 157 = .ok (.getfield 71, 3) := by decide +kernel
theorem dX4_plain_160 : decode cX4_plain 160 = .ok (.iconst 1, 1) := by decide +kernel
theorem dX4_plain_161 : decode cX4_plain 161 = .ok (.iadd, 1) := by decide +kernel
theorem dX4_plain_162 : decode cX4_plain 162 = .ok (.putfield 71, 3) := by decide +kernel
theorem dX4_plain_165 : decode cX4_plain 165 = .ok (.iload 4, 2) := by decide +kernel
theorem dX4_plain_167 : decode cX4_plain 167 = .ok (.ifCond .eq 9, 3) := by decide +kernel
theorem dX4_plain_170 : decode cX4_plain 170 = .ok (.iload_n 2, 1) := by decide +kernel
theorem dX4_plain_171 : decode cX4_plain 171 = .ok (.iconst 1, 1) := by decide +kernel
theorem dX4_plain_172 : decode cX4_plain 172 = .ok (.iadd, 1) := by decide +kernel
theorem dX4_plain_173 : decode cX4_plain 173 = .ok (.goto 4, 3) := by decide +kernel
theorem dX4_plain_176 : decode cX4_plain 176 = .ok (.iload_n 2, 1) := by decide +kernel
theorem dX4_plain_177 : decode cX4_plain 177 = .ok (.istore_n 2, 1) := by decide +kernel
theorem dX4_plain_178 : decode cX4_plain 178 = .ok (.iinc 3 1, 3) := by decide +kernel
theorem dX4_plain_181 : decode cX4_plain 181 = .ok (.goto (-158), 3) := by decide +kernel
theorem dX4_plain_184 : decode cX4_plain 184 = .ok (.iload_n 2, 1) := by decide +kernel
theorem dX4_plain_185 : decode cX4_plain 185 = .ok (.ireturn, 1) := by decide +kernel
theorem dX0_init_0 : decode cX0_init 0 = .ok (.aload_n 0, 1) := by decide +kernel
theorem dX0_init_1 : decode cX0_init 1 = .ok (.invokespecial 3, 3) := by decide +kernel
theorem dX0_init_4 : decode cX0_init 4 = .ok (.aload_n 0, 1) := by decide +kernel
theorem dX0_init_5 : decode cX0_init 5 = .ok (.bipush 20, 2) := by decide +kernel
theorem dX0_init_7 : decode cX0_init 7 = .ok (.newarray .int, 2) := by decide +kernel
theorem dX0_init_9 : decode cX0_init 9 = .ok (.putfield 9, 3) := by decide +kernel
theorem dX0_init_12 : decode cX0_init 12 = .ok (.aload_n 0, 1) := by decide +kernel
theorem dX0_init_13 : decode cX0_init 13 = .ok (.iconst 0, 1) := by decide +kernel
theorem dX0_init_14 : decode cX0_init 14 = .ok (.putfield 15, 3) := by decide +kernel
theorem dX0_init_17 : decode cX0_init 17 = .ok (.aload_n 0, 1) := by decide +kernel
theorem dX0_init_18 : decode cX0_init 18 = .ok (.iconst 0, 1) := by decide +kernel
theorem dX0_init_19 : decode cX0_init 19 = .ok (.putfield 19, 3) := by decide +kernel
theorem dX0_init_22 : decode cX0_init 22 = .ok (.aload_n 0, 1) := by decide +kernel
theorem dX0_init_23 : decode cX0_init 23 = .ok (.iconst 0, 1) := by decide +kernel
theorem dX0_init_24 : decode cX0_init 24 = .ok (.putfield 22, 3) := by decide +kernel
theorem dX0_init_27 : decode cX0_init 27 = .ok (.aload_n 0, 1) := by decide +kernel
theorem dX0_init_28 : decode cX0_init 28 = .ok (.aconst_null, 1) := by decide +kernel
theorem dX0_init_29 : decode cX0_init 29 = .ok (.putfield 26, 3) := by decide +kernel
theorem dX0_init_32 : decode cX0_init 32 = .ok (.aload_n 0, 1) := by decide +kernel
theorem dX0_init_33 : decode cX0_init 33 = .ok (.iconst 0, 1) := by decide +kernel
theorem dX0_init_34 : decode cX0_init 34 = .ok (.putfield 30, 3) := by decide +kernel
theorem dX0_init_37 : decode cX0_init 37 = .ok (.return_, 1) := by decide +kernel
theorem dX0_append_0 : decode cX0_append 0 = .ok (.aload_n 0, 1) := by decide +kernel
theorem dX0_append_1 : decode cX0_append 1 = .ok (.getfield 15, 3) := by decide +kernel
theorem dX0_append_4 : decode cX0_append 4 = .ok (.aload_n 0, 1) := by decide +kernel
theorem dX0_append_5 : decode cX0_append 5 = .ok (.getfield 9, 3) := by decide +kernel
theorem dX0_append_8 : decode cX0_append 8 = .ok (.arraylength, 1) := by decide +kernel
theorem dX0_append_9 : decode cX0_append 9 = .ok (.if_icmp .lt 5, 3) := by decide +kernel
theorem dX0_append_12 : decode cX0_append 12 = .ok (.iconst 0, 1) := by decide +kernel
theorem dX0_append_13 : decode cX0_append 13 = .ok (.ireturn, 1) := by decide +kernel
theorem dX0_append_14 : decode cX0_append 14 = .ok (.aload_n 0, 1) := by decide +kernel
theorem dX0_append_15 : decode cX0_append 15 = .ok (.getfield 9, 3) := by decide +kernel
theorem dX0_append_18 : decode cX0_append 18 = .ok (.aload_n 0, 1) := by decide +kernel
theorem dX0_append_19 : decode cX0_append 19 = .ok (.getfield 15, 3) := by decide +kernel
theorem dX0_append_22 : decode cX0_append 22 = .ok (.iload_n 1, 1) := by decide +kernel
theorem dX0_append_23 : decode cX0_append 23 = .ok (.iastore, 1) := by decide +kernel
theorem dX0_append_24 : decode cX0_append 24 = .ok (.aload_n 0, 1) := by decide +kernel
theorem dX0_append_25 : decode cX0_append 25 = .ok (.dup, 1) := by decide +kernel
theorem dX0_append_26 : decode cX0_append 26 = .ok (.getfield 15, 3) := by decide +kernel
theorem dX0_append_29 : decode cX0_append 29 = .ok (.iconst 1, 1) := by decide +kernel
theorem dX0_append_30 : decode cX0_append 30 = .ok (.iadd, 1) := by decide +kernel
theorem dX0_append_31 : decode cX0_append 31 = .ok (.putfield 15, 3) := by decide +kernel
theorem dX0_append_34 : decode cX0_append 34 = .ok (.iconst 1, 1) := by decide +kernel
theorem dX0_append_35 : decode cX0_append 35 = .ok (.ireturn, 1) := by decide +kernel
theorem dX0_join_0 : decode cX0_join 0 = .ok (.aload_n 0, 1) := by decide +kernel
theorem dX0_join_1 : decode cX0_join 1 = .ok (.dup, 1) := by decide +kernel
theorem dX0_join_2 : decode cX0_join 2 = .ok (.getfield 19, 3) := by decide +kernel
theorem dX0_join_5 : decode cX0_join 5 = .ok (.iconst 1, 1) := by decide +kernel
theorem dX0_join_6 : decode cX0_join 6 = .ok (.iload_n 1, 1) := by decide +kernel
theorem dX0_join_7 : decode cX0_join 7 = .ok (.ishl, 1) := by decide +kernel
theorem dX0_join_8 : decode cX0_join 8 = .ok (.ior, 1) := by decide +kernel
theorem dX0_join_9 : decode cX0_join 9 = .ok (.putfield 19, 3) := by decide +kernel
theorem dX0_join_12 : decode cX0_join 12 = .ok (.return_, 1) := by decide +kernel
theorem dX0_isWithin_0 : decode cX0_isWithin 0 = .ok (.iload_n 1, 1) := by decide +kernel
theorem dX0_isWithin_1 : decode cX0_isWithin 1 = .ok (.iconst (-1), 1) := by decide +kernel
theorem dX0_isWithin_2 : decode cX0_isWithin 2 = .ok (.if_icmp .eq 14, 3) := by decide +kernel
theorem dX0_isWithin_5 : decode cX0_isWithin 5 = .ok (.aload_n 0, 1) := by decide +kernel
theorem dX0_isWithin_6 : decode cX0_isWithin 6 = .ok (.getfield 19, 3) := by decide +kernel
theorem dX0_isWithin_9 : decode cX0_isWithin 9 = .ok (.iconst 1, 1) := by decide +kernel
theorem dX0_isWithin_10 : decode cX0_isWithin 10 = .ok (.iload_n 1, 1) := by decide +kernel
theorem dX0_isWithin_11 : decode cX0_isWithin 11 = .ok (.ishl, 1) := by decide +kernel
theorem dX0_isWithin_12 : decode cX0_isWithin 12 = .ok (.iand, 1) := by decide +kernel
theorem dX0_isWithin_13 : decode cX0_isWithin 13 = .ok (.ifCond .eq 7, 3) := by decide +kernel
theorem dX0_isWithin_16 : decode cX0_isWithin 16 = .ok (.iconst 1, 1) := by decide +kernel
theorem dX0_isWithin_17 : decode cX0_isWithin 17 = .ok (.goto 4, 3) := by decide +kernel
theorem dX0_isWithin_20 : decode cX0_isWithin 20 = .ok (.iconst 0, 1) := by decide +kernel
theorem dX0_isWithin_21 : decode cX0_isWithin 21 = .ok (.ireturn, 1) := by decide +kernel
theorem dX1_init_0 : decode cX1_init 0 = .ok (.aload_n 0, 1) := by decide +kernel
theorem dX1_init_1 : decode cX1_init 1 = .ok (.invokespecial 3, 3) := by decide +kernel
theorem dX1_init_4 : decode cX1_init 4 = .ok (.aload_n 0, 1) := by decide +kernel
theorem dX1_init_5 : decode cX1_init 5 = .ok (.sipush 200, 3) := by decide +kernel
theorem dX1_init_8 : decode cX1_init 8 = .ok (.newarray .int, 2) := by decide +kernel
theorem dX1_init_10 : decode cX1_init 10 = .ok (.putfield 9, 3) := by decide +kernel
theorem dX1_init_13 : decode cX1_init 13 = .ok (.aload_n 0, 1) := by decide +kernel
theorem dX1_init_14 : decode cX1_init 14 = .ok (.sipush 200, 3) := by decide +kernel
theorem dX1_init_17 : decode cX1_init 17 = .ok (.newarray .int, 2) := by decide +kernel
theorem dX1_init_19 : decode cX1_init 19 = .ok (.putfield 15, 3) := by decide +kernel
theorem dX1_init_22 : decode cX1_init 22 = .ok (.aload_n 0, 1) := by decide +kernel
theorem dX1_init_23 : decode cX1_init 23 = .ok (.iconst 0, 1) := by decide +kernel
theorem dX1_init_24 : decode cX1_init 24 = .ok (.putfield 18, 3) := by decide +kernel
theorem dX1_init_27 : decode cX1_init 27 = .ok (.return_, 1) := by decide +kernel
theorem dX1_forget_0 : decode cX1_forget 0 = .ok (.aload_n 0, 1) := by decide +kernel
theorem dX1_forget_1 : decode cX1_forget 1 = .ok (.iconst 0, 1) := by decide +kernel
theorem dX1_forget_2 : decode cX1_forget 2 = .ok (.putfield 18, 3) := by decide +kernel
theorem dX1_forget_5 : decode cX1_forget 5 = .ok (.return_, 1) := by decide +kernel
theorem dX1_has_0 : decode cX1_has 0 = .ok (.iload_n 1, 1) := by decide +kernel
theorem dX1_has_1 : decode cX1_has 1 = .ok (.ifCond .lt 24, 3) := by decide +kernel
theorem dX1_has_4 : decode cX1_has 4 = .ok (.iload_n 1, 1) := by decide +kernel
theorem dX1_has_5 : decode cX1_has 5 = .ok (.aload_n 0, 1) := by decide +kernel
theorem dX1_has_6 : decode cX1_has 6 = .ok (.getfield 18, 3) := by decide +kernel
theorem dX1_has_9 : decode cX1_has 9 = .ok (.if_icmp .ge 16, 3) := by decide +kernel
theorem dX1_has_12 : decode cX1_has 12 = .ok (.iload_n 1, 1) := by decide +kernel
theorem dX1_has_13 : decode cX1_has 13 = .ok (.aload_n 0, 1) := by decide +kernel
theorem dX1_has_14 : decode cX1_has 14 = .ok (.getfield 9, 3) := by decide +kernel
theorem dX1_has_17 : decode cX1_has 17 = .ok (.arraylength, 1) := by decide +kernel
theorem dX1_has_18 : decode cX1_has 18 = .ok (.if_icmp .ge 7, 3) := by decide +kernel
theorem dX1_has_21 : decode cX1_has 21 = .ok (.iconst 1, 1) := by decide +kernel
theorem dX1_has_22 : decode cX1_has 22 = .ok (.goto 4, 3) := by decide +kernel
theorem dX1_has_25 : decode cX1_has 25 = .ok (.iconst 0, 1) := by decide +kernel
theorem dX1_has_26 : decode cX1_has 26 = .ok (.ireturn, 1) := by decide +kernel
theorem dX1_addLast_0 : decode cX1_addLast 0 = .ok (.aload_n 0, 1) := by decide +kernel
theorem dX1_addLast_1 : decode cX1_addLast 1 = .ok (.getfield 18, 3) := by decide +kernel
theorem dX1_addLast_4 : decode cX1_addLast 4 = .ok (.aload_n 0, 1) := by decide +kernel
theorem dX1_addLast_5 : decode cX1_addLast 5 = .ok (.getfield 9, 3) := by decide +kernel
theorem dX1_addLast_8 : decode cX1_addLast 8 = .ok (.arraylength, 1) := by decide +kernel
theorem dX1_addLast_9 : decode cX1_addLast 9 = .ok (.if_icmp .ge 33, 3) := by decide +kernel
theorem dX1_addLast_12 : decode cX1_addLast 12 = .ok (.aload_n 0, 1) := by decide +kernel
theorem dX1_addLast_13 : decode cX1_addLast 13 = .ok (.getfield 9, 3) := by decide +kernel
theorem dX1_addLast_16 : decode cX1_addLast 16 = .ok (.aload_n 0, 1) := by decide +kernel
theorem dX1_addLast_17 : decode cX1_addLast 17 = .ok (.getfield 18, 3) := by decide +kernel
theorem dX1_addLast_20 : decode cX1_addLast 20 = .ok (.iload_n 1, 1) := by decide +kernel
theorem dX1_addLast_21 : decode cX1_addLast 21 = .ok (.iastore, 1) := by decide +kernel
theorem dX1_addLast_22 : decode cX1_addLast 22 = .ok (.aload_n 0, 1) := by decide +kernel
theorem dX1_addLast_23 : decode cX1_addLast 23 = .ok (.getfield 15, 3) := by decide +kernel
theorem dX1_addLast_26 : decode cX1_addLast 26 = .ok (.aload_n 0, 1) := by decide +kernel
theorem dX1_addLast_27 : decode cX1_addLast 27 = .ok (.getfield 18, 3) := by decide +kernel
theorem dX1_addLast_30 : decode cX1_addLast 30 = .ok (.iload_n 2, 1) := by decide +kernel
theorem dX1_addLast_31 : decode cX1_addLast 31 = .ok (.iastore, 1) := by decide +kernel
theorem dX1_addLast_32 : decode cX1_addLast 32 = .ok (.aload_n 0, 1) := by decide +kernel
theorem dX1_addLast_33 : decode cX1_addLast 33 = .ok (.dup, 1) := by decide +kernel
theorem dX1_addLast_34 : decode cX1_addLast 34 = .ok (.getfield 18, 3) := by decide +kernel
theorem dX1_addLast_37 : decode cX1_addLast 37 = .ok (.iconst 1, 1) := by decide +kernel
theorem dX1_addLast_38 : decode cX1_addLast 38 = .ok (.iadd, 1) := by decide +kernel
theorem dX1_addLast_39 : decode cX1_addLast 39 = .ok (.putfield 18, 3) := by decide +kernel
theorem dX1_addLast_42 : decode cX1_addLast 42 = .ok (.return_, 1) := by decide +kernel
theorem dX1_addBySum_0 : decode cX1_addBySum 0 = .ok (.aload_n 0, 1) := by decide +kernel
theorem dX1_addBySum_1 : decode cX1_addBySum 1 = .ok (.getfield 18, 3) := by decide +kernel
theorem dX1_addBySum_4 : decode cX1_addBySum 4 = .ok (.aload_n 0, 1) := by decide +kernel
theorem dX1_addBySum_5 : decode cX1_addBySum 5 = .ok (.getfield 9, 3) := by decide +kernel
theorem dX1_addBySum_8 : decode cX1_addBySum 8 = .ok (.arraylength, 1) := by decide +kernel
theorem dX1_addBySum_9 : decode cX1_addBySum 9 = .ok (.if_icmp .lt 4, 3) := by decide +kernel
theorem dX1_addBySum_12 : decode cX1_addBySum 12 = .ok (.return_, 1) := by decide +kernel
theorem dX1_addBySum_13 : decode cX1_addBySum 13 = .ok (.aload_n 0, 1) := by decide +kernel
theorem dX1_addBySum_14 : decode cX1_addBySum 14 = .ok (.getfield 18, 3) := by decide +kernel
theorem dX1_addBySum_17 : decode cX1_addBySum 17 = .ok (.istore_n 3, 1) := by decide +kernel
theorem dX1_addBySum_18 : decode cX1_addBySum 18 = .ok (.iload_n 3, 1) := by decide +kernel
theorem dX1_addBySum_19 : decode cX1_addBySum 19 = .ok (.ifCond .le 49, 3) := by decide +kernel
theorem dX1_addBySum_22 : decode cX1_addBySum 22 = .ok (.aload_n 0, 1) := by decide +kernel
theorem dX1_addBySum_23 : decode cX1_addBySum 23 = .ok (.getfield 15, 3) := by decide +kernel
theorem dX1_addBySum_26 : decode cX1_addBySum 26 = .ok (.iload_n 3, 1) := by decide +kernel
theorem dX1_addBySum_27 : decode cX1_addBySum 27 = .ok (.iconst 1, 1) := by decide +kernel
theorem dX1_addBySum_28 : decode cX1_addBySum 28 = .ok (.isub, 1) := by decide +kernel
theorem dX1_addBySum_29 : decode cX1_addBySum 29 = .ok (.iaload, 1) := by decide +kernel
theorem dX1_addBySum_30 : decode cX1_addBySum 30 = .ok (.iload_n 2, 1) := by decide +kernel
theorem dX1_addBySum_31 : decode cX1_addBySum 31 = .ok (.if_icmp .le 37, 3) := by decide +kernel
theorem dX1_addBySum_34 : decode cX1_addBySum 34 = .ok (.aload_n 0, 1) := by decide +kernel
theorem dX1_addBySum_35 : decode cX1_addBySum 35 = .ok (.getfield 9, 3) := by decide +kernel
theorem dX1_addBySum_38 : decode cX1_addBySum 38 = .ok (.iload_n 3, 1) := by decide +kernel
theorem dX1_addBySum_39 : decode cX1_addBySum 39 = .ok (.aload_n 0, 1) := by decide +kernel
theorem dX1_addBySum_40 : decode cX1_addBySum 40 = .ok (.getfield 9, 3) := by decide +kernel
theorem dX1_addBySum_43 : decode cX1_addBySum 43 = .ok (.iload_n 3, 1) := by decide +kernel
theorem dX1_addBySum_44 : decode cX1_addBySum 44 = .ok (.iconst 1, 1) := by decide +kernel
theorem dX1_addBySum_45 : decode cX1_addBySum 45 = .ok (.isub, 1) := by decide +kernel
theorem dX1_addBySum_46 : decode cX1_addBySum 46 = .ok (.iaload, 1) := by decide +kernel
theorem dX1_addBySum_47 : decode cX1_addBySum 47 = .ok (.iastore, 1) := by decide +kernel
theorem dX1_addBySum_48 : decode cX1_addBySum 48 = .ok (.aload_n 0, 1) := by decide +kernel
theorem dX1_addBySum_49 : decode cX1_addBySum 49 = .ok (.getfield 15, 3) := by decide +kernel
theorem dX1_addBySum_52 : decode cX1_addBySum 52 = .ok (.iload_n 3, 1) := by decide +kernel
theorem dX1_addBySum_53 : decode cX1_addBySum 53 = .ok (.aload_n 0, 1) := by decide +kernel
theorem dX1_addBySum_54 : decode cX1_addBySum 54 = .ok (.getfield 15, 3) := by decide +kernel
theorem dX1_addBySum_57 : decode cX1_addBySum 57 = .ok (.iload_n 3, 1) := by decide +kernel
theorem dX1_addBySum_58 : decode cX1_addBySum 58 = .ok (.iconst 1, 1) := by decide +kernel
theorem dX1_addBySum_59 : decode cX1_addBySum 59 = .ok (.isub, 1) := by decide +kernel
theorem dX1_addBySum_60 : decode cX1_addBySum 60 = .ok (.iaload, 1) := by decide +kernel
theorem dX1_addBySum_61 : decode cX1_addBySum 61 = .ok (.iastore, 1) := by decide +kernel
theorem dX1_addBySum_62 : decode cX1_addBySum 62 = .ok (.iinc 3 (-1), 3) := by decide +kernel
theorem dX1_addBySum_65 : decode cX1_addBySum 65 = .ok (.goto (-47), 3) := by decide +kernel
theorem dX1_addBySum_68 : decode cX1_addBySum 68 = .ok (.aload_n 0, 1) := by decide +kernel
theorem dX1_addBySum_69 : decode cX1_addBySum 69 = .ok (.getfield 9, 3) := by decide +kernel
theorem dX1_addBySum_72 : decode cX1_addBySum 72 = .ok (.iload_n 3, 1) := by decide +kernel
theorem dX1_addBySum_73 : decode cX1_addBySum 73 = .ok (.iload_n 1, 1) := by decide +kernel
theorem dX1_addBySum_74 : decode cX1_addBySum 74 = .ok (.iastore, 1) := by decide +kernel
theorem dX1_addBySum_75 : decode cX1_addBySum 75 = .ok (.aload_n 0, 1) := by decide +kernel
theorem dX1_addBySum_76 : decode cX1_addBySum 76 = .ok (.getfield 15, 3) := by decide +kernel
theorem dX1_addBySum_79 : decode cX1_addBySum 79 = .ok (.iload_n 3, 1) := by decide +kernel
theorem dX1_addBySum_80 : decode cX1_addBySum 80 = .ok (.iload_n 2, 1) := by decide +kernel
theorem dX1_addBySum_81 : decode cX1_addBySum 81 = .ok (.iastore, 1) := by decide +kernel
theorem dX1_addBySum_82 : decode cX1_addBySum 82 = .ok (.aload_n 0, 1) := by decide +kernel
theorem dX1_addBySum_83 : decode cX1_addBySum 83 = .ok (.dup, 1) := by decide +kernel
theorem dX1_addBySum_84 : decode cX1_addBySum 84 = .ok (.getfield 18, 3) := by decide +kernel
theorem dX1_addBySum_87 : decode cX1_addBySum 87 = .ok (.iconst 1, 1) := by decide +kernel
theorem dX1_addBySum_88 : decode cX1_addBySum 88 = .ok (.iadd, 1) := by decide +kernel
theorem dX1_addBySum_89 : decode cX1_addBySum 89 = .ok (.putfield 18, 3) := by decide +kernel
theorem dX1_addBySum_92 : decode cX1_addBySum 92 = .ok (.return_, 1) := by decide +kernel
theorem dX1_keepFirst_0 : decode cX1_keepFirst 0 = .ok (.aload_n 0, 1) := by decide +kernel
theorem dX1_keepFirst_1 : decode cX1_keepFirst 1 = .ok (.aload_n 0, 1) := by decide +kernel
theorem dX1_keepFirst_2 : decode cX1_keepFirst 2 = .ok (.getfield 18, 3) := by decide +kernel
theorem dX1_keepFirst_5 : decode cX1_keepFirst 5 = .ok (.iload_n 1, 1) := by decide +kernel
theorem dX1_keepFirst_6 : decode cX1_keepFirst 6 = .ok (.invokestatic 22, 3) := by decide +kernel
theorem dX1_keepFirst_9 : decode cX1_keepFirst 9 = .ok (.putfield 18, 3) := by decide +kernel
theorem dX1_keepFirst_12 : decode cX1_keepFirst 12 = .ok (.return_, 1) := by decide +kernel
theorem dX2_init_0 : decode cX2_init 0 = .ok (.aload_n 0, 1) := by decide +kernel
theorem dX2_init_1 : decode cX2_init 1 = .ok (.invokespecial 3, 3) := by decide +kernel
theorem dX2_init_4 : decode cX2_init 4 = .ok (.aload_n 0, 1) := by decide +kernel
theorem dX2_init_5 : decode cX2_init 5 = .ok (.sipush 1880, 3) := by decide +kernel
theorem dX2_init_8 : decode cX2_init 8 = .ok (.newarray .int, 2) := by decide +kernel
theorem dX2_init_10 : decode cX2_init 10 = .ok (.putfield 11, 3) := by decide +kernel
theorem dX2_init_13 : decode cX2_init 13 = .ok (.aload_n 0, 1) := by decide +kernel
theorem dX2_init_14 : decode cX2_init 14 = .ok (.getfield 11, 3) := by decide +kernel
theorem dX2_init_17 : decode cX2_init 17 = .ok (.iconst (-1), 1) := by decide +kernel
theorem dX2_init_18 : decode cX2_init 18 = .ok (.invokestatic 15, 3) := by decide +kernel
theorem dX2_init_21 : decode cX2_init 21 = .ok (.aload_n 0, 1) := by decide +kernel
theorem dX2_init_22 : decode cX2_init 22 = .ok (.bipush 21, 2) := by decide +kernel
theorem dX2_init_24 : decode cX2_init 24 = .ok (.newarray .int, 2) := by decide +kernel
theorem dX2_init_26 : decode cX2_init 26 = .ok (.putfield 21, 3) := by decide +kernel
theorem dX2_init_29 : decode cX2_init 29 = .ok (.aload_n 0, 1) := by decide +kernel
theorem dX2_init_30 : decode cX2_init 30 = .ok (.iconst 0, 1) := by decide +kernel
theorem dX2_init_31 : decode cX2_init 31 = .ok (.putfield 24, 3) := by decide +kernel
theorem dX2_init_34 : decode cX2_init 34 = .ok (.return_, 1) := by decide +kernel
theorem dX2_tell_0 : decode cX2_tell 0 = .ok (.iload_n 1, 1) := by decide +kernel
theorem dX2_tell_1 : decode cX2_tell 1 = .ok (.iload_n 2, 1) := by decide +kernel
theorem dX2_tell_2 : decode cX2_tell 2 = .ok (.invokestatic 28, 3) := by decide +kernel
theorem dX2_tell_5 : decode cX2_tell 5 = .ok (.istore 4, 2) := by decide +kernel
theorem dX2_tell_7 : decode cX2_tell 7 = .ok (.iload 4, 2) := by decide +kernel
theorem dX2_tell_9 : decode cX2_tell 9 = .ok (.ifCond .ge 4, 3) := by decide +kernel
theorem dX2_tell_12 : decode cX2_tell 12 = .ok (.return_, 1) := by decide +kernel
theorem dX2_tell_13 : decode cX2_tell 13 = .ok (.aload_n 0, 1) := by decide +kernel
theorem dX2_tell_14 : decode cX2_tell 14 = .ok (.getfield 11, 3) := by decide +kernel
theorem dX2_tell_17 : decode cX2_tell 17 = .ok (.iload 4, 2) := by decide +kernel
theorem dX2_tell_19 : decode cX2_tell 19 = .ok (.iload_n 3, 1) := by decide +kernel
theorem dX2_tell_20 : decode cX2_tell 20 = .ok (.iastore, 1) := by decide +kernel
theorem dX2_tell_21 : decode cX2_tell 21 = .ok (.aload_n 0, 1) := by decide +kernel
theorem dX2_tell_22 : decode cX2_tell 22 = .ok (.aload_n 0, 1) := by decide +kernel
theorem dX2_tell_23 : decode cX2_tell 23 = .ok (.getfield 24, 3) := by decide +kernel
theorem dX2_tell_26 : decode cX2_tell 26 = .ok (.iload_n 1, 1) := by decide +kernel
theorem dX2_tell_27 : decode cX2_tell 27 = .ok (.iconst 1, 1) := by decide +kernel
theorem dX2_tell_28 : decode cX2_tell 28 = .ok (.iadd, 1) := by decide +kernel
theorem dX2_tell_29 : decode cX2_tell 29 = .ok (.invokestatic 32, 3) := by decide +kernel
theorem dX2_tell_32 : decode cX2_tell 32 = .ok (.putfield 24, 3) := by decide +kernel
theorem dX2_tell_35 : decode cX2_tell 35 = .ok (.return_, 1) := by decide +kernel
theorem dX2_forget_0 : decode cX2_forget 0 = .ok (.aload_n 0, 1) := by decide +kernel
theorem dX2_forget_1 : decode cX2_forget 1 = .ok (.getfield 11, 3) := by decide +kernel
theorem dX2_forget_4 : decode cX2_forget 4 = .ok (.iconst (-1), 1) := by decide +kernel
theorem dX2_forget_5 : decode cX2_forget 5 = .ok (.invokestatic 15, 3) := by decide +kernel
theorem dX2_forget_8 : decode cX2_forget 8 = .ok (.aload_n 0, 1) := by decide +kernel
theorem dX2_forget_9 : decode cX2_forget 9 = .ok (.iconst 0, 1) := by decide +kernel
theorem dX2_forget_10 : decode cX2_forget 10 = .ok (.putfield 24, 3) := by decide +kernel
theorem dX2_forget_13 : decode cX2_forget 13 = .ok (.return_, 1) := by decide +kernel
theorem dX2_spells_0 : decode cX2_spells 0 = .ok (.aload_n 1, 1) := by decide +kernel
theorem dX2_spells_1 : decode cX2_spells 1 = .ok (.getfield 37, 3) := by decide +kernel
theorem dX2_spells_4 : decode cX2_spells 4 = .ok (.aload_n 0, 1) := by decide +kernel
theorem dX2_spells_5 : decode cX2_spells 5 = .ok (.getfield 24, 3) := by decide +kernel
theorem dX2_spells_8 : decode cX2_spells 8 = .ok (.if_icmp .eq 5, 3) := by decide +kernel
theorem dX2_spells_11 : decode cX2_spells 11 = .ok (.iconst 0, 1) := by decide +kernel
theorem dX2_spells_12 : decode cX2_spells 12 = .ok (.ireturn, 1) := by decide +kernel
theorem dX2_spells_13 : decode cX2_spells 13 = .ok (.iconst 0, 1) := by decide +kernel
theorem dX2_spells_14 : decode cX2_spells 14 = .ok (.istore_n 2, 1) := by decide +kernel
theorem dX2_spells_15 : decode cX2_spells 15 = .ok (.iload_n 2, 1) := by decide +kernel
theorem dX2_spells_16 : decode cX2_spells 16 = .ok (.aload_n 0, 1) := by decide +kernel
theorem dX2_spells_17 : decode cX2_spells 17 = .ok (.getfield 24, 3) := by decide +kernel
theorem dX2_spells_20 : decode cX2_spells 20 = .ok (.if_icmp .ge 26, 3) := by decide +kernel
theorem dX2_spells_23 : decode cX2_spells 23 = .ok (.aload_n 0, 1) := by decide +kernel
theorem dX2_spells_24 : decode cX2_spells 24 = .ok (.iload_n 2, 1) := by decide +kernel
theorem dX2_spells_25 : decode cX2_spells 25 = .ok (.aload_n 1, 1) := by decide +kernel
theorem dX2_spells_26 : decode cX2_spells 26 = .ok (.getfield 42, 3) := by decide +kernel
theorem dX2_spells_29 : decode cX2_spells 29 = .ok (.iload_n 2, 1) := by decide +kernel
theorem dX2_spells_30 : decode cX2_spells 30 = .ok (.iaload, 1) := by decide +kernel
theorem dX2_spells_31 : decode cX2_spells 31 = .ok (.invokevirtual 45, 3) := by decide +kernel
theorem dX2_spells_34 : decode cX2_spells 34 = .ok (.iconst (-1), 1) := by decide +kernel
theorem dX2_spells_35 : decode cX2_spells 35 = .ok (.if_icmp .ne 5, 3) := by decide +kernel
theorem dX2_spells_38 : decode cX2_spells 38 = .ok (.iconst 0, 1) := by decide +kernel
theorem dX2_spells_39 : decode cX2_spells 39 = .ok (.ireturn, 1) := by decide +kernel
theorem dX2_spells_40 : decode cX2_spells 40 = .ok (.iinc 2 1, 3) := by decide +kernel
theorem dX2_spells_43 : decode cX2_spells 43 = .ok (.goto (-28), 3) := by decide +kernel
theorem dX2_spells_46 : decode cX2_spells 46 = .ok (.iconst 1, 1) := by decide +kernel
theorem dX2_spells_47 : decode cX2_spells 47 = .ok (.ireturn, 1) := by decide +kernel
theorem dX2_leastCostOf_0 : decode cX2_leastCostOf 0 = .ok (.iconst 0, 1) := by decide +kernel
theorem dX2_leastCostOf_1 : decode cX2_leastCostOf 1 = .ok (.istore_n 2, 1) := by decide +kernel
theorem dX2_leastCostOf_2 : decode cX2_leastCostOf 2 = .ok (.iload_n 2, 1) := by decide +kernel
theorem dX2_leastCostOf_3 : decode cX2_leastCostOf 3 = .ok (.aload_n 0, 1) := by decide +kernel
theorem dX2_leastCostOf_4 : decode cX2_leastCostOf 4 = .ok (.getfield 24, 3) := by decide +kernel
theorem dX2_leastCostOf_7 : decode cX2_leastCostOf 7 = .ok (.if_icmp .gt 19, 3) := by decide +kernel
theorem dX2_leastCostOf_10 : decode cX2_leastCostOf 10 = .ok (.aload_n 0, 1) := by decide +kernel
theorem dX2_leastCostOf_11 : decode cX2_leastCostOf 11 = .ok (.getfield 21, 3) := by decide +kernel
theorem dX2_leastCostOf_14 : decode cX2_leastCostOf 14 = .ok (.iload_n 2, 1) := by decide +kernel
theorem dX2_leastCostOf_15 : decode cX2_leastCostOf 15 = .ok (.iload_n 2, 1) := by decide +kernel
theorem dX2_leastCostOf_16 : decode cX2_leastCostOf 16 = .ok (.bipush 25, 2) := by decide +kernel
theorem dX2_leastCostOf_18 : decode cX2_leastCostOf 18 = .ok (.imul, 1) := by decide +kernel
theorem dX2_leastCostOf_19 : decode cX2_leastCostOf 19 = .ok (.iastore, 1) := by decide +kernel
theorem dX2_leastCostOf_20 : decode cX2_leastCostOf 20 = .ok (.iinc 2 1, 3) := by decide +kernel
theorem dX2_leastCostOf_23 : decode cX2_leastCostOf 23 = .ok (.goto (-21), 3) := by decide +kernel
theorem dX2_leastCostOf_26 : decode cX2_leastCostOf 26 = .ok (.iconst 0, 1) := by decide +kernel
theorem dX2_leastCostOf_27 : decode cX2_leastCostOf 27 = .ok (.istore_n 2, 1) := by decide +kernel
theorem dX2_leastCostOf_28 : decode cX2_leastCostOf 28 = .ok (.iload_n 2, 1) := by decide +kernel
theorem dX2_leastCostOf_29 : decode cX2_leastCostOf 29 = .ok (.aload_n 1, 1) := by decide +kernel
theorem dX2_leastCostOf_30 : decode cX2_leastCostOf 30 = .ok (.getfield 37, 3) := by decide +kernel
theorem dX2_leastCostOf_33 : decode cX2_leastCostOf 33 = .ok (.if_icmp .ge 19, 3) := by decide +kernel
theorem dX2_leastCostOf_36 : decode cX2_leastCostOf 36 = .ok (.aload_n 0, 1) := by decide +kernel
theorem dX2_leastCostOf_37 : decode cX2_leastCostOf 37 = .ok (.aload_n 1, 1) := by decide +kernel
theorem dX2_leastCostOf_38 : decode cX2_leastCostOf 38 = .ok (.getfield 42, 3) := by decide +kernel
theorem dX2_leastCostOf_41 : decode cX2_leastCostOf 41 = .ok (.iload_n 2, 1) := by decide +kernel
theorem dX2_leastCostOf_42 : decode cX2_leastCostOf 42 = .ok (.iaload, 1) := by decide +kernel
theorem dX2_leastCostOf_43 : decode cX2_leastCostOf 43 = .ok (.invokevirtual 48, 3) := by decide +kernel
theorem dX2_leastCostOf_46 : decode cX2_leastCostOf 46 = .ok (.iinc 2 1, 3) := by decide +kernel
theorem dX2_leastCostOf_49 : decode cX2_leastCostOf 49 = .ok (.goto (-21), 3) := by decide +kernel
theorem dX2_leastCostOf_52 : decode cX2_leastCostOf 52 = .ok (.aload_n 0, 1) := by decide +kernel
theorem dX2_leastCostOf_53 : decode cX2_leastCostOf 53 = .ok (.getfield 21, 3) := by decide +kernel
theorem dX2_leastCostOf_56 : decode cX2_leastCostOf 56 = .ok (.aload_n 0, 1) := by decide +kernel
theorem dX2_leastCostOf_57 : decode cX2_leastCostOf 57 = .ok (.getfield 24, 3) := by decide +kernel
theorem dX2_leastCostOf_60 : decode cX2_leastCostOf 60 = .ok (.iaload, 1) := by decide +kernel
theorem dX2_leastCostOf_61 : decode cX2_leastCostOf 61 = .ok (.ireturn, 1) := by decide +kernel
theorem dX2_addSign_0 : decode cX2_addSign 0 = .ok (.aload_n 0, 1) := by decide +kernel
theorem dX2_addSign_1 : decode cX2_addSign 1 = .ok (.getfield 21, 3) := by decide +kernel
theorem dX2_addSign_4 : decode cX2_addSign 4 = .ok (.iconst 0, 1) := by decide +kernel
theorem dX2_addSign_5 : decode cX2_addSign 5 = .ok (.iaload, 1) := by decide +kernel
theorem dX2_addSign_6 : decode cX2_addSign 6 = .ok (.istore_n 2, 1) := by decide +kernel
theorem dX2_addSign_7 : decode cX2_addSign 7 = .ok (.aload_n 0, 1) := by decide +kernel
theorem dX2_addSign_8 : decode cX2_addSign 8 = .ok (.getfield 21, 3) := by decide +kernel
