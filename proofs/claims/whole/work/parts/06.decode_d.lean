theorem dX10_init_0 : decode cX10_init 0 = .ok (.aload_n 0, 1) := by decide +kernel
theorem dX10_init_1 : decode cX10_init 1 = .ok (.invokespecial 1, 3) := by decide +kernel
theorem dX10_init_4 : decode cX10_init 4 = .ok (.aload_n 0, 1) := by decide +kernel
theorem dX10_init_5 : decode cX10_init 5 = .ok (.bipush 8, 2) := by decide +kernel
theorem dX10_init_7 : decode cX10_init 7 = .ok (.newarray .int, 2) := by decide +kernel
theorem dX10_init_9 : decode cX10_init 9 = .ok (.putfield 7, 3) := by decide +kernel
theorem dX10_init_12 : decode cX10_init 12 = .ok (.aload_n 0, 1) := by decide +kernel
theorem dX10_init_13 : decode cX10_init 13 = .ok (.bipush 8, 2) := by decide +kernel
theorem dX10_init_15 : decode cX10_init 15 = .ok (.newarray .int, 2) := by decide +kernel
theorem dX10_init_17 : decode cX10_init 17 = .ok (.putfield 13, 3) := by decide +kernel
theorem dX10_init_20 : decode cX10_init 20 = .ok (.aload_n 0, 1) := by decide +kernel
theorem dX10_init_21 : decode cX10_init 21 = .ok (.sipush 320, 3) := by decide +kernel
theorem dX10_init_24 : decode cX10_init 24 = .ok (.newarray .int, 2) := by decide +kernel
theorem dX10_init_26 : decode cX10_init 26 = .ok (.putfield 16, 3) := by decide +kernel
theorem dX10_init_29 : decode cX10_init 29 = .ok (.aload_n 0, 1) := by decide +kernel
theorem dX10_init_30 : decode cX10_init 30 = .ok (.bipush 40, 2) := by decide +kernel
theorem dX10_init_32 : decode cX10_init 32 = .ok (.newarray .int, 2) := by decide +kernel
theorem dX10_init_34 : decode cX10_init 34 = .ok (.putfield 19, 3) := by decide +kernel
theorem dX10_init_37 : decode cX10_init 37 = .ok (.aload_n 0, 1) := by decide +kernel
theorem dX10_init_38 : decode cX10_init 38 = .ok (.bipush 80, 2) := by decide +kernel
theorem dX10_init_40 : decode cX10_init 40 = .ok (.newarray .int, 2) := by decide +kernel
theorem dX10_init_42 : decode cX10_init 42 = .ok (.putfield 22, 3) := by decide +kernel
theorem dX10_init_45 : decode cX10_init 45 = .ok (.aload_n 0, 1) := by decide +kernel
theorem dX10_init_46 : decode cX10_init 46 = .ok (.bipush 124, 2) := by decide +kernel
theorem dX10_init_48 : decode cX10_init 48 = .ok (.newarray .int, 2) := by decide +kernel
theorem dX10_init_50 : decode cX10_init 50 = .ok (.putfield 25, 3) := by decide +kernel
theorem dX10_init_53 : decode cX10_init 53 = .ok (.aload_n 0, 1) := by decide +kernel
theorem dX10_init_54 : decode cX10_init 54 = .ok (.bipush 124, 2) := by decide +kernel
theorem dX10_init_56 : decode cX10_init 56 = .ok (.newarray .int, 2) := by decide +kernel
theorem dX10_init_58 : decode cX10_init 58 = .ok (.putfield 28, 3) := by decide +kernel
theorem dX10_init_61 : decode cX10_init 61 = .ok (.aload_n 0, 1) := by decide +kernel
theorem dX10_init_62 : decode cX10_init 62 = .ok (.bipush 124, 2) := by decide +kernel
theorem dX10_init_64 : decode cX10_init 64 = .ok (.newarray .int, 2) := by decide +kernel
theorem dX10_init_66 : decode cX10_init 66 = .ok (.putfield 31, 3) := by decide +kernel
theorem dX10_init_69 : decode cX10_init 69 = .ok (.aload_n 0, 1) := by decide +kernel
theorem dX10_init_70 : decode cX10_init 70 = .ok (.sipush 2976, 3) := by decide +kernel
theorem dX10_init_73 : decode cX10_init 73 = .ok (.newarray .int, 2) := by decide +kernel
theorem dX10_init_75 : decode cX10_init 75 = .ok (.putfield 34, 3) := by decide +kernel
theorem dX10_init_78 : decode cX10_init 78 = .ok (.aload_n 0, 1) := by decide +kernel
theorem dX10_init_79 : decode cX10_init 79 = .ok (.sipush 248, 3) := by decide +kernel
theorem dX10_init_82 : decode cX10_init 82 = .ok (.newarray .int, 2) := by decide +kernel
theorem dX10_init_84 : decode cX10_init 84 = .ok (.putfield 37, 3) := by decide +kernel
theorem dX10_init_87 : decode cX10_init 87 = .ok (.aload_n 0, 1) := by decide +kernel
theorem dX10_init_88 : decode cX10_init 88 = .ok (.iconst 2, 1) := by decide +kernel
theorem dX10_init_89 : decode cX10_init 89 = .ok (.newarray .boolean, 2) := by decide +kernel
theorem dX10_init_91 : decode cX10_init 91 = .ok (.putfield 40, 3) := by decide +kernel
theorem dX10_init_94 : decode cX10_init 94 = .ok (.aload_n 0, 1) := by decide +kernel
theorem dX10_init_95 : decode cX10_init 95 = .ok (.bipush 8, 2) := by decide +kernel
theorem dX10_init_97 : decode cX10_init 97 = .ok (.newarray .int, 2) := by decide +kernel
theorem dX10_init_99 : decode cX10_init 99 = .ok (.putfield 44, 3) := by decide +kernel
theorem dX10_init_102 : decode cX10_init 102 = .ok (.aload_n 0, 1) := by decide +kernel
theorem dX10_init_103 : decode cX10_init 103 = .ok (.bipush 8, 2) := by decide +kernel
theorem dX10_init_105 : decode cX10_init 105 = .ok (.newarray .int, 2) := by decide +kernel
theorem dX10_init_107 : decode cX10_init 107 = .ok (.putfield 47, 3) := by decide +kernel
theorem dX10_init_110 : decode cX10_init 110 = .ok (.aload_n 0, 1) := by decide +kernel
theorem dX10_init_111 : decode cX10_init 111 = .ok (.iconst 4, 1) := by decide +kernel
theorem dX10_init_112 : decode cX10_init 112 = .ok (.newarray .int, 2) := by decide +kernel
theorem dX10_init_114 : decode cX10_init 114 = .ok (.putfield 50, 3) := by decide +kernel
theorem dX10_init_117 : decode cX10_init 117 = .ok (.aload_n 0, 1) := by decide +kernel
theorem dX10_init_118 : decode cX10_init 118 = .ok (.bipush 16, 2) := by decide +kernel
theorem dX10_init_120 : decode cX10_init 120 = .ok (.newarray .int, 2) := by decide +kernel
theorem dX10_init_122 : decode cX10_init 122 = .ok (.putfield 53, 3) := by decide +kernel
theorem dX10_init_125 : decode cX10_init 125 = .ok (.iconst 0, 1) := by decide +kernel
theorem dX10_init_126 : decode cX10_init 126 = .ok (.istore_n 1, 1) := by decide +kernel
theorem dX10_init_127 : decode cX10_init 127 = .ok (.iload_n 1, 1) := by decide +kernel
theorem dX10_init_128 : decode cX10_init 128 = .ok (.bipush 8, 2) := by decide +kernel
theorem dX10_init_130 : decode cX10_init 130 = .ok (.if_icmp .ge 17, 3) := by decide +kernel
theorem dX10_init_133 : decode cX10_init 133 = .ok (.aload_n 0, 1) := by decide +kernel
theorem dX10_init_134 : decode cX10_init 134 = .ok (.getfield 7, 3) := by decide +kernel
theorem dX10_init_137 : decode cX10_init 137 = .ok (.iload_n 1, 1) := by decide +kernel
theorem dX10_init_138 : decode cX10_init 138 = .ok (.ldc 56, 2) := by decide +kernel
theorem dX10_init_140 : decode cX10_init 140 = .ok (.iastore, 1) := by decide +kernel
theorem dX10_init_141 : decode cX10_init 141 = .ok (.iinc 1 1, 3) := by decide +kernel
theorem dX10_init_144 : decode cX10_init 144 = .ok (.goto (-17), 3) := by decide +kernel
theorem dX10_init_147 : decode cX10_init 147 = .ok (.return_, 1) := by decide +kernel
theorem dX10_in_0 : decode cX10_in 0 = .ok (.iload_n 0, 1) := by decide +kernel
theorem dX10_in_1 : decode cX10_in 1 = .ok (.iload_n 1, 1) := by decide +kernel
theorem dX10_in_2 : decode cX10_in 2 = .ok (.if_icmp .lt 12, 3) := by decide +kernel
theorem dX10_in_5 : decode cX10_in 5 = .ok (.iload_n 0, 1) := by decide +kernel
theorem dX10_in_6 : decode cX10_in 6 = .ok (.iload_n 2, 1) := by decide +kernel
theorem dX10_in_7 : decode cX10_in 7 = .ok (.if_icmp .gt 7, 3) := by decide +kernel
theorem dX10_in_10 : decode cX10_in 10 = .ok (.iconst 1, 1) := by decide +kernel
theorem dX10_in_11 : decode cX10_in 11 = .ok (.goto 4, 3) := by decide +kernel
theorem dX10_in_14 : decode cX10_in 14 = .ok (.iconst 0, 1) := by decide +kernel
theorem dX10_in_15 : decode cX10_in 15 = .ok (.ireturn, 1) := by decide +kernel
theorem dX10_found_0 : decode cX10_found 0 = .ok (.aload_n 0, 1) := by decide +kernel
theorem dX10_found_1 : decode cX10_found 1 = .ok (.iload_n 1, 1) := by decide +kernel
theorem dX10_found_2 : decode cX10_found 2 = .ok (.putfield 57, 3) := by decide +kernel
theorem dX10_found_5 : decode cX10_found 5 = .ok (.ldc 61, 2) := by decide +kernel
theorem dX10_found_7 : decode cX10_found 7 = .ok (.iload_n 1, 1) := by decide +kernel
theorem dX10_found_8 : decode cX10_found 8 = .ok (.isub, 1) := by decide +kernel
theorem dX10_found_9 : decode cX10_found 9 = .ok (.ireturn, 1) := by decide +kernel
theorem dX10_well_0 : decode cX10_well 0 = .ok (.aload_n 0, 1) := by decide +kernel
theorem dX10_well_1 : decode cX10_well 1 = .ok (.iconst 0, 1) := by decide +kernel
theorem dX10_well_2 : decode cX10_well 2 = .ok (.putfield 57, 3) := by decide +kernel
theorem dX10_well_5 : decode cX10_well 5 = .ok (.iload_n 1, 1) := by decide +kernel
theorem dX10_well_6 : decode cX10_well 6 = .ok (.ireturn, 1) := by decide +kernel
theorem dX10_copies_0 : decode cX10_copies 0 = .ok (.iconst 0, 1) := by decide +kernel
theorem dX10_copies_1 : decode cX10_copies 1 = .ok (.istore 4, 2) := by decide +kernel
theorem dX10_copies_3 : decode cX10_copies 3 = .ok (.iload 4, 2) := by decide +kernel
theorem dX10_copies_5 : decode cX10_copies 5 = .ok (.bipush 124, 2) := by decide +kernel
theorem dX10_copies_7 : decode cX10_copies 7 = .ok (.if_icmp .ge 21, 3) := by decide +kernel
theorem dX10_copies_10 : decode cX10_copies 10 = .ok (.aload_n 2, 1) := by decide +kernel
theorem dX10_copies_11 : decode cX10_copies 11 = .ok (.iload_n 3, 1) := by decide +kernel
theorem dX10_copies_12 : decode cX10_copies 12 = .ok (.iload 4, 2) := by decide +kernel
theorem dX10_copies_14 : decode cX10_copies 14 = .ok (.iadd, 1) := by decide +kernel
theorem dX10_copies_15 : decode cX10_copies 15 = .ok (.aload_n 0, 1) := by decide +kernel
theorem dX10_copies_16 : decode cX10_copies 16 = .ok (.iload_n 1, 1) := by decide +kernel
theorem dX10_copies_17 : decode cX10_copies 17 = .ok (.iload 4, 2) := by decide +kernel
theorem dX10_copies_19 : decode cX10_copies 19 = .ok (.iadd, 1) := by decide +kernel
theorem dX10_copies_20 : decode cX10_copies 20 = .ok (.iaload, 1) := by decide +kernel
theorem dX10_copies_21 : decode cX10_copies 21 = .ok (.iastore, 1) := by decide +kernel
theorem dX10_copies_22 : decode cX10_copies 22 = .ok (.iinc 4 1, 3) := by decide +kernel
theorem dX10_copies_25 : decode cX10_copies 25 = .ok (.goto (-22), 3) := by decide +kernel
theorem dX10_copies_28 : decode cX10_copies 28 = .ok (.return_, 1) := by decide +kernel
theorem dX10_isRow_0 : decode cX10_isRow 0 = .ok (.iload_n 0, 1) := by decide +kernel
theorem dX10_isRow_1 : decode cX10_isRow 1 = .ok (.iconst 0, 1) := by decide +kernel
theorem dX10_isRow_2 : decode cX10_isRow 2 = .ok (.bipush 7, 2) := by decide +kernel
theorem dX10_isRow_4 : decode cX10_isRow 4 = .ok (.invokestatic 62, 3) := by decide +kernel
theorem dX10_isRow_7 : decode cX10_isRow 7 = .ok (.ireturn, 1) := by decide +kernel
theorem dX10_isMissing_0 : decode cX10_isMissing 0 = .ok (.aload_n 0, 1) := by decide +kernel
theorem dX10_isMissing_1 : decode cX10_isMissing 1 = .ok (.getfield 7, 3) := by decide +kernel
theorem dX10_isMissing_4 : decode cX10_isMissing 4 = .ok (.iload_n 1, 1) := by decide +kernel
theorem dX10_isMissing_5 : decode cX10_isMissing 5 = .ok (.iaload, 1) := by decide +kernel
theorem dX10_isMissing_6 : decode cX10_isMissing 6 = .ok (.ldc 56, 2) := by decide +kernel
theorem dX10_isMissing_8 : decode cX10_isMissing 8 = .ok (.if_icmp .ne 7, 3) := by decide +kernel
theorem dX10_isMissing_11 : decode cX10_isMissing 11 = .ok (.iconst 1, 1) := by decide +kernel
theorem dX10_isMissing_12 : decode cX10_isMissing 12 = .ok (.goto 4, 3) := by decide +kernel
theorem dX10_isMissing_15 : decode cX10_isMissing 15 = .ok (.iconst 0, 1) := by decide +kernel
theorem dX10_isMissing_16 : decode cX10_isMissing 16 = .ok (.ireturn, 1) := by decide +kernel
theorem dX10_cut_0 : decode cX10_cut 0 = .ok (.iload_n 0, 1) := by decide +kernel
theorem dX10_cut_1 : decode cX10_cut 1 = .ok (.ifCond .ne 13, 3) := by decide +kernel
theorem dX10_cut_4 : decode cX10_cut 4 = .ok (.iload_n 1, 1) := by decide +kernel
theorem dX10_cut_5 : decode cX10_cut 5 = .ok (.bipush 24, 2) := by decide +kernel
theorem dX10_cut_7 : decode cX10_cut 7 = .ok (.ishl, 1) := by decide +kernel
theorem dX10_cut_8 : decode cX10_cut 8 = .ok (.bipush 24, 2) := by decide +kernel
theorem dX10_cut_10 : decode cX10_cut 10 = .ok (.ishr, 1) := by decide +kernel
theorem dX10_cut_11 : decode cX10_cut 11 = .ok (.goto 19, 3) := by decide +kernel
theorem dX10_cut_14 : decode cX10_cut 14 = .ok (.iload_n 0, 1) := by decide +kernel
theorem dX10_cut_15 : decode cX10_cut 15 = .ok (.iconst 1, 1) := by decide +kernel
theorem dX10_cut_16 : decode cX10_cut 16 = .ok (.if_icmp .ne 13, 3) := by decide +kernel
theorem dX10_cut_19 : decode cX10_cut 19 = .ok (.iload_n 1, 1) := by decide +kernel
theorem dX10_cut_20 : decode cX10_cut 20 = .ok (.bipush 16, 2) := by decide +kernel
theorem dX10_cut_22 : decode cX10_cut 22 = .ok (.ishl, 1) := by decide +kernel
theorem dX10_cut_23 : decode cX10_cut 23 = .ok (.bipush 16, 2) := by decide +kernel
theorem dX10_cut_25 : decode cX10_cut 25 = .ok (.ishr, 1) := by decide +kernel
theorem dX10_cut_26 : decode cX10_cut 26 = .ok (.goto 4, 3) := by decide +kernel
theorem dX10_cut_29 : decode cX10_cut 29 = .ok (.iload_n 1, 1) := by decide +kernel
theorem dX10_cut_30 : decode cX10_cut 30 = .ok (.ireturn, 1) := by decide +kernel
theorem dX10_row_0 : decode cX10_row 0 = .ok (.iload_n 1, 1) := by decide +kernel
theorem dX10_row_1 : decode cX10_row 1 = .ok (.invokestatic 66, 3) := by decide +kernel
theorem dX10_row_4 : decode cX10_row 4 = .ok (.ifCond .eq 18, 3) := by decide +kernel
theorem dX10_row_7 : decode cX10_row 7 = .ok (.iload_n 2, 1) := by decide +kernel
theorem dX10_row_8 : decode cX10_row 8 = .ok (.iconst 0, 1) := by decide +kernel
theorem dX10_row_9 : decode cX10_row 9 = .ok (.iconst 2, 1) := by decide +kernel
theorem dX10_row_10 : decode cX10_row 10 = .ok (.invokestatic 62, 3) := by decide +kernel
theorem dX10_row_13 : decode cX10_row 13 = .ok (.ifCond .eq 9, 3) := by decide +kernel
theorem dX10_row_16 : decode cX10_row 16 = .ok (.iload_n 3, 1) := by decide +kernel
theorem dX10_row_17 : decode cX10_row 17 = .ok (.bipush 40, 2) := by decide +kernel
theorem dX10_row_19 : decode cX10_row 19 = .ok (.if_icmp .le 6, 3) := by decide +kernel
theorem dX10_row_22 : decode cX10_row 22 = .ok (.ldc 70, 2) := by decide +kernel
theorem dX10_row_24 : decode cX10_row 24 = .ok (.ireturn, 1) := by decide +kernel
theorem dX10_row_25 : decode cX10_row 25 = .ok (.iload_n 3, 1) := by decide +kernel
theorem dX10_row_26 : decode cX10_row 26 = .ok (.ifCond .ge 9, 3) := by decide +kernel
theorem dX10_row_29 : decode cX10_row 29 = .ok (.aload_n 0, 1) := by decide +kernel
theorem dX10_row_30 : decode cX10_row 30 = .ok (.iconst 4, 1) := by decide +kernel
theorem dX10_row_31 : decode cX10_row 31 = .ok (.invokevirtual 71, 3) := by decide +kernel
theorem dX10_row_34 : decode cX10_row 34 = .ok (.ireturn, 1) := by decide +kernel
theorem dX10_row_35 : decode cX10_row 35 = .ok (.aload_n 0, 1) := by decide +kernel
theorem dX10_row_36 : decode cX10_row 36 = .ok (.getfield 7, 3) := by decide +kernel
theorem dX10_row_39 : decode cX10_row 39 = .ok (.iload_n 1, 1) := by decide +kernel
theorem dX10_row_40 : decode cX10_row 40 = .ok (.iload_n 2, 1) := by decide +kernel
theorem dX10_row_41 : decode cX10_row 41 = .ok (.iastore, 1) := by decide +kernel
theorem dX10_row_42 : decode cX10_row 42 = .ok (.aload_n 0, 1) := by decide +kernel
theorem dX10_row_43 : decode cX10_row 43 = .ok (.getfield 13, 3) := by decide +kernel
theorem dX10_row_46 : decode cX10_row 46 = .ok (.iload_n 1, 1) := by decide +kernel
theorem dX10_row_47 : decode cX10_row 47 = .ok (.iload_n 3, 1) := by decide +kernel
theorem dX10_row_48 : decode cX10_row 48 = .ok (.iastore, 1) := by decide +kernel
theorem dX10_row_49 : decode cX10_row 49 = .ok (.iconst 0, 1) := by decide +kernel
theorem dX10_row_50 : decode cX10_row 50 = .ok (.istore 4, 2) := by decide +kernel
theorem dX10_row_52 : decode cX10_row 52 = .ok (.iload 4, 2) := by decide +kernel
theorem dX10_row_54 : decode cX10_row 54 = .ok (.bipush 40, 2) := by decide +kernel
theorem dX10_row_56 : decode cX10_row 56 = .ok (.if_icmp .ge 22, 3) := by decide +kernel
theorem dX10_row_59 : decode cX10_row 59 = .ok (.aload_n 0, 1) := by decide +kernel
theorem dX10_row_60 : decode cX10_row 60 = .ok (.getfield 16, 3) := by decide +kernel
theorem dX10_row_63 : decode cX10_row 63 = .ok (.bipush 40, 2) := by decide +kernel
theorem dX10_row_65 : decode cX10_row 65 = .ok (.iload_n 1, 1) := by decide +kernel
theorem dX10_row_66 : decode cX10_row 66 = .ok (.imul, 1) := by decide +kernel
theorem dX10_row_67 : decode cX10_row 67 = .ok (.iload 4, 2) := by decide +kernel
theorem dX10_row_69 : decode cX10_row 69 = .ok (.iadd, 1) := by decide +kernel
theorem dX10_row_70 : decode cX10_row 70 = .ok (.iconst 0, 1) := by decide +kernel
theorem dX10_row_71 : decode cX10_row 71 = .ok (.iastore, 1) := by decide +kernel
theorem dX10_row_72 : decode cX10_row 72 = .ok (.iinc 4 1, 3) := by decide +kernel
theorem dX10_row_75 : decode cX10_row 75 = .ok (.goto (-23), 3) := by decide +kernel
theorem dX10_row_78 : decode cX10_row 78 = .ok (.aload_n 0, 1) := by decide +kernel
theorem dX10_row_79 : decode cX10_row 79 = .ok (.iload_n 3, 1) := by decide +kernel
theorem dX10_row_80 : decode cX10_row 80 = .ok (.invokevirtual 75, 3) := by decide +kernel
theorem dX10_row_83 : decode cX10_row 83 = .ok (.ireturn, 1) := by decide +kernel
theorem dX10_set_0 : decode cX10_set 0 = .ok (.iload_n 1, 1) := by decide +kernel
theorem dX10_set_1 : decode cX10_set 1 = .ok (.invokestatic 66, 3) := by decide +kernel
theorem dX10_set_4 : decode cX10_set 4 = .ok (.ifCond .ne 6, 3) := by decide +kernel
theorem dX10_set_7 : decode cX10_set 7 = .ok (.ldc 70, 2) := by decide +kernel
theorem dX10_set_9 : decode cX10_set 9 = .ok (.ireturn, 1) := by decide +kernel
theorem dX10_set_10 : decode cX10_set 10 = .ok (.aload_n 0, 1) := by decide +kernel
theorem dX10_set_11 : decode cX10_set 11 = .ok (.iload_n 1, 1) := by decide +kernel
theorem dX10_set_12 : decode cX10_set 12 = .ok (.invokevirtual 78, 3) := by decide +kernel
theorem dX10_set_15 : decode cX10_set 15 = .ok (.ifCond .eq 9, 3) := by decide +kernel
theorem dX10_set_18 : decode cX10_set 18 = .ok (.aload_n 0, 1) := by decide +kernel
theorem dX10_set_19 : decode cX10_set 19 = .ok (.iconst 1, 1) := by decide +kernel
theorem dX10_set_20 : decode cX10_set 20 = .ok (.invokevirtual 71, 3) := by decide +kernel
theorem dX10_set_23 : decode cX10_set 23 = .ok (.ireturn, 1) := by decide +kernel
theorem dX10_set_24 : decode cX10_set 24 = .ok (.iload_n 2, 1) := by decide +kernel
theorem dX10_set_25 : decode cX10_set 25 = .ok (.iconst 0, 1) := by decide +kernel
theorem dX10_set_26 : decode cX10_set 26 = .ok (.aload_n 0, 1) := by decide +kernel
theorem dX10_set_27 : decode cX10_set 27 = .ok (.getfield 13, 3) := by decide +kernel
theorem dX10_set_30 : decode cX10_set 30 = .ok (.iload_n 1, 1) := by decide +kernel
theorem dX10_set_31 : decode cX10_set 31 = .ok (.iaload, 1) := by decide +kernel
theorem dX10_set_32 : decode cX10_set 32 = .ok (.iconst 1, 1) := by decide +kernel
theorem dX10_set_33 : decode cX10_set 33 = .ok (.isub, 1) := by decide +kernel
theorem dX10_set_34 : decode cX10_set 34 = .ok (.invokestatic 62, 3) := by decide +kernel
theorem dX10_set_37 : decode cX10_set 37 = .ok (.ifCond .ne 9, 3) := by decide +kernel
theorem dX10_set_40 : decode cX10_set 40 = .ok (.aload_n 0, 1) := by decide +kernel
theorem dX10_set_41 : decode cX10_set 41 = .ok (.iconst 2, 1) := by decide +kernel
theorem dX10_set_42 : decode cX10_set 42 = .ok (.invokevirtual 71, 3) := by decide +kernel
theorem dX10_set_45 : decode cX10_set 45 = .ok (.ireturn, 1) := by decide +kernel
theorem dX10_set_46 : decode cX10_set 46 = .ok (.aload_n 0, 1) := by decide +kernel
theorem dX10_set_47 : decode cX10_set 47 = .ok (.getfield 16, 3) := by decide +kernel
theorem dX10_set_50 : decode cX10_set 50 = .ok (.bipush 40, 2) := by decide +kernel
theorem dX10_set_52 : decode cX10_set 52 = .ok (.iload_n 1, 1) := by decide +kernel
theorem dX10_set_53 : decode cX10_set 53 = .ok (.imul, 1) := by decide +kernel
theorem dX10_set_54 : decode cX10_set 54 = .ok (.iload_n 2, 1) := by decide +kernel
theorem dX10_set_55 : decode cX10_set 55 = .ok (.iadd, 1) := by decide +kernel
theorem dX10_set_56 : decode cX10_set 56 = .ok (.aload_n 0, 1) := by decide +kernel
theorem dX10_set_57 : decode cX10_set 57 = .ok (.getfield 7, 3) := by decide +kernel
theorem dX10_set_60 : decode cX10_set 60 = .ok (.iload_n 1, 1) := by decide +kernel
theorem dX10_set_61 : decode cX10_set 61 = .ok (.iaload, 1) := by decide +kernel
theorem dX10_set_62 : decode cX10_set 62 = .ok (.iload_n 3, 1) := by decide +kernel
theorem dX10_set_63 : decode cX10_set 63 = .ok (.invokestatic 81, 3) := by decide +kernel
theorem dX10_set_66 : decode cX10_set 66 = .ok (.iastore, 1) := by decide +kernel
theorem dX10_set_67 : decode cX10_set 67 = .ok (.aload_n 0, 1) := by decide +kernel
theorem dX10_set_68 : decode cX10_set 68 = .ok (.aload_n 0, 1) := by decide +kernel
theorem dX10_set_69 : decode cX10_set 69 = .ok (.getfield 16, 3) := by decide +kernel
theorem dX10_set_72 : decode cX10_set 72 = .ok (.bipush 40, 2) := by decide +kernel
theorem dX10_set_74 : decode cX10_set 74 = .ok (.iload_n 1, 1) := by decide +kernel
theorem dX10_set_75 : decode cX10_set 75 = .ok (.imul, 1) := by decide +kernel
theorem dX10_set_76 : decode cX10_set 76 = .ok (.iload_n 2, 1) := by decide +kernel
theorem dX10_set_77 : decode cX10_set 77 = .ok (.iadd, 1) := by decide +kernel
theorem dX10_set_78 : decode cX10_set 78 = .ok (.iaload, 1) := by decide +kernel
theorem dX10_set_79 : decode cX10_set 79 = .ok (.invokevirtual 75, 3) := by decide +kernel
theorem dX10_set_82 : decode cX10_set 82 = .ok (.ireturn, 1) := by decide +kernel
theorem dX10_isPart_0 : decode cX10_isPart 0 = .ok (.iload_n 2, 1) := by decide +kernel
theorem dX10_isPart_1 : decode cX10_isPart 1 = .ok (.ifCond .lt 33, 3) := by decide +kernel
theorem dX10_isPart_4 : decode cX10_isPart 4 = .ok (.iload_n 3, 1) := by decide +kernel
theorem dX10_isPart_5 : decode cX10_isPart 5 = .ok (.ifCond .lt 29, 3) := by decide +kernel
theorem dX10_isPart_8 : decode cX10_isPart 8 = .ok (.iload_n 2, 1) := by decide +kernel
theorem dX10_isPart_9 : decode cX10_isPart 9 = .ok (.aload_n 0, 1) := by decide +kernel
theorem dX10_isPart_10 : decode cX10_isPart 10 = .ok (.getfield 13, 3) := by decide +kernel
theorem dX10_isPart_13 : decode cX10_isPart 13 = .ok (.iload_n 1, 1) := by decide +kernel
theorem dX10_isPart_14 : decode cX10_isPart 14 = .ok (.iaload, 1) := by decide +kernel
theorem dX10_isPart_15 : decode cX10_isPart 15 = .ok (.if_icmp .gt 19, 3) := by decide +kernel
theorem dX10_isPart_18 : decode cX10_isPart 18 = .ok (.iload_n 3, 1) := by decide +kernel
theorem dX10_isPart_19 : decode cX10_isPart 19 = .ok (.aload_n 0, 1) := by decide +kernel
theorem dX10_isPart_20 : decode cX10_isPart 20 = .ok (.getfield 13, 3) := by decide +kernel
theorem dX10_isPart_23 : decode cX10_isPart 23 = .ok (.iload_n 1, 1) := by decide +kernel
theorem dX10_isPart_24 : decode cX10_isPart 24 = .ok (.iaload, 1) := by decide +kernel
theorem dX10_isPart_25 : decode cX10_isPart 25 = .ok (.iload_n 2, 1) := by decide +kernel
theorem dX10_isPart_26 : decode cX10_isPart 26 = .ok (.isub, 1) := by decide +kernel
theorem dX10_isPart_27 : decode cX10_isPart 27 = .ok (.if_icmp .gt 7, 3) := by decide +kernel
theorem dX10_isPart_30 : decode cX10_isPart 30 = .ok (.iconst 1, 1) := by decide +kernel
theorem dX10_isPart_31 : decode cX10_isPart 31 = .ok (.goto 4, 3) := by decide +kernel
theorem dX10_isPart_34 : decode cX10_isPart 34 = .ok (.iconst 0, 1) := by decide +kernel
theorem dX10_isPart_35 : decode cX10_isPart 35 = .ok (.ireturn, 1) := by decide +kernel
theorem dX10_copy_0 : decode cX10_copy 0 = .ok (.iload_n 1, 1) := by decide +kernel
theorem dX10_copy_1 : decode cX10_copy 1 = .ok (.invokestatic 66, 3) := by decide +kernel
theorem dX10_copy_4 : decode cX10_copy 4 = .ok (.ifCond .eq 10, 3) := by decide +kernel
theorem dX10_copy_7 : decode cX10_copy 7 = .ok (.iload_n 3, 1) := by decide +kernel
theorem dX10_copy_8 : decode cX10_copy 8 = .ok (.invokestatic 66, 3) := by decide +kernel
theorem dX10_copy_11 : decode cX10_copy 11 = .ok (.ifCond .ne 6, 3) := by decide +kernel
theorem dX10_copy_14 : decode cX10_copy 14 = .ok (.ldc 70, 2) := by decide +kernel
theorem dX10_copy_16 : decode cX10_copy 16 = .ok (.ireturn, 1) := by decide +kernel
theorem dX10_copy_17 : decode cX10_copy 17 = .ok (.aload_n 0, 1) := by decide +kernel
theorem dX10_copy_18 : decode cX10_copy 18 = .ok (.iload_n 1, 1) := by decide +kernel
theorem dX10_copy_19 : decode cX10_copy 19 = .ok (.invokevirtual 78, 3) := by decide +kernel
theorem dX10_copy_22 : decode cX10_copy 22 = .ok (.ifCond .ne 11, 3) := by decide +kernel
theorem dX10_copy_25 : decode cX10_copy 25 = .ok (.aload_n 0, 1) := by decide +kernel
theorem dX10_copy_26 : decode cX10_copy 26 = .ok (.iload_n 3, 1) := by decide +kernel
theorem dX10_copy_27 : decode cX10_copy 27 = .ok (.invokevirtual 78, 3) := by decide +kernel
theorem dX10_copy_30 : decode cX10_copy 30 = .ok (.ifCond .eq 9, 3) := by decide +kernel
theorem dX10_copy_33 : decode cX10_copy 33 = .ok (.aload_n 0, 1) := by decide +kernel
theorem dX10_copy_34 : decode cX10_copy 34 = .ok (.iconst 1, 1) := by decide +kernel
theorem dX10_copy_35 : decode cX10_copy 35 = .ok (.invokevirtual 71, 3) := by decide +kernel
theorem dX10_copy_38 : decode cX10_copy 38 = .ok (.ireturn, 1) := by decide +kernel
theorem dX10_copy_39 : decode cX10_copy 39 = .ok (.aload_n 0, 1) := by decide +kernel
theorem dX10_copy_40 : decode cX10_copy 40 = .ok (.getfield 7, 3) := by decide +kernel
theorem dX10_copy_43 : decode cX10_copy 43 = .ok (.iload_n 1, 1) := by decide +kernel
theorem dX10_copy_44 : decode cX10_copy 44 = .ok (.iaload, 1) := by decide +kernel
theorem dX10_copy_45 : decode cX10_copy 45 = .ok (.aload_n 0, 1) := by decide +kernel
theorem dX10_copy_46 : decode cX10_copy 46 = .ok (.getfield 7, 3) := by decide +kernel
theorem dX10_copy_49 : decode cX10_copy 49 = .ok (.iload_n 3, 1) := by decide +kernel
theorem dX10_copy_50 : decode cX10_copy 50 = .ok (.iaload, 1) := by decide +kernel
theorem dX10_copy_51 : decode cX10_copy 51 = .ok (.if_icmp .eq 9, 3) := by decide +kernel
theorem dX10_copy_54 : decode cX10_copy 54 = .ok (.aload_n 0, 1) := by decide +kernel
theorem dX10_copy_55 : decode cX10_copy 55 = .ok (.iconst 5, 1) := by decide +kernel
theorem dX10_copy_56 : decode cX10_copy 56 = .ok (.invokevirtual 71, 3) := by decide +kernel
theorem dX10_copy_59 : decode cX10_copy 59 = .ok (.ireturn, 1) := by decide +kernel
theorem dX10_copy_60 : decode cX10_copy 60 = .ok (.aload_n 0, 1) := by decide +kernel
theorem dX10_copy_61 : decode cX10_copy 61 = .ok (.iload_n 1, 1) := by decide +kernel
theorem dX10_copy_62 : decode cX10_copy 62 = .ok (.iload_n 2, 1) := by decide +kernel
theorem dX10_copy_63 : decode cX10_copy 63 = .ok (.iload 5, 2) := by decide +kernel
theorem dX10_copy_65 : decode cX10_copy 65 = .ok (.invokevirtual 85, 3) := by decide +kernel
theorem dX10_copy_68 : decode cX10_copy 68 = .ok (.ifCond .eq 15, 3) := by decide +kernel
theorem dX10_copy_71 : decode cX10_copy 71 = .ok (.aload_n 0, 1) := by decide +kernel
theorem dX10_copy_72 : decode cX10_copy 72 = .ok (.iload_n 3, 1) := by decide +kernel
theorem dX10_copy_73 : decode cX10_copy 73 = .ok (.iload 4, 2) := by decide +kernel
theorem dX10_copy_75 : decode cX10_copy 75 = .ok (.iload 5, 2) := by decide +kernel
theorem dX10_copy_77 : decode cX10_copy 77 = .ok (.invokevirtual 85, 3) := by decide +kernel
theorem dX10_copy_80 : decode cX10_copy 80 = .ok (.ifCond .ne 9, 3) := by decide +kernel
theorem dX10_copy_83 : decode cX10_copy 83 = .ok (.aload_n 0, 1) := by decide +kernel
theorem dX10_copy_84 : decode cX10_copy 84 = .ok (.iconst 2, 1) := by decide +kernel
theorem dX10_copy_85 : decode cX10_copy 85 = .ok (.invokevirtual 71, 3) := by decide +kernel
theorem dX10_copy_88 : decode cX10_copy 88 = .ok (.ireturn, 1) := by decide +kernel
theorem dX10_copy_89 : decode cX10_copy 89 = .ok (.iconst 0, 1) := by decide +kernel
theorem dX10_copy_90 : decode cX10_copy 90 = .ok (.istore 6, 2) := by decide +kernel
theorem dX10_copy_92 : decode cX10_copy 92 = .ok (.iload 6, 2) := by decide +kernel
theorem dX10_copy_94 : decode cX10_copy 94 = .ok (.iload 5, 2) := by decide +kernel
theorem dX10_copy_96 : decode cX10_copy 96 = .ok (.if_icmp .ge 30, 3) := by decide +kernel
theorem dX10_copy_99 : decode cX10_copy 99 = .ok (.aload_n 0, 1) := by decide +kernel
theorem dX10_copy_100 : decode cX10_copy 100 = .ok (.getfield 19, 3) := by decide +kernel
theorem dX10_copy_103 : decode cX10_copy 103 = .ok (.iload 6, 2) := by decide +kernel
theorem dX10_copy_105 : decode cX10_copy 105 = .ok (.aload_n 0, 1) := by decide +kernel
theorem dX10_copy_106 : decode cX10_copy 106 = .ok (.getfield 16, 3) := by decide +kernel
theorem dX10_copy_109 : decode cX10_copy 109 = .ok (.bipush 40, 2) := by decide +kernel
theorem dX10_copy_111 : decode cX10_copy 111 = .ok (.iload_n 1, 1) := by decide +kernel
theorem dX10_copy_112 : decode cX10_copy 112 = .ok (.imul, 1) := by decide +kernel
theorem dX10_copy_113 : decode cX10_copy 113 = .ok (.iload_n 2, 1) := by decide +kernel
theorem dX10_copy_114 : decode cX10_copy 114 = .ok (.iadd, 1) := by decide +kernel
theorem dX10_copy_115 : decode cX10_copy 115 = .ok (.iload 6, 2) := by decide +kernel
theorem dX10_copy_117 : decode cX10_copy 117 = .ok (.iadd, 1) := by decide +kernel
theorem dX10_copy_118 : decode cX10_copy 118 = .ok (.iaload, 1) := by decide +kernel
theorem dX10_copy_119 : decode cX10_copy 119 = .ok (.iastore, 1) := by decide +kernel
theorem dX10_copy_120 : decode cX10_copy 120 = .ok (.iinc 6 1, 3) := by decide +kernel
theorem dX10_copy_123 : decode cX10_copy 123 = .ok (.goto (-31), 3) := by decide +kernel
theorem dX10_copy_126 : decode cX10_copy 126 = .ok (.iconst 0, 1) := by decide +kernel
theorem dX10_copy_127 : decode cX10_copy 127 = .ok (.istore 6, 2) := by decide +kernel
theorem dX10_copy_129 : decode cX10_copy 129 = .ok (.iload 6, 2) := by decide +kernel
theorem dX10_copy_131 : decode cX10_copy 131 = .ok (.iload 5, 2) := by decide +kernel
theorem dX10_copy_133 : decode cX10_copy 133 = .ok (.if_icmp .ge 31, 3) := by decide +kernel
theorem dX10_copy_136 : decode cX10_copy 136 = .ok (.aload_n 0, 1) := by decide +kernel
theorem dX10_copy_137 : decode cX10_copy 137 = .ok (.getfield 16, 3) := by decide +kernel
theorem dX10_copy_140 : decode cX10_copy 140 = .ok (.bipush 40, 2) := by decide +kernel
theorem dX10_copy_142 : decode cX10_copy 142 = .ok (.iload_n 3, 1) := by decide +kernel
theorem dX10_copy_143 : decode cX10_copy 143 = .ok (.imul, 1) := by decide +kernel
theorem dX10_copy_144 : decode cX10_copy 144 = .ok (.iload 4, 2) := by decide +kernel
theorem dX10_copy_146 : decode cX10_copy 146 = .ok (.iadd, 1) := by decide +kernel
theorem dX10_copy_147 : decode cX10_copy 147 = .ok (.iload 6, 2) := by decide +kernel
theorem dX10_copy_149 : decode cX10_copy 149 = .ok (.iadd, 1) := by decide +kernel
theorem dX10_copy_150 : decode cX10_copy 150 = .ok (.aload_n 0, 1) := by decide +kernel
theorem dX10_copy_151 : decode cX10_copy 151 = .ok (.getfield 19, 3) := by decide +kernel
theorem dX10_copy_154 : decode cX10_copy 154 = .ok (.iload 6, 2) := by decide +kernel
theorem dX10_copy_156 : decode cX10_copy 156 = .ok (.iaload, 1) := by decide +kernel
theorem dX10_copy_157 : decode cX10_copy 157 = .ok (.iastore, 1) := by decide +kernel
theorem dX10_copy_158 : decode cX10_copy 158 = .ok (.iinc 6 1, 3) := by decide +kernel
theorem dX10_copy_161 : decode cX10_copy 161 = .ok (.goto (-32), 3) := by decide +kernel
theorem dX10_copy_164 : decode cX10_copy 164 = .ok (.aload_n 0, 1) := by decide +kernel
theorem dX10_copy_165 : decode cX10_copy 165 = .ok (.iload 5, 2) := by decide +kernel
theorem dX10_copy_167 : decode cX10_copy 167 = .ok (.invokevirtual 75, 3) := by decide +kernel
theorem dX10_copy_170 : decode cX10_copy 170 = .ok (.ireturn, 1) := by decide +kernel
theorem dX10_drop_0 : decode cX10_drop 0 = .ok (.iload_n 1, 1) := by decide +kernel
theorem dX10_drop_1 : decode cX10_drop 1 = .ok (.invokestatic 66, 3) := by decide +kernel
theorem dX10_drop_4 : decode cX10_drop 4 = .ok (.ifCond .ne 6, 3) := by decide +kernel
theorem dX10_drop_7 : decode cX10_drop 7 = .ok (.ldc 70, 2) := by decide +kernel
theorem dX10_drop_9 : decode cX10_drop 9 = .ok (.ireturn, 1) := by decide +kernel
theorem dX10_drop_10 : decode cX10_drop 10 = .ok (.aload_n 0, 1) := by decide +kernel
theorem dX10_drop_11 : decode cX10_drop 11 = .ok (.iload_n 1, 1) := by decide +kernel
theorem dX10_drop_12 : decode cX10_drop 12 = .ok (.invokevirtual 78, 3) := by decide +kernel
theorem dX10_drop_15 : decode cX10_drop 15 = .ok (.ifCond .eq 9, 3) := by decide +kernel
theorem dX10_drop_18 : decode cX10_drop 18 = .ok (.aload_n 0, 1) := by decide +kernel
theorem dX10_drop_19 : decode cX10_drop 19 = .ok (.iconst 1, 1) := by decide +kernel
theorem dX10_drop_20 : decode cX10_drop 20 = .ok (.invokevirtual 71, 3) := by decide +kernel
theorem dX10_drop_23 : decode cX10_drop 23 = .ok (.ireturn, 1) := by decide +kernel
theorem dX10_drop_24 : decode cX10_drop 24 = .ok (.aload_n 0, 1) := by decide +kernel
theorem dX10_drop_25 : decode cX10_drop 25 = .ok (.getfield 7, 3) := by decide +kernel
theorem dX10_drop_28 : decode cX10_drop 28 = .ok (.iload_n 1, 1) := by decide +kernel
theorem dX10_drop_29 : decode cX10_drop 29 = .ok (.ldc 56, 2) := by decide +kernel
theorem dX10_drop_31 : decode cX10_drop 31 = .ok (.iastore, 1) := by decide +kernel
theorem dX10_drop_32 : decode cX10_drop 32 = .ok (.aload_n 0, 1) := by decide +kernel
theorem dX10_drop_33 : decode cX10_drop 33 = .ok (.aload_n 0, 1) := by decide +kernel
theorem dX10_drop_34 : decode cX10_drop 34 = .ok (.getfield 13, 3) := by decide +kernel
theorem dX10_drop_37 : decode cX10_drop 37 = .ok (.iload_n 1, 1) := by decide +kernel
theorem dX10_drop_38 : decode cX10_drop 38 = .ok (.iaload, 1) := by decide +kernel
theorem dX10_drop_39 : decode cX10_drop 39 = .ok (.invokevirtual 75, 3) := by decide +kernel
theorem dX10_drop_42 : decode cX10_drop 42 = .ok (.ireturn, 1) := by decide +kernel
theorem dX10_feed_0 : decode cX10_feed 0 = .ok (.iload_n 1, 1) := by decide +kernel
theorem dX10_feed_1 : decode cX10_feed 1 = .ok (.iconst 0, 1) := by decide +kernel
theorem dX10_feed_2 : decode cX10_feed 2 = .ok (.sipush 255, 3) := by decide +kernel
theorem dX10_feed_5 : decode cX10_feed 5 = .ok (.invokestatic 62, 3) := by decide +kernel
theorem dX10_feed_8 : decode cX10_feed 8 = .ok (.ifCond .ne 6, 3) := by decide +kernel
theorem dX10_feed_11 : decode cX10_feed 11 = .ok (.ldc 70, 2) := by decide +kernel
theorem dX10_feed_13 : decode cX10_feed 13 = .ok (.ireturn, 1) := by decide +kernel
theorem dX10_feed_14 : decode cX10_feed 14 = .ok (.aload_n 0, 1) := by decide +kernel
theorem dX10_feed_15 : decode cX10_feed 15 = .ok (.getfield 88, 3) := by decide +kernel
theorem dX10_feed_18 : decode cX10_feed 18 = .ok (.bipush 80, 2) := by decide +kernel
theorem dX10_feed_20 : decode cX10_feed 20 = .ok (.if_icmp .ne 6, 3) := by decide +kernel
theorem dX10_feed_23 : decode cX10_feed 23 = .ok (.ldc 91, 2) := by decide +kernel
theorem dX10_feed_25 : decode cX10_feed 25 = .ok (.ireturn, 1) := by decide +kernel
theorem dX10_feed_26 : decode cX10_feed 26 = .ok (.aload_n 0, 1) := by decide +kernel
theorem dX10_feed_27 : decode cX10_feed 27 = .ok (.getfield 22, 3) := by decide +kernel
theorem dX10_feed_30 : decode cX10_feed 30 = .ok (.aload_n 0, 1) := by decide +kernel
theorem dX10_feed_31 : decode cX10_feed 31 = .ok (.getfield 88, 3) := by decide +kernel
theorem dX10_feed_34 : decode cX10_feed 34 = .ok (.iload_n 1, 1) := by decide +kernel
theorem dX10_feed_35 : decode cX10_feed 35 = .ok (.iastore, 1) := by decide +kernel
theorem dX10_feed_36 : decode cX10_feed 36 = .ok (.aload_n 0, 1) := by decide +kernel
theorem dX10_feed_37 : decode cX10_feed 37 = .ok (.dup, 1) := by decide +kernel
theorem dX10_feed_38 : decode cX10_feed 38 = .ok (.getfield 88, 3) := by decide +kernel
theorem dX10_feed_41 : decode cX10_feed 41 = .ok (.iconst 1, 1) := by decide +kernel
theorem dX10_feed_42 : decode cX10_feed 42 = .ok (.iadd, 1) := by decide +kernel
theorem dX10_feed_43 : decode cX10_feed 43 = .ok (.putfield 88, 3) := by decide +kernel
theorem dX10_feed_46 : decode cX10_feed 46 = .ok (.aload_n 0, 1) := by decide +kernel
theorem dX10_feed_47 : decode cX10_feed 47 = .ok (.getfield 88, 3) := by decide +kernel
theorem dX10_feed_50 : decode cX10_feed 50 = .ok (.ireturn, 1) := by decide +kernel
theorem dX10_byteAt_0 : decode cX10_byteAt 0 = .ok (.iload_n 1, 1) := by decide +kernel
theorem dX10_byteAt_1 : decode cX10_byteAt 1 = .ok (.aload_n 0, 1) := by decide +kernel
theorem dX10_byteAt_2 : decode cX10_byteAt 2 = .ok (.getfield 88, 3) := by decide +kernel
theorem dX10_byteAt_5 : decode cX10_byteAt 5 = .ok (.if_icmp .ge 12, 3) := by decide +kernel
theorem dX10_byteAt_8 : decode cX10_byteAt 8 = .ok (.aload_n 0, 1) := by decide +kernel
theorem dX10_byteAt_9 : decode cX10_byteAt 9 = .ok (.getfield 22, 3) := by decide +kernel
theorem dX10_byteAt_12 : decode cX10_byteAt 12 = .ok (.iload_n 1, 1) := by decide +kernel
theorem dX10_byteAt_13 : decode cX10_byteAt 13 = .ok (.iaload, 1) := by decide +kernel
theorem dX10_byteAt_14 : decode cX10_byteAt 14 = .ok (.goto 4, 3) := by decide +kernel
theorem dX10_byteAt_17 : decode cX10_byteAt 17 = .ok (.iconst (-1), 1) := by decide +kernel
theorem dX10_byteAt_18 : decode cX10_byteAt 18 = .ok (.ireturn, 1) := by decide +kernel
theorem dX10_advances_0 : decode cX10_advances 0 = .ok (.aload_n 0, 1) := by decide +kernel
theorem dX10_advances_1 : decode cX10_advances 1 = .ok (.aload_n 0, 1) := by decide +kernel
theorem dX10_advances_2 : decode cX10_advances 2 = .ok (.getfield 92, 3) := by decide +kernel
theorem dX10_advances_5 : decode cX10_advances 5 = .ok (.putfield 95, 3) := by decide +kernel
theorem dX10_advances_8 : decode cX10_advances 8 = .ok (.aload_n 0, 1) := by decide +kernel
theorem dX10_advances_9 : decode cX10_advances 9 = .ok (.aload_n 0, 1) := by decide +kernel
theorem dX10_advances_10 : decode cX10_advances 10 = .ok (.getfield 92, 3) := by decide +kernel
theorem dX10_advances_13 : decode cX10_advances 13 = .ok (.invokevirtual 98, 3) := by decide +kernel
theorem dX10_advances_16 : decode cX10_advances 16 = .ok (.istore_n 1, 1) := by decide +kernel
theorem dX10_advances_17 : decode cX10_advances 17 = .ok (.aload_n 0, 1) := by decide +kernel
theorem dX10_advances_18 : decode cX10_advances 18 = .ok (.iload_n 1, 1) := by decide +kernel
theorem dX10_advances_19 : decode cX10_advances 19 = .ok (.putfield 101, 3) := by decide +kernel
theorem dX10_advances_22 : decode cX10_advances 22 = .ok (.iload_n 1, 1) := by decide +kernel
theorem dX10_advances_23 : decode cX10_advances 23 = .ok (.bipush 48, 2) := by decide +kernel
theorem dX10_advances_25 : decode cX10_advances 25 = .ok (.bipush 57, 2) := by decide +kernel
theorem dX10_advances_27 : decode cX10_advances 27 = .ok (.invokestatic 62, 3) := by decide +kernel
theorem dX10_advances_30 : decode cX10_advances 30 = .ok (.ifCond .eq 105, 3) := by decide +kernel
theorem dX10_advances_33 : decode cX10_advances 33 = .ok (.aload_n 0, 1) := by decide +kernel
theorem dX10_advances_34 : decode cX10_advances 34 = .ok (.iconst 0, 1) := by decide +kernel
theorem dX10_advances_35 : decode cX10_advances 35 = .ok (.putfield 101, 3) := by decide +kernel
theorem dX10_advances_38 : decode cX10_advances 38 = .ok (.aload_n 0, 1) := by decide +kernel
theorem dX10_advances_39 : decode cX10_advances 39 = .ok (.aload_n 0, 1) := by decide +kernel
theorem dX10_advances_40 : decode cX10_advances 40 = .ok (.getfield 92, 3) := by decide +kernel
theorem dX10_advances_43 : decode cX10_advances 43 = .ok (.invokevirtual 98, 3) := by decide +kernel
theorem dX10_advances_46 : decode cX10_advances 46 = .ok (.bipush 48, 2) := by decide +kernel
theorem dX10_advances_48 : decode cX10_advances 48 = .ok (.bipush 57, 2) := by decide +kernel
theorem dX10_advances_50 : decode cX10_advances 50 = .ok (.invokestatic 62, 3) := by decide +kernel
theorem dX10_advances_53 : decode cX10_advances 53 = .ok (.ifCond .eq 59, 3) := by decide +kernel
theorem dX10_advances_56 : decode cX10_advances 56 = .ok (.aload_n 0, 1) := by decide +kernel
theorem dX10_advances_57 : decode cX10_advances 57 = .ok (.aload_n 0, 1) := by decide +kernel
theorem dX10_advances_58 : decode cX10_advances 58 = .ok (.getfield 92, 3) := by decide +kernel
theorem dX10_advances_61 : decode cX10_advances 61 = .ok (.aload_n 0, 1) := by decide +kernel
theorem dX10_advances_62 : decode cX10_advances 62 = .ok (.getfield 95, 3) := by decide +kernel
theorem dX10_advances_65 : decode cX10_advances 65 = .ok (.isub, 1) := by decide +kernel
theorem dX10_advances_66 : decode cX10_advances 66 = .ok (.iconst 2, 1) := by decide +kernel
theorem dX10_advances_67 : decode cX10_advances 67 = .ok (.if_icmp .ge 25, 3) := by decide +kernel
theorem dX10_advances_70 : decode cX10_advances 70 = .ok (.bipush 10, 2) := by decide +kernel
theorem dX10_advances_72 : decode cX10_advances 72 = .ok (.aload_n 0, 1) := by decide +kernel
theorem dX10_advances_73 : decode cX10_advances 73 = .ok (.getfield 101, 3) := by decide +kernel
theorem dX10_advances_76 : decode cX10_advances 76 = .ok (.imul, 1) := by decide +kernel
theorem dX10_advances_77 : decode cX10_advances 77 = .ok (.aload_n 0, 1) := by decide +kernel
theorem dX10_advances_78 : decode cX10_advances 78 = .ok (.aload_n 0, 1) := by decide +kernel
theorem dX10_advances_79 : decode cX10_advances 79 = .ok (.getfield 92, 3) := by decide +kernel
theorem dX10_advances_82 : decode cX10_advances 82 = .ok (.invokevirtual 98, 3) := by decide +kernel
theorem dX10_advances_85 : decode cX10_advances 85 = .ok (.iadd, 1) := by decide +kernel
theorem dX10_advances_86 : decode cX10_advances 86 = .ok (.bipush 48, 2) := by decide +kernel
theorem dX10_advances_88 : decode cX10_advances 88 = .ok (.isub, 1) := by decide +kernel
theorem dX10_advances_89 : decode cX10_advances 89 = .ok (.goto 7, 3) := by decide +kernel
theorem dX10_advances_92 : decode cX10_advances 92 = .ok (.aload_n 0, 1) := by decide +kernel
theorem dX10_advances_93 : decode cX10_advances 93 = .ok (.getfield 101, 3) := by decide +kernel
theorem dX10_advances_96 : decode cX10_advances 96 = .ok (.putfield 101, 3) := by decide +kernel
theorem dX10_advances_99 : decode cX10_advances 99 = .ok (.aload_n 0, 1) := by decide +kernel
theorem dX10_advances_100 : decode cX10_advances 100 = .ok (.dup, 1) := by decide +kernel
theorem dX10_advances_101 : decode cX10_advances 101 = .ok (.getfield 92, 3) := by decide +kernel
theorem dX10_advances_104 : decode cX10_advances 104 = .ok (.iconst 1, 1) := by decide +kernel
theorem dX10_advances_105 : decode cX10_advances 105 = .ok (.iadd, 1) := by decide +kernel
theorem dX10_advances_106 : decode cX10_advances 106 = .ok (.putfield 92, 3) := by decide +kernel
theorem dX10_advances_109 : decode cX10_advances 109 = .ok (.goto (-71), 3) := by decide +kernel
theorem dX10_advances_112 : decode cX10_advances 112 = .ok (.aload_n 0, 1) := by decide +kernel
theorem dX10_advances_113 : decode cX10_advances 113 = .ok (.aload_n 0, 1) := by decide +kernel
theorem dX10_advances_114 : decode cX10_advances 114 = .ok (.getfield 92, 3) := by decide +kernel
theorem dX10_advances_117 : decode cX10_advances 117 = .ok (.aload_n 0, 1) := by decide +kernel
theorem dX10_advances_118 : decode cX10_advances 118 = .ok (.getfield 95, 3) := by decide +kernel
theorem dX10_advances_121 : decode cX10_advances 121 = .ok (.isub, 1) := by decide +kernel
theorem dX10_advances_122 : decode cX10_advances 122 = .ok (.iconst 3, 1) := by decide +kernel
theorem dX10_advances_123 : decode cX10_advances 123 = .ok (.if_icmp .ge 7, 3) := by decide +kernel
theorem dX10_advances_126 : decode cX10_advances 126 = .ok (.iconst 2, 1) := by decide +kernel
theorem dX10_advances_127 : decode cX10_advances 127 = .ok (.goto 4, 3) := by decide +kernel
theorem dX10_advances_130 : decode cX10_advances 130 = .ok (.iconst 5, 1) := by decide +kernel
theorem dX10_advances_131 : decode cX10_advances 131 = .ok (.putfield 104, 3) := by decide +kernel
theorem dX10_advances_134 : decode cX10_advances 134 = .ok (.return_, 1) := by decide +kernel
theorem dX10_advances_135 : decode cX10_advances 135 = .ok (.aload_n 0, 1) := by decide +kernel
theorem dX10_advances_136 : decode cX10_advances 136 = .ok (.iload_n 1, 1) := by decide +kernel
theorem dX10_advances_137 : decode cX10_advances 137 = .ok (.ifCond .ge 7, 3) := by decide +kernel
theorem dX10_advances_140 : decode cX10_advances 140 = .ok (.iconst 0, 1) := by decide +kernel
theorem dX10_advances_141 : decode cX10_advances 141 = .ok (.goto 39, 3) := by decide +kernel
theorem dX10_advances_144 : decode cX10_advances 144 = .ok (.iload_n 1, 1) := by decide +kernel
theorem dX10_advances_145 : decode cX10_advances 145 = .ok (.bipush 97, 2) := by decide +kernel
theorem dX10_advances_147 : decode cX10_advances 147 = .ok (.bipush 122, 2) := by decide +kernel
theorem dX10_advances_149 : decode cX10_advances 149 = .ok (.invokestatic 62, 3) := by decide +kernel
theorem dX10_advances_152 : decode cX10_advances 152 = .ok (.ifCond .eq 7, 3) := by decide +kernel
theorem dX10_advances_155 : decode cX10_advances 155 = .ok (.iconst 1, 1) := by decide +kernel
theorem dX10_advances_156 : decode cX10_advances 156 = .ok (.goto 24, 3) := by decide +kernel
theorem dX10_advances_159 : decode cX10_advances 159 = .ok (.iload_n 1, 1) := by decide +kernel
theorem dX10_advances_160 : decode cX10_advances 160 = .ok (.bipush 44, 2) := by decide +kernel
theorem dX10_advances_162 : decode cX10_advances 162 = .ok (.if_icmp .ne 7, 3) := by decide +kernel
theorem dX10_advances_165 : decode cX10_advances 165 = .ok (.iconst 3, 1) := by decide +kernel
theorem dX10_advances_166 : decode cX10_advances 166 = .ok (.goto 14, 3) := by decide +kernel
theorem dX10_advances_169 : decode cX10_advances 169 = .ok (.iload_n 1, 1) := by decide +kernel
theorem dX10_advances_170 : decode cX10_advances 170 = .ok (.bipush 59, 2) := by decide +kernel
theorem dX10_advances_172 : decode cX10_advances 172 = .ok (.if_icmp .ne 7, 3) := by decide +kernel
theorem dX10_advances_175 : decode cX10_advances 175 = .ok (.iconst 4, 1) := by decide +kernel
theorem dX10_advances_176 : decode cX10_advances 176 = .ok (.goto 4, 3) := by decide +kernel
theorem dX10_advances_179 : decode cX10_advances 179 = .ok (.iconst 5, 1) := by decide +kernel
theorem dX10_advances_180 : decode cX10_advances 180 = .ok (.putfield 104, 3) := by decide +kernel
theorem dX10_advances_183 : decode cX10_advances 183 = .ok (.aload_n 0, 1) := by decide +kernel
theorem dX10_advances_184 : decode cX10_advances 184 = .ok (.dup, 1) := by decide +kernel
theorem dX10_advances_185 : decode cX10_advances 185 = .ok (.getfield 92, 3) := by decide +kernel
theorem dX10_advances_188 : decode cX10_advances 188 = .ok (.aload_n 0, 1) := by decide +kernel
theorem dX10_advances_189 : decode cX10_advances 189 = .ok (.getfield 104, 3) := by decide +kernel
theorem dX10_advances_192 : decode cX10_advances 192 = .ok (.ifCond .ne 7, 3) := by decide +kernel
theorem dX10_advances_195 : decode cX10_advances 195 = .ok (.iconst 0, 1) := by decide +kernel
theorem dX10_advances_196 : decode cX10_advances 196 = .ok (.goto 4, 3) := by decide +kernel
theorem dX10_advances_199 : decode cX10_advances 199 = .ok (.iconst 1, 1) := by decide +kernel
theorem dX10_advances_200 : decode cX10_advances 200 = .ok (.iadd, 1) := by decide +kernel
theorem dX10_advances_201 : decode cX10_advances 201 = .ok (.putfield 92, 3) := by decide +kernel
theorem dX10_advances_204 : decode cX10_advances 204 = .ok (.return_, 1) := by decide +kernel
theorem dX10_isWell_0 : decode cX10_isWell 0 = .ok (.aload_n 0, 1) := by decide +kernel
theorem dX10_isWell_1 : decode cX10_isWell 1 = .ok (.getfield 107, 3) := by decide +kernel
theorem dX10_isWell_4 : decode cX10_isWell 4 = .ok (.ifCond .ge 7, 3) := by decide +kernel
theorem dX10_isWell_7 : decode cX10_isWell 7 = .ok (.iconst 1, 1) := by decide +kernel
theorem dX10_isWell_8 : decode cX10_isWell 8 = .ok (.goto 4, 3) := by decide +kernel
theorem dX10_isWell_11 : decode cX10_isWell 11 = .ok (.iconst 0, 1) := by decide +kernel
theorem dX10_isWell_12 : decode cX10_isWell 12 = .ok (.ireturn, 1) := by decide +kernel
theorem dX10_takes_0 : decode cX10_takes 0 = .ok (.aload_n 0, 1) := by decide +kernel
theorem dX10_takes_1 : decode cX10_takes 1 = .ok (.invokevirtual 110, 3) := by decide +kernel
theorem dX10_takes_4 : decode cX10_takes 4 = .ok (.ifCond .ne 5, 3) := by decide +kernel
theorem dX10_takes_7 : decode cX10_takes 7 = .ok (.iconst 0, 1) := by decide +kernel
theorem dX10_takes_8 : decode cX10_takes 8 = .ok (.ireturn, 1) := by decide +kernel
theorem dX10_takes_9 : decode cX10_takes 9 = .ok (.iload_n 1, 1) := by decide +kernel
theorem dX10_takes_10 : decode cX10_takes 10 = .ok (.ifCond .ne 18, 3) := by decide +kernel
theorem dX10_takes_13 : decode cX10_takes 13 = .ok (.aload_n 0, 1) := by decide +kernel
theorem dX10_takes_14 : decode cX10_takes 14 = .ok (.aload_n 0, 1) := by decide +kernel
theorem dX10_takes_15 : decode cX10_takes 15 = .ok (.getfield 95, 3) := by decide +kernel
theorem dX10_takes_18 : decode cX10_takes 18 = .ok (.putfield 107, 3) := by decide +kernel
theorem dX10_takes_21 : decode cX10_takes 21 = .ok (.aload_n 0, 1) := by decide +kernel
theorem dX10_takes_22 : decode cX10_takes 22 = .ok (.iload_n 2, 1) := by decide +kernel
theorem dX10_takes_23 : decode cX10_takes 23 = .ok (.putfield 114, 3) := by decide +kernel
theorem dX10_takes_26 : decode cX10_takes 26 = .ok (.iconst 0, 1) := by decide +kernel
theorem dX10_takes_27 : decode cX10_takes 27 = .ok (.ireturn, 1) := by decide +kernel
theorem dX10_takes_28 : decode cX10_takes 28 = .ok (.aload_n 0, 1) := by decide +kernel
theorem dX10_takes_29 : decode cX10_takes 29 = .ok (.getfield 101, 3) := by decide +kernel
theorem dX10_takes_32 : decode cX10_takes 32 = .ok (.istore_n 3, 1) := by decide +kernel
theorem dX10_takes_33 : decode cX10_takes 33 = .ok (.aload_n 0, 1) := by decide +kernel
theorem dX10_takes_34 : decode cX10_takes 34 = .ok (.invokevirtual 117, 3) := by decide +kernel
theorem dX10_takes_37 : decode cX10_takes 37 = .ok (.iload_n 3, 1) := by decide +kernel
theorem dX10_takes_38 : decode cX10_takes 38 = .ok (.ireturn, 1) := by decide +kernel
theorem dX10_figure_0 : decode cX10_figure 0 = .ok (.aload_n 0, 1) := by decide +kernel
theorem dX10_figure_1 : decode cX10_figure 1 = .ok (.invokevirtual 110, 3) := by decide +kernel
theorem dX10_figure_4 : decode cX10_figure 4 = .ok (.ifCond .eq 18, 3) := by decide +kernel
theorem dX10_figure_7 : decode cX10_figure 7 = .ok (.aload_n 0, 1) := by decide +kernel
theorem dX10_figure_8 : decode cX10_figure 8 = .ok (.getfield 104, 3) := by decide +kernel
theorem dX10_figure_11 : decode cX10_figure 11 = .ok (.iconst 2, 1) := by decide +kernel
theorem dX10_figure_12 : decode cX10_figure 12 = .ok (.if_icmp .eq 10, 3) := by decide +kernel
theorem dX10_figure_15 : decode cX10_figure 15 = .ok (.aload_n 0, 1) := by decide +kernel
theorem dX10_figure_16 : decode cX10_figure 16 = .ok (.iconst 0, 1) := by decide +kernel
theorem dX10_figure_17 : decode cX10_figure 17 = .ok (.iconst 1, 1) := by decide +kernel
theorem dX10_figure_18 : decode cX10_figure 18 = .ok (.invokevirtual 120, 3) := by decide +kernel
theorem dX10_figure_21 : decode cX10_figure 21 = .ok (.ireturn, 1) := by decide +kernel
theorem dX10_figure_22 : decode cX10_figure 22 = .ok (.aload_n 0, 1) := by decide +kernel
theorem dX10_figure_23 : decode cX10_figure 23 = .ok (.aload_n 0, 1) := by decide +kernel
theorem dX10_figure_24 : decode cX10_figure 24 = .ok (.getfield 101, 3) := by decide +kernel
theorem dX10_figure_27 : decode cX10_figure 27 = .ok (.iload_n 1, 1) := by decide +kernel
theorem dX10_figure_28 : decode cX10_figure 28 = .ok (.iload_n 2, 1) := by decide +kernel
theorem dX10_figure_29 : decode cX10_figure 29 = .ok (.invokestatic 62, 3) := by decide +kernel
theorem dX10_figure_32 : decode cX10_figure 32 = .ok (.iconst 2, 1) := by decide +kernel
theorem dX10_figure_33 : decode cX10_figure 33 = .ok (.invokevirtual 120, 3) := by decide +kernel
theorem dX10_figure_36 : decode cX10_figure 36 = .ok (.ireturn, 1) := by decide +kernel
theorem dX10_kindOf_0 : decode cX10_kindOf 0 = .ok (.iload_n 0, 1) := by decide +kernel
theorem dX10_kindOf_1 : decode cX10_kindOf 1 = .ok (.bipush 112, 2) := by decide +kernel
theorem dX10_kindOf_3 : decode cX10_kindOf 3 = .ok (.if_icmp .ne 7, 3) := by decide +kernel
theorem dX10_kindOf_6 : decode cX10_kindOf 6 = .ok (.iconst 1, 1) := by decide +kernel
theorem dX10_kindOf_7 : decode cX10_kindOf 7 = .ok (.goto 44, 3) := by decide +kernel
theorem dX10_kindOf_10 : decode cX10_kindOf 10 = .ok (.iload_n 0, 1) := by decide +kernel
theorem dX10_kindOf_11 : decode cX10_kindOf 11 = .ok (.bipush 115, 2) := by decide +kernel
theorem dX10_kindOf_13 : decode cX10_kindOf 13 = .ok (.if_icmp .ne 7, 3) := by decide +kernel
theorem dX10_kindOf_16 : decode cX10_kindOf 16 = .ok (.iconst 2, 1) := by decide +kernel
theorem dX10_kindOf_17 : decode cX10_kindOf 17 = .ok (.goto 34, 3) := by decide +kernel
theorem dX10_kindOf_20 : decode cX10_kindOf 20 = .ok (.iload_n 0, 1) := by decide +kernel
theorem dX10_kindOf_21 : decode cX10_kindOf 21 = .ok (.bipush 110, 2) := by decide +kernel
theorem dX10_kindOf_23 : decode cX10_kindOf 23 = .ok (.if_icmp .ne 7, 3) := by decide +kernel
theorem dX10_kindOf_26 : decode cX10_kindOf 26 = .ok (.iconst 3, 1) := by decide +kernel
theorem dX10_kindOf_27 : decode cX10_kindOf 27 = .ok (.goto 24, 3) := by decide +kernel
theorem dX10_kindOf_30 : decode cX10_kindOf 30 = .ok (.iload_n 0, 1) := by decide +kernel
theorem dX10_kindOf_31 : decode cX10_kindOf 31 = .ok (.bipush 103, 2) := by decide +kernel
theorem dX10_kindOf_33 : decode cX10_kindOf 33 = .ok (.if_icmp .ne 7, 3) := by decide +kernel
theorem dX10_kindOf_36 : decode cX10_kindOf 36 = .ok (.iconst 4, 1) := by decide +kernel
theorem dX10_kindOf_37 : decode cX10_kindOf 37 = .ok (.goto 14, 3) := by decide +kernel
theorem dX10_kindOf_40 : decode cX10_kindOf 40 = .ok (.iload_n 0, 1) := by decide +kernel
theorem dX10_kindOf_41 : decode cX10_kindOf 41 = .ok (.bipush 107, 2) := by decide +kernel
theorem dX10_kindOf_43 : decode cX10_kindOf 43 = .ok (.if_icmp .ne 7, 3) := by decide +kernel
theorem dX10_kindOf_46 : decode cX10_kindOf 46 = .ok (.iconst 5, 1) := by decide +kernel
theorem dX10_kindOf_47 : decode cX10_kindOf 47 = .ok (.goto 4, 3) := by decide +kernel
theorem dX10_kindOf_50 : decode cX10_kindOf 50 = .ok (.iconst 0, 1) := by decide +kernel
theorem dX10_kindOf_51 : decode cX10_kindOf 51 = .ok (.ireturn, 1) := by decide +kernel
theorem dX10_must_0 : decode cX10_must 0 = .ok (.aload_n 0, 1) := by decide +kernel
theorem dX10_must_1 : decode cX10_must 1 = .ok (.invokevirtual 110, 3) := by decide +kernel
theorem dX10_must_4 : decode cX10_must 4 = .ok (.ifCond .eq 14, 3) := by decide +kernel
theorem dX10_must_7 : decode cX10_must 7 = .ok (.iload_n 1, 1) := by decide +kernel
theorem dX10_must_8 : decode cX10_must 8 = .ok (.ifCond .ne 10, 3) := by decide +kernel
theorem dX10_must_11 : decode cX10_must 11 = .ok (.aload_n 0, 1) := by decide +kernel
theorem dX10_must_12 : decode cX10_must 12 = .ok (.iconst 0, 1) := by decide +kernel
theorem dX10_must_13 : decode cX10_must 13 = .ok (.iconst 1, 1) := by decide +kernel
theorem dX10_must_14 : decode cX10_must 14 = .ok (.invokevirtual 120, 3) := by decide +kernel
theorem dX10_must_17 : decode cX10_must 17 = .ok (.pop, 1) := by decide +kernel
theorem dX10_must_18 : decode cX10_must 18 = .ok (.return_, 1) := by decide +kernel
theorem dX10_readsPage_0 : decode cX10_readsPage 0 = .ok (.iconst 4, 1) := by decide +kernel
theorem dX10_readsPage_1 : decode cX10_readsPage 1 = .ok (.iconst 5, 1) := by decide +kernel
theorem dX10_readsPage_2 : decode cX10_readsPage 2 = .ok (.iload_n 1, 1) := by decide +kernel
theorem dX10_readsPage_3 : decode cX10_readsPage 3 = .ok (.imul, 1) := by decide +kernel
theorem dX10_readsPage_4 : decode cX10_readsPage 4 = .ok (.iadd, 1) := by decide +kernel
theorem dX10_readsPage_5 : decode cX10_readsPage 5 = .ok (.istore_n 2, 1) := by decide +kernel
theorem dX10_readsPage_6 : decode cX10_readsPage 6 = .ok (.aload_n 0, 1) := by decide +kernel
theorem dX10_readsPage_7 : decode cX10_readsPage 7 = .ok (.getfield 28, 3) := by decide +kernel
theorem dX10_readsPage_10 : decode cX10_readsPage 10 = .ok (.iload_n 2, 1) := by decide +kernel
theorem dX10_readsPage_11 : decode cX10_readsPage 11 = .ok (.iconst 1, 1) := by decide +kernel
theorem dX10_readsPage_12 : decode cX10_readsPage 12 = .ok (.iadd, 1) := by decide +kernel
theorem dX10_readsPage_13 : decode cX10_readsPage 13 = .ok (.aload_n 0, 1) := by decide +kernel
theorem dX10_readsPage_14 : decode cX10_readsPage 14 = .ok (.iconst 0, 1) := by decide +kernel
theorem dX10_readsPage_15 : decode cX10_readsPage 15 = .ok (.aload_n 0, 1) := by decide +kernel
theorem dX10_readsPage_16 : decode cX10_readsPage 16 = .ok (.getfield 28, 3) := by decide +kernel
theorem dX10_readsPage_19 : decode cX10_readsPage 19 = .ok (.iconst 0, 1) := by decide +kernel
theorem dX10_readsPage_20 : decode cX10_readsPage 20 = .ok (.iaload, 1) := by decide +kernel
theorem dX10_readsPage_21 : decode cX10_readsPage 21 = .ok (.iconst 1, 1) := by decide +kernel
theorem dX10_readsPage_22 : decode cX10_readsPage 22 = .ok (.isub, 1) := by decide +kernel
theorem dX10_readsPage_23 : decode cX10_readsPage 23 = .ok (.invokevirtual 124, 3) := by decide +kernel
theorem dX10_readsPage_26 : decode cX10_readsPage 26 = .ok (.iastore, 1) := by decide +kernel
theorem dX10_readsPage_27 : decode cX10_readsPage 27 = .ok (.aload_n 0, 1) := by decide +kernel
theorem dX10_readsPage_28 : decode cX10_readsPage 28 = .ok (.getfield 28, 3) := by decide +kernel
theorem dX10_readsPage_31 : decode cX10_readsPage 31 = .ok (.iload_n 2, 1) := by decide +kernel
theorem dX10_readsPage_32 : decode cX10_readsPage 32 = .ok (.iconst 1, 1) := by decide +kernel
theorem dX10_readsPage_33 : decode cX10_readsPage 33 = .ok (.iastore, 1) := by decide +kernel
theorem dX10_readsPage_34 : decode cX10_readsPage 34 = .ok (.aload_n 0, 1) := by decide +kernel
theorem dX10_readsPage_35 : decode cX10_readsPage 35 = .ok (.invokevirtual 110, 3) := by decide +kernel
theorem dX10_readsPage_38 : decode cX10_readsPage 38 = .ok (.ifCond .eq 69, 3) := by decide +kernel
theorem dX10_readsPage_41 : decode cX10_readsPage 41 = .ok (.aload_n 0, 1) := by decide +kernel
theorem dX10_readsPage_42 : decode cX10_readsPage 42 = .ok (.getfield 104, 3) := by decide +kernel
theorem dX10_readsPage_45 : decode cX10_readsPage 45 = .ok (.iconst 3, 1) := by decide +kernel
theorem dX10_readsPage_46 : decode cX10_readsPage 46 = .ok (.if_icmp .ne 61, 3) := by decide +kernel
theorem dX10_readsPage_49 : decode cX10_readsPage 49 = .ok (.aload_n 0, 1) := by decide +kernel
theorem dX10_readsPage_50 : decode cX10_readsPage 50 = .ok (.getfield 28, 3) := by decide +kernel
theorem dX10_readsPage_53 : decode cX10_readsPage 53 = .ok (.iload_n 2, 1) := by decide +kernel
theorem dX10_readsPage_54 : decode cX10_readsPage 54 = .ok (.iaload, 1) := by decide +kernel
theorem dX10_readsPage_55 : decode cX10_readsPage 55 = .ok (.iconst 3, 1) := by decide +kernel
theorem dX10_readsPage_56 : decode cX10_readsPage 56 = .ok (.if_icmp .ge 51, 3) := by decide +kernel
theorem dX10_readsPage_59 : decode cX10_readsPage 59 = .ok (.aload_n 0, 1) := by decide +kernel
theorem dX10_readsPage_60 : decode cX10_readsPage 60 = .ok (.iconst 1, 1) := by decide +kernel
theorem dX10_readsPage_61 : decode cX10_readsPage 61 = .ok (.iconst 1, 1) := by decide +kernel
theorem dX10_readsPage_62 : decode cX10_readsPage 62 = .ok (.invokevirtual 120, 3) := by decide +kernel
theorem dX10_readsPage_65 : decode cX10_readsPage 65 = .ok (.pop, 1) := by decide +kernel
theorem dX10_readsPage_66 : decode cX10_readsPage 66 = .ok (.aload_n 0, 1) := by decide +kernel
theorem dX10_readsPage_67 : decode cX10_readsPage 67 = .ok (.iconst 0, 1) := by decide +kernel
theorem dX10_readsPage_68 : decode cX10_readsPage 68 = .ok (.aload_n 0, 1) := by decide +kernel
theorem dX10_readsPage_69 : decode cX10_readsPage 69 = .ok (.getfield 28, 3) := by decide +kernel
theorem dX10_readsPage_72 : decode cX10_readsPage 72 = .ok (.iconst 0, 1) := by decide +kernel
theorem dX10_readsPage_73 : decode cX10_readsPage 73 = .ok (.iaload, 1) := by decide +kernel
theorem dX10_readsPage_74 : decode cX10_readsPage 74 = .ok (.iconst 1, 1) := by decide +kernel
theorem dX10_readsPage_75 : decode cX10_readsPage 75 = .ok (.isub, 1) := by decide +kernel
theorem dX10_readsPage_76 : decode cX10_readsPage 76 = .ok (.invokevirtual 124, 3) := by decide +kernel
theorem dX10_readsPage_79 : decode cX10_readsPage 79 = .ok (.istore_n 3, 1) := by decide +kernel
theorem dX10_readsPage_80 : decode cX10_readsPage 80 = .ok (.aload_n 0, 1) := by decide +kernel
theorem dX10_readsPage_81 : decode cX10_readsPage 81 = .ok (.getfield 28, 3) := by decide +kernel
theorem dX10_readsPage_84 : decode cX10_readsPage 84 = .ok (.iload_n 2, 1) := by decide +kernel
theorem dX10_readsPage_85 : decode cX10_readsPage 85 = .ok (.dup2, 1) := by decide +kernel
theorem dX10_readsPage_86 : decode cX10_readsPage 86 = .ok (.iaload, 1) := by decide +kernel
theorem dX10_readsPage_87 : decode cX10_readsPage 87 = .ok (.iconst 1, 1) := by decide +kernel
theorem dX10_readsPage_88 : decode cX10_readsPage 88 = .ok (.iadd, 1) := by decide +kernel
theorem dX10_readsPage_89 : decode cX10_readsPage 89 = .ok (.iastore, 1) := by decide +kernel
theorem dX10_readsPage_90 : decode cX10_readsPage 90 = .ok (.aload_n 0, 1) := by decide +kernel
theorem dX10_readsPage_91 : decode cX10_readsPage 91 = .ok (.getfield 28, 3) := by decide +kernel
theorem dX10_readsPage_94 : decode cX10_readsPage 94 = .ok (.iload_n 2, 1) := by decide +kernel
theorem dX10_readsPage_95 : decode cX10_readsPage 95 = .ok (.aload_n 0, 1) := by decide +kernel
theorem dX10_readsPage_96 : decode cX10_readsPage 96 = .ok (.getfield 28, 3) := by decide +kernel
theorem dX10_readsPage_99 : decode cX10_readsPage 99 = .ok (.iload_n 2, 1) := by decide +kernel
theorem dX10_readsPage_100 : decode cX10_readsPage 100 = .ok (.iaload, 1) := by decide +kernel
theorem dX10_readsPage_101 : decode cX10_readsPage 101 = .ok (.iadd, 1) := by decide +kernel
theorem dX10_readsPage_102 : decode cX10_readsPage 102 = .ok (.iload_n 3, 1) := by decide +kernel
theorem dX10_readsPage_103 : decode cX10_readsPage 103 = .ok (.iastore, 1) := by decide +kernel
theorem dX10_readsPage_104 : decode cX10_readsPage 104 = .ok (.goto (-70), 3) := by decide +kernel
theorem dX10_readsPage_107 : decode cX10_readsPage 107 = .ok (.aload_n 0, 1) := by decide +kernel
theorem dX10_readsPage_108 : decode cX10_readsPage 108 = .ok (.aload_n 0, 1) := by decide +kernel
theorem dX10_readsPage_109 : decode cX10_readsPage 109 = .ok (.getfield 104, 3) := by decide +kernel
theorem dX10_readsPage_112 : decode cX10_readsPage 112 = .ok (.iconst 4, 1) := by decide +kernel
theorem dX10_readsPage_113 : decode cX10_readsPage 113 = .ok (.if_icmp .ne 7, 3) := by decide +kernel
theorem dX10_readsPage_116 : decode cX10_readsPage 116 = .ok (.iconst 1, 1) := by decide +kernel
theorem dX10_readsPage_117 : decode cX10_readsPage 117 = .ok (.goto 4, 3) := by decide +kernel
theorem dX10_readsPage_120 : decode cX10_readsPage 120 = .ok (.iconst 0, 1) := by decide +kernel
theorem dX10_readsPage_121 : decode cX10_readsPage 121 = .ok (.iconst 1, 1) := by decide +kernel
theorem dX10_readsPage_122 : decode cX10_readsPage 122 = .ok (.invokevirtual 120, 3) := by decide +kernel
theorem dX10_readsPage_125 : decode cX10_readsPage 125 = .ok (.pop, 1) := by decide +kernel
theorem dX10_readsPage_126 : decode cX10_readsPage 126 = .ok (.return_, 1) := by decide +kernel
theorem dX10_readsTab_0 : decode cX10_readsTab 0 = .ok (.aload_n 0, 1) := by decide +kernel
theorem dX10_readsTab_1 : decode cX10_readsTab 1 = .ok (.getfield 101, 3) := by decide +kernel
theorem dX10_readsTab_4 : decode cX10_readsTab 4 = .ok (.invokestatic 127, 3) := by decide +kernel
theorem dX10_readsTab_7 : decode cX10_readsTab 7 = .ok (.istore_n 1, 1) := by decide +kernel
theorem dX10_readsTab_8 : decode cX10_readsTab 8 = .ok (.aload_n 0, 1) := by decide +kernel
theorem dX10_readsTab_9 : decode cX10_readsTab 9 = .ok (.aload_n 0, 1) := by decide +kernel
theorem dX10_readsTab_10 : decode cX10_readsTab 10 = .ok (.getfield 28, 3) := by decide +kernel
theorem dX10_readsTab_13 : decode cX10_readsTab 13 = .ok (.iconst 1, 1) := by decide +kernel
theorem dX10_readsTab_14 : decode cX10_readsTab 14 = .ok (.iaload, 1) := by decide +kernel
theorem dX10_readsTab_15 : decode cX10_readsTab 15 = .ok (.iconst 5, 1) := by decide +kernel
theorem dX10_readsTab_16 : decode cX10_readsTab 16 = .ok (.if_icmp .ge 7, 3) := by decide +kernel
theorem dX10_readsTab_19 : decode cX10_readsTab 19 = .ok (.iconst 1, 1) := by decide +kernel
theorem dX10_readsTab_20 : decode cX10_readsTab 20 = .ok (.goto 4, 3) := by decide +kernel
theorem dX10_readsTab_23 : decode cX10_readsTab 23 = .ok (.iconst 0, 1) := by decide +kernel
theorem dX10_readsTab_24 : decode cX10_readsTab 24 = .ok (.iconst 3, 1) := by decide +kernel
theorem dX10_readsTab_25 : decode cX10_readsTab 25 = .ok (.invokevirtual 120, 3) := by decide +kernel
theorem dX10_readsTab_28 : decode cX10_readsTab 28 = .ok (.pop, 1) := by decide +kernel
theorem dX10_readsTab_29 : decode cX10_readsTab 29 = .ok (.bipush 44, 2) := by decide +kernel
theorem dX10_readsTab_31 : decode cX10_readsTab 31 = .ok (.bipush 10, 2) := by decide +kernel
theorem dX10_readsTab_33 : decode cX10_readsTab 33 = .ok (.aload_n 0, 1) := by decide +kernel
theorem dX10_readsTab_34 : decode cX10_readsTab 34 = .ok (.getfield 28, 3) := by decide +kernel
theorem dX10_readsTab_37 : decode cX10_readsTab 37 = .ok (.iconst 1, 1) := by decide +kernel
theorem dX10_readsTab_38 : decode cX10_readsTab 38 = .ok (.iaload, 1) := by decide +kernel
theorem dX10_readsTab_39 : decode cX10_readsTab 39 = .ok (.iconst 5, 1) := by decide +kernel
theorem dX10_readsTab_40 : decode cX10_readsTab 40 = .ok (.if_icmp .ge 12, 3) := by decide +kernel
theorem dX10_readsTab_43 : decode cX10_readsTab 43 = .ok (.aload_n 0, 1) := by decide +kernel
theorem dX10_readsTab_44 : decode cX10_readsTab 44 = .ok (.getfield 28, 3) := by decide +kernel
theorem dX10_readsTab_47 : decode cX10_readsTab 47 = .ok (.iconst 1, 1) := by decide +kernel
theorem dX10_readsTab_48 : decode cX10_readsTab 48 = .ok (.iaload, 1) := by decide +kernel
theorem dX10_readsTab_49 : decode cX10_readsTab 49 = .ok (.goto 4, 3) := by decide +kernel
theorem dX10_readsTab_52 : decode cX10_readsTab 52 = .ok (.iconst 0, 1) := by decide +kernel
theorem dX10_readsTab_53 : decode cX10_readsTab 53 = .ok (.imul, 1) := by decide +kernel
theorem dX10_readsTab_54 : decode cX10_readsTab 54 = .ok (.iadd, 1) := by decide +kernel
theorem dX10_readsTab_55 : decode cX10_readsTab 55 = .ok (.istore_n 2, 1) := by decide +kernel
theorem dX10_readsTab_56 : decode cX10_readsTab 56 = .ok (.aload_n 0, 1) := by decide +kernel
theorem dX10_readsTab_57 : decode cX10_readsTab 57 = .ok (.iconst 0, 1) := by decide +kernel
theorem dX10_readsTab_58 : decode cX10_readsTab 58 = .ok (.aload_n 0, 1) := by decide +kernel
theorem dX10_readsTab_59 : decode cX10_readsTab 59 = .ok (.getfield 28, 3) := by decide +kernel
theorem dX10_readsTab_62 : decode cX10_readsTab 62 = .ok (.iconst 0, 1) := by decide +kernel
theorem dX10_readsTab_63 : decode cX10_readsTab 63 = .ok (.iaload, 1) := by decide +kernel
theorem dX10_readsTab_64 : decode cX10_readsTab 64 = .ok (.iconst 1, 1) := by decide +kernel
theorem dX10_readsTab_65 : decode cX10_readsTab 65 = .ok (.isub, 1) := by decide +kernel
theorem dX10_readsTab_66 : decode cX10_readsTab 66 = .ok (.invokevirtual 124, 3) := by decide +kernel
theorem dX10_readsTab_69 : decode cX10_readsTab 69 = .ok (.istore_n 3, 1) := by decide +kernel
theorem dX10_readsTab_70 : decode cX10_readsTab 70 = .ok (.aload_n 0, 1) := by decide +kernel
theorem dX10_readsTab_71 : decode cX10_readsTab 71 = .ok (.aload_n 0, 1) := by decide +kernel
theorem dX10_readsTab_72 : decode cX10_readsTab 72 = .ok (.getfield 104, 3) := by decide +kernel
theorem dX10_readsTab_75 : decode cX10_readsTab 75 = .ok (.iconst 4, 1) := by decide +kernel
theorem dX10_readsTab_76 : decode cX10_readsTab 76 = .ok (.if_icmp .ne 7, 3) := by decide +kernel
theorem dX10_readsTab_79 : decode cX10_readsTab 79 = .ok (.iconst 1, 1) := by decide +kernel
theorem dX10_readsTab_80 : decode cX10_readsTab 80 = .ok (.goto 4, 3) := by decide +kernel
theorem dX10_readsTab_83 : decode cX10_readsTab 83 = .ok (.iconst 0, 1) := by decide +kernel
theorem dX10_readsTab_84 : decode cX10_readsTab 84 = .ok (.iconst 1, 1) := by decide +kernel
theorem dX10_readsTab_85 : decode cX10_readsTab 85 = .ok (.invokevirtual 120, 3) := by decide +kernel
theorem dX10_readsTab_88 : decode cX10_readsTab 88 = .ok (.pop, 1) := by decide +kernel
theorem dX10_readsTab_89 : decode cX10_readsTab 89 = .ok (.aload_n 0, 1) := by decide +kernel
theorem dX10_readsTab_90 : decode cX10_readsTab 90 = .ok (.invokevirtual 110, 3) := by decide +kernel
theorem dX10_readsTab_93 : decode cX10_readsTab 93 = .ok (.ifCond .eq 23, 3) := by decide +kernel
theorem dX10_readsTab_96 : decode cX10_readsTab 96 = .ok (.aload_n 0, 1) := by decide +kernel
theorem dX10_readsTab_97 : decode cX10_readsTab 97 = .ok (.getfield 28, 3) := by decide +kernel
theorem dX10_readsTab_100 : decode cX10_readsTab 100 = .ok (.iload_n 2, 1) := by decide +kernel
theorem dX10_readsTab_101 : decode cX10_readsTab 101 = .ok (.iload_n 1, 1) := by decide +kernel
theorem dX10_readsTab_102 : decode cX10_readsTab 102 = .ok (.iload_n 3, 1) := by decide +kernel
theorem dX10_readsTab_103 : decode cX10_readsTab 103 = .ok (.invokestatic 130, 3) := by decide +kernel
theorem dX10_readsTab_106 : decode cX10_readsTab 106 = .ok (.aload_n 0, 1) := by decide +kernel
theorem dX10_readsTab_107 : decode cX10_readsTab 107 = .ok (.getfield 28, 3) := by decide +kernel
theorem dX10_readsTab_110 : decode cX10_readsTab 110 = .ok (.iconst 1, 1) := by decide +kernel
theorem dX10_readsTab_111 : decode cX10_readsTab 111 = .ok (.dup2, 1) := by decide +kernel
theorem dX10_readsTab_112 : decode cX10_readsTab 112 = .ok (.iaload, 1) := by decide +kernel
theorem dX10_readsTab_113 : decode cX10_readsTab 113 = .ok (.iconst 1, 1) := by decide +kernel
theorem dX10_readsTab_114 : decode cX10_readsTab 114 = .ok (.iadd, 1) := by decide +kernel
theorem dX10_readsTab_115 : decode cX10_readsTab 115 = .ok (.iastore, 1) := by decide +kernel
theorem dX10_readsTab_116 : decode cX10_readsTab 116 = .ok (.return_, 1) := by decide +kernel
theorem dX10_web_0 : decode cX10_web 0 = .ok (.iconst 0, 1) := by decide +kernel
theorem dX10_web_1 : decode cX10_web 1 = .ok (.istore_n 1, 1) := by decide +kernel
theorem dX10_web_2 : decode cX10_web 2 = .ok (.iload_n 1, 1) := by decide +kernel
theorem dX10_web_3 : decode cX10_web 3 = .ok (.bipush 124, 2) := by decide +kernel
theorem dX10_web_5 : decode cX10_web 5 = .ok (.if_icmp .ge 16, 3) := by decide +kernel
theorem dX10_web_8 : decode cX10_web 8 = .ok (.aload_n 0, 1) := by decide +kernel
theorem dX10_web_9 : decode cX10_web 9 = .ok (.getfield 28, 3) := by decide +kernel
theorem dX10_web_12 : decode cX10_web 12 = .ok (.iload_n 1, 1) := by decide +kernel
theorem dX10_web_13 : decode cX10_web 13 = .ok (.iconst 0, 1) := by decide +kernel
theorem dX10_web_14 : decode cX10_web 14 = .ok (.iastore, 1) := by decide +kernel
theorem dX10_web_15 : decode cX10_web 15 = .ok (.iinc 1 1, 3) := by decide +kernel
theorem dX10_web_18 : decode cX10_web 18 = .ok (.goto (-16), 3) := by decide +kernel
theorem dX10_web_21 : decode cX10_web 21 = .ok (.aload_n 0, 1) := by decide +kernel
theorem dX10_web_22 : decode cX10_web 22 = .ok (.iconst 0, 1) := by decide +kernel
theorem dX10_web_23 : decode cX10_web 23 = .ok (.putfield 92, 3) := by decide +kernel
theorem dX10_web_26 : decode cX10_web 26 = .ok (.aload_n 0, 1) := by decide +kernel
theorem dX10_web_27 : decode cX10_web 27 = .ok (.iconst (-1), 1) := by decide +kernel
theorem dX10_web_28 : decode cX10_web 28 = .ok (.putfield 107, 3) := by decide +kernel
theorem dX10_web_31 : decode cX10_web 31 = .ok (.aload_n 0, 1) := by decide +kernel
theorem dX10_web_32 : decode cX10_web 32 = .ok (.invokevirtual 117, 3) := by decide +kernel
theorem dX10_web_35 : decode cX10_web 35 = .ok (.aload_n 0, 1) := by decide +kernel
theorem dX10_web_36 : decode cX10_web 36 = .ok (.aload_n 0, 1) := by decide +kernel
theorem dX10_web_37 : decode cX10_web 37 = .ok (.getfield 104, 3) := by decide +kernel
theorem dX10_web_40 : decode cX10_web 40 = .ok (.iconst 1, 1) := by decide +kernel
theorem dX10_web_41 : decode cX10_web 41 = .ok (.if_icmp .ne 16, 3) := by decide +kernel
theorem dX10_web_44 : decode cX10_web 44 = .ok (.aload_n 0, 1) := by decide +kernel
theorem dX10_web_45 : decode cX10_web 45 = .ok (.getfield 101, 3) := by decide +kernel
theorem dX10_web_48 : decode cX10_web 48 = .ok (.bipush 119, 2) := by decide +kernel
theorem dX10_web_50 : decode cX10_web 50 = .ok (.if_icmp .ne 7, 3) := by decide +kernel
theorem dX10_web_53 : decode cX10_web 53 = .ok (.iconst 1, 1) := by decide +kernel
theorem dX10_web_54 : decode cX10_web 54 = .ok (.goto 4, 3) := by decide +kernel
theorem dX10_web_57 : decode cX10_web 57 = .ok (.iconst 0, 1) := by decide +kernel
theorem dX10_web_58 : decode cX10_web 58 = .ok (.iconst 1, 1) := by decide +kernel
theorem dX10_web_59 : decode cX10_web 59 = .ok (.invokevirtual 120, 3) := by decide +kernel
theorem dX10_web_62 : decode cX10_web 62 = .ok (.pop, 1) := by decide +kernel
theorem dX10_web_63 : decode cX10_web 63 = .ok (.aload_n 0, 1) := by decide +kernel
theorem dX10_web_64 : decode cX10_web 64 = .ok (.getfield 28, 3) := by decide +kernel
theorem dX10_web_67 : decode cX10_web 67 = .ok (.iconst 0, 1) := by decide +kernel
theorem dX10_web_68 : decode cX10_web 68 = .ok (.aload_n 0, 1) := by decide +kernel
theorem dX10_web_69 : decode cX10_web 69 = .ok (.iconst 2, 1) := by decide +kernel
theorem dX10_web_70 : decode cX10_web 70 = .ok (.bipush 8, 2) := by decide +kernel
theorem dX10_web_72 : decode cX10_web 72 = .ok (.invokevirtual 124, 3) := by decide +kernel
theorem dX10_web_75 : decode cX10_web 75 = .ok (.iastore, 1) := by decide +kernel
theorem dX10_web_76 : decode cX10_web 76 = .ok (.aload_n 0, 1) := by decide +kernel
theorem dX10_web_77 : decode cX10_web 77 = .ok (.aload_n 0, 1) := by decide +kernel
theorem dX10_web_78 : decode cX10_web 78 = .ok (.getfield 104, 3) := by decide +kernel
theorem dX10_web_81 : decode cX10_web 81 = .ok (.iconst 4, 1) := by decide +kernel
theorem dX10_web_82 : decode cX10_web 82 = .ok (.if_icmp .ne 7, 3) := by decide +kernel
theorem dX10_web_85 : decode cX10_web 85 = .ok (.iconst 1, 1) := by decide +kernel
theorem dX10_web_86 : decode cX10_web 86 = .ok (.goto 4, 3) := by decide +kernel
theorem dX10_web_89 : decode cX10_web 89 = .ok (.iconst 0, 1) := by decide +kernel
theorem dX10_web_90 : decode cX10_web 90 = .ok (.iconst 1, 1) := by decide +kernel
theorem dX10_web_91 : decode cX10_web 91 = .ok (.invokevirtual 120, 3) := by decide +kernel
theorem dX10_web_94 : decode cX10_web 94 = .ok (.pop, 1) := by decide +kernel
theorem dX10_web_95 : decode cX10_web 95 = .ok (.iconst 0, 1) := by decide +kernel
theorem dX10_web_96 : decode cX10_web 96 = .ok (.istore_n 1, 1) := by decide +kernel
theorem dX10_web_97 : decode cX10_web 97 = .ok (.aload_n 0, 1) := by decide +kernel
theorem dX10_web_98 : decode cX10_web 98 = .ok (.invokevirtual 110, 3) := by decide +kernel
theorem dX10_web_101 : decode cX10_web 101 = .ok (.ifCond .eq 52, 3) := by decide +kernel
theorem dX10_web_104 : decode cX10_web 104 = .ok (.iload_n 1, 1) := by decide +kernel
theorem dX10_web_105 : decode cX10_web 105 = .ok (.aload_n 0, 1) := by decide +kernel
theorem dX10_web_106 : decode cX10_web 106 = .ok (.getfield 28, 3) := by decide +kernel
theorem dX10_web_109 : decode cX10_web 109 = .ok (.iconst 0, 1) := by decide +kernel
theorem dX10_web_110 : decode cX10_web 110 = .ok (.iaload, 1) := by decide +kernel
theorem dX10_web_111 : decode cX10_web 111 = .ok (.if_icmp .ge 42, 3) := by decide +kernel
theorem dX10_web_114 : decode cX10_web 114 = .ok (.aload_n 0, 1) := by decide +kernel
theorem dX10_web_115 : decode cX10_web 115 = .ok (.aload_n 0, 1) := by decide +kernel
theorem dX10_web_116 : decode cX10_web 116 = .ok (.getfield 104, 3) := by decide +kernel
theorem dX10_web_119 : decode cX10_web 119 = .ok (.iconst 1, 1) := by decide +kernel
theorem dX10_web_120 : decode cX10_web 120 = .ok (.if_icmp .ne 16, 3) := by decide +kernel
theorem dX10_web_123 : decode cX10_web 123 = .ok (.aload_n 0, 1) := by decide +kernel
theorem dX10_web_124 : decode cX10_web 124 = .ok (.getfield 101, 3) := by decide +kernel
theorem dX10_web_127 : decode cX10_web 127 = .ok (.bipush 108, 2) := by decide +kernel
theorem dX10_web_129 : decode cX10_web 129 = .ok (.if_icmp .ne 7, 3) := by decide +kernel
theorem dX10_web_132 : decode cX10_web 132 = .ok (.iconst 1, 1) := by decide +kernel
theorem dX10_web_133 : decode cX10_web 133 = .ok (.goto 4, 3) := by decide +kernel
theorem dX10_web_136 : decode cX10_web 136 = .ok (.iconst 0, 1) := by decide +kernel
theorem dX10_web_137 : decode cX10_web 137 = .ok (.iconst 1, 1) := by decide +kernel
theorem dX10_web_138 : decode cX10_web 138 = .ok (.invokevirtual 120, 3) := by decide +kernel
theorem dX10_web_141 : decode cX10_web 141 = .ok (.pop, 1) := by decide +kernel
theorem dX10_web_142 : decode cX10_web 142 = .ok (.aload_n 0, 1) := by decide +kernel
theorem dX10_web_143 : decode cX10_web 143 = .ok (.iload_n 1, 1) := by decide +kernel
theorem dX10_web_144 : decode cX10_web 144 = .ok (.invokevirtual 134, 3) := by decide +kernel
theorem dX10_web_147 : decode cX10_web 147 = .ok (.iinc 1 1, 3) := by decide +kernel
theorem dX10_web_150 : decode cX10_web 150 = .ok (.goto (-53), 3) := by decide +kernel
theorem dX10_web_153 : decode cX10_web 153 = .ok (.aload_n 0, 1) := by decide +kernel
theorem dX10_web_154 : decode cX10_web 154 = .ok (.invokevirtual 110, 3) := by decide +kernel
theorem dX10_web_157 : decode cX10_web 157 = .ok (.ifCond .eq 28, 3) := by decide +kernel
theorem dX10_web_160 : decode cX10_web 160 = .ok (.aload_n 0, 1) := by decide +kernel
theorem dX10_web_161 : decode cX10_web 161 = .ok (.getfield 104, 3) := by decide +kernel
theorem dX10_web_164 : decode cX10_web 164 = .ok (.iconst 1, 1) := by decide +kernel
theorem dX10_web_165 : decode cX10_web 165 = .ok (.if_icmp .ne 20, 3) := by decide +kernel
theorem dX10_web_168 : decode cX10_web 168 = .ok (.aload_n 0, 1) := by decide +kernel
theorem dX10_web_169 : decode cX10_web 169 = .ok (.getfield 101, 3) := by decide +kernel
theorem dX10_web_172 : decode cX10_web 172 = .ok (.invokestatic 127, 3) := by decide +kernel
theorem dX10_web_175 : decode cX10_web 175 = .ok (.ifCond .le 10, 3) := by decide +kernel
theorem dX10_web_178 : decode cX10_web 178 = .ok (.aload_n 0, 1) := by decide +kernel
theorem dX10_web_179 : decode cX10_web 179 = .ok (.invokevirtual 138, 3) := by decide +kernel
theorem dX10_web_182 : decode cX10_web 182 = .ok (.goto (-29), 3) := by decide +kernel
theorem dX10_web_185 : decode cX10_web 185 = .ok (.aload_n 0, 1) := by decide +kernel
theorem dX10_web_186 : decode cX10_web 186 = .ok (.aload_n 0, 1) := by decide +kernel
theorem dX10_web_187 : decode cX10_web 187 = .ok (.getfield 28, 3) := by decide +kernel
theorem dX10_web_190 : decode cX10_web 190 = .ok (.iconst 1, 1) := by decide +kernel
theorem dX10_web_191 : decode cX10_web 191 = .ok (.iaload, 1) := by decide +kernel
theorem dX10_web_192 : decode cX10_web 192 = .ok (.ifCond .le 14, 3) := by decide +kernel
theorem dX10_web_195 : decode cX10_web 195 = .ok (.aload_n 0, 1) := by decide +kernel
theorem dX10_web_196 : decode cX10_web 196 = .ok (.getfield 104, 3) := by decide +kernel
theorem dX10_web_199 : decode cX10_web 199 = .ok (.ifCond .ne 7, 3) := by decide +kernel
theorem dX10_web_202 : decode cX10_web 202 = .ok (.iconst 1, 1) := by decide +kernel
theorem dX10_web_203 : decode cX10_web 203 = .ok (.goto 4, 3) := by decide +kernel
theorem dX10_web_206 : decode cX10_web 206 = .ok (.iconst 0, 1) := by decide +kernel
theorem dX10_web_207 : decode cX10_web 207 = .ok (.invokevirtual 141, 3) := by decide +kernel
theorem dX10_web_210 : decode cX10_web 210 = .ok (.aload_n 0, 1) := by decide +kernel
theorem dX10_web_211 : decode cX10_web 211 = .ok (.iconst 0, 1) := by decide +kernel
theorem dX10_web_212 : decode cX10_web 212 = .ok (.putfield 88, 3) := by decide +kernel
theorem dX10_web_215 : decode cX10_web 215 = .ok (.aload_n 0, 1) := by decide +kernel
theorem dX10_web_216 : decode cX10_web 216 = .ok (.invokevirtual 110, 3) := by decide +kernel
theorem dX10_web_219 : decode cX10_web 219 = .ok (.ifCond .ne 11, 3) := by decide +kernel
theorem dX10_web_222 : decode cX10_web 222 = .ok (.ldc 145, 2) := by decide +kernel
theorem dX10_web_224 : decode cX10_web 224 = .ok (.aload_n 0, 1) := by decide +kernel
theorem dX10_web_225 : decode cX10_web 225 = .ok (.getfield 107, 3) := by decide +kernel
theorem dX10_web_228 : decode cX10_web 228 = .ok (.isub, 1) := by decide +kernel
theorem dX10_web_229 : decode cX10_web 229 = .ok (.ireturn, 1) := by decide +kernel
theorem dX10_web_230 : decode cX10_web 230 = .ok (.aload_n 0, 1) := by decide +kernel
theorem dX10_web_231 : decode cX10_web 231 = .ok (.getfield 28, 3) := by decide +kernel
theorem dX10_web_234 : decode cX10_web 234 = .ok (.iconst 0, 1) := by decide +kernel
theorem dX10_web_235 : decode cX10_web 235 = .ok (.aload_n 0, 1) := by decide +kernel
theorem dX10_web_236 : decode cX10_web 236 = .ok (.getfield 25, 3) := by decide +kernel
theorem dX10_web_239 : decode cX10_web 239 = .ok (.iconst 0, 1) := by decide +kernel
theorem dX10_web_240 : decode cX10_web 240 = .ok (.invokestatic 146, 3) := by decide +kernel
theorem dX10_web_243 : decode cX10_web 243 = .ok (.aload_n 0, 1) := by decide +kernel
theorem dX10_web_244 : decode cX10_web 244 = .ok (.iconst 0, 1) := by decide +kernel
theorem dX10_web_245 : decode cX10_web 245 = .ok (.putfield 150, 3) := by decide +kernel
theorem dX10_web_248 : decode cX10_web 248 = .ok (.aload_n 0, 1) := by decide +kernel
theorem dX10_web_249 : decode cX10_web 249 = .ok (.getfield 25, 3) := by decide +kernel
theorem dX10_web_252 : decode cX10_web 252 = .ok (.iconst 1, 1) := by decide +kernel
theorem dX10_web_253 : decode cX10_web 253 = .ok (.iaload, 1) := by decide +kernel
theorem dX10_web_254 : decode cX10_web 254 = .ok (.ireturn, 1) := by decide +kernel
theorem dX10_fault_0 : decode cX10_fault 0 = .ok (.aload_n 0, 1) := by decide +kernel
theorem dX10_fault_1 : decode cX10_fault 1 = .ok (.getfield 114, 3) := by decide +kernel
theorem dX10_fault_4 : decode cX10_fault 4 = .ok (.ireturn, 1) := by decide +kernel
theorem dX10_isWeb_0 : decode cX10_isWeb 0 = .ok (.aload_n 0, 1) := by decide +kernel
theorem dX10_isWeb_1 : decode cX10_isWeb 1 = .ok (.getfield 25, 3) := by decide +kernel
theorem dX10_isWeb_4 : decode cX10_isWeb 4 = .ok (.iconst 0, 1) := by decide +kernel
theorem dX10_isWeb_5 : decode cX10_isWeb 5 = .ok (.iaload, 1) := by decide +kernel
theorem dX10_isWeb_6 : decode cX10_isWeb 6 = .ok (.ifCond .le 7, 3) := by decide +kernel
theorem dX10_isWeb_9 : decode cX10_isWeb 9 = .ok (.iconst 1, 1) := by decide +kernel
theorem dX10_isWeb_10 : decode cX10_isWeb 10 = .ok (.goto 4, 3) := by decide +kernel
theorem dX10_isWeb_13 : decode cX10_isWeb 13 = .ok (.iconst 0, 1) := by decide +kernel
theorem dX10_isWeb_14 : decode cX10_isWeb 14 = .ok (.ireturn, 1) := by decide +kernel
theorem dX10_isPage_0 : decode cX10_isPage 0 = .ok (.iload_n 1, 1) := by decide +kernel
theorem dX10_isPage_1 : decode cX10_isPage 1 = .ok (.iconst 0, 1) := by decide +kernel
theorem dX10_isPage_2 : decode cX10_isPage 2 = .ok (.aload_n 0, 1) := by decide +kernel
theorem dX10_isPage_3 : decode cX10_isPage 3 = .ok (.getfield 25, 3) := by decide +kernel
theorem dX10_isPage_6 : decode cX10_isPage 6 = .ok (.iconst 0, 1) := by decide +kernel
theorem dX10_isPage_7 : decode cX10_isPage 7 = .ok (.iaload, 1) := by decide +kernel
theorem dX10_isPage_8 : decode cX10_isPage 8 = .ok (.iconst 1, 1) := by decide +kernel
theorem dX10_isPage_9 : decode cX10_isPage 9 = .ok (.isub, 1) := by decide +kernel
theorem dX10_isPage_10 : decode cX10_isPage 10 = .ok (.invokestatic 62, 3) := by decide +kernel
theorem dX10_isPage_13 : decode cX10_isPage 13 = .ok (.ireturn, 1) := by decide +kernel
theorem dX10_isTab_0 : decode cX10_isTab 0 = .ok (.iload_n 1, 1) := by decide +kernel
theorem dX10_isTab_1 : decode cX10_isTab 1 = .ok (.iconst 0, 1) := by decide +kernel
theorem dX10_isTab_2 : decode cX10_isTab 2 = .ok (.aload_n 0, 1) := by decide +kernel
theorem dX10_isTab_3 : decode cX10_isTab 3 = .ok (.getfield 25, 3) := by decide +kernel
theorem dX10_isTab_6 : decode cX10_isTab 6 = .ok (.iconst 1, 1) := by decide +kernel
theorem dX10_isTab_7 : decode cX10_isTab 7 = .ok (.iaload, 1) := by decide +kernel
theorem dX10_isTab_8 : decode cX10_isTab 8 = .ok (.iconst 1, 1) := by decide +kernel
theorem dX10_isTab_9 : decode cX10_isTab 9 = .ok (.isub, 1) := by decide +kernel
theorem dX10_isTab_10 : decode cX10_isTab 10 = .ok (.invokestatic 62, 3) := by decide +kernel
theorem dX10_isTab_13 : decode cX10_isTab 13 = .ok (.ireturn, 1) := by decide +kernel
theorem dX10_fresh_0 : decode cX10_fresh 0 = .ok (.aload_n 0, 1) := by decide +kernel
theorem dX10_fresh_1 : decode cX10_fresh 1 = .ok (.iload_n 1, 1) := by decide +kernel
theorem dX10_fresh_2 : decode cX10_fresh 2 = .ok (.iload_n 2, 1) := by decide +kernel
theorem dX10_fresh_3 : decode cX10_fresh 3 = .ok (.iastore, 1) := by decide +kernel
theorem dX10_fresh_4 : decode cX10_fresh 4 = .ok (.aload_n 0, 1) := by decide +kernel
theorem dX10_fresh_5 : decode cX10_fresh 5 = .ok (.iload_n 1, 1) := by decide +kernel
theorem dX10_fresh_6 : decode cX10_fresh 6 = .ok (.iconst 1, 1) := by decide +kernel
theorem dX10_fresh_7 : decode cX10_fresh 7 = .ok (.iadd, 1) := by decide +kernel
theorem dX10_fresh_8 : decode cX10_fresh 8 = .ok (.iload_n 3, 1) := by decide +kernel
theorem dX10_fresh_9 : decode cX10_fresh 9 = .ok (.iastore, 1) := by decide +kernel
theorem dX10_fresh_10 : decode cX10_fresh 10 = .ok (.aload_n 0, 1) := by decide +kernel
theorem dX10_fresh_11 : decode cX10_fresh 11 = .ok (.iload_n 1, 1) := by decide +kernel
theorem dX10_fresh_12 : decode cX10_fresh 12 = .ok (.iconst 2, 1) := by decide +kernel
theorem dX10_fresh_13 : decode cX10_fresh 13 = .ok (.iadd, 1) := by decide +kernel
theorem dX10_fresh_14 : decode cX10_fresh 14 = .ok (.iconst 1, 1) := by decide +kernel
theorem dX10_fresh_15 : decode cX10_fresh 15 = .ok (.iastore, 1) := by decide +kernel
theorem dX10_fresh_16 : decode cX10_fresh 16 = .ok (.aload_n 0, 1) := by decide +kernel
theorem dX10_fresh_17 : decode cX10_fresh 17 = .ok (.iload_n 1, 1) := by decide +kernel
theorem dX10_fresh_18 : decode cX10_fresh 18 = .ok (.iconst 3, 1) := by decide +kernel
theorem dX10_fresh_19 : decode cX10_fresh 19 = .ok (.iadd, 1) := by decide +kernel
theorem dX10_fresh_20 : decode cX10_fresh 20 = .ok (.iconst 0, 1) := by decide +kernel
theorem dX10_fresh_21 : decode cX10_fresh 21 = .ok (.iastore, 1) := by decide +kernel
theorem dX10_fresh_22 : decode cX10_fresh 22 = .ok (.aload_n 0, 1) := by decide +kernel
theorem dX10_fresh_23 : decode cX10_fresh 23 = .ok (.iload_n 1, 1) := by decide +kernel
theorem dX10_fresh_24 : decode cX10_fresh 24 = .ok (.iconst 4, 1) := by decide +kernel
theorem dX10_fresh_25 : decode cX10_fresh 25 = .ok (.iadd, 1) := by decide +kernel
theorem dX10_fresh_26 : decode cX10_fresh 26 = .ok (.iload_n 3, 1) := by decide +kernel
theorem dX10_fresh_27 : decode cX10_fresh 27 = .ok (.iastore, 1) := by decide +kernel
theorem dX10_fresh_28 : decode cX10_fresh 28 = .ok (.return_, 1) := by decide +kernel
theorem dX10_tabNow_0 : decode cX10_tabNow 0 = .ok (.bipush 44, 2) := by decide +kernel
theorem dX10_tabNow_2 : decode cX10_tabNow 2 = .ok (.bipush 10, 2) := by decide +kernel
theorem dX10_tabNow_4 : decode cX10_tabNow 4 = .ok (.aload_n 0, 1) := by decide +kernel
theorem dX10_tabNow_5 : decode cX10_tabNow 5 = .ok (.iconst 2, 1) := by decide +kernel
theorem dX10_tabNow_6 : decode cX10_tabNow 6 = .ok (.iaload, 1) := by decide +kernel
theorem dX10_tabNow_7 : decode cX10_tabNow 7 = .ok (.imul, 1) := by decide +kernel
theorem dX10_tabNow_8 : decode cX10_tabNow 8 = .ok (.iadd, 1) := by decide +kernel
theorem dX10_tabNow_9 : decode cX10_tabNow 9 = .ok (.ireturn, 1) := by decide +kernel
theorem dX10_shows_0 : decode cX10_shows 0 = .ok (.bipush 44, 2) := by decide +kernel
theorem dX10_shows_2 : decode cX10_shows 2 = .ok (.bipush 10, 2) := by decide +kernel
theorem dX10_shows_4 : decode cX10_shows 4 = .ok (.iload_n 1, 1) := by decide +kernel
theorem dX10_shows_5 : decode cX10_shows 5 = .ok (.imul, 1) := by decide +kernel
theorem dX10_shows_6 : decode cX10_shows 6 = .ok (.iadd, 1) := by decide +kernel
theorem dX10_shows_7 : decode cX10_shows 7 = .ok (.istore_n 2, 1) := by decide +kernel
theorem dX10_shows_8 : decode cX10_shows 8 = .ok (.aload_n 0, 1) := by decide +kernel
theorem dX10_shows_9 : decode cX10_shows 9 = .ok (.iload_n 2, 1) := by decide +kernel
theorem dX10_shows_10 : decode cX10_shows 10 = .ok (.iconst 4, 1) := by decide +kernel
theorem dX10_shows_11 : decode cX10_shows 11 = .ok (.iadd, 1) := by decide +kernel
theorem dX10_shows_12 : decode cX10_shows 12 = .ok (.aload_n 0, 1) := by decide +kernel
theorem dX10_shows_13 : decode cX10_shows 13 = .ok (.iload_n 2, 1) := by decide +kernel
theorem dX10_shows_14 : decode cX10_shows 14 = .ok (.iconst 3, 1) := by decide +kernel
theorem dX10_shows_15 : decode cX10_shows 15 = .ok (.iadd, 1) := by decide +kernel
theorem dX10_shows_16 : decode cX10_shows 16 = .ok (.iaload, 1) := by decide +kernel
theorem dX10_shows_17 : decode cX10_shows 17 = .ok (.iadd, 1) := by decide +kernel
theorem dX10_shows_18 : decode cX10_shows 18 = .ok (.iaload, 1) := by decide +kernel
theorem dX10_shows_19 : decode cX10_shows 19 = .ok (.ireturn, 1) := by decide +kernel
theorem dX10_seen_0 : decode cX10_seen 0 = .ok (.aload_n 0, 1) := by decide +kernel
theorem dX10_seen_1 : decode cX10_seen 1 = .ok (.aload_n 0, 1) := by decide +kernel
theorem dX10_seen_2 : decode cX10_seen 2 = .ok (.iconst 2, 1) := by decide +kernel
theorem dX10_seen_3 : decode cX10_seen 3 = .ok (.iaload, 1) := by decide +kernel
theorem dX10_seen_4 : decode cX10_seen 4 = .ok (.invokestatic 153, 3) := by decide +kernel
theorem dX10_seen_7 : decode cX10_seen 7 = .ok (.ireturn, 1) := by decide +kernel
theorem dX10_moves_0 : decode cX10_moves 0 = .ok (.iconst 0, 1) := by decide +kernel
theorem dX10_moves_1 : decode cX10_moves 1 = .ok (.istore_n 3, 1) := by decide +kernel
theorem dX10_moves_2 : decode cX10_moves 2 = .ok (.iload_n 3, 1) := by decide +kernel
theorem dX10_moves_3 : decode cX10_moves 3 = .ok (.bipush 10, 2) := by decide +kernel
theorem dX10_moves_5 : decode cX10_moves 5 = .ok (.if_icmp .ge 19, 3) := by decide +kernel
theorem dX10_moves_8 : decode cX10_moves 8 = .ok (.aload_n 0, 1) := by decide +kernel
theorem dX10_moves_9 : decode cX10_moves 9 = .ok (.iload_n 2, 1) := by decide +kernel
theorem dX10_moves_10 : decode cX10_moves 10 = .ok (.iload_n 3, 1) := by decide +kernel
theorem dX10_moves_11 : decode cX10_moves 11 = .ok (.iadd, 1) := by decide +kernel
theorem dX10_moves_12 : decode cX10_moves 12 = .ok (.aload_n 0, 1) := by decide +kernel
theorem dX10_moves_13 : decode cX10_moves 13 = .ok (.iload_n 1, 1) := by decide +kernel
theorem dX10_moves_14 : decode cX10_moves 14 = .ok (.iload_n 3, 1) := by decide +kernel
theorem dX10_moves_15 : decode cX10_moves 15 = .ok (.iadd, 1) := by decide +kernel
theorem dX10_moves_16 : decode cX10_moves 16 = .ok (.iaload, 1) := by decide +kernel
theorem dX10_moves_17 : decode cX10_moves 17 = .ok (.iastore, 1) := by decide +kernel
theorem dX10_moves_18 : decode cX10_moves 18 = .ok (.iinc 3 1, 3) := by decide +kernel
theorem dX10_moves_21 : decode cX10_moves 21 = .ok (.goto (-19), 3) := by decide +kernel
theorem dX10_moves_24 : decode cX10_moves 24 = .ok (.return_, 1) := by decide +kernel
theorem dX10_visits_0 : decode cX10_visits 0 = .ok (.iconst 4, 1) := by decide +kernel
theorem dX10_visits_1 : decode cX10_visits 1 = .ok (.iconst 5, 1) := by decide +kernel
theorem dX10_visits_2 : decode cX10_visits 2 = .ok (.aload_n 0, 1) := by decide +kernel
theorem dX10_visits_3 : decode cX10_visits 3 = .ok (.invokestatic 157, 3) := by decide +kernel
theorem dX10_visits_6 : decode cX10_visits 6 = .ok (.imul, 1) := by decide +kernel
theorem dX10_visits_7 : decode cX10_visits 7 = .ok (.iadd, 1) := by decide +kernel
theorem dX10_visits_8 : decode cX10_visits 8 = .ok (.iconst 4, 1) := by decide +kernel
theorem dX10_visits_9 : decode cX10_visits 9 = .ok (.iadd, 1) := by decide +kernel
theorem dX10_visits_10 : decode cX10_visits 10 = .ok (.istore_n 1, 1) := by decide +kernel
theorem dX10_visits_11 : decode cX10_visits 11 = .ok (.aload_n 0, 1) := by decide +kernel
theorem dX10_visits_12 : decode cX10_visits 12 = .ok (.iload_n 1, 1) := by decide +kernel
theorem dX10_visits_13 : decode cX10_visits 13 = .ok (.dup2, 1) := by decide +kernel
theorem dX10_visits_14 : decode cX10_visits 14 = .ok (.iaload, 1) := by decide +kernel
theorem dX10_visits_15 : decode cX10_visits 15 = .ok (.aload_n 0, 1) := by decide +kernel
theorem dX10_visits_16 : decode cX10_visits 16 = .ok (.iload_n 1, 1) := by decide +kernel
theorem dX10_visits_17 : decode cX10_visits 17 = .ok (.iaload, 1) := by decide +kernel
theorem dX10_visits_18 : decode cX10_visits 18 = .ok (.sipush 999, 3) := by decide +kernel
theorem dX10_visits_21 : decode cX10_visits 21 = .ok (.if_icmp .ge 7, 3) := by decide +kernel
theorem dX10_visits_24 : decode cX10_visits 24 = .ok (.iconst 1, 1) := by decide +kernel
theorem dX10_visits_25 : decode cX10_visits 25 = .ok (.goto 4, 3) := by decide +kernel
theorem dX10_visits_28 : decode cX10_visits 28 = .ok (.iconst 0, 1) := by decide +kernel
theorem dX10_visits_29 : decode cX10_visits 29 = .ok (.iadd, 1) := by decide +kernel
theorem dX10_visits_30 : decode cX10_visits 30 = .ok (.iastore, 1) := by decide +kernel
theorem dX10_visits_31 : decode cX10_visits 31 = .ok (.return_, 1) := by decide +kernel
theorem dX10_mayFollow_0 : decode cX10_mayFollow 0 = .ok (.iload_n 1, 1) := by decide +kernel
theorem dX10_mayFollow_1 : decode cX10_mayFollow 1 = .ok (.aload_n 0, 1) := by decide +kernel
theorem dX10_mayFollow_2 : decode cX10_mayFollow 2 = .ok (.iconst 4, 1) := by decide +kernel
theorem dX10_mayFollow_3 : decode cX10_mayFollow 3 = .ok (.iconst 5, 1) := by decide +kernel
theorem dX10_mayFollow_4 : decode cX10_mayFollow 4 = .ok (.aload_n 0, 1) := by decide +kernel
theorem dX10_mayFollow_5 : decode cX10_mayFollow 5 = .ok (.invokestatic 157, 3) := by decide +kernel
theorem dX10_mayFollow_8 : decode cX10_mayFollow 8 = .ok (.imul, 1) := by decide +kernel
theorem dX10_mayFollow_9 : decode cX10_mayFollow 9 = .ok (.iadd, 1) := by decide +kernel
theorem dX10_mayFollow_10 : decode cX10_mayFollow 10 = .ok (.iaload, 1) := by decide +kernel
theorem dX10_mayFollow_11 : decode cX10_mayFollow 11 = .ok (.if_icmp .ge 24, 3) := by decide +kernel
theorem dX10_mayFollow_14 : decode cX10_mayFollow 14 = .ok (.aload_n 0, 1) := by decide +kernel
theorem dX10_mayFollow_15 : decode cX10_mayFollow 15 = .ok (.aload_n 0, 1) := by decide +kernel
theorem dX10_mayFollow_16 : decode cX10_mayFollow 16 = .ok (.invokestatic 161, 3) := by decide +kernel
theorem dX10_mayFollow_19 : decode cX10_mayFollow 19 = .ok (.iaload, 1) := by decide +kernel
theorem dX10_mayFollow_20 : decode cX10_mayFollow 20 = .ok (.iconst 3, 1) := by decide +kernel
theorem dX10_mayFollow_21 : decode cX10_mayFollow 21 = .ok (.if_icmp .ne 10, 3) := by decide +kernel
theorem dX10_mayFollow_24 : decode cX10_mayFollow 24 = .ok (.aload_n 0, 1) := by decide +kernel
theorem dX10_mayFollow_25 : decode cX10_mayFollow 25 = .ok (.iconst 1, 1) := by decide +kernel
theorem dX10_mayFollow_26 : decode cX10_mayFollow 26 = .ok (.iaload, 1) := by decide +kernel
theorem dX10_mayFollow_27 : decode cX10_mayFollow 27 = .ok (.iconst 5, 1) := by decide +kernel
theorem dX10_mayFollow_28 : decode cX10_mayFollow 28 = .ok (.if_icmp .ge 7, 3) := by decide +kernel
theorem dX10_mayFollow_31 : decode cX10_mayFollow 31 = .ok (.iconst 1, 1) := by decide +kernel
theorem dX10_mayFollow_32 : decode cX10_mayFollow 32 = .ok (.goto 4, 3) := by decide +kernel
theorem dX10_mayFollow_35 : decode cX10_mayFollow 35 = .ok (.iconst 0, 1) := by decide +kernel
theorem dX10_mayFollow_36 : decode cX10_mayFollow 36 = .ok (.ireturn, 1) := by decide +kernel
theorem dX10_comes_0 : decode cX10_comes 0 = .ok (.aload_n 0, 1) := by decide +kernel
theorem dX10_comes_1 : decode cX10_comes 1 = .ok (.invokestatic 161, 3) := by decide +kernel
theorem dX10_comes_4 : decode cX10_comes 4 = .ok (.istore_n 2, 1) := by decide +kernel
theorem dX10_comes_5 : decode cX10_comes 5 = .ok (.aload_n 0, 1) := by decide +kernel
theorem dX10_comes_6 : decode cX10_comes 6 = .ok (.iload_n 2, 1) := by decide +kernel
theorem dX10_comes_7 : decode cX10_comes 7 = .ok (.iconst 3, 1) := by decide +kernel
theorem dX10_comes_8 : decode cX10_comes 8 = .ok (.iadd, 1) := by decide +kernel
theorem dX10_comes_9 : decode cX10_comes 9 = .ok (.iaload, 1) := by decide +kernel
theorem dX10_comes_10 : decode cX10_comes 10 = .ok (.iconst 2, 1) := by decide +kernel
theorem dX10_comes_11 : decode cX10_comes 11 = .ok (.iadd, 1) := by decide +kernel
theorem dX10_comes_12 : decode cX10_comes 12 = .ok (.istore_n 3, 1) := by decide +kernel
theorem dX10_comes_13 : decode cX10_comes 13 = .ok (.aload_n 0, 1) := by decide +kernel
theorem dX10_comes_14 : decode cX10_comes 14 = .ok (.iload_n 2, 1) := by decide +kernel
theorem dX10_comes_15 : decode cX10_comes 15 = .ok (.iaload, 1) := by decide +kernel
theorem dX10_comes_16 : decode cX10_comes 16 = .ok (.iconst 2, 1) := by decide +kernel
theorem dX10_comes_17 : decode cX10_comes 17 = .ok (.if_icmp .eq 10, 3) := by decide +kernel
theorem dX10_comes_20 : decode cX10_comes 20 = .ok (.aload_n 0, 1) := by decide +kernel
theorem dX10_comes_21 : decode cX10_comes 21 = .ok (.iload_n 2, 1) := by decide +kernel
theorem dX10_comes_22 : decode cX10_comes 22 = .ok (.iaload, 1) := by decide +kernel
theorem dX10_comes_23 : decode cX10_comes 23 = .ok (.iconst 5, 1) := by decide +kernel
theorem dX10_comes_24 : decode cX10_comes 24 = .ok (.if_icmp .ne 7, 3) := by decide +kernel
theorem dX10_comes_27 : decode cX10_comes 27 = .ok (.iconst 3, 1) := by decide +kernel
theorem dX10_comes_28 : decode cX10_comes 28 = .ok (.goto 5, 3) := by decide +kernel
theorem dX10_comes_31 : decode cX10_comes 31 = .ok (.bipush 6, 2) := by decide +kernel
theorem dX10_comes_33 : decode cX10_comes 33 = .ok (.istore 4, 2) := by decide +kernel
theorem dX10_comes_35 : decode cX10_comes 35 = .ok (.iload_n 3, 1) := by decide +kernel
theorem dX10_comes_36 : decode cX10_comes 36 = .ok (.iload 4, 2) := by decide +kernel
theorem dX10_comes_38 : decode cX10_comes 38 = .ok (.if_icmp .le 24, 3) := by decide +kernel
theorem dX10_comes_41 : decode cX10_comes 41 = .ok (.aload_n 0, 1) := by decide +kernel
theorem dX10_comes_42 : decode cX10_comes 42 = .ok (.iload_n 2, 1) := by decide +kernel
theorem dX10_comes_43 : decode cX10_comes 43 = .ok (.iaload, 1) := by decide +kernel
theorem dX10_comes_44 : decode cX10_comes 44 = .ok (.iconst 5, 1) := by decide +kernel
theorem dX10_comes_45 : decode cX10_comes 45 = .ok (.if_icmp .ne 17, 3) := by decide +kernel
theorem dX10_comes_48 : decode cX10_comes 48 = .ok (.aload_n 0, 1) := by decide +kernel
theorem dX10_comes_49 : decode cX10_comes 49 = .ok (.iload_n 2, 1) := by decide +kernel
theorem dX10_comes_50 : decode cX10_comes 50 = .ok (.iconst 5, 1) := by decide +kernel
theorem dX10_comes_51 : decode cX10_comes 51 = .ok (.aload_n 0, 1) := by decide +kernel
theorem dX10_comes_52 : decode cX10_comes 52 = .ok (.iload_n 2, 1) := by decide +kernel
theorem dX10_comes_53 : decode cX10_comes 53 = .ok (.iconst 1, 1) := by decide +kernel
theorem dX10_comes_54 : decode cX10_comes 54 = .ok (.iadd, 1) := by decide +kernel
theorem dX10_comes_55 : decode cX10_comes 55 = .ok (.iaload, 1) := by decide +kernel
theorem dX10_comes_56 : decode cX10_comes 56 = .ok (.invokestatic 130, 3) := by decide +kernel
theorem dX10_comes_59 : decode cX10_comes 59 = .ok (.goto 73, 3) := by decide +kernel
theorem dX10_comes_62 : decode cX10_comes 62 = .ok (.iload_n 3, 1) := by decide +kernel
theorem dX10_comes_63 : decode cX10_comes 63 = .ok (.iload 4, 2) := by decide +kernel
theorem dX10_comes_65 : decode cX10_comes 65 = .ok (.if_icmp .le 43, 3) := by decide +kernel
theorem dX10_comes_68 : decode cX10_comes 68 = .ok (.iconst 0, 1) := by decide +kernel
theorem dX10_comes_69 : decode cX10_comes 69 = .ok (.istore 5, 2) := by decide +kernel
theorem dX10_comes_71 : decode cX10_comes 71 = .ok (.iload 5, 2) := by decide +kernel
theorem dX10_comes_73 : decode cX10_comes 73 = .ok (.iconst 1, 1) := by decide +kernel
theorem dX10_comes_74 : decode cX10_comes 74 = .ok (.iadd, 1) := by decide +kernel
theorem dX10_comes_75 : decode cX10_comes 75 = .ok (.iload_n 3, 1) := by decide +kernel
theorem dX10_comes_76 : decode cX10_comes 76 = .ok (.iconst 1, 1) := by decide +kernel
theorem dX10_comes_77 : decode cX10_comes 77 = .ok (.isub, 1) := by decide +kernel
theorem dX10_comes_78 : decode cX10_comes 78 = .ok (.if_icmp .ge 27, 3) := by decide +kernel
theorem dX10_comes_81 : decode cX10_comes 81 = .ok (.aload_n 0, 1) := by decide +kernel
theorem dX10_comes_82 : decode cX10_comes 82 = .ok (.iload_n 2, 1) := by decide +kernel
theorem dX10_comes_83 : decode cX10_comes 83 = .ok (.iconst 4, 1) := by decide +kernel
theorem dX10_comes_84 : decode cX10_comes 84 = .ok (.iadd, 1) := by decide +kernel
theorem dX10_comes_85 : decode cX10_comes 85 = .ok (.iload 5, 2) := by decide +kernel
theorem dX10_comes_87 : decode cX10_comes 87 = .ok (.iadd, 1) := by decide +kernel
theorem dX10_comes_88 : decode cX10_comes 88 = .ok (.aload_n 0, 1) := by decide +kernel
theorem dX10_comes_89 : decode cX10_comes 89 = .ok (.iload_n 2, 1) := by decide +kernel
theorem dX10_comes_90 : decode cX10_comes 90 = .ok (.iconst 4, 1) := by decide +kernel
theorem dX10_comes_91 : decode cX10_comes 91 = .ok (.iadd, 1) := by decide +kernel
theorem dX10_comes_92 : decode cX10_comes 92 = .ok (.iload 5, 2) := by decide +kernel
theorem dX10_comes_94 : decode cX10_comes 94 = .ok (.iadd, 1) := by decide +kernel
theorem dX10_comes_95 : decode cX10_comes 95 = .ok (.iconst 1, 1) := by decide +kernel
theorem dX10_comes_96 : decode cX10_comes 96 = .ok (.iadd, 1) := by decide +kernel
theorem dX10_comes_97 : decode cX10_comes 97 = .ok (.iaload, 1) := by decide +kernel
theorem dX10_comes_98 : decode cX10_comes 98 = .ok (.iastore, 1) := by decide +kernel
theorem dX10_comes_99 : decode cX10_comes 99 = .ok (.iinc 5 1, 3) := by decide +kernel
theorem dX10_comes_102 : decode cX10_comes 102 = .ok (.goto (-31), 3) := by decide +kernel
theorem dX10_comes_105 : decode cX10_comes 105 = .ok (.iinc 3 (-1), 3) := by decide +kernel
theorem dX10_comes_108 : decode cX10_comes 108 = .ok (.aload_n 0, 1) := by decide +kernel
theorem dX10_comes_109 : decode cX10_comes 109 = .ok (.iload_n 2, 1) := by decide +kernel
theorem dX10_comes_110 : decode cX10_comes 110 = .ok (.iconst 4, 1) := by decide +kernel
theorem dX10_comes_111 : decode cX10_comes 111 = .ok (.iadd, 1) := by decide +kernel
theorem dX10_comes_112 : decode cX10_comes 112 = .ok (.iload_n 3, 1) := by decide +kernel
theorem dX10_comes_113 : decode cX10_comes 113 = .ok (.iadd, 1) := by decide +kernel
theorem dX10_comes_114 : decode cX10_comes 114 = .ok (.iconst 1, 1) := by decide +kernel
theorem dX10_comes_115 : decode cX10_comes 115 = .ok (.isub, 1) := by decide +kernel
theorem dX10_comes_116 : decode cX10_comes 116 = .ok (.iload_n 1, 1) := by decide +kernel
theorem dX10_comes_117 : decode cX10_comes 117 = .ok (.iastore, 1) := by decide +kernel
theorem dX10_comes_118 : decode cX10_comes 118 = .ok (.aload_n 0, 1) := by decide +kernel
theorem dX10_comes_119 : decode cX10_comes 119 = .ok (.iload_n 2, 1) := by decide +kernel
theorem dX10_comes_120 : decode cX10_comes 120 = .ok (.iconst 3, 1) := by decide +kernel
theorem dX10_comes_121 : decode cX10_comes 121 = .ok (.iadd, 1) := by decide +kernel
theorem dX10_comes_122 : decode cX10_comes 122 = .ok (.iload_n 3, 1) := by decide +kernel
theorem dX10_comes_123 : decode cX10_comes 123 = .ok (.iconst 1, 1) := by decide +kernel
theorem dX10_comes_124 : decode cX10_comes 124 = .ok (.isub, 1) := by decide +kernel
theorem dX10_comes_125 : decode cX10_comes 125 = .ok (.iastore, 1) := by decide +kernel
theorem dX10_comes_126 : decode cX10_comes 126 = .ok (.aload_n 0, 1) := by decide +kernel
theorem dX10_comes_127 : decode cX10_comes 127 = .ok (.iload_n 2, 1) := by decide +kernel
theorem dX10_comes_128 : decode cX10_comes 128 = .ok (.iconst 2, 1) := by decide +kernel
theorem dX10_comes_129 : decode cX10_comes 129 = .ok (.iadd, 1) := by decide +kernel
theorem dX10_comes_130 : decode cX10_comes 130 = .ok (.iload_n 3, 1) := by decide +kernel
theorem dX10_comes_131 : decode cX10_comes 131 = .ok (.iastore, 1) := by decide +kernel
theorem dX10_comes_132 : decode cX10_comes 132 = .ok (.return_, 1) := by decide +kernel
theorem dX10_inserts_0 : decode cX10_inserts 0 = .ok (.aload_n 0, 1) := by decide +kernel
theorem dX10_inserts_1 : decode cX10_inserts 1 = .ok (.iconst 1, 1) := by decide +kernel
theorem dX10_inserts_2 : decode cX10_inserts 2 = .ok (.iaload, 1) := by decide +kernel
theorem dX10_inserts_3 : decode cX10_inserts 3 = .ok (.istore_n 3, 1) := by decide +kernel
theorem dX10_inserts_4 : decode cX10_inserts 4 = .ok (.iload_n 3, 1) := by decide +kernel
theorem dX10_inserts_5 : decode cX10_inserts 5 = .ok (.iload_n 1, 1) := by decide +kernel
theorem dX10_inserts_6 : decode cX10_inserts 6 = .ok (.if_icmp .le 29, 3) := by decide +kernel
theorem dX10_inserts_9 : decode cX10_inserts 9 = .ok (.aload_n 0, 1) := by decide +kernel
theorem dX10_inserts_10 : decode cX10_inserts 10 = .ok (.bipush 44, 2) := by decide +kernel
theorem dX10_inserts_12 : decode cX10_inserts 12 = .ok (.bipush 10, 2) := by decide +kernel
theorem dX10_inserts_14 : decode cX10_inserts 14 = .ok (.iload_n 3, 1) := by decide +kernel
theorem dX10_inserts_15 : decode cX10_inserts 15 = .ok (.iconst 1, 1) := by decide +kernel
theorem dX10_inserts_16 : decode cX10_inserts 16 = .ok (.isub, 1) := by decide +kernel
theorem dX10_inserts_17 : decode cX10_inserts 17 = .ok (.imul, 1) := by decide +kernel
theorem dX10_inserts_18 : decode cX10_inserts 18 = .ok (.iadd, 1) := by decide +kernel
theorem dX10_inserts_19 : decode cX10_inserts 19 = .ok (.bipush 44, 2) := by decide +kernel
theorem dX10_inserts_21 : decode cX10_inserts 21 = .ok (.bipush 10, 2) := by decide +kernel
theorem dX10_inserts_23 : decode cX10_inserts 23 = .ok (.iload_n 3, 1) := by decide +kernel
theorem dX10_inserts_24 : decode cX10_inserts 24 = .ok (.imul, 1) := by decide +kernel
theorem dX10_inserts_25 : decode cX10_inserts 25 = .ok (.iadd, 1) := by decide +kernel
theorem dX10_inserts_26 : decode cX10_inserts 26 = .ok (.invokestatic 164, 3) := by decide +kernel
theorem dX10_inserts_29 : decode cX10_inserts 29 = .ok (.iinc 3 (-1), 3) := by decide +kernel
theorem dX10_inserts_32 : decode cX10_inserts 32 = .ok (.goto (-28), 3) := by decide +kernel
theorem dX10_inserts_35 : decode cX10_inserts 35 = .ok (.aload_n 0, 1) := by decide +kernel
theorem dX10_inserts_36 : decode cX10_inserts 36 = .ok (.bipush 44, 2) := by decide +kernel
theorem dX10_inserts_38 : decode cX10_inserts 38 = .ok (.bipush 10, 2) := by decide +kernel
theorem dX10_inserts_40 : decode cX10_inserts 40 = .ok (.iload_n 1, 1) := by decide +kernel
theorem dX10_inserts_41 : decode cX10_inserts 41 = .ok (.imul, 1) := by decide +kernel
theorem dX10_inserts_42 : decode cX10_inserts 42 = .ok (.iadd, 1) := by decide +kernel
theorem dX10_inserts_43 : decode cX10_inserts 43 = .ok (.iconst 1, 1) := by decide +kernel
theorem dX10_inserts_44 : decode cX10_inserts 44 = .ok (.iload_n 2, 1) := by decide +kernel
theorem dX10_inserts_45 : decode cX10_inserts 45 = .ok (.invokestatic 130, 3) := by decide +kernel
theorem dX10_inserts_48 : decode cX10_inserts 48 = .ok (.aload_n 0, 1) := by decide +kernel
theorem dX10_inserts_49 : decode cX10_inserts 49 = .ok (.iconst 1, 1) := by decide +kernel
theorem dX10_inserts_50 : decode cX10_inserts 50 = .ok (.dup2, 1) := by decide +kernel
theorem dX10_inserts_51 : decode cX10_inserts 51 = .ok (.iaload, 1) := by decide +kernel
theorem dX10_inserts_52 : decode cX10_inserts 52 = .ok (.iconst 1, 1) := by decide +kernel
theorem dX10_inserts_53 : decode cX10_inserts 53 = .ok (.iadd, 1) := by decide +kernel
theorem dX10_inserts_54 : decode cX10_inserts 54 = .ok (.iastore, 1) := by decide +kernel
theorem dX10_inserts_55 : decode cX10_inserts 55 = .ok (.aload_n 0, 1) := by decide +kernel
theorem dX10_inserts_56 : decode cX10_inserts 56 = .ok (.iconst 2, 1) := by decide +kernel
theorem dX10_inserts_57 : decode cX10_inserts 57 = .ok (.iload_n 1, 1) := by decide +kernel
theorem dX10_inserts_58 : decode cX10_inserts 58 = .ok (.iastore, 1) := by decide +kernel
theorem dX10_inserts_59 : decode cX10_inserts 59 = .ok (.return_, 1) := by decide +kernel
theorem dX10_follows_0 : decode cX10_follows 0 = .ok (.aload_n 0, 1) := by decide +kernel
theorem dX10_follows_1 : decode cX10_follows 1 = .ok (.iconst 4, 1) := by decide +kernel
theorem dX10_follows_2 : decode cX10_follows 2 = .ok (.iconst 5, 1) := by decide +kernel
theorem dX10_follows_3 : decode cX10_follows 3 = .ok (.aload_n 0, 1) := by decide +kernel
theorem dX10_follows_4 : decode cX10_follows 4 = .ok (.invokestatic 157, 3) := by decide +kernel
theorem dX10_follows_7 : decode cX10_follows 7 = .ok (.imul, 1) := by decide +kernel
theorem dX10_follows_8 : decode cX10_follows 8 = .ok (.iadd, 1) := by decide +kernel
theorem dX10_follows_9 : decode cX10_follows 9 = .ok (.iconst 1, 1) := by decide +kernel
theorem dX10_follows_10 : decode cX10_follows 10 = .ok (.iadd, 1) := by decide +kernel
theorem dX10_follows_11 : decode cX10_follows 11 = .ok (.iload_n 1, 1) := by decide +kernel
theorem dX10_follows_12 : decode cX10_follows 12 = .ok (.iadd, 1) := by decide +kernel
theorem dX10_follows_13 : decode cX10_follows 13 = .ok (.iaload, 1) := by decide +kernel
theorem dX10_follows_14 : decode cX10_follows 14 = .ok (.istore_n 2, 1) := by decide +kernel
theorem dX10_follows_15 : decode cX10_follows 15 = .ok (.aload_n 0, 1) := by decide +kernel
theorem dX10_follows_16 : decode cX10_follows 16 = .ok (.aload_n 0, 1) := by decide +kernel
theorem dX10_follows_17 : decode cX10_follows 17 = .ok (.invokestatic 161, 3) := by decide +kernel
theorem dX10_follows_20 : decode cX10_follows 20 = .ok (.iaload, 1) := by decide +kernel
theorem dX10_follows_21 : decode cX10_follows 21 = .ok (.iconst 3, 1) := by decide +kernel
theorem dX10_follows_22 : decode cX10_follows 22 = .ok (.if_icmp .ne 16, 3) := by decide +kernel
theorem dX10_follows_25 : decode cX10_follows 25 = .ok (.aload_n 0, 1) := by decide +kernel
theorem dX10_follows_26 : decode cX10_follows 26 = .ok (.aload_n 0, 1) := by decide +kernel
theorem dX10_follows_27 : decode cX10_follows 27 = .ok (.iconst 2, 1) := by decide +kernel
theorem dX10_follows_28 : decode cX10_follows 28 = .ok (.iaload, 1) := by decide +kernel
theorem dX10_follows_29 : decode cX10_follows 29 = .ok (.iconst 1, 1) := by decide +kernel
theorem dX10_follows_30 : decode cX10_follows 30 = .ok (.iadd, 1) := by decide +kernel
theorem dX10_follows_31 : decode cX10_follows 31 = .ok (.iload_n 2, 1) := by decide +kernel
theorem dX10_follows_32 : decode cX10_follows 32 = .ok (.invokestatic 168, 3) := by decide +kernel
theorem dX10_follows_35 : decode cX10_follows 35 = .ok (.goto 8, 3) := by decide +kernel
theorem dX10_follows_38 : decode cX10_follows 38 = .ok (.aload_n 0, 1) := by decide +kernel
theorem dX10_follows_39 : decode cX10_follows 39 = .ok (.iload_n 2, 1) := by decide +kernel
theorem dX10_follows_40 : decode cX10_follows 40 = .ok (.invokestatic 171, 3) := by decide +kernel
theorem dX10_follows_43 : decode cX10_follows 43 = .ok (.aload_n 0, 1) := by decide +kernel
theorem dX10_follows_44 : decode cX10_follows 44 = .ok (.invokestatic 175, 3) := by decide +kernel
theorem dX10_follows_47 : decode cX10_follows 47 = .ok (.return_, 1) := by decide +kernel
theorem dX10_mayGo_0 : decode cX10_mayGo 0 = .ok (.aload_n 0, 1) := by decide +kernel
theorem dX10_mayGo_1 : decode cX10_mayGo 1 = .ok (.invokestatic 161, 3) := by decide +kernel
theorem dX10_mayGo_4 : decode cX10_mayGo 4 = .ok (.istore_n 2, 1) := by decide +kernel
theorem dX10_mayGo_5 : decode cX10_mayGo 5 = .ok (.aload_n 0, 1) := by decide +kernel
theorem dX10_mayGo_6 : decode cX10_mayGo 6 = .ok (.iload_n 2, 1) := by decide +kernel
theorem dX10_mayGo_7 : decode cX10_mayGo 7 = .ok (.iaload, 1) := by decide +kernel
theorem dX10_mayGo_8 : decode cX10_mayGo 8 = .ok (.iconst 5, 1) := by decide +kernel
theorem dX10_mayGo_9 : decode cX10_mayGo 9 = .ok (.if_icmp .eq 37, 3) := by decide +kernel
theorem dX10_mayGo_12 : decode cX10_mayGo 12 = .ok (.iload_n 1, 1) := by decide +kernel
theorem dX10_mayGo_13 : decode cX10_mayGo 13 = .ok (.ifCond .ne 14, 3) := by decide +kernel
theorem dX10_mayGo_16 : decode cX10_mayGo 16 = .ok (.aload_n 0, 1) := by decide +kernel
theorem dX10_mayGo_17 : decode cX10_mayGo 17 = .ok (.iload_n 2, 1) := by decide +kernel
theorem dX10_mayGo_18 : decode cX10_mayGo 18 = .ok (.iconst 3, 1) := by decide +kernel
theorem dX10_mayGo_19 : decode cX10_mayGo 19 = .ok (.iadd, 1) := by decide +kernel
theorem dX10_mayGo_20 : decode cX10_mayGo 20 = .ok (.iaload, 1) := by decide +kernel
theorem dX10_mayGo_21 : decode cX10_mayGo 21 = .ok (.ifCond .le 25, 3) := by decide +kernel
theorem dX10_mayGo_24 : decode cX10_mayGo 24 = .ok (.goto 18, 3) := by decide +kernel
theorem dX10_mayGo_27 : decode cX10_mayGo 27 = .ok (.aload_n 0, 1) := by decide +kernel
theorem dX10_mayGo_28 : decode cX10_mayGo 28 = .ok (.iload_n 2, 1) := by decide +kernel
theorem dX10_mayGo_29 : decode cX10_mayGo 29 = .ok (.iconst 3, 1) := by decide +kernel
theorem dX10_mayGo_30 : decode cX10_mayGo 30 = .ok (.iadd, 1) := by decide +kernel
theorem dX10_mayGo_31 : decode cX10_mayGo 31 = .ok (.iaload, 1) := by decide +kernel
theorem dX10_mayGo_32 : decode cX10_mayGo 32 = .ok (.iconst 1, 1) := by decide +kernel
theorem dX10_mayGo_33 : decode cX10_mayGo 33 = .ok (.iadd, 1) := by decide +kernel
theorem dX10_mayGo_34 : decode cX10_mayGo 34 = .ok (.aload_n 0, 1) := by decide +kernel
theorem dX10_mayGo_35 : decode cX10_mayGo 35 = .ok (.iload_n 2, 1) := by decide +kernel
theorem dX10_mayGo_36 : decode cX10_mayGo 36 = .ok (.iconst 2, 1) := by decide +kernel
theorem dX10_mayGo_37 : decode cX10_mayGo 37 = .ok (.iadd, 1) := by decide +kernel
theorem dX10_mayGo_38 : decode cX10_mayGo 38 = .ok (.iaload, 1) := by decide +kernel
theorem dX10_mayGo_39 : decode cX10_mayGo 39 = .ok (.if_icmp .ge 7, 3) := by decide +kernel
theorem dX10_mayGo_42 : decode cX10_mayGo 42 = .ok (.iconst 1, 1) := by decide +kernel
theorem dX10_mayGo_43 : decode cX10_mayGo 43 = .ok (.goto 4, 3) := by decide +kernel
theorem dX10_mayGo_46 : decode cX10_mayGo 46 = .ok (.iconst 0, 1) := by decide +kernel
theorem dX10_mayGo_47 : decode cX10_mayGo 47 = .ok (.ireturn, 1) := by decide +kernel
theorem dX10_goes_0 : decode cX10_goes 0 = .ok (.aload_n 0, 1) := by decide +kernel
theorem dX10_goes_1 : decode cX10_goes 1 = .ok (.aload_n 0, 1) := by decide +kernel
theorem dX10_goes_2 : decode cX10_goes 2 = .ok (.invokestatic 161, 3) := by decide +kernel
theorem dX10_goes_5 : decode cX10_goes 5 = .ok (.iconst 3, 1) := by decide +kernel
theorem dX10_goes_6 : decode cX10_goes 6 = .ok (.iadd, 1) := by decide +kernel
theorem dX10_goes_7 : decode cX10_goes 7 = .ok (.dup2, 1) := by decide +kernel
theorem dX10_goes_8 : decode cX10_goes 8 = .ok (.iaload, 1) := by decide +kernel
theorem dX10_goes_9 : decode cX10_goes 9 = .ok (.iload_n 1, 1) := by decide +kernel
theorem dX10_goes_10 : decode cX10_goes 10 = .ok (.ifCond .ne 7, 3) := by decide +kernel
theorem dX10_goes_13 : decode cX10_goes 13 = .ok (.iconst (-1), 1) := by decide +kernel
theorem dX10_goes_14 : decode cX10_goes 14 = .ok (.goto 4, 3) := by decide +kernel
theorem dX10_goes_17 : decode cX10_goes 17 = .ok (.iconst 1, 1) := by decide +kernel
theorem dX10_goes_18 : decode cX10_goes 18 = .ok (.iadd, 1) := by decide +kernel
theorem dX10_goes_19 : decode cX10_goes 19 = .ok (.iastore, 1) := by decide +kernel
theorem dX10_goes_20 : decode cX10_goes 20 = .ok (.return_, 1) := by decide +kernel
theorem dX10_opens_0 : decode cX10_opens 0 = .ok (.aload_n 0, 1) := by decide +kernel
theorem dX10_opens_1 : decode cX10_opens 1 = .ok (.aload_n 0, 1) := by decide +kernel
theorem dX10_opens_2 : decode cX10_opens 2 = .ok (.iconst 1, 1) := by decide +kernel
theorem dX10_opens_3 : decode cX10_opens 3 = .ok (.iaload, 1) := by decide +kernel
theorem dX10_opens_4 : decode cX10_opens 4 = .ok (.iload_n 1, 1) := by decide +kernel
theorem dX10_opens_5 : decode cX10_opens 5 = .ok (.invokestatic 168, 3) := by decide +kernel
theorem dX10_opens_8 : decode cX10_opens 8 = .ok (.aload_n 0, 1) := by decide +kernel
theorem dX10_opens_9 : decode cX10_opens 9 = .ok (.invokestatic 175, 3) := by decide +kernel
theorem dX10_opens_12 : decode cX10_opens 12 = .ok (.return_, 1) := by decide +kernel
theorem dX10_closes_0 : decode cX10_closes 0 = .ok (.aload_n 0, 1) := by decide +kernel
theorem dX10_closes_1 : decode cX10_closes 1 = .ok (.aload_n 0, 1) := by decide +kernel
theorem dX10_closes_2 : decode cX10_closes 2 = .ok (.invokestatic 161, 3) := by decide +kernel
theorem dX10_closes_5 : decode cX10_closes 5 = .ok (.iaload, 1) := by decide +kernel
theorem dX10_closes_6 : decode cX10_closes 6 = .ok (.iconst 4, 1) := by decide +kernel
theorem dX10_closes_7 : decode cX10_closes 7 = .ok (.if_icmp .ge 57, 3) := by decide +kernel
theorem dX10_closes_10 : decode cX10_closes 10 = .ok (.aload_n 0, 1) := by decide +kernel
theorem dX10_closes_11 : decode cX10_closes 11 = .ok (.iconst 3, 1) := by decide +kernel
theorem dX10_closes_12 : decode cX10_closes 12 = .ok (.iaload, 1) := by decide +kernel
theorem dX10_closes_13 : decode cX10_closes 13 = .ok (.iconst 3, 1) := by decide +kernel
theorem dX10_closes_14 : decode cX10_closes 14 = .ok (.if_icmp .ne 26, 3) := by decide +kernel
theorem dX10_closes_17 : decode cX10_closes 17 = .ok (.aload_n 0, 1) := by decide +kernel
theorem dX10_closes_18 : decode cX10_closes 18 = .ok (.bipush 104, 2) := by decide +kernel
theorem dX10_closes_20 : decode cX10_closes 20 = .ok (.bipush 94, 2) := by decide +kernel
theorem dX10_closes_22 : decode cX10_closes 22 = .ok (.invokestatic 164, 3) := by decide +kernel
theorem dX10_closes_25 : decode cX10_closes 25 = .ok (.aload_n 0, 1) := by decide +kernel
theorem dX10_closes_26 : decode cX10_closes 26 = .ok (.bipush 114, 2) := by decide +kernel
theorem dX10_closes_28 : decode cX10_closes 28 = .ok (.bipush 104, 2) := by decide +kernel
theorem dX10_closes_30 : decode cX10_closes 30 = .ok (.invokestatic 164, 3) := by decide +kernel
theorem dX10_closes_33 : decode cX10_closes 33 = .ok (.aload_n 0, 1) := by decide +kernel
theorem dX10_closes_34 : decode cX10_closes 34 = .ok (.iconst 3, 1) := by decide +kernel
theorem dX10_closes_35 : decode cX10_closes 35 = .ok (.dup2, 1) := by decide +kernel
theorem dX10_closes_36 : decode cX10_closes 36 = .ok (.iaload, 1) := by decide +kernel
theorem dX10_closes_37 : decode cX10_closes 37 = .ok (.iconst 1, 1) := by decide +kernel
theorem dX10_closes_38 : decode cX10_closes 38 = .ok (.isub, 1) := by decide +kernel
theorem dX10_closes_39 : decode cX10_closes 39 = .ok (.iastore, 1) := by decide +kernel
theorem dX10_closes_40 : decode cX10_closes 40 = .ok (.aload_n 0, 1) := by decide +kernel
theorem dX10_closes_41 : decode cX10_closes 41 = .ok (.aload_n 0, 1) := by decide +kernel
theorem dX10_closes_42 : decode cX10_closes 42 = .ok (.invokestatic 161, 3) := by decide +kernel
theorem dX10_closes_45 : decode cX10_closes 45 = .ok (.bipush 94, 2) := by decide +kernel
theorem dX10_closes_47 : decode cX10_closes 47 = .ok (.bipush 10, 2) := by decide +kernel
theorem dX10_closes_49 : decode cX10_closes 49 = .ok (.aload_n 0, 1) := by decide +kernel
theorem dX10_closes_50 : decode cX10_closes 50 = .ok (.iconst 3, 1) := by decide +kernel
theorem dX10_closes_51 : decode cX10_closes 51 = .ok (.iaload, 1) := by decide +kernel
theorem dX10_closes_52 : decode cX10_closes 52 = .ok (.imul, 1) := by decide +kernel
theorem dX10_closes_53 : decode cX10_closes 53 = .ok (.iadd, 1) := by decide +kernel
theorem dX10_closes_54 : decode cX10_closes 54 = .ok (.invokestatic 164, 3) := by decide +kernel
theorem dX10_closes_57 : decode cX10_closes 57 = .ok (.aload_n 0, 1) := by decide +kernel
theorem dX10_closes_58 : decode cX10_closes 58 = .ok (.iconst 3, 1) := by decide +kernel
theorem dX10_closes_59 : decode cX10_closes 59 = .ok (.dup2, 1) := by decide +kernel
theorem dX10_closes_60 : decode cX10_closes 60 = .ok (.iaload, 1) := by decide +kernel
theorem dX10_closes_61 : decode cX10_closes 61 = .ok (.iconst 1, 1) := by decide +kernel
theorem dX10_closes_62 : decode cX10_closes 62 = .ok (.iadd, 1) := by decide +kernel
theorem dX10_closes_63 : decode cX10_closes 63 = .ok (.iastore, 1) := by decide +kernel
theorem dX10_closes_64 : decode cX10_closes 64 = .ok (.aload_n 0, 1) := by decide +kernel
theorem dX10_closes_65 : decode cX10_closes 65 = .ok (.iconst 1, 1) := by decide +kernel
theorem dX10_closes_66 : decode cX10_closes 66 = .ok (.dup2, 1) := by decide +kernel
theorem dX10_closes_67 : decode cX10_closes 67 = .ok (.iaload, 1) := by decide +kernel
theorem dX10_closes_68 : decode cX10_closes 68 = .ok (.iconst 1, 1) := by decide +kernel
theorem dX10_closes_69 : decode cX10_closes 69 = .ok (.isub, 1) := by decide +kernel
theorem dX10_closes_70 : decode cX10_closes 70 = .ok (.iastore, 1) := by decide +kernel
theorem dX10_closes_71 : decode cX10_closes 71 = .ok (.aload_n 0, 1) := by decide +kernel
theorem dX10_closes_72 : decode cX10_closes 72 = .ok (.iconst 2, 1) := by decide +kernel
theorem dX10_closes_73 : decode cX10_closes 73 = .ok (.iaload, 1) := by decide +kernel
theorem dX10_closes_74 : decode cX10_closes 74 = .ok (.istore_n 1, 1) := by decide +kernel
theorem dX10_closes_75 : decode cX10_closes 75 = .ok (.iload_n 1, 1) := by decide +kernel
theorem dX10_closes_76 : decode cX10_closes 76 = .ok (.aload_n 0, 1) := by decide +kernel
theorem dX10_closes_77 : decode cX10_closes 77 = .ok (.iconst 1, 1) := by decide +kernel
theorem dX10_closes_78 : decode cX10_closes 78 = .ok (.iaload, 1) := by decide +kernel
theorem dX10_closes_79 : decode cX10_closes 79 = .ok (.if_icmp .ge 29, 3) := by decide +kernel
theorem dX10_closes_82 : decode cX10_closes 82 = .ok (.aload_n 0, 1) := by decide +kernel
theorem dX10_closes_83 : decode cX10_closes 83 = .ok (.bipush 44, 2) := by decide +kernel
theorem dX10_closes_85 : decode cX10_closes 85 = .ok (.bipush 10, 2) := by decide +kernel
theorem dX10_closes_87 : decode cX10_closes 87 = .ok (.iload_n 1, 1) := by decide +kernel
theorem dX10_closes_88 : decode cX10_closes 88 = .ok (.iconst 1, 1) := by decide +kernel
theorem dX10_closes_89 : decode cX10_closes 89 = .ok (.iadd, 1) := by decide +kernel
theorem dX10_closes_90 : decode cX10_closes 90 = .ok (.imul, 1) := by decide +kernel
theorem dX10_closes_91 : decode cX10_closes 91 = .ok (.iadd, 1) := by decide +kernel
theorem dX10_closes_92 : decode cX10_closes 92 = .ok (.bipush 44, 2) := by decide +kernel
theorem dX10_closes_94 : decode cX10_closes 94 = .ok (.bipush 10, 2) := by decide +kernel
theorem dX10_closes_96 : decode cX10_closes 96 = .ok (.iload_n 1, 1) := by decide +kernel
theorem dX10_closes_97 : decode cX10_closes 97 = .ok (.imul, 1) := by decide +kernel
theorem dX10_closes_98 : decode cX10_closes 98 = .ok (.iadd, 1) := by decide +kernel
theorem dX10_closes_99 : decode cX10_closes 99 = .ok (.invokestatic 164, 3) := by decide +kernel
theorem dX10_closes_102 : decode cX10_closes 102 = .ok (.iinc 1 1, 3) := by decide +kernel
theorem dX10_closes_105 : decode cX10_closes 105 = .ok (.goto (-30), 3) := by decide +kernel
theorem dX10_closes_108 : decode cX10_closes 108 = .ok (.aload_n 0, 1) := by decide +kernel
theorem dX10_closes_109 : decode cX10_closes 109 = .ok (.iconst 2, 1) := by decide +kernel
theorem dX10_closes_110 : decode cX10_closes 110 = .ok (.aload_n 0, 1) := by decide +kernel
theorem dX10_closes_111 : decode cX10_closes 111 = .ok (.iconst 2, 1) := by decide +kernel
theorem dX10_closes_112 : decode cX10_closes 112 = .ok (.iaload, 1) := by decide +kernel
theorem dX10_closes_113 : decode cX10_closes 113 = .ok (.aload_n 0, 1) := by decide +kernel
theorem dX10_closes_114 : decode cX10_closes 114 = .ok (.iconst 1, 1) := by decide +kernel
theorem dX10_closes_115 : decode cX10_closes 115 = .ok (.iaload, 1) := by decide +kernel
theorem dX10_closes_116 : decode cX10_closes 116 = .ok (.if_icmp .ge 9, 3) := by decide +kernel
theorem dX10_closes_119 : decode cX10_closes 119 = .ok (.aload_n 0, 1) := by decide +kernel
theorem dX10_closes_120 : decode cX10_closes 120 = .ok (.iconst 2, 1) := by decide +kernel
theorem dX10_closes_121 : decode cX10_closes 121 = .ok (.iaload, 1) := by decide +kernel
theorem dX10_closes_122 : decode cX10_closes 122 = .ok (.goto 8, 3) := by decide +kernel
theorem dX10_closes_125 : decode cX10_closes 125 = .ok (.aload_n 0, 1) := by decide +kernel
theorem dX10_closes_126 : decode cX10_closes 126 = .ok (.iconst 1, 1) := by decide +kernel
theorem dX10_closes_127 : decode cX10_closes 127 = .ok (.iaload, 1) := by decide +kernel
theorem dX10_closes_128 : decode cX10_closes 128 = .ok (.iconst 1, 1) := by decide +kernel
theorem dX10_closes_129 : decode cX10_closes 129 = .ok (.isub, 1) := by decide +kernel
theorem dX10_closes_130 : decode cX10_closes 130 = .ok (.iastore, 1) := by decide +kernel
theorem dX10_closes_131 : decode cX10_closes 131 = .ok (.return_, 1) := by decide +kernel
theorem dX10_notes_0 : decode cX10_notes 0 = .ok (.aload_n 0, 1) := by decide +kernel
theorem dX10_notes_1 : decode cX10_notes 1 = .ok (.getfield 150, 3) := by decide +kernel
theorem dX10_notes_4 : decode cX10_notes 4 = .ok (.bipush 24, 2) := by decide +kernel
theorem dX10_notes_6 : decode cX10_notes 6 = .ok (.if_icmp .ne 43, 3) := by decide +kernel
theorem dX10_notes_9 : decode cX10_notes 9 = .ok (.iconst 0, 1) := by decide +kernel
theorem dX10_notes_10 : decode cX10_notes 10 = .ok (.istore_n 1, 1) := by decide +kernel
theorem dX10_notes_11 : decode cX10_notes 11 = .ok (.iload_n 1, 1) := by decide +kernel
theorem dX10_notes_12 : decode cX10_notes 12 = .ok (.sipush 2852, 3) := by decide +kernel
theorem dX10_notes_15 : decode cX10_notes 15 = .ok (.if_icmp .ge 24, 3) := by decide +kernel
theorem dX10_notes_18 : decode cX10_notes 18 = .ok (.aload_n 0, 1) := by decide +kernel
theorem dX10_notes_19 : decode cX10_notes 19 = .ok (.getfield 34, 3) := by decide +kernel
theorem dX10_notes_22 : decode cX10_notes 22 = .ok (.iload_n 1, 1) := by decide +kernel
theorem dX10_notes_23 : decode cX10_notes 23 = .ok (.aload_n 0, 1) := by decide +kernel
theorem dX10_notes_24 : decode cX10_notes 24 = .ok (.getfield 34, 3) := by decide +kernel
theorem dX10_notes_27 : decode cX10_notes 27 = .ok (.iload_n 1, 1) := by decide +kernel
theorem dX10_notes_28 : decode cX10_notes 28 = .ok (.bipush 124, 2) := by decide +kernel
theorem dX10_notes_30 : decode cX10_notes 30 = .ok (.iadd, 1) := by decide +kernel
theorem dX10_notes_31 : decode cX10_notes 31 = .ok (.iaload, 1) := by decide +kernel
theorem dX10_notes_32 : decode cX10_notes 32 = .ok (.iastore, 1) := by decide +kernel
theorem dX10_notes_33 : decode cX10_notes 33 = .ok (.iinc 1 1, 3) := by decide +kernel
theorem dX10_notes_36 : decode cX10_notes 36 = .ok (.goto (-25), 3) := by decide +kernel
theorem dX10_notes_39 : decode cX10_notes 39 = .ok (.aload_n 0, 1) := by decide +kernel
theorem dX10_notes_40 : decode cX10_notes 40 = .ok (.dup, 1) := by decide +kernel
theorem dX10_notes_41 : decode cX10_notes 41 = .ok (.getfield 150, 3) := by decide +kernel
theorem dX10_notes_44 : decode cX10_notes 44 = .ok (.iconst 1, 1) := by decide +kernel
theorem dX10_notes_45 : decode cX10_notes 45 = .ok (.isub, 1) := by decide +kernel
theorem dX10_notes_46 : decode cX10_notes 46 = .ok (.putfield 150, 3) := by decide +kernel
theorem dX10_notes_49 : decode cX10_notes 49 = .ok (.aload_n 0, 1) := by decide +kernel
theorem dX10_notes_50 : decode cX10_notes 50 = .ok (.getfield 25, 3) := by decide +kernel
theorem dX10_notes_53 : decode cX10_notes 53 = .ok (.iconst 0, 1) := by decide +kernel
theorem dX10_notes_54 : decode cX10_notes 54 = .ok (.aload_n 0, 1) := by decide +kernel
theorem dX10_notes_55 : decode cX10_notes 55 = .ok (.getfield 34, 3) := by decide +kernel
theorem dX10_notes_58 : decode cX10_notes 58 = .ok (.bipush 124, 2) := by decide +kernel
theorem dX10_notes_60 : decode cX10_notes 60 = .ok (.aload_n 0, 1) := by decide +kernel
theorem dX10_notes_61 : decode cX10_notes 61 = .ok (.getfield 150, 3) := by decide +kernel
theorem dX10_notes_64 : decode cX10_notes 64 = .ok (.imul, 1) := by decide +kernel
theorem dX10_notes_65 : decode cX10_notes 65 = .ok (.invokestatic 146, 3) := by decide +kernel
theorem dX10_notes_68 : decode cX10_notes 68 = .ok (.aload_n 0, 1) := by decide +kernel
theorem dX10_notes_69 : decode cX10_notes 69 = .ok (.dup, 1) := by decide +kernel
theorem dX10_notes_70 : decode cX10_notes 70 = .ok (.getfield 150, 3) := by decide +kernel
theorem dX10_notes_73 : decode cX10_notes 73 = .ok (.iconst 1, 1) := by decide +kernel
theorem dX10_notes_74 : decode cX10_notes 74 = .ok (.iadd, 1) := by decide +kernel
theorem dX10_notes_75 : decode cX10_notes 75 = .ok (.putfield 150, 3) := by decide +kernel
theorem dX10_notes_78 : decode cX10_notes 78 = .ok (.return_, 1) := by decide +kernel
theorem dX10_follow_0 : decode cX10_follow 0 = .ok (.aload_n 0, 1) := by decide +kernel
theorem dX10_follow_1 : decode cX10_follow 1 = .ok (.invokevirtual 179, 3) := by decide +kernel
theorem dX10_follow_4 : decode cX10_follow 4 = .ok (.ifCond .ne 6, 3) := by decide +kernel
theorem dX10_follow_7 : decode cX10_follow 7 = .ok (.ldc 182, 2) := by decide +kernel
theorem dX10_follow_9 : decode cX10_follow 9 = .ok (.ireturn, 1) := by decide +kernel
theorem dX10_follow_10 : decode cX10_follow 10 = .ok (.iload_n 1, 1) := by decide +kernel
theorem dX10_follow_11 : decode cX10_follow 11 = .ok (.iconst 0, 1) := by decide +kernel
theorem dX10_follow_12 : decode cX10_follow 12 = .ok (.iconst 2, 1) := by decide +kernel
theorem dX10_follow_13 : decode cX10_follow 13 = .ok (.invokestatic 62, 3) := by decide +kernel
theorem dX10_follow_16 : decode cX10_follow 16 = .ok (.ifCond .ne 6, 3) := by decide +kernel
theorem dX10_follow_19 : decode cX10_follow 19 = .ok (.ldc 70, 2) := by decide +kernel
theorem dX10_follow_21 : decode cX10_follow 21 = .ok (.ireturn, 1) := by decide +kernel
theorem dX10_follow_22 : decode cX10_follow 22 = .ok (.aload_n 0, 1) := by decide +kernel
theorem dX10_follow_23 : decode cX10_follow 23 = .ok (.getfield 25, 3) := by decide +kernel
theorem dX10_follow_26 : decode cX10_follow 26 = .ok (.iload_n 1, 1) := by decide +kernel
theorem dX10_follow_27 : decode cX10_follow 27 = .ok (.invokestatic 183, 3) := by decide +kernel
theorem dX10_follow_30 : decode cX10_follow 30 = .ok (.ifCond .ne 6, 3) := by decide +kernel
theorem dX10_follow_33 : decode cX10_follow 33 = .ok (.ldc 182, 2) := by decide +kernel
theorem dX10_follow_35 : decode cX10_follow 35 = .ok (.ireturn, 1) := by decide +kernel
theorem dX10_follow_36 : decode cX10_follow 36 = .ok (.aload_n 0, 1) := by decide +kernel
theorem dX10_follow_37 : decode cX10_follow 37 = .ok (.invokevirtual 187, 3) := by decide +kernel
theorem dX10_follow_40 : decode cX10_follow 40 = .ok (.aload_n 0, 1) := by decide +kernel
theorem dX10_follow_41 : decode cX10_follow 41 = .ok (.getfield 25, 3) := by decide +kernel
theorem dX10_follow_44 : decode cX10_follow 44 = .ok (.iload_n 1, 1) := by decide +kernel
theorem dX10_follow_45 : decode cX10_follow 45 = .ok (.invokestatic 190, 3) := by decide +kernel
theorem dX10_follow_48 : decode cX10_follow 48 = .ok (.aload_n 0, 1) := by decide +kernel
theorem dX10_follow_49 : decode cX10_follow 49 = .ok (.getfield 25, 3) := by decide +kernel
theorem dX10_follow_52 : decode cX10_follow 52 = .ok (.invokestatic 157, 3) := by decide +kernel
theorem dX10_follow_55 : decode cX10_follow 55 = .ok (.ireturn, 1) := by decide +kernel
theorem dX10_turned_0 : decode cX10_turned 0 = .ok (.aload_n 0, 1) := by decide +kernel
theorem dX10_turned_1 : decode cX10_turned 1 = .ok (.invokevirtual 179, 3) := by decide +kernel
theorem dX10_turned_4 : decode cX10_turned 4 = .ok (.ifCond .eq 14, 3) := by decide +kernel
theorem dX10_turned_7 : decode cX10_turned 7 = .ok (.aload_n 0, 1) := by decide +kernel
theorem dX10_turned_8 : decode cX10_turned 8 = .ok (.getfield 25, 3) := by decide +kernel
theorem dX10_turned_11 : decode cX10_turned 11 = .ok (.iload_n 1, 1) := by decide +kernel
theorem dX10_turned_12 : decode cX10_turned 12 = .ok (.invokestatic 193, 3) := by decide +kernel
theorem dX10_turned_15 : decode cX10_turned 15 = .ok (.ifCond .ne 6, 3) := by decide +kernel
theorem dX10_turned_18 : decode cX10_turned 18 = .ok (.ldc 182, 2) := by decide +kernel
theorem dX10_turned_20 : decode cX10_turned 20 = .ok (.ireturn, 1) := by decide +kernel
theorem dX10_turned_21 : decode cX10_turned 21 = .ok (.aload_n 0, 1) := by decide +kernel
theorem dX10_turned_22 : decode cX10_turned 22 = .ok (.invokevirtual 187, 3) := by decide +kernel
theorem dX10_turned_25 : decode cX10_turned 25 = .ok (.aload_n 0, 1) := by decide +kernel
theorem dX10_turned_26 : decode cX10_turned 26 = .ok (.getfield 25, 3) := by decide +kernel
theorem dX10_turned_29 : decode cX10_turned 29 = .ok (.iload_n 1, 1) := by decide +kernel
theorem dX10_turned_30 : decode cX10_turned 30 = .ok (.invokestatic 196, 3) := by decide +kernel
theorem dX10_turned_33 : decode cX10_turned 33 = .ok (.aload_n 0, 1) := by decide +kernel
theorem dX10_turned_34 : decode cX10_turned 34 = .ok (.getfield 25, 3) := by decide +kernel
theorem dX10_turned_37 : decode cX10_turned 37 = .ok (.invokestatic 157, 3) := by decide +kernel
theorem dX10_turned_40 : decode cX10_turned 40 = .ok (.ireturn, 1) := by decide +kernel
theorem dX10_back_0 : decode cX10_back 0 = .ok (.aload_n 0, 1) := by decide +kernel
theorem dX10_back_1 : decode cX10_back 1 = .ok (.iconst 0, 1) := by decide +kernel
theorem dX10_back_2 : decode cX10_back 2 = .ok (.invokevirtual 199, 3) := by decide +kernel
theorem dX10_back_5 : decode cX10_back 5 = .ok (.ireturn, 1) := by decide +kernel
theorem dX10_forward_0 : decode cX10_forward 0 = .ok (.aload_n 0, 1) := by decide +kernel
theorem dX10_forward_1 : decode cX10_forward 1 = .ok (.iconst 1, 1) := by decide +kernel
theorem dX10_forward_2 : decode cX10_forward 2 = .ok (.invokevirtual 199, 3) := by decide +kernel
theorem dX10_forward_5 : decode cX10_forward 5 = .ok (.ireturn, 1) := by decide +kernel
theorem dX10_select_0 : decode cX10_select 0 = .ok (.aload_n 0, 1) := by decide +kernel
theorem dX10_select_1 : decode cX10_select 1 = .ok (.iload_n 1, 1) := by decide +kernel
theorem dX10_select_2 : decode cX10_select 2 = .ok (.invokevirtual 202, 3) := by decide +kernel
theorem dX10_select_5 : decode cX10_select 5 = .ok (.ifCond .ne 6, 3) := by decide +kernel
theorem dX10_select_8 : decode cX10_select 8 = .ok (.ldc 70, 2) := by decide +kernel
theorem dX10_select_10 : decode cX10_select 10 = .ok (.ireturn, 1) := by decide +kernel
theorem dX10_select_11 : decode cX10_select 11 = .ok (.aload_n 0, 1) := by decide +kernel
theorem dX10_select_12 : decode cX10_select 12 = .ok (.getfield 25, 3) := by decide +kernel
theorem dX10_select_15 : decode cX10_select 15 = .ok (.iconst 2, 1) := by decide +kernel
theorem dX10_select_16 : decode cX10_select 16 = .ok (.iaload, 1) := by decide +kernel
theorem dX10_select_17 : decode cX10_select 17 = .ok (.istore_n 2, 1) := by decide +kernel
theorem dX10_select_18 : decode cX10_select 18 = .ok (.iload_n 2, 1) := by decide +kernel
theorem dX10_select_19 : decode cX10_select 19 = .ok (.iload_n 1, 1) := by decide +kernel
theorem dX10_select_20 : decode cX10_select 20 = .ok (.if_icmp .ne 6, 3) := by decide +kernel
theorem dX10_select_23 : decode cX10_select 23 = .ok (.ldc 182, 2) := by decide +kernel
theorem dX10_select_25 : decode cX10_select 25 = .ok (.ireturn, 1) := by decide +kernel
theorem dX10_select_26 : decode cX10_select 26 = .ok (.aload_n 0, 1) := by decide +kernel
theorem dX10_select_27 : decode cX10_select 27 = .ok (.invokevirtual 187, 3) := by decide +kernel
theorem dX10_select_30 : decode cX10_select 30 = .ok (.aload_n 0, 1) := by decide +kernel
theorem dX10_select_31 : decode cX10_select 31 = .ok (.getfield 25, 3) := by decide +kernel
theorem dX10_select_34 : decode cX10_select 34 = .ok (.iconst 2, 1) := by decide +kernel
theorem dX10_select_35 : decode cX10_select 35 = .ok (.iload_n 1, 1) := by decide +kernel
theorem dX10_select_36 : decode cX10_select 36 = .ok (.iastore, 1) := by decide +kernel
theorem dX10_select_37 : decode cX10_select 37 = .ok (.iload_n 2, 1) := by decide +kernel
theorem dX10_select_38 : decode cX10_select 38 = .ok (.ireturn, 1) := by decide +kernel
theorem dX10_open_0 : decode cX10_open 0 = .ok (.aload_n 0, 1) := by decide +kernel
theorem dX10_open_1 : decode cX10_open 1 = .ok (.iload_n 1, 1) := by decide +kernel
theorem dX10_open_2 : decode cX10_open 2 = .ok (.invokevirtual 205, 3) := by decide +kernel
theorem dX10_open_5 : decode cX10_open 5 = .ok (.ifCond .ne 6, 3) := by decide +kernel
theorem dX10_open_8 : decode cX10_open 8 = .ok (.ldc 70, 2) := by decide +kernel
theorem dX10_open_10 : decode cX10_open 10 = .ok (.ireturn, 1) := by decide +kernel
theorem dX10_open_11 : decode cX10_open 11 = .ok (.aload_n 0, 1) := by decide +kernel
theorem dX10_open_12 : decode cX10_open 12 = .ok (.getfield 25, 3) := by decide +kernel
theorem dX10_open_15 : decode cX10_open 15 = .ok (.iconst 1, 1) := by decide +kernel
theorem dX10_open_16 : decode cX10_open 16 = .ok (.iaload, 1) := by decide +kernel
theorem dX10_open_17 : decode cX10_open 17 = .ok (.iconst 5, 1) := by decide +kernel
theorem dX10_open_18 : decode cX10_open 18 = .ok (.if_icmp .ne 6, 3) := by decide +kernel
theorem dX10_open_21 : decode cX10_open 21 = .ok (.ldc 182, 2) := by decide +kernel
theorem dX10_open_23 : decode cX10_open 23 = .ok (.ireturn, 1) := by decide +kernel
theorem dX10_open_24 : decode cX10_open 24 = .ok (.aload_n 0, 1) := by decide +kernel
theorem dX10_open_25 : decode cX10_open 25 = .ok (.invokevirtual 187, 3) := by decide +kernel
theorem dX10_open_28 : decode cX10_open 28 = .ok (.aload_n 0, 1) := by decide +kernel
theorem dX10_open_29 : decode cX10_open 29 = .ok (.getfield 25, 3) := by decide +kernel
theorem dX10_open_32 : decode cX10_open 32 = .ok (.iload_n 1, 1) := by decide +kernel
theorem dX10_open_33 : decode cX10_open 33 = .ok (.invokestatic 208, 3) := by decide +kernel
theorem dX10_open_36 : decode cX10_open 36 = .ok (.aload_n 0, 1) := by decide +kernel
theorem dX10_open_37 : decode cX10_open 37 = .ok (.getfield 25, 3) := by decide +kernel
theorem dX10_open_40 : decode cX10_open 40 = .ok (.iconst 1, 1) := by decide +kernel
theorem dX10_open_41 : decode cX10_open 41 = .ok (.iaload, 1) := by decide +kernel
theorem dX10_open_42 : decode cX10_open 42 = .ok (.ireturn, 1) := by decide +kernel
theorem dX10_close_0 : decode cX10_close 0 = .ok (.aload_n 0, 1) := by decide +kernel
theorem dX10_close_1 : decode cX10_close 1 = .ok (.getfield 25, 3) := by decide +kernel
theorem dX10_close_4 : decode cX10_close 4 = .ok (.iconst 1, 1) := by decide +kernel
theorem dX10_close_5 : decode cX10_close 5 = .ok (.iaload, 1) := by decide +kernel
theorem dX10_close_6 : decode cX10_close 6 = .ok (.iconst 2, 1) := by decide +kernel
theorem dX10_close_7 : decode cX10_close 7 = .ok (.if_icmp .ge 6, 3) := by decide +kernel
theorem dX10_close_10 : decode cX10_close 10 = .ok (.ldc 182, 2) := by decide +kernel
theorem dX10_close_12 : decode cX10_close 12 = .ok (.ireturn, 1) := by decide +kernel
theorem dX10_close_13 : decode cX10_close 13 = .ok (.aload_n 0, 1) := by decide +kernel
theorem dX10_close_14 : decode cX10_close 14 = .ok (.invokevirtual 187, 3) := by decide +kernel
theorem dX10_close_17 : decode cX10_close 17 = .ok (.aload_n 0, 1) := by decide +kernel
theorem dX10_close_18 : decode cX10_close 18 = .ok (.getfield 25, 3) := by decide +kernel
theorem dX10_close_21 : decode cX10_close 21 = .ok (.invokestatic 211, 3) := by decide +kernel
theorem dX10_close_24 : decode cX10_close 24 = .ok (.aload_n 0, 1) := by decide +kernel
theorem dX10_close_25 : decode cX10_close 25 = .ok (.getfield 25, 3) := by decide +kernel
theorem dX10_close_28 : decode cX10_close 28 = .ok (.iconst 2, 1) := by decide +kernel
theorem dX10_close_29 : decode cX10_close 29 = .ok (.iaload, 1) := by decide +kernel
theorem dX10_close_30 : decode cX10_close 30 = .ok (.ireturn, 1) := by decide +kernel
theorem dX10_again_0 : decode cX10_again 0 = .ok (.aload_n 0, 1) := by decide +kernel
theorem dX10_again_1 : decode cX10_again 1 = .ok (.getfield 25, 3) := by decide +kernel
theorem dX10_again_4 : decode cX10_again 4 = .ok (.iconst 3, 1) := by decide +kernel
theorem dX10_again_5 : decode cX10_again 5 = .ok (.iaload, 1) := by decide +kernel
theorem dX10_again_6 : decode cX10_again 6 = .ok (.ifCond .eq 13, 3) := by decide +kernel
theorem dX10_again_9 : decode cX10_again 9 = .ok (.aload_n 0, 1) := by decide +kernel
theorem dX10_again_10 : decode cX10_again 10 = .ok (.getfield 25, 3) := by decide +kernel
theorem dX10_again_13 : decode cX10_again 13 = .ok (.iconst 1, 1) := by decide +kernel
theorem dX10_again_14 : decode cX10_again 14 = .ok (.iaload, 1) := by decide +kernel
theorem dX10_again_15 : decode cX10_again 15 = .ok (.iconst 5, 1) := by decide +kernel
theorem dX10_again_16 : decode cX10_again 16 = .ok (.if_icmp .ne 6, 3) := by decide +kernel
theorem dX10_again_19 : decode cX10_again 19 = .ok (.ldc 182, 2) := by decide +kernel
theorem dX10_again_21 : decode cX10_again 21 = .ok (.ireturn, 1) := by decide +kernel
theorem dX10_again_22 : decode cX10_again 22 = .ok (.aload_n 0, 1) := by decide +kernel
theorem dX10_again_23 : decode cX10_again 23 = .ok (.invokevirtual 187, 3) := by decide +kernel
theorem dX10_again_26 : decode cX10_again 26 = .ok (.aload_n 0, 1) := by decide +kernel
theorem dX10_again_27 : decode cX10_again 27 = .ok (.getfield 25, 3) := by decide +kernel
theorem dX10_again_30 : decode cX10_again 30 = .ok (.iconst 3, 1) := by decide +kernel
theorem dX10_again_31 : decode cX10_again 31 = .ok (.dup2, 1) := by decide +kernel
theorem dX10_again_32 : decode cX10_again 32 = .ok (.iaload, 1) := by decide +kernel
theorem dX10_again_33 : decode cX10_again 33 = .ok (.iconst 1, 1) := by decide +kernel
theorem dX10_again_34 : decode cX10_again 34 = .ok (.isub, 1) := by decide +kernel
theorem dX10_again_35 : decode cX10_again 35 = .ok (.iastore, 1) := by decide +kernel
theorem dX10_again_36 : decode cX10_again 36 = .ok (.aload_n 0, 1) := by decide +kernel
theorem dX10_again_37 : decode cX10_again 37 = .ok (.getfield 25, 3) := by decide +kernel
theorem dX10_again_40 : decode cX10_again 40 = .ok (.bipush 94, 2) := by decide +kernel
theorem dX10_again_42 : decode cX10_again 42 = .ok (.bipush 10, 2) := by decide +kernel
theorem dX10_again_44 : decode cX10_again 44 = .ok (.aload_n 0, 1) := by decide +kernel
theorem dX10_again_45 : decode cX10_again 45 = .ok (.getfield 25, 3) := by decide +kernel
theorem dX10_again_48 : decode cX10_again 48 = .ok (.iconst 3, 1) := by decide +kernel
theorem dX10_again_49 : decode cX10_again 49 = .ok (.iaload, 1) := by decide +kernel
theorem dX10_again_50 : decode cX10_again 50 = .ok (.imul, 1) := by decide +kernel
theorem dX10_again_51 : decode cX10_again 51 = .ok (.iadd, 1) := by decide +kernel
theorem dX10_again_52 : decode cX10_again 52 = .ok (.bipush 44, 2) := by decide +kernel
theorem dX10_again_54 : decode cX10_again 54 = .ok (.bipush 10, 2) := by decide +kernel
theorem dX10_again_56 : decode cX10_again 56 = .ok (.aload_n 0, 1) := by decide +kernel
theorem dX10_again_57 : decode cX10_again 57 = .ok (.getfield 25, 3) := by decide +kernel
theorem dX10_again_60 : decode cX10_again 60 = .ok (.iconst 1, 1) := by decide +kernel
theorem dX10_again_61 : decode cX10_again 61 = .ok (.iaload, 1) := by decide +kernel
theorem dX10_again_62 : decode cX10_again 62 = .ok (.imul, 1) := by decide +kernel
theorem dX10_again_63 : decode cX10_again 63 = .ok (.iadd, 1) := by decide +kernel
theorem dX10_again_64 : decode cX10_again 64 = .ok (.invokestatic 164, 3) := by decide +kernel
theorem dX10_again_67 : decode cX10_again 67 = .ok (.aload_n 0, 1) := by decide +kernel
theorem dX10_again_68 : decode cX10_again 68 = .ok (.getfield 25, 3) := by decide +kernel
theorem dX10_again_71 : decode cX10_again 71 = .ok (.iconst 2, 1) := by decide +kernel
theorem dX10_again_72 : decode cX10_again 72 = .ok (.aload_n 0, 1) := by decide +kernel
theorem dX10_again_73 : decode cX10_again 73 = .ok (.getfield 25, 3) := by decide +kernel
theorem dX10_again_76 : decode cX10_again 76 = .ok (.iconst 1, 1) := by decide +kernel
theorem dX10_again_77 : decode cX10_again 77 = .ok (.iaload, 1) := by decide +kernel
theorem dX10_again_78 : decode cX10_again 78 = .ok (.iastore, 1) := by decide +kernel
theorem dX10_again_79 : decode cX10_again 79 = .ok (.aload_n 0, 1) := by decide +kernel
theorem dX10_again_80 : decode cX10_again 80 = .ok (.getfield 25, 3) := by decide +kernel
theorem dX10_again_83 : decode cX10_again 83 = .ok (.iconst 1, 1) := by decide +kernel
theorem dX10_again_84 : decode cX10_again 84 = .ok (.dup2, 1) := by decide +kernel
theorem dX10_again_85 : decode cX10_again 85 = .ok (.iaload, 1) := by decide +kernel
theorem dX10_again_86 : decode cX10_again 86 = .ok (.iconst 1, 1) := by decide +kernel
theorem dX10_again_87 : decode cX10_again 87 = .ok (.iadd, 1) := by decide +kernel
theorem dX10_again_88 : decode cX10_again 88 = .ok (.iastore, 1) := by decide +kernel
theorem dX10_again_89 : decode cX10_again 89 = .ok (.aload_n 0, 1) := by decide +kernel
theorem dX10_again_90 : decode cX10_again 90 = .ok (.getfield 25, 3) := by decide +kernel
theorem dX10_again_93 : decode cX10_again 93 = .ok (.iconst 1, 1) := by decide +kernel
theorem dX10_again_94 : decode cX10_again 94 = .ok (.iaload, 1) := by decide +kernel
theorem dX10_again_95 : decode cX10_again 95 = .ok (.ireturn, 1) := by decide +kernel
theorem dX10_undo_0 : decode cX10_undo 0 = .ok (.aload_n 0, 1) := by decide +kernel
theorem dX10_undo_1 : decode cX10_undo 1 = .ok (.getfield 150, 3) := by decide +kernel
theorem dX10_undo_4 : decode cX10_undo 4 = .ok (.ifCond .ne 6, 3) := by decide +kernel
theorem dX10_undo_7 : decode cX10_undo 7 = .ok (.ldc 182, 2) := by decide +kernel
theorem dX10_undo_9 : decode cX10_undo 9 = .ok (.ireturn, 1) := by decide +kernel
theorem dX10_undo_10 : decode cX10_undo 10 = .ok (.aload_n 0, 1) := by decide +kernel
theorem dX10_undo_11 : decode cX10_undo 11 = .ok (.dup, 1) := by decide +kernel
theorem dX10_undo_12 : decode cX10_undo 12 = .ok (.getfield 150, 3) := by decide +kernel
theorem dX10_undo_15 : decode cX10_undo 15 = .ok (.iconst 1, 1) := by decide +kernel
theorem dX10_undo_16 : decode cX10_undo 16 = .ok (.isub, 1) := by decide +kernel
theorem dX10_undo_17 : decode cX10_undo 17 = .ok (.putfield 150, 3) := by decide +kernel
theorem dX10_undo_20 : decode cX10_undo 20 = .ok (.aload_n 0, 1) := by decide +kernel
theorem dX10_undo_21 : decode cX10_undo 21 = .ok (.getfield 34, 3) := by decide +kernel
theorem dX10_undo_24 : decode cX10_undo 24 = .ok (.bipush 124, 2) := by decide +kernel
theorem dX10_undo_26 : decode cX10_undo 26 = .ok (.aload_n 0, 1) := by decide +kernel
theorem dX10_undo_27 : decode cX10_undo 27 = .ok (.getfield 150, 3) := by decide +kernel
theorem dX10_undo_30 : decode cX10_undo 30 = .ok (.imul, 1) := by decide +kernel
theorem dX10_undo_31 : decode cX10_undo 31 = .ok (.aload_n 0, 1) := by decide +kernel
theorem dX10_undo_32 : decode cX10_undo 32 = .ok (.getfield 25, 3) := by decide +kernel
theorem dX10_undo_35 : decode cX10_undo 35 = .ok (.iconst 0, 1) := by decide +kernel
theorem dX10_undo_36 : decode cX10_undo 36 = .ok (.invokestatic 146, 3) := by decide +kernel
theorem dX10_undo_39 : decode cX10_undo 39 = .ok (.aload_n 0, 1) := by decide +kernel
theorem dX10_undo_40 : decode cX10_undo 40 = .ok (.getfield 150, 3) := by decide +kernel
theorem dX10_undo_43 : decode cX10_undo 43 = .ok (.ireturn, 1) := by decide +kernel
theorem dX10_tab_0 : decode cX10_tab 0 = .ok (.aload_n 0, 1) := by decide +kernel
theorem dX10_tab_1 : decode cX10_tab 1 = .ok (.iload_n 1, 1) := by decide +kernel
theorem dX10_tab_2 : decode cX10_tab 2 = .ok (.invokevirtual 202, 3) := by decide +kernel
theorem dX10_tab_5 : decode cX10_tab 5 = .ok (.ifCond .ne 6, 3) := by decide +kernel
theorem dX10_tab_8 : decode cX10_tab 8 = .ok (.ldc 70, 2) := by decide +kernel
theorem dX10_tab_10 : decode cX10_tab 10 = .ok (.ireturn, 1) := by decide +kernel
theorem dX10_tab_11 : decode cX10_tab 11 = .ok (.iload_n 2, 1) := by decide +kernel
theorem dX10_tab_12 : decode cX10_tab 12 = .ok (.tableswitch 86 0 3 #[32, 41, 56, 71], 32) := by decide +kernel
theorem dX10_tab_44 : decode cX10_tab 44 = .ok (.aload_n 0, 1) := by decide +kernel
theorem dX10_tab_45 : decode cX10_tab 45 = .ok (.getfield 25, 3) := by decide +kernel
theorem dX10_tab_48 : decode cX10_tab 48 = .ok (.iload_n 1, 1) := by decide +kernel
theorem dX10_tab_49 : decode cX10_tab 49 = .ok (.invokestatic 153, 3) := by decide +kernel
theorem dX10_tab_52 : decode cX10_tab 52 = .ok (.ireturn, 1) := by decide +kernel
theorem dX10_tab_53 : decode cX10_tab 53 = .ok (.aload_n 0, 1) := by decide +kernel
theorem dX10_tab_54 : decode cX10_tab 54 = .ok (.getfield 25, 3) := by decide +kernel
theorem dX10_tab_57 : decode cX10_tab 57 = .ok (.bipush 44, 2) := by decide +kernel
theorem dX10_tab_59 : decode cX10_tab 59 = .ok (.bipush 10, 2) := by decide +kernel
theorem dX10_tab_61 : decode cX10_tab 61 = .ok (.iload_n 1, 1) := by decide +kernel
theorem dX10_tab_62 : decode cX10_tab 62 = .ok (.imul, 1) := by decide +kernel
theorem dX10_tab_63 : decode cX10_tab 63 = .ok (.iadd, 1) := by decide +kernel
theorem dX10_tab_64 : decode cX10_tab 64 = .ok (.iconst 1, 1) := by decide +kernel
theorem dX10_tab_65 : decode cX10_tab 65 = .ok (.iadd, 1) := by decide +kernel
theorem dX10_tab_66 : decode cX10_tab 66 = .ok (.iaload, 1) := by decide +kernel
theorem dX10_tab_67 : decode cX10_tab 67 = .ok (.ireturn, 1) := by decide +kernel
theorem dX10_tab_68 : decode cX10_tab 68 = .ok (.aload_n 0, 1) := by decide +kernel
theorem dX10_tab_69 : decode cX10_tab 69 = .ok (.getfield 25, 3) := by decide +kernel
theorem dX10_tab_72 : decode cX10_tab 72 = .ok (.bipush 44, 2) := by decide +kernel
theorem dX10_tab_74 : decode cX10_tab 74 = .ok (.bipush 10, 2) := by decide +kernel
theorem dX10_tab_76 : decode cX10_tab 76 = .ok (.iload_n 1, 1) := by decide +kernel
theorem dX10_tab_77 : decode cX10_tab 77 = .ok (.imul, 1) := by decide +kernel
theorem dX10_tab_78 : decode cX10_tab 78 = .ok (.iadd, 1) := by decide +kernel
theorem dX10_tab_79 : decode cX10_tab 79 = .ok (.iconst 2, 1) := by decide +kernel
theorem dX10_tab_80 : decode cX10_tab 80 = .ok (.iadd, 1) := by decide +kernel
theorem dX10_tab_81 : decode cX10_tab 81 = .ok (.iaload, 1) := by decide +kernel
theorem dX10_tab_82 : decode cX10_tab 82 = .ok (.ireturn, 1) := by decide +kernel
theorem dX10_tab_83 : decode cX10_tab 83 = .ok (.aload_n 0, 1) := by decide +kernel
theorem dX10_tab_84 : decode cX10_tab 84 = .ok (.getfield 25, 3) := by decide +kernel
theorem dX10_tab_87 : decode cX10_tab 87 = .ok (.bipush 44, 2) := by decide +kernel
theorem dX10_tab_89 : decode cX10_tab 89 = .ok (.bipush 10, 2) := by decide +kernel
theorem dX10_tab_91 : decode cX10_tab 91 = .ok (.iload_n 1, 1) := by decide +kernel
theorem dX10_tab_92 : decode cX10_tab 92 = .ok (.imul, 1) := by decide +kernel
theorem dX10_tab_93 : decode cX10_tab 93 = .ok (.iadd, 1) := by decide +kernel
theorem dX10_tab_94 : decode cX10_tab 94 = .ok (.iconst 3, 1) := by decide +kernel
theorem dX10_tab_95 : decode cX10_tab 95 = .ok (.iadd, 1) := by decide +kernel
theorem dX10_tab_96 : decode cX10_tab 96 = .ok (.iaload, 1) := by decide +kernel
theorem dX10_tab_97 : decode cX10_tab 97 = .ok (.ireturn, 1) := by decide +kernel
theorem dX10_tab_98 : decode cX10_tab 98 = .ok (.ldc 70, 2) := by decide +kernel
theorem dX10_tab_100 : decode cX10_tab 100 = .ok (.ireturn, 1) := by decide +kernel
theorem dX10_trail_0 : decode cX10_trail 0 = .ok (.aload_n 0, 1) := by decide +kernel
theorem dX10_trail_1 : decode cX10_trail 1 = .ok (.iload_n 1, 1) := by decide +kernel
theorem dX10_trail_2 : decode cX10_trail 2 = .ok (.invokevirtual 202, 3) := by decide +kernel
theorem dX10_trail_5 : decode cX10_trail 5 = .ok (.ifCond .eq 7, 3) := by decide +kernel
theorem dX10_trail_8 : decode cX10_trail 8 = .ok (.iload_n 2, 1) := by decide +kernel
theorem dX10_trail_9 : decode cX10_trail 9 = .ok (.ifCond .ge 6, 3) := by decide +kernel
theorem dX10_trail_12 : decode cX10_trail 12 = .ok (.ldc 70, 2) := by decide +kernel
theorem dX10_trail_14 : decode cX10_trail 14 = .ok (.ireturn, 1) := by decide +kernel
theorem dX10_trail_15 : decode cX10_trail 15 = .ok (.iload_n 2, 1) := by decide +kernel
theorem dX10_trail_16 : decode cX10_trail 16 = .ok (.aload_n 0, 1) := by decide +kernel
theorem dX10_trail_17 : decode cX10_trail 17 = .ok (.getfield 25, 3) := by decide +kernel
theorem dX10_trail_20 : decode cX10_trail 20 = .ok (.bipush 44, 2) := by decide +kernel
theorem dX10_trail_22 : decode cX10_trail 22 = .ok (.bipush 10, 2) := by decide +kernel
theorem dX10_trail_24 : decode cX10_trail 24 = .ok (.iload_n 1, 1) := by decide +kernel
theorem dX10_trail_25 : decode cX10_trail 25 = .ok (.imul, 1) := by decide +kernel
theorem dX10_trail_26 : decode cX10_trail 26 = .ok (.iadd, 1) := by decide +kernel
theorem dX10_trail_27 : decode cX10_trail 27 = .ok (.iconst 2, 1) := by decide +kernel
theorem dX10_trail_28 : decode cX10_trail 28 = .ok (.iadd, 1) := by decide +kernel
theorem dX10_trail_29 : decode cX10_trail 29 = .ok (.iaload, 1) := by decide +kernel
theorem dX10_trail_30 : decode cX10_trail 30 = .ok (.if_icmp .ge 22, 3) := by decide +kernel
theorem dX10_trail_33 : decode cX10_trail 33 = .ok (.aload_n 0, 1) := by decide +kernel
theorem dX10_trail_34 : decode cX10_trail 34 = .ok (.getfield 25, 3) := by decide +kernel
theorem dX10_trail_37 : decode cX10_trail 37 = .ok (.bipush 44, 2) := by decide +kernel
theorem dX10_trail_39 : decode cX10_trail 39 = .ok (.bipush 10, 2) := by decide +kernel
theorem dX10_trail_41 : decode cX10_trail 41 = .ok (.iload_n 1, 1) := by decide +kernel
theorem dX10_trail_42 : decode cX10_trail 42 = .ok (.imul, 1) := by decide +kernel
theorem dX10_trail_43 : decode cX10_trail 43 = .ok (.iadd, 1) := by decide +kernel
theorem dX10_trail_44 : decode cX10_trail 44 = .ok (.iconst 4, 1) := by decide +kernel
theorem dX10_trail_45 : decode cX10_trail 45 = .ok (.iadd, 1) := by decide +kernel
theorem dX10_trail_46 : decode cX10_trail 46 = .ok (.iload_n 2, 1) := by decide +kernel
theorem dX10_trail_47 : decode cX10_trail 47 = .ok (.iadd, 1) := by decide +kernel
theorem dX10_trail_48 : decode cX10_trail 48 = .ok (.iaload, 1) := by decide +kernel
theorem dX10_trail_49 : decode cX10_trail 49 = .ok (.goto 5, 3) := by decide +kernel
theorem dX10_trail_52 : decode cX10_trail 52 = .ok (.ldc 56, 2) := by decide +kernel
theorem dX10_trail_54 : decode cX10_trail 54 = .ok (.ireturn, 1) := by decide +kernel
theorem dX10_page_0 : decode cX10_page 0 = .ok (.aload_n 0, 1) := by decide +kernel
theorem dX10_page_1 : decode cX10_page 1 = .ok (.iload_n 1, 1) := by decide +kernel
theorem dX10_page_2 : decode cX10_page 2 = .ok (.invokevirtual 205, 3) := by decide +kernel
theorem dX10_page_5 : decode cX10_page 5 = .ok (.ifCond .eq 12, 3) := by decide +kernel
theorem dX10_page_8 : decode cX10_page 8 = .ok (.iload_n 2, 1) := by decide +kernel
theorem dX10_page_9 : decode cX10_page 9 = .ok (.iconst 0, 1) := by decide +kernel
theorem dX10_page_10 : decode cX10_page 10 = .ok (.iconst 4, 1) := by decide +kernel
theorem dX10_page_11 : decode cX10_page 11 = .ok (.invokestatic 62, 3) := by decide +kernel
theorem dX10_page_14 : decode cX10_page 14 = .ok (.ifCond .ne 6, 3) := by decide +kernel
theorem dX10_page_17 : decode cX10_page 17 = .ok (.ldc 70, 2) := by decide +kernel
theorem dX10_page_19 : decode cX10_page 19 = .ok (.ireturn, 1) := by decide +kernel
theorem dX10_page_20 : decode cX10_page 20 = .ok (.iconst 4, 1) := by decide +kernel
theorem dX10_page_21 : decode cX10_page 21 = .ok (.iconst 5, 1) := by decide +kernel
theorem dX10_page_22 : decode cX10_page 22 = .ok (.iload_n 1, 1) := by decide +kernel
theorem dX10_page_23 : decode cX10_page 23 = .ok (.imul, 1) := by decide +kernel
theorem dX10_page_24 : decode cX10_page 24 = .ok (.iadd, 1) := by decide +kernel
theorem dX10_page_25 : decode cX10_page 25 = .ok (.istore_n 3, 1) := by decide +kernel
theorem dX10_page_26 : decode cX10_page 26 = .ok (.iload_n 2, 1) := by decide +kernel
theorem dX10_page_27 : decode cX10_page 27 = .ok (.ifCond .eq 8, 3) := by decide +kernel
theorem dX10_page_30 : decode cX10_page 30 = .ok (.iload_n 2, 1) := by decide +kernel
theorem dX10_page_31 : decode cX10_page 31 = .ok (.iconst 4, 1) := by decide +kernel
theorem dX10_page_32 : decode cX10_page 32 = .ok (.if_icmp .ne 14, 3) := by decide +kernel
theorem dX10_page_35 : decode cX10_page 35 = .ok (.aload_n 0, 1) := by decide +kernel
theorem dX10_page_36 : decode cX10_page 36 = .ok (.getfield 25, 3) := by decide +kernel
theorem dX10_page_39 : decode cX10_page 39 = .ok (.iload_n 3, 1) := by decide +kernel
theorem dX10_page_40 : decode cX10_page 40 = .ok (.iload_n 2, 1) := by decide +kernel
theorem dX10_page_41 : decode cX10_page 41 = .ok (.iadd, 1) := by decide +kernel
theorem dX10_page_42 : decode cX10_page 42 = .ok (.iaload, 1) := by decide +kernel
theorem dX10_page_43 : decode cX10_page 43 = .ok (.goto 26, 3) := by decide +kernel
theorem dX10_page_46 : decode cX10_page 46 = .ok (.iload_n 2, 1) := by decide +kernel
theorem dX10_page_47 : decode cX10_page 47 = .ok (.aload_n 0, 1) := by decide +kernel
theorem dX10_page_48 : decode cX10_page 48 = .ok (.getfield 25, 3) := by decide +kernel
theorem dX10_page_51 : decode cX10_page 51 = .ok (.iload_n 3, 1) := by decide +kernel
theorem dX10_page_52 : decode cX10_page 52 = .ok (.iaload, 1) := by decide +kernel
theorem dX10_page_53 : decode cX10_page 53 = .ok (.if_icmp .le 8, 3) := by decide +kernel
theorem dX10_page_56 : decode cX10_page 56 = .ok (.ldc 56, 2) := by decide +kernel
theorem dX10_page_58 : decode cX10_page 58 = .ok (.goto 11, 3) := by decide +kernel
theorem dX10_page_61 : decode cX10_page 61 = .ok (.aload_n 0, 1) := by decide +kernel
theorem dX10_page_62 : decode cX10_page 62 = .ok (.getfield 25, 3) := by decide +kernel
theorem dX10_page_65 : decode cX10_page 65 = .ok (.iload_n 3, 1) := by decide +kernel
theorem dX10_page_66 : decode cX10_page 66 = .ok (.iload_n 2, 1) := by decide +kernel
theorem dX10_page_67 : decode cX10_page 67 = .ok (.iadd, 1) := by decide +kernel
theorem dX10_page_68 : decode cX10_page 68 = .ok (.iaload, 1) := by decide +kernel
theorem dX10_page_69 : decode cX10_page 69 = .ok (.ireturn, 1) := by decide +kernel
theorem dX10_walk_0 : decode cX10_walk 0 = .ok (.aload_n 0, 1) := by decide +kernel
theorem dX10_walk_1 : decode cX10_walk 1 = .ok (.invokevirtual 179, 3) := by decide +kernel
theorem dX10_walk_4 : decode cX10_walk 4 = .ok (.ifCond .ne 6, 3) := by decide +kernel
theorem dX10_walk_7 : decode cX10_walk 7 = .ok (.ldc 182, 2) := by decide +kernel
theorem dX10_walk_9 : decode cX10_walk 9 = .ok (.ireturn, 1) := by decide +kernel
theorem dX10_walk_10 : decode cX10_walk 10 = .ok (.iload_n 1, 1) := by decide +kernel
theorem dX10_walk_11 : decode cX10_walk 11 = .ok (.iconst 0, 1) := by decide +kernel
theorem dX10_walk_12 : decode cX10_walk 12 = .ok (.bipush 60, 2) := by decide +kernel
theorem dX10_walk_14 : decode cX10_walk 14 = .ok (.invokestatic 62, 3) := by decide +kernel
theorem dX10_walk_17 : decode cX10_walk 17 = .ok (.ifCond .eq 12, 3) := by decide +kernel
theorem dX10_walk_20 : decode cX10_walk 20 = .ok (.iload_n 2, 1) := by decide +kernel
theorem dX10_walk_21 : decode cX10_walk 21 = .ok (.iconst 0, 1) := by decide +kernel
theorem dX10_walk_22 : decode cX10_walk 22 = .ok (.iconst 2, 1) := by decide +kernel
theorem dX10_walk_23 : decode cX10_walk 23 = .ok (.invokestatic 62, 3) := by decide +kernel
theorem dX10_walk_26 : decode cX10_walk 26 = .ok (.ifCond .ne 6, 3) := by decide +kernel
theorem dX10_walk_29 : decode cX10_walk 29 = .ok (.ldc 70, 2) := by decide +kernel
theorem dX10_walk_31 : decode cX10_walk 31 = .ok (.ireturn, 1) := by decide +kernel
theorem dX10_walk_32 : decode cX10_walk 32 = .ok (.aload_n 0, 1) := by decide +kernel
theorem dX10_walk_33 : decode cX10_walk 33 = .ok (.getfield 25, 3) := by decide +kernel
theorem dX10_walk_36 : decode cX10_walk 36 = .ok (.invokestatic 157, 3) := by decide +kernel
theorem dX10_walk_39 : decode cX10_walk 39 = .ok (.istore_n 3, 1) := by decide +kernel
theorem dX10_walk_40 : decode cX10_walk 40 = .ok (.iconst 0, 1) := by decide +kernel
theorem dX10_walk_41 : decode cX10_walk 41 = .ok (.istore 4, 2) := by decide +kernel
theorem dX10_walk_43 : decode cX10_walk 43 = .ok (.iload 4, 2) := by decide +kernel
theorem dX10_walk_45 : decode cX10_walk 45 = .ok (.iload_n 1, 1) := by decide +kernel
theorem dX10_walk_46 : decode cX10_walk 46 = .ok (.if_icmp .ge 47, 3) := by decide +kernel
theorem dX10_walk_49 : decode cX10_walk 49 = .ok (.aload_n 0, 1) := by decide +kernel
theorem dX10_walk_50 : decode cX10_walk 50 = .ok (.getfield 25, 3) := by decide +kernel
theorem dX10_walk_53 : decode cX10_walk 53 = .ok (.iconst 4, 1) := by decide +kernel
theorem dX10_walk_54 : decode cX10_walk 54 = .ok (.iconst 5, 1) := by decide +kernel
theorem dX10_walk_55 : decode cX10_walk 55 = .ok (.iload_n 3, 1) := by decide +kernel
theorem dX10_walk_56 : decode cX10_walk 56 = .ok (.imul, 1) := by decide +kernel
theorem dX10_walk_57 : decode cX10_walk 57 = .ok (.iadd, 1) := by decide +kernel
theorem dX10_walk_58 : decode cX10_walk 58 = .ok (.iaload, 1) := by decide +kernel
theorem dX10_walk_59 : decode cX10_walk 59 = .ok (.istore 5, 2) := by decide +kernel
theorem dX10_walk_61 : decode cX10_walk 61 = .ok (.aload_n 0, 1) := by decide +kernel
theorem dX10_walk_62 : decode cX10_walk 62 = .ok (.getfield 25, 3) := by decide +kernel
theorem dX10_walk_65 : decode cX10_walk 65 = .ok (.iconst 4, 1) := by decide +kernel
theorem dX10_walk_66 : decode cX10_walk 66 = .ok (.iconst 5, 1) := by decide +kernel
theorem dX10_walk_67 : decode cX10_walk 67 = .ok (.iload_n 3, 1) := by decide +kernel
theorem dX10_walk_68 : decode cX10_walk 68 = .ok (.imul, 1) := by decide +kernel
theorem dX10_walk_69 : decode cX10_walk 69 = .ok (.iadd, 1) := by decide +kernel
theorem dX10_walk_70 : decode cX10_walk 70 = .ok (.iload_n 2, 1) := by decide +kernel
theorem dX10_walk_71 : decode cX10_walk 71 = .ok (.iload 5, 2) := by decide +kernel
theorem dX10_walk_73 : decode cX10_walk 73 = .ok (.if_icmp .ge 9, 3) := by decide +kernel
theorem dX10_walk_76 : decode cX10_walk 76 = .ok (.iload_n 2, 1) := by decide +kernel
theorem dX10_walk_77 : decode cX10_walk 77 = .ok (.iconst 1, 1) := by decide +kernel
theorem dX10_walk_78 : decode cX10_walk 78 = .ok (.iadd, 1) := by decide +kernel
theorem dX10_walk_79 : decode cX10_walk 79 = .ok (.goto 5, 3) := by decide +kernel
theorem dX10_walk_82 : decode cX10_walk 82 = .ok (.iload 5, 2) := by decide +kernel
theorem dX10_walk_84 : decode cX10_walk 84 = .ok (.iadd, 1) := by decide +kernel
theorem dX10_walk_85 : decode cX10_walk 85 = .ok (.iaload, 1) := by decide +kernel
theorem dX10_walk_86 : decode cX10_walk 86 = .ok (.istore_n 3, 1) := by decide +kernel
theorem dX10_walk_87 : decode cX10_walk 87 = .ok (.iinc 4 1, 3) := by decide +kernel
theorem dX10_walk_90 : decode cX10_walk 90 = .ok (.goto (-47), 3) := by decide +kernel
theorem dX10_walk_93 : decode cX10_walk 93 = .ok (.iload_n 3, 1) := by decide +kernel
theorem dX10_walk_94 : decode cX10_walk 94 = .ok (.ireturn, 1) := by decide +kernel
theorem dX10_measures_0 : decode cX10_measures 0 = .ok (.iconst 0, 1) := by decide +kernel
theorem dX10_measures_1 : decode cX10_measures 1 = .ok (.istore_n 2, 1) := by decide +kernel
theorem dX10_measures_2 : decode cX10_measures 2 = .ok (.iload_n 2, 1) := by decide +kernel
theorem dX10_measures_3 : decode cX10_measures 3 = .ok (.aload_n 0, 1) := by decide +kernel
theorem dX10_measures_4 : decode cX10_measures 4 = .ok (.getfield 25, 3) := by decide +kernel
theorem dX10_measures_7 : decode cX10_measures 7 = .ok (.iconst 0, 1) := by decide +kernel
theorem dX10_measures_8 : decode cX10_measures 8 = .ok (.iaload, 1) := by decide +kernel
theorem dX10_measures_9 : decode cX10_measures 9 = .ok (.if_icmp .ge 26, 3) := by decide +kernel
theorem dX10_measures_12 : decode cX10_measures 12 = .ok (.aload_n 0, 1) := by decide +kernel
theorem dX10_measures_13 : decode cX10_measures 13 = .ok (.getfield 44, 3) := by decide +kernel
theorem dX10_measures_16 : decode cX10_measures 16 = .ok (.iload_n 2, 1) := by decide +kernel
theorem dX10_measures_17 : decode cX10_measures 17 = .ok (.iload_n 2, 1) := by decide +kernel
theorem dX10_measures_18 : decode cX10_measures 18 = .ok (.iload_n 1, 1) := by decide +kernel
theorem dX10_measures_19 : decode cX10_measures 19 = .ok (.if_icmp .ne 7, 3) := by decide +kernel
theorem dX10_measures_22 : decode cX10_measures 22 = .ok (.iconst 0, 1) := by decide +kernel
theorem dX10_measures_23 : decode cX10_measures 23 = .ok (.goto 5, 3) := by decide +kernel
theorem dX10_measures_26 : decode cX10_measures 26 = .ok (.ldc 56, 2) := by decide +kernel
theorem dX10_measures_28 : decode cX10_measures 28 = .ok (.iastore, 1) := by decide +kernel
theorem dX10_measures_29 : decode cX10_measures 29 = .ok (.iinc 2 1, 3) := by decide +kernel
theorem dX10_measures_32 : decode cX10_measures 32 = .ok (.goto (-30), 3) := by decide +kernel
theorem dX10_measures_35 : decode cX10_measures 35 = .ok (.iconst 0, 1) := by decide +kernel
theorem dX10_measures_36 : decode cX10_measures 36 = .ok (.istore_n 2, 1) := by decide +kernel
theorem dX10_measures_37 : decode cX10_measures 37 = .ok (.iload_n 2, 1) := by decide +kernel
theorem dX10_measures_38 : decode cX10_measures 38 = .ok (.aload_n 0, 1) := by decide +kernel
theorem dX10_measures_39 : decode cX10_measures 39 = .ok (.getfield 25, 3) := by decide +kernel
theorem dX10_measures_42 : decode cX10_measures 42 = .ok (.iconst 0, 1) := by decide +kernel
theorem dX10_measures_43 : decode cX10_measures 43 = .ok (.iaload, 1) := by decide +kernel
theorem dX10_measures_44 : decode cX10_measures 44 = .ok (.if_icmp .ge 108, 3) := by decide +kernel
theorem dX10_measures_47 : decode cX10_measures 47 = .ok (.iconst 0, 1) := by decide +kernel
theorem dX10_measures_48 : decode cX10_measures 48 = .ok (.istore_n 3, 1) := by decide +kernel
theorem dX10_measures_49 : decode cX10_measures 49 = .ok (.iload_n 3, 1) := by decide +kernel
theorem dX10_measures_50 : decode cX10_measures 50 = .ok (.aload_n 0, 1) := by decide +kernel
theorem dX10_measures_51 : decode cX10_measures 51 = .ok (.getfield 25, 3) := by decide +kernel
theorem dX10_measures_54 : decode cX10_measures 54 = .ok (.iconst 0, 1) := by decide +kernel
theorem dX10_measures_55 : decode cX10_measures 55 = .ok (.iaload, 1) := by decide +kernel
theorem dX10_measures_56 : decode cX10_measures 56 = .ok (.if_icmp .ge 90, 3) := by decide +kernel
theorem dX10_measures_59 : decode cX10_measures 59 = .ok (.iconst 1, 1) := by decide +kernel
theorem dX10_measures_60 : decode cX10_measures 60 = .ok (.istore 4, 2) := by decide +kernel
theorem dX10_measures_62 : decode cX10_measures 62 = .ok (.iload 4, 2) := by decide +kernel
theorem dX10_measures_64 : decode cX10_measures 64 = .ok (.aload_n 0, 1) := by decide +kernel
theorem dX10_measures_65 : decode cX10_measures 65 = .ok (.getfield 25, 3) := by decide +kernel
theorem dX10_measures_68 : decode cX10_measures 68 = .ok (.iconst 4, 1) := by decide +kernel
theorem dX10_measures_69 : decode cX10_measures 69 = .ok (.iconst 5, 1) := by decide +kernel
theorem dX10_measures_70 : decode cX10_measures 70 = .ok (.iload_n 3, 1) := by decide +kernel
theorem dX10_measures_71 : decode cX10_measures 71 = .ok (.imul, 1) := by decide +kernel
theorem dX10_measures_72 : decode cX10_measures 72 = .ok (.iadd, 1) := by decide +kernel
theorem dX10_measures_73 : decode cX10_measures 73 = .ok (.iaload, 1) := by decide +kernel
theorem dX10_measures_74 : decode cX10_measures 74 = .ok (.if_icmp .gt 66, 3) := by decide +kernel
theorem dX10_measures_77 : decode cX10_measures 77 = .ok (.aload_n 0, 1) := by decide +kernel
theorem dX10_measures_78 : decode cX10_measures 78 = .ok (.getfield 25, 3) := by decide +kernel
theorem dX10_measures_81 : decode cX10_measures 81 = .ok (.iconst 4, 1) := by decide +kernel
theorem dX10_measures_82 : decode cX10_measures 82 = .ok (.iconst 5, 1) := by decide +kernel
theorem dX10_measures_83 : decode cX10_measures 83 = .ok (.iload_n 3, 1) := by decide +kernel
theorem dX10_measures_84 : decode cX10_measures 84 = .ok (.imul, 1) := by decide +kernel
theorem dX10_measures_85 : decode cX10_measures 85 = .ok (.iadd, 1) := by decide +kernel
theorem dX10_measures_86 : decode cX10_measures 86 = .ok (.iload 4, 2) := by decide +kernel
theorem dX10_measures_88 : decode cX10_measures 88 = .ok (.iadd, 1) := by decide +kernel
theorem dX10_measures_89 : decode cX10_measures 89 = .ok (.iaload, 1) := by decide +kernel
theorem dX10_measures_90 : decode cX10_measures 90 = .ok (.istore 5, 2) := by decide +kernel
theorem dX10_measures_92 : decode cX10_measures 92 = .ok (.aload_n 0, 1) := by decide +kernel
theorem dX10_measures_93 : decode cX10_measures 93 = .ok (.getfield 44, 3) := by decide +kernel
theorem dX10_measures_96 : decode cX10_measures 96 = .ok (.iload 5, 2) := by decide +kernel
theorem dX10_measures_98 : decode cX10_measures 98 = .ok (.aload_n 0, 1) := by decide +kernel
theorem dX10_measures_99 : decode cX10_measures 99 = .ok (.getfield 44, 3) := by decide +kernel
theorem dX10_measures_102 : decode cX10_measures 102 = .ok (.iload_n 3, 1) := by decide +kernel
theorem dX10_measures_103 : decode cX10_measures 103 = .ok (.iaload, 1) := by decide +kernel
theorem dX10_measures_104 : decode cX10_measures 104 = .ok (.iload_n 2, 1) := by decide +kernel
theorem dX10_measures_105 : decode cX10_measures 105 = .ok (.if_icmp .ne 21, 3) := by decide +kernel
theorem dX10_measures_108 : decode cX10_measures 108 = .ok (.aload_n 0, 1) := by decide +kernel
theorem dX10_measures_109 : decode cX10_measures 109 = .ok (.getfield 44, 3) := by decide +kernel
theorem dX10_measures_112 : decode cX10_measures 112 = .ok (.iload 5, 2) := by decide +kernel
theorem dX10_measures_114 : decode cX10_measures 114 = .ok (.iaload, 1) := by decide +kernel
theorem dX10_measures_115 : decode cX10_measures 115 = .ok (.ldc 56, 2) := by decide +kernel
theorem dX10_measures_117 : decode cX10_measures 117 = .ok (.if_icmp .ne 9, 3) := by decide +kernel
theorem dX10_measures_120 : decode cX10_measures 120 = .ok (.iload_n 2, 1) := by decide +kernel
theorem dX10_measures_121 : decode cX10_measures 121 = .ok (.iconst 1, 1) := by decide +kernel
theorem dX10_measures_122 : decode cX10_measures 122 = .ok (.iadd, 1) := by decide +kernel
theorem dX10_measures_123 : decode cX10_measures 123 = .ok (.goto 10, 3) := by decide +kernel
theorem dX10_measures_126 : decode cX10_measures 126 = .ok (.aload_n 0, 1) := by decide +kernel
theorem dX10_measures_127 : decode cX10_measures 127 = .ok (.getfield 44, 3) := by decide +kernel
theorem dX10_measures_130 : decode cX10_measures 130 = .ok (.iload 5, 2) := by decide +kernel
theorem dX10_measures_132 : decode cX10_measures 132 = .ok (.iaload, 1) := by decide +kernel
theorem dX10_measures_133 : decode cX10_measures 133 = .ok (.iastore, 1) := by decide +kernel
theorem dX10_measures_134 : decode cX10_measures 134 = .ok (.iinc 4 1, 3) := by decide +kernel
theorem dX10_measures_137 : decode cX10_measures 137 = .ok (.goto (-75), 3) := by decide +kernel
theorem dX10_measures_140 : decode cX10_measures 140 = .ok (.iinc 3 1, 3) := by decide +kernel
theorem dX10_measures_143 : decode cX10_measures 143 = .ok (.goto (-94), 3) := by decide +kernel
theorem dX10_measures_146 : decode cX10_measures 146 = .ok (.iinc 2 1, 3) := by decide +kernel
theorem dX10_measures_149 : decode cX10_measures 149 = .ok (.goto (-112), 3) := by decide +kernel
theorem dX10_measures_152 : decode cX10_measures 152 = .ok (.return_, 1) := by decide +kernel
theorem dX10_far_0 : decode cX10_far 0 = .ok (.aload_n 0, 1) := by decide +kernel
theorem dX10_far_1 : decode cX10_far 1 = .ok (.iload_n 1, 1) := by decide +kernel
theorem dX10_far_2 : decode cX10_far 2 = .ok (.invokevirtual 205, 3) := by decide +kernel
theorem dX10_far_5 : decode cX10_far 5 = .ok (.ifCond .eq 11, 3) := by decide +kernel
theorem dX10_far_8 : decode cX10_far 8 = .ok (.aload_n 0, 1) := by decide +kernel
theorem dX10_far_9 : decode cX10_far 9 = .ok (.iload_n 2, 1) := by decide +kernel
theorem dX10_far_10 : decode cX10_far 10 = .ok (.invokevirtual 205, 3) := by decide +kernel
theorem dX10_far_13 : decode cX10_far 13 = .ok (.ifCond .ne 6, 3) := by decide +kernel
theorem dX10_far_16 : decode cX10_far 16 = .ok (.ldc 70, 2) := by decide +kernel
theorem dX10_far_18 : decode cX10_far 18 = .ok (.ireturn, 1) := by decide +kernel
theorem dX10_far_19 : decode cX10_far 19 = .ok (.aload_n 0, 1) := by decide +kernel
theorem dX10_far_20 : decode cX10_far 20 = .ok (.iload_n 1, 1) := by decide +kernel
theorem dX10_far_21 : decode cX10_far 21 = .ok (.invokevirtual 214, 3) := by decide +kernel
theorem dX10_far_24 : decode cX10_far 24 = .ok (.aload_n 0, 1) := by decide +kernel
theorem dX10_far_25 : decode cX10_far 25 = .ok (.getfield 44, 3) := by decide +kernel
theorem dX10_far_28 : decode cX10_far 28 = .ok (.iload_n 2, 1) := by decide +kernel
theorem dX10_far_29 : decode cX10_far 29 = .ok (.iaload, 1) := by decide +kernel
theorem dX10_far_30 : decode cX10_far 30 = .ok (.ireturn, 1) := by decide +kernel
theorem dX10_round_0 : decode cX10_round 0 = .ok (.aload_n 0, 1) := by decide +kernel
theorem dX10_round_1 : decode cX10_round 1 = .ok (.iload_n 1, 1) := by decide +kernel
theorem dX10_round_2 : decode cX10_round 2 = .ok (.invokevirtual 205, 3) := by decide +kernel
theorem dX10_round_5 : decode cX10_round 5 = .ok (.ifCond .ne 6, 3) := by decide +kernel
theorem dX10_round_8 : decode cX10_round 8 = .ok (.ldc 70, 2) := by decide +kernel
theorem dX10_round_10 : decode cX10_round 10 = .ok (.ireturn, 1) := by decide +kernel
theorem dX10_round_11 : decode cX10_round 11 = .ok (.iconst 0, 1) := by decide +kernel
theorem dX10_round_12 : decode cX10_round 12 = .ok (.istore_n 2, 1) := by decide +kernel
theorem dX10_round_13 : decode cX10_round 13 = .ok (.iconst 0, 1) := by decide +kernel
theorem dX10_round_14 : decode cX10_round 14 = .ok (.istore_n 3, 1) := by decide +kernel
theorem dX10_round_15 : decode cX10_round 15 = .ok (.iload_n 3, 1) := by decide +kernel
theorem dX10_round_16 : decode cX10_round 16 = .ok (.aload_n 0, 1) := by decide +kernel
theorem dX10_round_17 : decode cX10_round 17 = .ok (.getfield 25, 3) := by decide +kernel
theorem dX10_round_20 : decode cX10_round 20 = .ok (.iconst 0, 1) := by decide +kernel
theorem dX10_round_21 : decode cX10_round 21 = .ok (.iaload, 1) := by decide +kernel
theorem dX10_round_22 : decode cX10_round 22 = .ok (.if_icmp .ge 63, 3) := by decide +kernel
theorem dX10_round_25 : decode cX10_round 25 = .ok (.aload_n 0, 1) := by decide +kernel
theorem dX10_round_26 : decode cX10_round 26 = .ok (.iload_n 3, 1) := by decide +kernel
theorem dX10_round_27 : decode cX10_round 27 = .ok (.invokevirtual 214, 3) := by decide +kernel
theorem dX10_round_30 : decode cX10_round 30 = .ok (.aload_n 0, 1) := by decide +kernel
theorem dX10_round_31 : decode cX10_round 31 = .ok (.getfield 44, 3) := by decide +kernel
theorem dX10_round_34 : decode cX10_round 34 = .ok (.iload_n 1, 1) := by decide +kernel
theorem dX10_round_35 : decode cX10_round 35 = .ok (.iaload, 1) := by decide +kernel
theorem dX10_round_36 : decode cX10_round 36 = .ok (.ldc 56, 2) := by decide +kernel
theorem dX10_round_38 : decode cX10_round 38 = .ok (.if_icmp .eq 7, 3) := by decide +kernel
theorem dX10_round_41 : decode cX10_round 41 = .ok (.iconst 1, 1) := by decide +kernel
theorem dX10_round_42 : decode cX10_round 42 = .ok (.goto 4, 3) := by decide +kernel
theorem dX10_round_45 : decode cX10_round 45 = .ok (.iconst 0, 1) := by decide +kernel
theorem dX10_round_46 : decode cX10_round 46 = .ok (.istore 4, 2) := by decide +kernel
theorem dX10_round_48 : decode cX10_round 48 = .ok (.aload_n 0, 1) := by decide +kernel
theorem dX10_round_49 : decode cX10_round 49 = .ok (.iload_n 1, 1) := by decide +kernel
theorem dX10_round_50 : decode cX10_round 50 = .ok (.invokevirtual 214, 3) := by decide +kernel
theorem dX10_round_53 : decode cX10_round 53 = .ok (.iload_n 2, 1) := by decide +kernel
theorem dX10_round_54 : decode cX10_round 54 = .ok (.iload 4, 2) := by decide +kernel
theorem dX10_round_56 : decode cX10_round 56 = .ok (.ifCond .eq 20, 3) := by decide +kernel
theorem dX10_round_59 : decode cX10_round 59 = .ok (.aload_n 0, 1) := by decide +kernel
theorem dX10_round_60 : decode cX10_round 60 = .ok (.getfield 44, 3) := by decide +kernel
theorem dX10_round_63 : decode cX10_round 63 = .ok (.iload_n 3, 1) := by decide +kernel
theorem dX10_round_64 : decode cX10_round 64 = .ok (.iaload, 1) := by decide +kernel
theorem dX10_round_65 : decode cX10_round 65 = .ok (.ldc 56, 2) := by decide +kernel
theorem dX10_round_67 : decode cX10_round 67 = .ok (.if_icmp .eq 9, 3) := by decide +kernel
theorem dX10_round_70 : decode cX10_round 70 = .ok (.iconst 1, 1) := by decide +kernel
theorem dX10_round_71 : decode cX10_round 71 = .ok (.iload_n 3, 1) := by decide +kernel
theorem dX10_round_72 : decode cX10_round 72 = .ok (.ishl, 1) := by decide +kernel
theorem dX10_round_73 : decode cX10_round 73 = .ok (.goto 4, 3) := by decide +kernel
theorem dX10_round_76 : decode cX10_round 76 = .ok (.iconst 0, 1) := by decide +kernel
theorem dX10_round_77 : decode cX10_round 77 = .ok (.ior, 1) := by decide +kernel
theorem dX10_round_78 : decode cX10_round 78 = .ok (.istore_n 2, 1) := by decide +kernel
theorem dX10_round_79 : decode cX10_round 79 = .ok (.iinc 3 1, 3) := by decide +kernel
theorem dX10_round_82 : decode cX10_round 82 = .ok (.goto (-67), 3) := by decide +kernel
theorem dX10_round_85 : decode cX10_round 85 = .ok (.iload_n 2, 1) := by decide +kernel
theorem dX10_round_86 : decode cX10_round 86 = .ok (.ireturn, 1) := by decide +kernel
theorem dX10_isShown_0 : decode cX10_isShown 0 = .ok (.aload_n 0, 1) := by decide +kernel
theorem dX10_isShown_1 : decode cX10_isShown 1 = .ok (.getfield 25, 3) := by decide +kernel
theorem dX10_isShown_4 : decode cX10_isShown 4 = .ok (.iconst 0, 1) := by decide +kernel
theorem dX10_isShown_5 : decode cX10_isShown 5 = .ok (.aload_n 0, 1) := by decide +kernel
theorem dX10_isShown_6 : decode cX10_isShown 6 = .ok (.getfield 31, 3) := by decide +kernel
theorem dX10_isShown_9 : decode cX10_isShown 9 = .ok (.iconst 0, 1) := by decide +kernel
theorem dX10_isShown_10 : decode cX10_isShown 10 = .ok (.invokestatic 146, 3) := by decide +kernel
theorem dX10_isShown_13 : decode cX10_isShown 13 = .ok (.iconst 1, 1) := by decide +kernel
theorem dX10_isShown_14 : decode cX10_isShown 14 = .ok (.istore 4, 2) := by decide +kernel
theorem dX10_isShown_16 : decode cX10_isShown 16 = .ok (.iconst 1, 1) := by decide +kernel
theorem dX10_isShown_17 : decode cX10_isShown 17 = .ok (.istore 5, 2) := by decide +kernel
theorem dX10_isShown_19 : decode cX10_isShown 19 = .ok (.iload 5, 2) := by decide +kernel
theorem dX10_isShown_21 : decode cX10_isShown 21 = .ok (.iload_n 3, 1) := by decide +kernel
theorem dX10_isShown_22 : decode cX10_isShown 22 = .ok (.if_icmp .ge 15, 3) := by decide +kernel
theorem dX10_isShown_25 : decode cX10_isShown 25 = .ok (.iload 4, 2) := by decide +kernel
theorem dX10_isShown_27 : decode cX10_isShown 27 = .ok (.iconst 5, 1) := by decide +kernel
theorem dX10_isShown_28 : decode cX10_isShown 28 = .ok (.imul, 1) := by decide +kernel
theorem dX10_isShown_29 : decode cX10_isShown 29 = .ok (.istore 4, 2) := by decide +kernel
theorem dX10_isShown_31 : decode cX10_isShown 31 = .ok (.iinc 5 1, 3) := by decide +kernel
theorem dX10_isShown_34 : decode cX10_isShown 34 = .ok (.goto (-15), 3) := by decide +kernel
theorem dX10_isShown_37 : decode cX10_isShown 37 = .ok (.iconst 1, 1) := by decide +kernel
theorem dX10_isShown_38 : decode cX10_isShown 38 = .ok (.istore 5, 2) := by decide +kernel
theorem dX10_isShown_40 : decode cX10_isShown 40 = .ok (.iconst 0, 1) := by decide +kernel
theorem dX10_isShown_41 : decode cX10_isShown 41 = .ok (.istore 6, 2) := by decide +kernel
theorem dX10_isShown_43 : decode cX10_isShown 43 = .ok (.iload 6, 2) := by decide +kernel
theorem dX10_isShown_45 : decode cX10_isShown 45 = .ok (.iload_n 3, 1) := by decide +kernel
theorem dX10_isShown_46 : decode cX10_isShown 46 = .ok (.if_icmp .ge 107, 3) := by decide +kernel
theorem dX10_isShown_49 : decode cX10_isShown 49 = .ok (.iload 5, 2) := by decide +kernel
theorem dX10_isShown_51 : decode cX10_isShown 51 = .ok (.ifCond .eq 102, 3) := by decide +kernel
theorem dX10_isShown_54 : decode cX10_isShown 54 = .ok (.iload_n 2, 1) := by decide +kernel
theorem dX10_isShown_55 : decode cX10_isShown 55 = .ok (.iload 4, 2) := by decide +kernel
theorem dX10_isShown_57 : decode cX10_isShown 57 = .ok (.idiv, 1) := by decide +kernel
theorem dX10_isShown_58 : decode cX10_isShown 58 = .ok (.iconst 5, 1) := by decide +kernel
theorem dX10_isShown_59 : decode cX10_isShown 59 = .ok (.irem, 1) := by decide +kernel
theorem dX10_isShown_60 : decode cX10_isShown 60 = .ok (.istore 7, 2) := by decide +kernel
theorem dX10_isShown_62 : decode cX10_isShown 62 = .ok (.aload_n 0, 1) := by decide +kernel
theorem dX10_isShown_63 : decode cX10_isShown 63 = .ok (.getfield 50, 3) := by decide +kernel
theorem dX10_isShown_66 : decode cX10_isShown 66 = .ok (.iload 6, 2) := by decide +kernel
theorem dX10_isShown_68 : decode cX10_isShown 68 = .ok (.iload 7, 2) := by decide +kernel
theorem dX10_isShown_70 : decode cX10_isShown 70 = .ok (.iastore, 1) := by decide +kernel
theorem dX10_isShown_71 : decode cX10_isShown 71 = .ok (.iload 4, 2) := by decide +kernel
theorem dX10_isShown_73 : decode cX10_isShown 73 = .ok (.iconst 5, 1) := by decide +kernel
theorem dX10_isShown_74 : decode cX10_isShown 74 = .ok (.idiv, 1) := by decide +kernel
theorem dX10_isShown_75 : decode cX10_isShown 75 = .ok (.istore 4, 2) := by decide +kernel
theorem dX10_isShown_77 : decode cX10_isShown 77 = .ok (.iload 7, 2) := by decide +kernel
theorem dX10_isShown_79 : decode cX10_isShown 79 = .ok (.iconst 2, 1) := by decide +kernel
theorem dX10_isShown_80 : decode cX10_isShown 80 = .ok (.if_icmp .ge 15, 3) := by decide +kernel
theorem dX10_isShown_83 : decode cX10_isShown 83 = .ok (.aload_n 0, 1) := by decide +kernel
theorem dX10_isShown_84 : decode cX10_isShown 84 = .ok (.getfield 31, 3) := by decide +kernel
theorem dX10_isShown_87 : decode cX10_isShown 87 = .ok (.iload 7, 2) := by decide +kernel
theorem dX10_isShown_89 : decode cX10_isShown 89 = .ok (.invokestatic 193, 3) := by decide +kernel
theorem dX10_isShown_92 : decode cX10_isShown 92 = .ok (.goto 14, 3) := by decide +kernel
theorem dX10_isShown_95 : decode cX10_isShown 95 = .ok (.aload_n 0, 1) := by decide +kernel
theorem dX10_isShown_96 : decode cX10_isShown 96 = .ok (.getfield 31, 3) := by decide +kernel
theorem dX10_isShown_99 : decode cX10_isShown 99 = .ok (.iload 7, 2) := by decide +kernel
theorem dX10_isShown_101 : decode cX10_isShown 101 = .ok (.iconst 2, 1) := by decide +kernel
theorem dX10_isShown_102 : decode cX10_isShown 102 = .ok (.isub, 1) := by decide +kernel
theorem dX10_isShown_103 : decode cX10_isShown 103 = .ok (.invokestatic 183, 3) := by decide +kernel
theorem dX10_isShown_106 : decode cX10_isShown 106 = .ok (.istore 5, 2) := by decide +kernel
theorem dX10_isShown_108 : decode cX10_isShown 108 = .ok (.iload 5, 2) := by decide +kernel
theorem dX10_isShown_110 : decode cX10_isShown 110 = .ok (.ifCond .eq 21, 3) := by decide +kernel
theorem dX10_isShown_113 : decode cX10_isShown 113 = .ok (.iload 7, 2) := by decide +kernel
theorem dX10_isShown_115 : decode cX10_isShown 115 = .ok (.iconst 2, 1) := by decide +kernel
theorem dX10_isShown_116 : decode cX10_isShown 116 = .ok (.if_icmp .ge 15, 3) := by decide +kernel
theorem dX10_isShown_119 : decode cX10_isShown 119 = .ok (.aload_n 0, 1) := by decide +kernel
theorem dX10_isShown_120 : decode cX10_isShown 120 = .ok (.getfield 31, 3) := by decide +kernel
theorem dX10_isShown_123 : decode cX10_isShown 123 = .ok (.iload 7, 2) := by decide +kernel
theorem dX10_isShown_125 : decode cX10_isShown 125 = .ok (.invokestatic 196, 3) := by decide +kernel
theorem dX10_isShown_128 : decode cX10_isShown 128 = .ok (.goto 19, 3) := by decide +kernel
theorem dX10_isShown_131 : decode cX10_isShown 131 = .ok (.iload 5, 2) := by decide +kernel
theorem dX10_isShown_133 : decode cX10_isShown 133 = .ok (.ifCond .eq 14, 3) := by decide +kernel
theorem dX10_isShown_136 : decode cX10_isShown 136 = .ok (.aload_n 0, 1) := by decide +kernel
theorem dX10_isShown_137 : decode cX10_isShown 137 = .ok (.getfield 31, 3) := by decide +kernel
theorem dX10_isShown_140 : decode cX10_isShown 140 = .ok (.iload 7, 2) := by decide +kernel
theorem dX10_isShown_142 : decode cX10_isShown 142 = .ok (.iconst 2, 1) := by decide +kernel
theorem dX10_isShown_143 : decode cX10_isShown 143 = .ok (.isub, 1) := by decide +kernel
theorem dX10_isShown_144 : decode cX10_isShown 144 = .ok (.invokestatic 190, 3) := by decide +kernel
theorem dX10_isShown_147 : decode cX10_isShown 147 = .ok (.iinc 6 1, 3) := by decide +kernel
theorem dX10_isShown_150 : decode cX10_isShown 150 = .ok (.goto (-107), 3) := by decide +kernel
theorem dX10_isShown_153 : decode cX10_isShown 153 = .ok (.iload 5, 2) := by decide +kernel
theorem dX10_isShown_155 : decode cX10_isShown 155 = .ok (.ifCond .eq 18, 3) := by decide +kernel
theorem dX10_isShown_158 : decode cX10_isShown 158 = .ok (.aload_n 0, 1) := by decide +kernel
theorem dX10_isShown_159 : decode cX10_isShown 159 = .ok (.getfield 31, 3) := by decide +kernel
theorem dX10_isShown_162 : decode cX10_isShown 162 = .ok (.invokestatic 157, 3) := by decide +kernel
theorem dX10_isShown_165 : decode cX10_isShown 165 = .ok (.iload_n 1, 1) := by decide +kernel
theorem dX10_isShown_166 : decode cX10_isShown 166 = .ok (.if_icmp .ne 7, 3) := by decide +kernel
theorem dX10_isShown_169 : decode cX10_isShown 169 = .ok (.iconst 1, 1) := by decide +kernel
theorem dX10_isShown_170 : decode cX10_isShown 170 = .ok (.goto 4, 3) := by decide +kernel
theorem dX10_isShown_173 : decode cX10_isShown 173 = .ok (.iconst 0, 1) := by decide +kernel
theorem dX10_isShown_174 : decode cX10_isShown 174 = .ok (.ireturn, 1) := by decide +kernel
theorem dX10_to_0 : decode cX10_to 0 = .ok (.aload_n 0, 1) := by decide +kernel
theorem dX10_to_1 : decode cX10_to 1 = .ok (.iload_n 1, 1) := by decide +kernel
theorem dX10_to_2 : decode cX10_to 2 = .ok (.invokevirtual 205, 3) := by decide +kernel
theorem dX10_to_5 : decode cX10_to 5 = .ok (.ifCond .eq 8, 3) := by decide +kernel
theorem dX10_to_8 : decode cX10_to 8 = .ok (.iload_n 2, 1) := by decide +kernel
theorem dX10_to_9 : decode cX10_to 9 = .ok (.iconst (-1), 1) := by decide +kernel
theorem dX10_to_10 : decode cX10_to 10 = .ok (.if_icmp .ge 6, 3) := by decide +kernel
theorem dX10_to_13 : decode cX10_to 13 = .ok (.ldc 70, 2) := by decide +kernel
theorem dX10_to_15 : decode cX10_to 15 = .ok (.ireturn, 1) := by decide +kernel
theorem dX10_to_16 : decode cX10_to 16 = .ok (.iconst 1, 1) := by decide +kernel
theorem dX10_to_17 : decode cX10_to 17 = .ok (.istore_n 3, 1) := by decide +kernel
theorem dX10_to_18 : decode cX10_to 18 = .ok (.iconst 0, 1) := by decide +kernel
theorem dX10_to_19 : decode cX10_to 19 = .ok (.istore 4, 2) := by decide +kernel
theorem dX10_to_21 : decode cX10_to 21 = .ok (.iload 4, 2) := by decide +kernel
theorem dX10_to_23 : decode cX10_to 23 = .ok (.iconst 5, 1) := by decide +kernel
theorem dX10_to_24 : decode cX10_to 24 = .ok (.if_icmp .ge 68, 3) := by decide +kernel
theorem dX10_to_27 : decode cX10_to 27 = .ok (.iconst 0, 1) := by decide +kernel
theorem dX10_to_28 : decode cX10_to 28 = .ok (.istore 5, 2) := by decide +kernel
theorem dX10_to_30 : decode cX10_to 30 = .ok (.iload 5, 2) := by decide +kernel
theorem dX10_to_32 : decode cX10_to 32 = .ok (.iload_n 3, 1) := by decide +kernel
theorem dX10_to_33 : decode cX10_to 33 = .ok (.if_icmp .ge 49, 3) := by decide +kernel
theorem dX10_to_36 : decode cX10_to 36 = .ok (.aload_n 0, 1) := by decide +kernel
theorem dX10_to_37 : decode cX10_to 37 = .ok (.iload_n 1, 1) := by decide +kernel
theorem dX10_to_38 : decode cX10_to 38 = .ok (.iload 5, 2) := by decide +kernel
theorem dX10_to_40 : decode cX10_to 40 = .ok (.iload 4, 2) := by decide +kernel
theorem dX10_to_42 : decode cX10_to 42 = .ok (.invokevirtual 217, 3) := by decide +kernel
theorem dX10_to_45 : decode cX10_to 45 = .ok (.ifCond .eq 31, 3) := by decide +kernel
theorem dX10_to_48 : decode cX10_to 48 = .ok (.iload_n 2, 1) := by decide +kernel
theorem dX10_to_49 : decode cX10_to 49 = .ok (.iconst (-1), 1) := by decide +kernel
theorem dX10_to_50 : decode cX10_to 50 = .ok (.if_icmp .ne 8, 3) := by decide +kernel
theorem dX10_to_53 : decode cX10_to 53 = .ok (.iload 4, 2) := by decide +kernel
theorem dX10_to_55 : decode cX10_to 55 = .ok (.goto 20, 3) := by decide +kernel
theorem dX10_to_58 : decode cX10_to 58 = .ok (.iload_n 2, 1) := by decide +kernel
theorem dX10_to_59 : decode cX10_to 59 = .ok (.iload 4, 2) := by decide +kernel
theorem dX10_to_61 : decode cX10_to 61 = .ok (.if_icmp .ge 12, 3) := by decide +kernel
theorem dX10_to_64 : decode cX10_to 64 = .ok (.aload_n 0, 1) := by decide +kernel
theorem dX10_to_65 : decode cX10_to 65 = .ok (.getfield 50, 3) := by decide +kernel
theorem dX10_to_68 : decode cX10_to 68 = .ok (.iload_n 2, 1) := by decide +kernel
theorem dX10_to_69 : decode cX10_to 69 = .ok (.iaload, 1) := by decide +kernel
theorem dX10_to_70 : decode cX10_to 70 = .ok (.goto 5, 3) := by decide +kernel
theorem dX10_to_73 : decode cX10_to 73 = .ok (.ldc 56, 2) := by decide +kernel
theorem dX10_to_75 : decode cX10_to 75 = .ok (.ireturn, 1) := by decide +kernel
theorem dX10_to_76 : decode cX10_to 76 = .ok (.iinc 5 1, 3) := by decide +kernel
theorem dX10_to_79 : decode cX10_to 79 = .ok (.goto (-49), 3) := by decide +kernel
theorem dX10_to_82 : decode cX10_to 82 = .ok (.iload_n 3, 1) := by decide +kernel
theorem dX10_to_83 : decode cX10_to 83 = .ok (.iconst 5, 1) := by decide +kernel
theorem dX10_to_84 : decode cX10_to 84 = .ok (.imul, 1) := by decide +kernel
theorem dX10_to_85 : decode cX10_to 85 = .ok (.istore_n 3, 1) := by decide +kernel
theorem dX10_to_86 : decode cX10_to 86 = .ok (.iinc 4 1, 3) := by decide +kernel
theorem dX10_to_89 : decode cX10_to 89 = .ok (.goto (-68), 3) := by decide +kernel
theorem dX10_to_92 : decode cX10_to 92 = .ok (.ldc 56, 2) := by decide +kernel
theorem dX10_to_94 : decode cX10_to 94 = .ok (.ireturn, 1) := by decide +kernel
theorem dX10_ways_0 : decode cX10_ways 0 = .ok (.aload_n 0, 1) := by decide +kernel
theorem dX10_ways_1 : decode cX10_ways 1 = .ok (.iload_n 1, 1) := by decide +kernel
theorem dX10_ways_2 : decode cX10_ways 2 = .ok (.invokevirtual 205, 3) := by decide +kernel
theorem dX10_ways_5 : decode cX10_ways 5 = .ok (.ifCond .eq 13, 3) := by decide +kernel
theorem dX10_ways_8 : decode cX10_ways 8 = .ok (.iload_n 2, 1) := by decide +kernel
theorem dX10_ways_9 : decode cX10_ways 9 = .ok (.iconst 0, 1) := by decide +kernel
theorem dX10_ways_10 : decode cX10_ways 10 = .ok (.bipush 12, 2) := by decide +kernel
theorem dX10_ways_12 : decode cX10_ways 12 = .ok (.invokestatic 62, 3) := by decide +kernel
theorem dX10_ways_15 : decode cX10_ways 15 = .ok (.ifCond .ne 6, 3) := by decide +kernel
theorem dX10_ways_18 : decode cX10_ways 18 = .ok (.ldc 70, 2) := by decide +kernel
theorem dX10_ways_20 : decode cX10_ways 20 = .ok (.ireturn, 1) := by decide +kernel
theorem dX10_ways_21 : decode cX10_ways 21 = .ok (.aload_n 0, 1) := by decide +kernel
theorem dX10_ways_22 : decode cX10_ways 22 = .ok (.iload_n 2, 1) := by decide +kernel
theorem dX10_ways_23 : decode cX10_ways 23 = .ok (.iconst 0, 1) := by decide +kernel
theorem dX10_ways_24 : decode cX10_ways 24 = .ok (.invokevirtual 220, 3) := by decide +kernel
theorem dX10_ways_27 : decode cX10_ways 27 = .ok (.aload_n 0, 1) := by decide +kernel
theorem dX10_ways_28 : decode cX10_ways 28 = .ok (.getfield 44, 3) := by decide +kernel
theorem dX10_ways_31 : decode cX10_ways 31 = .ok (.iload_n 1, 1) := by decide +kernel
theorem dX10_ways_32 : decode cX10_ways 32 = .ok (.iaload, 1) := by decide +kernel
theorem dX10_ways_33 : decode cX10_ways 33 = .ok (.ireturn, 1) := by decide +kernel
theorem dX10_weighs_0 : decode cX10_weighs 0 = .ok (.iconst 0, 1) := by decide +kernel
theorem dX10_weighs_1 : decode cX10_weighs 1 = .ok (.istore_n 3, 1) := by decide +kernel
theorem dX10_weighs_2 : decode cX10_weighs 2 = .ok (.iload_n 3, 1) := by decide +kernel
theorem dX10_weighs_3 : decode cX10_weighs 3 = .ok (.aload_n 0, 1) := by decide +kernel
theorem dX10_weighs_4 : decode cX10_weighs 4 = .ok (.getfield 25, 3) := by decide +kernel
theorem dX10_weighs_7 : decode cX10_weighs 7 = .ok (.iconst 0, 1) := by decide +kernel
theorem dX10_weighs_8 : decode cX10_weighs 8 = .ok (.iaload, 1) := by decide +kernel
theorem dX10_weighs_9 : decode cX10_weighs 9 = .ok (.if_icmp .ge 31, 3) := by decide +kernel
theorem dX10_weighs_12 : decode cX10_weighs 12 = .ok (.aload_n 0, 1) := by decide +kernel
theorem dX10_weighs_13 : decode cX10_weighs 13 = .ok (.getfield 44, 3) := by decide +kernel
theorem dX10_weighs_16 : decode cX10_weighs 16 = .ok (.iload_n 3, 1) := by decide +kernel
theorem dX10_weighs_17 : decode cX10_weighs 17 = .ok (.iload_n 3, 1) := by decide +kernel
theorem dX10_weighs_18 : decode cX10_weighs 18 = .ok (.aload_n 0, 1) := by decide +kernel
theorem dX10_weighs_19 : decode cX10_weighs 19 = .ok (.getfield 25, 3) := by decide +kernel
theorem dX10_weighs_22 : decode cX10_weighs 22 = .ok (.invokestatic 157, 3) := by decide +kernel
theorem dX10_weighs_25 : decode cX10_weighs 25 = .ok (.if_icmp .ne 7, 3) := by decide +kernel
theorem dX10_weighs_28 : decode cX10_weighs 28 = .ok (.iconst 1, 1) := by decide +kernel
theorem dX10_weighs_29 : decode cX10_weighs 29 = .ok (.goto 4, 3) := by decide +kernel
theorem dX10_weighs_32 : decode cX10_weighs 32 = .ok (.iconst 0, 1) := by decide +kernel
theorem dX10_weighs_33 : decode cX10_weighs 33 = .ok (.iastore, 1) := by decide +kernel
theorem dX10_weighs_34 : decode cX10_weighs 34 = .ok (.iinc 3 1, 3) := by decide +kernel
theorem dX10_weighs_37 : decode cX10_weighs 37 = .ok (.goto (-35), 3) := by decide +kernel
theorem dX10_weighs_40 : decode cX10_weighs 40 = .ok (.iconst 0, 1) := by decide +kernel
theorem dX10_weighs_41 : decode cX10_weighs 41 = .ok (.istore_n 3, 1) := by decide +kernel
theorem dX10_weighs_42 : decode cX10_weighs 42 = .ok (.iload_n 3, 1) := by decide +kernel
theorem dX10_weighs_43 : decode cX10_weighs 43 = .ok (.iload_n 1, 1) := by decide +kernel
theorem dX10_weighs_44 : decode cX10_weighs 44 = .ok (.if_icmp .ge 149, 3) := by decide +kernel
theorem dX10_weighs_47 : decode cX10_weighs 47 = .ok (.iconst 0, 1) := by decide +kernel
theorem dX10_weighs_48 : decode cX10_weighs 48 = .ok (.istore 4, 2) := by decide +kernel
theorem dX10_weighs_50 : decode cX10_weighs 50 = .ok (.iload 4, 2) := by decide +kernel
theorem dX10_weighs_52 : decode cX10_weighs 52 = .ok (.aload_n 0, 1) := by decide +kernel
theorem dX10_weighs_53 : decode cX10_weighs 53 = .ok (.getfield 25, 3) := by decide +kernel
theorem dX10_weighs_56 : decode cX10_weighs 56 = .ok (.iconst 0, 1) := by decide +kernel
theorem dX10_weighs_57 : decode cX10_weighs 57 = .ok (.iaload, 1) := by decide +kernel
theorem dX10_weighs_58 : decode cX10_weighs 58 = .ok (.if_icmp .ge 31, 3) := by decide +kernel
theorem dX10_weighs_61 : decode cX10_weighs 61 = .ok (.aload_n 0, 1) := by decide +kernel
theorem dX10_weighs_62 : decode cX10_weighs 62 = .ok (.getfield 47, 3) := by decide +kernel
theorem dX10_weighs_65 : decode cX10_weighs 65 = .ok (.iload 4, 2) := by decide +kernel
theorem dX10_weighs_67 : decode cX10_weighs 67 = .ok (.aload_n 0, 1) := by decide +kernel
theorem dX10_weighs_68 : decode cX10_weighs 68 = .ok (.getfield 44, 3) := by decide +kernel
theorem dX10_weighs_71 : decode cX10_weighs 71 = .ok (.iload 4, 2) := by decide +kernel
theorem dX10_weighs_73 : decode cX10_weighs 73 = .ok (.iaload, 1) := by decide +kernel
theorem dX10_weighs_74 : decode cX10_weighs 74 = .ok (.iastore, 1) := by decide +kernel
theorem dX10_weighs_75 : decode cX10_weighs 75 = .ok (.aload_n 0, 1) := by decide +kernel
theorem dX10_weighs_76 : decode cX10_weighs 76 = .ok (.getfield 44, 3) := by decide +kernel
theorem dX10_weighs_79 : decode cX10_weighs 79 = .ok (.iload 4, 2) := by decide +kernel
theorem dX10_weighs_81 : decode cX10_weighs 81 = .ok (.iconst 0, 1) := by decide +kernel
theorem dX10_weighs_82 : decode cX10_weighs 82 = .ok (.iastore, 1) := by decide +kernel
theorem dX10_weighs_83 : decode cX10_weighs 83 = .ok (.iinc 4 1, 3) := by decide +kernel
theorem dX10_weighs_86 : decode cX10_weighs 86 = .ok (.goto (-36), 3) := by decide +kernel
theorem dX10_weighs_89 : decode cX10_weighs 89 = .ok (.iconst 0, 1) := by decide +kernel
theorem dX10_weighs_90 : decode cX10_weighs 90 = .ok (.istore 4, 2) := by decide +kernel
theorem dX10_weighs_92 : decode cX10_weighs 92 = .ok (.iload 4, 2) := by decide +kernel
theorem dX10_weighs_94 : decode cX10_weighs 94 = .ok (.aload_n 0, 1) := by decide +kernel
theorem dX10_weighs_95 : decode cX10_weighs 95 = .ok (.getfield 25, 3) := by decide +kernel
theorem dX10_weighs_98 : decode cX10_weighs 98 = .ok (.iconst 0, 1) := by decide +kernel
theorem dX10_weighs_99 : decode cX10_weighs 99 = .ok (.iaload, 1) := by decide +kernel
theorem dX10_weighs_100 : decode cX10_weighs 100 = .ok (.if_icmp .ge 87, 3) := by decide +kernel
theorem dX10_weighs_103 : decode cX10_weighs 103 = .ok (.aload_n 0, 1) := by decide +kernel
theorem dX10_weighs_104 : decode cX10_weighs 104 = .ok (.getfield 25, 3) := by decide +kernel
theorem dX10_weighs_107 : decode cX10_weighs 107 = .ok (.iconst 4, 1) := by decide +kernel
theorem dX10_weighs_108 : decode cX10_weighs 108 = .ok (.iconst 5, 1) := by decide +kernel
theorem dX10_weighs_109 : decode cX10_weighs 109 = .ok (.iload 4, 2) := by decide +kernel
theorem dX10_weighs_111 : decode cX10_weighs 111 = .ok (.imul, 1) := by decide +kernel
theorem dX10_weighs_112 : decode cX10_weighs 112 = .ok (.iadd, 1) := by decide +kernel
theorem dX10_weighs_113 : decode cX10_weighs 113 = .ok (.iaload, 1) := by decide +kernel
theorem dX10_weighs_114 : decode cX10_weighs 114 = .ok (.istore 5, 2) := by decide +kernel
theorem dX10_weighs_116 : decode cX10_weighs 116 = .ok (.iconst 1, 1) := by decide +kernel
theorem dX10_weighs_117 : decode cX10_weighs 117 = .ok (.istore 6, 2) := by decide +kernel
theorem dX10_weighs_119 : decode cX10_weighs 119 = .ok (.iload 6, 2) := by decide +kernel
theorem dX10_weighs_121 : decode cX10_weighs 121 = .ok (.iload 5, 2) := by decide +kernel
theorem dX10_weighs_123 : decode cX10_weighs 123 = .ok (.if_icmp .gt 58, 3) := by decide +kernel
theorem dX10_weighs_126 : decode cX10_weighs 126 = .ok (.aload_n 0, 1) := by decide +kernel
theorem dX10_weighs_127 : decode cX10_weighs 127 = .ok (.getfield 44, 3) := by decide +kernel
theorem dX10_weighs_130 : decode cX10_weighs 130 = .ok (.aload_n 0, 1) := by decide +kernel
theorem dX10_weighs_131 : decode cX10_weighs 131 = .ok (.getfield 25, 3) := by decide +kernel
theorem dX10_weighs_134 : decode cX10_weighs 134 = .ok (.iconst 4, 1) := by decide +kernel
theorem dX10_weighs_135 : decode cX10_weighs 135 = .ok (.iconst 5, 1) := by decide +kernel
theorem dX10_weighs_136 : decode cX10_weighs 136 = .ok (.iload 4, 2) := by decide +kernel
theorem dX10_weighs_138 : decode cX10_weighs 138 = .ok (.imul, 1) := by decide +kernel
theorem dX10_weighs_139 : decode cX10_weighs 139 = .ok (.iadd, 1) := by decide +kernel
theorem dX10_weighs_140 : decode cX10_weighs 140 = .ok (.iload 6, 2) := by decide +kernel
theorem dX10_weighs_142 : decode cX10_weighs 142 = .ok (.iadd, 1) := by decide +kernel
theorem dX10_weighs_143 : decode cX10_weighs 143 = .ok (.iaload, 1) := by decide +kernel
theorem dX10_weighs_144 : decode cX10_weighs 144 = .ok (.dup2, 1) := by decide +kernel
theorem dX10_weighs_145 : decode cX10_weighs 145 = .ok (.iaload, 1) := by decide +kernel
theorem dX10_weighs_146 : decode cX10_weighs 146 = .ok (.iload_n 2, 1) := by decide +kernel
theorem dX10_weighs_147 : decode cX10_weighs 147 = .ok (.ifCond .eq 19, 3) := by decide +kernel
theorem dX10_weighs_150 : decode cX10_weighs 150 = .ok (.aload_n 0, 1) := by decide +kernel
theorem dX10_weighs_151 : decode cX10_weighs 151 = .ok (.getfield 47, 3) := by decide +kernel
theorem dX10_weighs_154 : decode cX10_weighs 154 = .ok (.iload 4, 2) := by decide +kernel
theorem dX10_weighs_156 : decode cX10_weighs 156 = .ok (.iaload, 1) := by decide +kernel
theorem dX10_weighs_157 : decode cX10_weighs 157 = .ok (.bipush 6, 2) := by decide +kernel
theorem dX10_weighs_159 : decode cX10_weighs 159 = .ok (.iload 5, 2) := by decide +kernel
theorem dX10_weighs_161 : decode cX10_weighs 161 = .ok (.idiv, 1) := by decide +kernel
theorem dX10_weighs_162 : decode cX10_weighs 162 = .ok (.imul, 1) := by decide +kernel
theorem dX10_weighs_163 : decode cX10_weighs 163 = .ok (.goto 10, 3) := by decide +kernel
theorem dX10_weighs_166 : decode cX10_weighs 166 = .ok (.aload_n 0, 1) := by decide +kernel
theorem dX10_weighs_167 : decode cX10_weighs 167 = .ok (.getfield 47, 3) := by decide +kernel
theorem dX10_weighs_170 : decode cX10_weighs 170 = .ok (.iload 4, 2) := by decide +kernel
theorem dX10_weighs_172 : decode cX10_weighs 172 = .ok (.iaload, 1) := by decide +kernel
theorem dX10_weighs_173 : decode cX10_weighs 173 = .ok (.iadd, 1) := by decide +kernel
theorem dX10_weighs_174 : decode cX10_weighs 174 = .ok (.iastore, 1) := by decide +kernel
theorem dX10_weighs_175 : decode cX10_weighs 175 = .ok (.iinc 6 1, 3) := by decide +kernel
theorem dX10_weighs_178 : decode cX10_weighs 178 = .ok (.goto (-59), 3) := by decide +kernel
theorem dX10_weighs_181 : decode cX10_weighs 181 = .ok (.iinc 4 1, 3) := by decide +kernel
theorem dX10_weighs_184 : decode cX10_weighs 184 = .ok (.goto (-92), 3) := by decide +kernel
theorem dX10_weighs_187 : decode cX10_weighs 187 = .ok (.iinc 3 1, 3) := by decide +kernel
theorem dX10_weighs_190 : decode cX10_weighs 190 = .ok (.goto (-148), 3) := by decide +kernel
theorem dX10_weighs_193 : decode cX10_weighs 193 = .ok (.return_, 1) := by decide +kernel
theorem dX10_visitsOf_0 : decode cX10_visitsOf 0 = .ok (.iconst 0, 1) := by decide +kernel
theorem dX10_visitsOf_1 : decode cX10_visitsOf 1 = .ok (.istore_n 1, 1) := by decide +kernel
theorem dX10_visitsOf_2 : decode cX10_visitsOf 2 = .ok (.iconst 0, 1) := by decide +kernel
theorem dX10_visitsOf_3 : decode cX10_visitsOf 3 = .ok (.istore_n 2, 1) := by decide +kernel
theorem dX10_visitsOf_4 : decode cX10_visitsOf 4 = .ok (.iload_n 2, 1) := by decide +kernel
theorem dX10_visitsOf_5 : decode cX10_visitsOf 5 = .ok (.aload_n 0, 1) := by decide +kernel
theorem dX10_visitsOf_6 : decode cX10_visitsOf 6 = .ok (.iconst 0, 1) := by decide +kernel
theorem dX10_visitsOf_7 : decode cX10_visitsOf 7 = .ok (.iaload, 1) := by decide +kernel
theorem dX10_visitsOf_8 : decode cX10_visitsOf 8 = .ok (.if_icmp .ge 21, 3) := by decide +kernel
theorem dX10_visitsOf_11 : decode cX10_visitsOf 11 = .ok (.iload_n 1, 1) := by decide +kernel
theorem dX10_visitsOf_12 : decode cX10_visitsOf 12 = .ok (.aload_n 0, 1) := by decide +kernel
theorem dX10_visitsOf_13 : decode cX10_visitsOf 13 = .ok (.iconst 4, 1) := by decide +kernel
theorem dX10_visitsOf_14 : decode cX10_visitsOf 14 = .ok (.iconst 5, 1) := by decide +kernel
theorem dX10_visitsOf_15 : decode cX10_visitsOf 15 = .ok (.iload_n 2, 1) := by decide +kernel
theorem dX10_visitsOf_16 : decode cX10_visitsOf 16 = .ok (.imul, 1) := by decide +kernel
theorem dX10_visitsOf_17 : decode cX10_visitsOf 17 = .ok (.iadd, 1) := by decide +kernel
theorem dX10_visitsOf_18 : decode cX10_visitsOf 18 = .ok (.iconst 4, 1) := by decide +kernel
theorem dX10_visitsOf_19 : decode cX10_visitsOf 19 = .ok (.iadd, 1) := by decide +kernel
theorem dX10_visitsOf_20 : decode cX10_visitsOf 20 = .ok (.iaload, 1) := by decide +kernel
theorem dX10_visitsOf_21 : decode cX10_visitsOf 21 = .ok (.iadd, 1) := by decide +kernel
theorem dX10_visitsOf_22 : decode cX10_visitsOf 22 = .ok (.istore_n 1, 1) := by decide +kernel
theorem dX10_visitsOf_23 : decode cX10_visitsOf 23 = .ok (.iinc 2 1, 3) := by decide +kernel
theorem dX10_visitsOf_26 : decode cX10_visitsOf 26 = .ok (.goto (-22), 3) := by decide +kernel
theorem dX10_visitsOf_29 : decode cX10_visitsOf 29 = .ok (.iload_n 1, 1) := by decide +kernel
theorem dX10_visitsOf_30 : decode cX10_visitsOf 30 = .ok (.ireturn, 1) := by decide +kernel
theorem dX10_share_0 : decode cX10_share 0 = .ok (.aload_n 0, 1) := by decide +kernel
theorem dX10_share_1 : decode cX10_share 1 = .ok (.iload_n 1, 1) := by decide +kernel
theorem dX10_share_2 : decode cX10_share 2 = .ok (.invokevirtual 205, 3) := by decide +kernel
theorem dX10_share_5 : decode cX10_share 5 = .ok (.ifCond .eq 14, 3) := by decide +kernel
theorem dX10_share_8 : decode cX10_share 8 = .ok (.iload_n 2, 1) := by decide +kernel
theorem dX10_share_9 : decode cX10_share 9 = .ok (.iconst 0, 1) := by decide +kernel
theorem dX10_share_10 : decode cX10_share 10 = .ok (.sipush 999, 3) := by decide +kernel
theorem dX10_share_13 : decode cX10_share 13 = .ok (.invokestatic 62, 3) := by decide +kernel
theorem dX10_share_16 : decode cX10_share 16 = .ok (.ifCond .ne 6, 3) := by decide +kernel
theorem dX10_share_19 : decode cX10_share 19 = .ok (.ldc 70, 2) := by decide +kernel
theorem dX10_share_21 : decode cX10_share 21 = .ok (.ireturn, 1) := by decide +kernel
theorem dX10_share_22 : decode cX10_share 22 = .ok (.aload_n 0, 1) := by decide +kernel
theorem dX10_share_23 : decode cX10_share 23 = .ok (.getfield 25, 3) := by decide +kernel
theorem dX10_share_26 : decode cX10_share 26 = .ok (.invokestatic 224, 3) := by decide +kernel
theorem dX10_share_29 : decode cX10_share 29 = .ok (.istore_n 3, 1) := by decide +kernel
theorem dX10_share_30 : decode cX10_share 30 = .ok (.aload_n 0, 1) := by decide +kernel
theorem dX10_share_31 : decode cX10_share 31 = .ok (.getfield 25, 3) := by decide +kernel
theorem dX10_share_34 : decode cX10_share 34 = .ok (.iconst 4, 1) := by decide +kernel
theorem dX10_share_35 : decode cX10_share 35 = .ok (.iconst 5, 1) := by decide +kernel
theorem dX10_share_36 : decode cX10_share 36 = .ok (.iload_n 1, 1) := by decide +kernel
theorem dX10_share_37 : decode cX10_share 37 = .ok (.imul, 1) := by decide +kernel
theorem dX10_share_38 : decode cX10_share 38 = .ok (.iadd, 1) := by decide +kernel
theorem dX10_share_39 : decode cX10_share 39 = .ok (.iconst 4, 1) := by decide +kernel
theorem dX10_share_40 : decode cX10_share 40 = .ok (.iadd, 1) := by decide +kernel
theorem dX10_share_41 : decode cX10_share 41 = .ok (.iaload, 1) := by decide +kernel
theorem dX10_share_42 : decode cX10_share 42 = .ok (.istore 4, 2) := by decide +kernel
theorem dX10_share_44 : decode cX10_share 44 = .ok (.iload 4, 2) := by decide +kernel
theorem dX10_share_46 : decode cX10_share 46 = .ok (.ifCond .ne 5, 3) := by decide +kernel
theorem dX10_share_49 : decode cX10_share 49 = .ok (.iconst 0, 1) := by decide +kernel
theorem dX10_share_50 : decode cX10_share 50 = .ok (.ireturn, 1) := by decide +kernel
theorem dX10_share_51 : decode cX10_share 51 = .ok (.iload_n 2, 1) := by decide +kernel
theorem dX10_share_52 : decode cX10_share 52 = .ok (.istore 5, 2) := by decide +kernel
theorem dX10_share_54 : decode cX10_share 54 = .ok (.iconst 0, 1) := by decide +kernel
theorem dX10_share_55 : decode cX10_share 55 = .ok (.istore 6, 2) := by decide +kernel
theorem dX10_share_57 : decode cX10_share 57 = .ok (.iconst 0, 1) := by decide +kernel
theorem dX10_share_58 : decode cX10_share 58 = .ok (.istore 7, 2) := by decide +kernel
theorem dX10_share_60 : decode cX10_share 60 = .ok (.iload 7, 2) := by decide +kernel
theorem dX10_share_62 : decode cX10_share 62 = .ok (.aload_n 0, 1) := by decide +kernel
theorem dX10_share_63 : decode cX10_share 63 = .ok (.getfield 25, 3) := by decide +kernel
theorem dX10_share_66 : decode cX10_share 66 = .ok (.iconst 0, 1) := by decide +kernel
theorem dX10_share_67 : decode cX10_share 67 = .ok (.iaload, 1) := by decide +kernel
theorem dX10_share_68 : decode cX10_share 68 = .ok (.if_icmp .ge 56, 3) := by decide +kernel
theorem dX10_share_71 : decode cX10_share 71 = .ok (.aload_n 0, 1) := by decide +kernel
theorem dX10_share_72 : decode cX10_share 72 = .ok (.getfield 25, 3) := by decide +kernel
theorem dX10_share_75 : decode cX10_share 75 = .ok (.iconst 4, 1) := by decide +kernel
theorem dX10_share_76 : decode cX10_share 76 = .ok (.iconst 5, 1) := by decide +kernel
theorem dX10_share_77 : decode cX10_share 77 = .ok (.iload 7, 2) := by decide +kernel
theorem dX10_share_79 : decode cX10_share 79 = .ok (.imul, 1) := by decide +kernel
theorem dX10_share_80 : decode cX10_share 80 = .ok (.iadd, 1) := by decide +kernel
theorem dX10_share_81 : decode cX10_share 81 = .ok (.iconst 4, 1) := by decide +kernel
theorem dX10_share_82 : decode cX10_share 82 = .ok (.iadd, 1) := by decide +kernel
theorem dX10_share_83 : decode cX10_share 83 = .ok (.iaload, 1) := by decide +kernel
theorem dX10_share_84 : decode cX10_share 84 = .ok (.istore 8, 2) := by decide +kernel
theorem dX10_share_86 : decode cX10_share 86 = .ok (.iload 5, 2) := by decide +kernel
theorem dX10_share_88 : decode cX10_share 88 = .ok (.iload_n 2, 1) := by decide +kernel
theorem dX10_share_89 : decode cX10_share 89 = .ok (.iload 8, 2) := by decide +kernel
theorem dX10_share_91 : decode cX10_share 91 = .ok (.imul, 1) := by decide +kernel
theorem dX10_share_92 : decode cX10_share 92 = .ok (.iload_n 3, 1) := by decide +kernel
theorem dX10_share_93 : decode cX10_share 93 = .ok (.idiv, 1) := by decide +kernel
theorem dX10_share_94 : decode cX10_share 94 = .ok (.isub, 1) := by decide +kernel
theorem dX10_share_95 : decode cX10_share 95 = .ok (.istore 5, 2) := by decide +kernel
theorem dX10_share_97 : decode cX10_share 97 = .ok (.iload 6, 2) := by decide +kernel
theorem dX10_share_99 : decode cX10_share 99 = .ok (.iload 7, 2) := by decide +kernel
theorem dX10_share_101 : decode cX10_share 101 = .ok (.iload_n 1, 1) := by decide +kernel
theorem dX10_share_102 : decode cX10_share 102 = .ok (.if_icmp .ge 12, 3) := by decide +kernel
theorem dX10_share_105 : decode cX10_share 105 = .ok (.iload 8, 2) := by decide +kernel
theorem dX10_share_107 : decode cX10_share 107 = .ok (.ifCond .le 7, 3) := by decide +kernel
theorem dX10_share_110 : decode cX10_share 110 = .ok (.iconst 1, 1) := by decide +kernel
theorem dX10_share_111 : decode cX10_share 111 = .ok (.goto 4, 3) := by decide +kernel
theorem dX10_share_114 : decode cX10_share 114 = .ok (.iconst 0, 1) := by decide +kernel
theorem dX10_share_115 : decode cX10_share 115 = .ok (.iadd, 1) := by decide +kernel
theorem dX10_share_116 : decode cX10_share 116 = .ok (.istore 6, 2) := by decide +kernel
theorem dX10_share_118 : decode cX10_share 118 = .ok (.iinc 7 1, 3) := by decide +kernel
theorem dX10_share_121 : decode cX10_share 121 = .ok (.goto (-61), 3) := by decide +kernel
theorem dX10_share_124 : decode cX10_share 124 = .ok (.iload_n 2, 1) := by decide +kernel
theorem dX10_share_125 : decode cX10_share 125 = .ok (.iload 4, 2) := by decide +kernel
theorem dX10_share_127 : decode cX10_share 127 = .ok (.imul, 1) := by decide +kernel
theorem dX10_share_128 : decode cX10_share 128 = .ok (.iload_n 3, 1) := by decide +kernel
theorem dX10_share_129 : decode cX10_share 129 = .ok (.idiv, 1) := by decide +kernel
theorem dX10_share_130 : decode cX10_share 130 = .ok (.iload 6, 2) := by decide +kernel
theorem dX10_share_132 : decode cX10_share 132 = .ok (.iload 5, 2) := by decide +kernel
theorem dX10_share_134 : decode cX10_share 134 = .ok (.if_icmp .ge 7, 3) := by decide +kernel
theorem dX10_share_137 : decode cX10_share 137 = .ok (.iconst 1, 1) := by decide +kernel
theorem dX10_share_138 : decode cX10_share 138 = .ok (.goto 4, 3) := by decide +kernel
theorem dX10_share_141 : decode cX10_share 141 = .ok (.iconst 0, 1) := by decide +kernel
theorem dX10_share_142 : decode cX10_share 142 = .ok (.iadd, 1) := by decide +kernel
theorem dX10_share_143 : decode cX10_share 143 = .ok (.ireturn, 1) := by decide +kernel
theorem dX10_isSeen_0 : decode cX10_isSeen 0 = .ok (.aload_n 0, 1) := by decide +kernel
theorem dX10_isSeen_1 : decode cX10_isSeen 1 = .ok (.getfield 25, 3) := by decide +kernel
theorem dX10_isSeen_4 : decode cX10_isSeen 4 = .ok (.iconst 0, 1) := by decide +kernel
theorem dX10_isSeen_5 : decode cX10_isSeen 5 = .ok (.aload_n 0, 1) := by decide +kernel
theorem dX10_isSeen_6 : decode cX10_isSeen 6 = .ok (.getfield 31, 3) := by decide +kernel
theorem dX10_isSeen_9 : decode cX10_isSeen 9 = .ok (.iconst 0, 1) := by decide +kernel
theorem dX10_isSeen_10 : decode cX10_isSeen 10 = .ok (.invokestatic 146, 3) := by decide +kernel
theorem dX10_isSeen_13 : decode cX10_isSeen 13 = .ok (.aload_n 0, 1) := by decide +kernel
theorem dX10_isSeen_14 : decode cX10_isSeen 14 = .ok (.getfield 31, 3) := by decide +kernel
theorem dX10_isSeen_17 : decode cX10_isSeen 17 = .ok (.iload_n 3, 1) := by decide +kernel
theorem dX10_isSeen_18 : decode cX10_isSeen 18 = .ok (.iload 4, 2) := by decide +kernel
theorem dX10_isSeen_20 : decode cX10_isSeen 20 = .ok (.iastore, 1) := by decide +kernel
theorem dX10_isSeen_21 : decode cX10_isSeen 21 = .ok (.iconst 1, 1) := by decide +kernel
theorem dX10_isSeen_22 : decode cX10_isSeen 22 = .ok (.istore 5, 2) := by decide +kernel
theorem dX10_isSeen_24 : decode cX10_isSeen 24 = .ok (.iconst 0, 1) := by decide +kernel
theorem dX10_isSeen_25 : decode cX10_isSeen 25 = .ok (.istore 6, 2) := by decide +kernel
theorem dX10_isSeen_27 : decode cX10_isSeen 27 = .ok (.iload 6, 2) := by decide +kernel
theorem dX10_isSeen_29 : decode cX10_isSeen 29 = .ok (.iload_n 2, 1) := by decide +kernel
theorem dX10_isSeen_30 : decode cX10_isSeen 30 = .ok (.if_icmp .ge 59, 3) := by decide +kernel
theorem dX10_isSeen_33 : decode cX10_isSeen 33 = .ok (.aload_n 0, 1) := by decide +kernel
theorem dX10_isSeen_34 : decode cX10_isSeen 34 = .ok (.getfield 31, 3) := by decide +kernel
theorem dX10_isSeen_37 : decode cX10_isSeen 37 = .ok (.iconst 0, 1) := by decide +kernel
theorem dX10_isSeen_38 : decode cX10_isSeen 38 = .ok (.invokestatic 183, 3) := by decide +kernel
theorem dX10_isSeen_41 : decode cX10_isSeen 41 = .ok (.ifCond .eq 11, 3) := by decide +kernel
theorem dX10_isSeen_44 : decode cX10_isSeen 44 = .ok (.aload_n 0, 1) := by decide +kernel
theorem dX10_isSeen_45 : decode cX10_isSeen 45 = .ok (.getfield 31, 3) := by decide +kernel
theorem dX10_isSeen_48 : decode cX10_isSeen 48 = .ok (.iconst 0, 1) := by decide +kernel
theorem dX10_isSeen_49 : decode cX10_isSeen 49 = .ok (.invokestatic 190, 3) := by decide +kernel
theorem dX10_isSeen_52 : decode cX10_isSeen 52 = .ok (.iload 5, 2) := by decide +kernel
theorem dX10_isSeen_54 : decode cX10_isSeen 54 = .ok (.ifCond .eq 26, 3) := by decide +kernel
theorem dX10_isSeen_57 : decode cX10_isSeen 57 = .ok (.aload_n 0, 1) := by decide +kernel
theorem dX10_isSeen_58 : decode cX10_isSeen 58 = .ok (.getfield 31, 3) := by decide +kernel
theorem dX10_isSeen_61 : decode cX10_isSeen 61 = .ok (.invokestatic 157, 3) := by decide +kernel
theorem dX10_isSeen_64 : decode cX10_isSeen 64 = .ok (.aload_n 0, 1) := by decide +kernel
theorem dX10_isSeen_65 : decode cX10_isSeen 65 = .ok (.getfield 16, 3) := by decide +kernel
theorem dX10_isSeen_68 : decode cX10_isSeen 68 = .ok (.iload_n 1, 1) := by decide +kernel
theorem dX10_isSeen_69 : decode cX10_isSeen 69 = .ok (.iload 6, 2) := by decide +kernel
theorem dX10_isSeen_71 : decode cX10_isSeen 71 = .ok (.iadd, 1) := by decide +kernel
theorem dX10_isSeen_72 : decode cX10_isSeen 72 = .ok (.iaload, 1) := by decide +kernel
theorem dX10_isSeen_73 : decode cX10_isSeen 73 = .ok (.if_icmp .ne 7, 3) := by decide +kernel
theorem dX10_isSeen_76 : decode cX10_isSeen 76 = .ok (.iconst 1, 1) := by decide +kernel
theorem dX10_isSeen_77 : decode cX10_isSeen 77 = .ok (.goto 4, 3) := by decide +kernel
theorem dX10_isSeen_80 : decode cX10_isSeen 80 = .ok (.iconst 0, 1) := by decide +kernel
theorem dX10_isSeen_81 : decode cX10_isSeen 81 = .ok (.istore 5, 2) := by decide +kernel
theorem dX10_isSeen_83 : decode cX10_isSeen 83 = .ok (.iinc 6 1, 3) := by decide +kernel
theorem dX10_isSeen_86 : decode cX10_isSeen 86 = .ok (.goto (-59), 3) := by decide +kernel
theorem dX10_isSeen_89 : decode cX10_isSeen 89 = .ok (.iload 5, 2) := by decide +kernel
theorem dX10_isSeen_91 : decode cX10_isSeen 91 = .ok (.ireturn, 1) := by decide +kernel
theorem dX10_fits_0 : decode cX10_fits 0 = .ok (.aload_n 0, 1) := by decide +kernel
theorem dX10_fits_1 : decode cX10_fits 1 = .ok (.iload_n 1, 1) := by decide +kernel
theorem dX10_fits_2 : decode cX10_fits 2 = .ok (.invokevirtual 205, 3) := by decide +kernel
theorem dX10_fits_5 : decode cX10_fits 5 = .ok (.ifCond .eq 31, 3) := by decide +kernel
theorem dX10_fits_8 : decode cX10_fits 8 = .ok (.iload_n 2, 1) := by decide +kernel
theorem dX10_fits_9 : decode cX10_fits 9 = .ok (.invokestatic 66, 3) := by decide +kernel
theorem dX10_fits_12 : decode cX10_fits 12 = .ok (.ifCond .eq 24, 3) := by decide +kernel
theorem dX10_fits_15 : decode cX10_fits 15 = .ok (.iload 4, 2) := by decide +kernel
theorem dX10_fits_17 : decode cX10_fits 17 = .ok (.iconst 1, 1) := by decide +kernel
theorem dX10_fits_18 : decode cX10_fits 18 = .ok (.bipush 12, 2) := by decide +kernel
theorem dX10_fits_20 : decode cX10_fits 20 = .ok (.invokestatic 62, 3) := by decide +kernel
theorem dX10_fits_23 : decode cX10_fits 23 = .ok (.ifCond .eq 13, 3) := by decide +kernel
theorem dX10_fits_26 : decode cX10_fits 26 = .ok (.iload 5, 2) := by decide +kernel
theorem dX10_fits_28 : decode cX10_fits 28 = .ok (.iconst 0, 1) := by decide +kernel
theorem dX10_fits_29 : decode cX10_fits 29 = .ok (.iconst 3, 1) := by decide +kernel
theorem dX10_fits_30 : decode cX10_fits 30 = .ok (.invokestatic 62, 3) := by decide +kernel
theorem dX10_fits_33 : decode cX10_fits 33 = .ok (.ifCond .ne 6, 3) := by decide +kernel
theorem dX10_fits_36 : decode cX10_fits 36 = .ok (.ldc 70, 2) := by decide +kernel
theorem dX10_fits_38 : decode cX10_fits 38 = .ok (.ireturn, 1) := by decide +kernel
theorem dX10_fits_39 : decode cX10_fits 39 = .ok (.aload_n 0, 1) := by decide +kernel
theorem dX10_fits_40 : decode cX10_fits 40 = .ok (.iload_n 2, 1) := by decide +kernel
theorem dX10_fits_41 : decode cX10_fits 41 = .ok (.invokevirtual 78, 3) := by decide +kernel
theorem dX10_fits_44 : decode cX10_fits 44 = .ok (.ifCond .eq 9, 3) := by decide +kernel
theorem dX10_fits_47 : decode cX10_fits 47 = .ok (.aload_n 0, 1) := by decide +kernel
theorem dX10_fits_48 : decode cX10_fits 48 = .ok (.iconst 1, 1) := by decide +kernel
theorem dX10_fits_49 : decode cX10_fits 49 = .ok (.invokevirtual 71, 3) := by decide +kernel
theorem dX10_fits_52 : decode cX10_fits 52 = .ok (.ireturn, 1) := by decide +kernel
theorem dX10_fits_53 : decode cX10_fits 53 = .ok (.aload_n 0, 1) := by decide +kernel
theorem dX10_fits_54 : decode cX10_fits 54 = .ok (.iload_n 2, 1) := by decide +kernel
theorem dX10_fits_55 : decode cX10_fits 55 = .ok (.iload_n 3, 1) := by decide +kernel
theorem dX10_fits_56 : decode cX10_fits 56 = .ok (.iload 4, 2) := by decide +kernel
theorem dX10_fits_58 : decode cX10_fits 58 = .ok (.invokevirtual 85, 3) := by decide +kernel
theorem dX10_fits_61 : decode cX10_fits 61 = .ok (.ifCond .ne 9, 3) := by decide +kernel
theorem dX10_fits_64 : decode cX10_fits 64 = .ok (.aload_n 0, 1) := by decide +kernel
theorem dX10_fits_65 : decode cX10_fits 65 = .ok (.iconst 2, 1) := by decide +kernel
theorem dX10_fits_66 : decode cX10_fits 66 = .ok (.invokevirtual 71, 3) := by decide +kernel
theorem dX10_fits_69 : decode cX10_fits 69 = .ok (.ireturn, 1) := by decide +kernel
theorem dX10_fits_70 : decode cX10_fits 70 = .ok (.aload_n 0, 1) := by decide +kernel
theorem dX10_fits_71 : decode cX10_fits 71 = .ok (.getfield 25, 3) := by decide +kernel
theorem dX10_fits_74 : decode cX10_fits 74 = .ok (.invokestatic 161, 3) := by decide +kernel
theorem dX10_fits_77 : decode cX10_fits 77 = .ok (.istore 6, 2) := by decide +kernel
theorem dX10_fits_79 : decode cX10_fits 79 = .ok (.iload 5, 2) := by decide +kernel
theorem dX10_fits_81 : decode cX10_fits 81 = .ok (.ifCond .ne 8, 3) := by decide +kernel
theorem dX10_fits_84 : decode cX10_fits 84 = .ok (.iload 6, 2) := by decide +kernel
theorem dX10_fits_86 : decode cX10_fits 86 = .ok (.goto 46, 3) := by decide +kernel
theorem dX10_fits_89 : decode cX10_fits 89 = .ok (.iload 5, 2) := by decide +kernel
theorem dX10_fits_91 : decode cX10_fits 91 = .ok (.iconst 1, 1) := by decide +kernel
theorem dX10_fits_92 : decode cX10_fits 92 = .ok (.if_icmp .ne 20, 3) := by decide +kernel
theorem dX10_fits_95 : decode cX10_fits 95 = .ok (.iload 6, 2) := by decide +kernel
theorem dX10_fits_97 : decode cX10_fits 97 = .ok (.iconst 4, 1) := by decide +kernel
theorem dX10_fits_98 : decode cX10_fits 98 = .ok (.iadd, 1) := by decide +kernel
theorem dX10_fits_99 : decode cX10_fits 99 = .ok (.aload_n 0, 1) := by decide +kernel
theorem dX10_fits_100 : decode cX10_fits 100 = .ok (.getfield 25, 3) := by decide +kernel
theorem dX10_fits_103 : decode cX10_fits 103 = .ok (.iload 6, 2) := by decide +kernel
theorem dX10_fits_105 : decode cX10_fits 105 = .ok (.iconst 3, 1) := by decide +kernel
theorem dX10_fits_106 : decode cX10_fits 106 = .ok (.iadd, 1) := by decide +kernel
theorem dX10_fits_107 : decode cX10_fits 107 = .ok (.iaload, 1) := by decide +kernel
theorem dX10_fits_108 : decode cX10_fits 108 = .ok (.iadd, 1) := by decide +kernel
theorem dX10_fits_109 : decode cX10_fits 109 = .ok (.goto 23, 3) := by decide +kernel
theorem dX10_fits_112 : decode cX10_fits 112 = .ok (.iload 5, 2) := by decide +kernel
theorem dX10_fits_114 : decode cX10_fits 114 = .ok (.iconst 2, 1) := by decide +kernel
theorem dX10_fits_115 : decode cX10_fits 115 = .ok (.if_icmp .ne 13, 3) := by decide +kernel
theorem dX10_fits_118 : decode cX10_fits 118 = .ok (.iconst 4, 1) := by decide +kernel
theorem dX10_fits_119 : decode cX10_fits 119 = .ok (.iconst 5, 1) := by decide +kernel
theorem dX10_fits_120 : decode cX10_fits 120 = .ok (.iload_n 1, 1) := by decide +kernel
theorem dX10_fits_121 : decode cX10_fits 121 = .ok (.imul, 1) := by decide +kernel
theorem dX10_fits_122 : decode cX10_fits 122 = .ok (.iadd, 1) := by decide +kernel
theorem dX10_fits_123 : decode cX10_fits 123 = .ok (.iconst 1, 1) := by decide +kernel
theorem dX10_fits_124 : decode cX10_fits 124 = .ok (.iadd, 1) := by decide +kernel
theorem dX10_fits_125 : decode cX10_fits 125 = .ok (.goto 7, 3) := by decide +kernel
theorem dX10_fits_128 : decode cX10_fits 128 = .ok (.iload 6, 2) := by decide +kernel
theorem dX10_fits_130 : decode cX10_fits 130 = .ok (.iconst 1, 1) := by decide +kernel
theorem dX10_fits_131 : decode cX10_fits 131 = .ok (.iadd, 1) := by decide +kernel
theorem dX10_fits_132 : decode cX10_fits 132 = .ok (.istore 7, 2) := by decide +kernel
theorem dX10_fits_134 : decode cX10_fits 134 = .ok (.iconst 0, 1) := by decide +kernel
theorem dX10_fits_135 : decode cX10_fits 135 = .ok (.istore 8, 2) := by decide +kernel
theorem dX10_fits_137 : decode cX10_fits 137 = .ok (.iload 5, 2) := by decide +kernel
theorem dX10_fits_139 : decode cX10_fits 139 = .ok (.ifCond .ne 7, 3) := by decide +kernel
theorem dX10_fits_142 : decode cX10_fits 142 = .ok (.iconst 1, 1) := by decide +kernel
theorem dX10_fits_143 : decode cX10_fits 143 = .ok (.goto 4, 3) := by decide +kernel
theorem dX10_fits_146 : decode cX10_fits 146 = .ok (.iconst 0, 1) := by decide +kernel
theorem dX10_fits_147 : decode cX10_fits 147 = .ok (.istore 9, 2) := by decide +kernel
theorem dX10_fits_149 : decode cX10_fits 149 = .ok (.iload 9, 2) := by decide +kernel
theorem dX10_fits_151 : decode cX10_fits 151 = .ok (.iload 5, 2) := by decide +kernel
theorem dX10_fits_153 : decode cX10_fits 153 = .ok (.ifCond .ne 8, 3) := by decide +kernel
theorem dX10_fits_156 : decode cX10_fits 156 = .ok (.bipush 6, 2) := by decide +kernel
theorem dX10_fits_158 : decode cX10_fits 158 = .ok (.goto 9, 3) := by decide +kernel
theorem dX10_fits_161 : decode cX10_fits 161 = .ok (.aload_n 0, 1) := by decide +kernel
theorem dX10_fits_162 : decode cX10_fits 162 = .ok (.getfield 25, 3) := by decide +kernel
theorem dX10_fits_165 : decode cX10_fits 165 = .ok (.iconst 0, 1) := by decide +kernel
theorem dX10_fits_166 : decode cX10_fits 166 = .ok (.iaload, 1) := by decide +kernel
theorem dX10_fits_167 : decode cX10_fits 167 = .ok (.if_icmp .ge 41, 3) := by decide +kernel
theorem dX10_fits_170 : decode cX10_fits 170 = .ok (.iload 8, 2) := by decide +kernel
theorem dX10_fits_172 : decode cX10_fits 172 = .ok (.aload_n 0, 1) := by decide +kernel
theorem dX10_fits_173 : decode cX10_fits 173 = .ok (.bipush 40, 2) := by decide +kernel
theorem dX10_fits_175 : decode cX10_fits 175 = .ok (.iload_n 2, 1) := by decide +kernel
theorem dX10_fits_176 : decode cX10_fits 176 = .ok (.imul, 1) := by decide +kernel
theorem dX10_fits_177 : decode cX10_fits 177 = .ok (.iload_n 3, 1) := by decide +kernel
theorem dX10_fits_178 : decode cX10_fits 178 = .ok (.iadd, 1) := by decide +kernel
theorem dX10_fits_179 : decode cX10_fits 179 = .ok (.iload 4, 2) := by decide +kernel
theorem dX10_fits_181 : decode cX10_fits 181 = .ok (.iload 7, 2) := by decide +kernel
theorem dX10_fits_183 : decode cX10_fits 183 = .ok (.iload 9, 2) := by decide +kernel
theorem dX10_fits_185 : decode cX10_fits 185 = .ok (.invokevirtual 227, 3) := by decide +kernel
theorem dX10_fits_188 : decode cX10_fits 188 = .ok (.ifCond .eq 10, 3) := by decide +kernel
theorem dX10_fits_191 : decode cX10_fits 191 = .ok (.iconst 1, 1) := by decide +kernel
theorem dX10_fits_192 : decode cX10_fits 192 = .ok (.iload 9, 2) := by decide +kernel
theorem dX10_fits_194 : decode cX10_fits 194 = .ok (.ishl, 1) := by decide +kernel
theorem dX10_fits_195 : decode cX10_fits 195 = .ok (.goto 4, 3) := by decide +kernel
theorem dX10_fits_198 : decode cX10_fits 198 = .ok (.iconst 0, 1) := by decide +kernel
theorem dX10_fits_199 : decode cX10_fits 199 = .ok (.ior, 1) := by decide +kernel
theorem dX10_fits_200 : decode cX10_fits 200 = .ok (.istore 8, 2) := by decide +kernel
theorem dX10_fits_202 : decode cX10_fits 202 = .ok (.iinc 9 1, 3) := by decide +kernel
theorem dX10_fits_205 : decode cX10_fits 205 = .ok (.goto (-56), 3) := by decide +kernel
theorem dX10_fits_208 : decode cX10_fits 208 = .ok (.aload_n 0, 1) := by decide +kernel
theorem dX10_fits_209 : decode cX10_fits 209 = .ok (.iload 8, 2) := by decide +kernel
theorem dX10_fits_211 : decode cX10_fits 211 = .ok (.invokevirtual 75, 3) := by decide +kernel
theorem dX10_fits_214 : decode cX10_fits 214 = .ok (.ireturn, 1) := by decide +kernel
theorem dX10_chance_0 : decode cX10_chance 0 = .ok (.aload_n 0, 1) := by decide +kernel
theorem dX10_chance_1 : decode cX10_chance 1 = .ok (.iload_n 1, 1) := by decide +kernel
theorem dX10_chance_2 : decode cX10_chance 2 = .ok (.invokevirtual 205, 3) := by decide +kernel
theorem dX10_chance_5 : decode cX10_chance 5 = .ok (.ifCond .eq 22, 3) := by decide +kernel
theorem dX10_chance_8 : decode cX10_chance 8 = .ok (.iload_n 2, 1) := by decide +kernel
theorem dX10_chance_9 : decode cX10_chance 9 = .ok (.iconst 0, 1) := by decide +kernel
theorem dX10_chance_10 : decode cX10_chance 10 = .ok (.bipush 8, 2) := by decide +kernel
theorem dX10_chance_12 : decode cX10_chance 12 = .ok (.invokestatic 62, 3) := by decide +kernel
theorem dX10_chance_15 : decode cX10_chance 15 = .ok (.ifCond .eq 12, 3) := by decide +kernel
theorem dX10_chance_18 : decode cX10_chance 18 = .ok (.iload_n 3, 1) := by decide +kernel
theorem dX10_chance_19 : decode cX10_chance 19 = .ok (.iconst 0, 1) := by decide +kernel
theorem dX10_chance_20 : decode cX10_chance 20 = .ok (.iconst 1, 1) := by decide +kernel
theorem dX10_chance_21 : decode cX10_chance 21 = .ok (.invokestatic 62, 3) := by decide +kernel
theorem dX10_chance_24 : decode cX10_chance 24 = .ok (.ifCond .ne 6, 3) := by decide +kernel
theorem dX10_chance_27 : decode cX10_chance 27 = .ok (.ldc 70, 2) := by decide +kernel
theorem dX10_chance_29 : decode cX10_chance 29 = .ok (.ireturn, 1) := by decide +kernel
theorem dX10_chance_30 : decode cX10_chance 30 = .ok (.aload_n 0, 1) := by decide +kernel
theorem dX10_chance_31 : decode cX10_chance 31 = .ok (.iload_n 2, 1) := by decide +kernel
theorem dX10_chance_32 : decode cX10_chance 32 = .ok (.iconst 1, 1) := by decide +kernel
theorem dX10_chance_33 : decode cX10_chance 33 = .ok (.invokevirtual 220, 3) := by decide +kernel
theorem dX10_chance_36 : decode cX10_chance 36 = .ok (.aload_n 0, 1) := by decide +kernel
theorem dX10_chance_37 : decode cX10_chance 37 = .ok (.getfield 44, 3) := by decide +kernel
theorem dX10_chance_40 : decode cX10_chance 40 = .ok (.iload_n 1, 1) := by decide +kernel
theorem dX10_chance_41 : decode cX10_chance 41 = .ok (.iaload, 1) := by decide +kernel
theorem dX10_chance_42 : decode cX10_chance 42 = .ok (.istore 4, 2) := by decide +kernel
theorem dX10_chance_44 : decode cX10_chance 44 = .ok (.iconst 1, 1) := by decide +kernel
theorem dX10_chance_45 : decode cX10_chance 45 = .ok (.istore 5, 2) := by decide +kernel
theorem dX10_chance_47 : decode cX10_chance 47 = .ok (.iconst 0, 1) := by decide +kernel
theorem dX10_chance_48 : decode cX10_chance 48 = .ok (.istore 6, 2) := by decide +kernel
theorem dX10_chance_50 : decode cX10_chance 50 = .ok (.iload 6, 2) := by decide +kernel
theorem dX10_chance_52 : decode cX10_chance 52 = .ok (.iload_n 2, 1) := by decide +kernel
theorem dX10_chance_53 : decode cX10_chance 53 = .ok (.if_icmp .ge 16, 3) := by decide +kernel
theorem dX10_chance_56 : decode cX10_chance 56 = .ok (.iload 5, 2) := by decide +kernel
theorem dX10_chance_58 : decode cX10_chance 58 = .ok (.bipush 6, 2) := by decide +kernel
theorem dX10_chance_60 : decode cX10_chance 60 = .ok (.imul, 1) := by decide +kernel
theorem dX10_chance_61 : decode cX10_chance 61 = .ok (.istore 5, 2) := by decide +kernel
theorem dX10_chance_63 : decode cX10_chance 63 = .ok (.iinc 6 1, 3) := by decide +kernel
theorem dX10_chance_66 : decode cX10_chance 66 = .ok (.goto (-16), 3) := by decide +kernel
theorem dX10_chance_69 : decode cX10_chance 69 = .ok (.iload 4, 2) := by decide +kernel
theorem dX10_chance_71 : decode cX10_chance 71 = .ok (.istore 6, 2) := by decide +kernel
theorem dX10_chance_73 : decode cX10_chance 73 = .ok (.iload 5, 2) := by decide +kernel
theorem dX10_chance_75 : decode cX10_chance 75 = .ok (.istore 7, 2) := by decide +kernel
theorem dX10_chance_77 : decode cX10_chance 77 = .ok (.iload 7, 2) := by decide +kernel
theorem dX10_chance_79 : decode cX10_chance 79 = .ok (.ifCond .eq 21, 3) := by decide +kernel
theorem dX10_chance_82 : decode cX10_chance 82 = .ok (.iload 6, 2) := by decide +kernel
theorem dX10_chance_84 : decode cX10_chance 84 = .ok (.iload 7, 2) := by decide +kernel
theorem dX10_chance_86 : decode cX10_chance 86 = .ok (.irem, 1) := by decide +kernel
theorem dX10_chance_87 : decode cX10_chance 87 = .ok (.istore 8, 2) := by decide +kernel
theorem dX10_chance_89 : decode cX10_chance 89 = .ok (.iload 7, 2) := by decide +kernel
theorem dX10_chance_91 : decode cX10_chance 91 = .ok (.istore 6, 2) := by decide +kernel
theorem dX10_chance_93 : decode cX10_chance 93 = .ok (.iload 8, 2) := by decide +kernel
theorem dX10_chance_95 : decode cX10_chance 95 = .ok (.istore 7, 2) := by decide +kernel
theorem dX10_chance_97 : decode cX10_chance 97 = .ok (.goto (-20), 3) := by decide +kernel
theorem dX10_chance_100 : decode cX10_chance 100 = .ok (.iload_n 3, 1) := by decide +kernel
theorem dX10_chance_101 : decode cX10_chance 101 = .ok (.ifCond .ne 8, 3) := by decide +kernel
theorem dX10_chance_104 : decode cX10_chance 104 = .ok (.iload 4, 2) := by decide +kernel
theorem dX10_chance_106 : decode cX10_chance 106 = .ok (.goto 5, 3) := by decide +kernel
theorem dX10_chance_109 : decode cX10_chance 109 = .ok (.iload 5, 2) := by decide +kernel
theorem dX10_chance_111 : decode cX10_chance 111 = .ok (.iload 6, 2) := by decide +kernel
theorem dX10_chance_113 : decode cX10_chance 113 = .ok (.idiv, 1) := by decide +kernel
theorem dX10_chance_114 : decode cX10_chance 114 = .ok (.ireturn, 1) := by decide +kernel
theorem dX10_steps_0 : decode cX10_steps 0 = .ok (.lload_n 1, 1) := by decide +kernel
theorem dX10_steps_1 : decode cX10_steps 1 = .ok (.ldc2_w 231, 3) := by decide +kernel
theorem dX10_steps_4 : decode cX10_steps 4 = .ok (.lrem, 1) := by decide +kernel
theorem dX10_steps_5 : decode cX10_steps 5 = .ok (.l2i, 1) := by decide +kernel
theorem dX10_steps_6 : decode cX10_steps 6 = .ok (.istore_n 3, 1) := by decide +kernel
theorem dX10_steps_7 : decode cX10_steps 7 = .ok (.iload_n 3, 1) := by decide +kernel
theorem dX10_steps_8 : decode cX10_steps 8 = .ok (.iconst 3, 1) := by decide +kernel
theorem dX10_steps_9 : decode cX10_steps 9 = .ok (.if_icmp .ge 29, 3) := by decide +kernel
theorem dX10_steps_12 : decode cX10_steps 12 = .ok (.aload_n 0, 1) := by decide +kernel
theorem dX10_steps_13 : decode cX10_steps 13 = .ok (.getfield 31, 3) := by decide +kernel
theorem dX10_steps_16 : decode cX10_steps 16 = .ok (.iload_n 3, 1) := by decide +kernel
theorem dX10_steps_17 : decode cX10_steps 17 = .ok (.invokestatic 183, 3) := by decide +kernel
theorem dX10_steps_20 : decode cX10_steps 20 = .ok (.istore 4, 2) := by decide +kernel
theorem dX10_steps_22 : decode cX10_steps 22 = .ok (.iload 4, 2) := by decide +kernel
theorem dX10_steps_24 : decode cX10_steps 24 = .ok (.ifCond .eq 11, 3) := by decide +kernel
theorem dX10_steps_27 : decode cX10_steps 27 = .ok (.aload_n 0, 1) := by decide +kernel
theorem dX10_steps_28 : decode cX10_steps 28 = .ok (.getfield 31, 3) := by decide +kernel
theorem dX10_steps_31 : decode cX10_steps 31 = .ok (.iload_n 3, 1) := by decide +kernel
theorem dX10_steps_32 : decode cX10_steps 32 = .ok (.invokestatic 190, 3) := by decide +kernel
theorem dX10_steps_35 : decode cX10_steps 35 = .ok (.iload 4, 2) := by decide +kernel
theorem dX10_steps_37 : decode cX10_steps 37 = .ok (.ireturn, 1) := by decide +kernel
theorem dX10_steps_38 : decode cX10_steps 38 = .ok (.iload_n 3, 1) := by decide +kernel
theorem dX10_steps_39 : decode cX10_steps 39 = .ok (.tableswitch 106 3 5 #[25, 46, 64], 25) := by decide +kernel
theorem dX10_steps_64 : decode cX10_steps 64 = .ok (.aload_n 0, 1) := by decide +kernel
theorem dX10_steps_65 : decode cX10_steps 65 = .ok (.getfield 31, 3) := by decide +kernel
theorem dX10_steps_68 : decode cX10_steps 68 = .ok (.iconst 0, 1) := by decide +kernel
theorem dX10_steps_69 : decode cX10_steps 69 = .ok (.invokestatic 193, 3) := by decide +kernel
theorem dX10_steps_72 : decode cX10_steps 72 = .ok (.ifCond .eq 11, 3) := by decide +kernel
theorem dX10_steps_75 : decode cX10_steps 75 = .ok (.aload_n 0, 1) := by decide +kernel
theorem dX10_steps_76 : decode cX10_steps 76 = .ok (.getfield 31, 3) := by decide +kernel
theorem dX10_steps_79 : decode cX10_steps 79 = .ok (.iconst 0, 1) := by decide +kernel
theorem dX10_steps_80 : decode cX10_steps 80 = .ok (.invokestatic 196, 3) := by decide +kernel
theorem dX10_steps_83 : decode cX10_steps 83 = .ok (.iconst 0, 1) := by decide +kernel
theorem dX10_steps_84 : decode cX10_steps 84 = .ok (.ireturn, 1) := by decide +kernel
theorem dX10_steps_85 : decode cX10_steps 85 = .ok (.aload_n 0, 1) := by decide +kernel
theorem dX10_steps_86 : decode cX10_steps 86 = .ok (.getfield 31, 3) := by decide +kernel
theorem dX10_steps_89 : decode cX10_steps 89 = .ok (.iconst 2, 1) := by decide +kernel
theorem dX10_steps_90 : decode cX10_steps 90 = .ok (.lload_n 1, 1) := by decide +kernel
theorem dX10_steps_91 : decode cX10_steps 91 = .ok (.aload_n 0, 1) := by decide +kernel
theorem dX10_steps_92 : decode cX10_steps 92 = .ok (.getfield 31, 3) := by decide +kernel
theorem dX10_steps_95 : decode cX10_steps 95 = .ok (.iconst 1, 1) := by decide +kernel
theorem dX10_steps_96 : decode cX10_steps 96 = .ok (.iaload, 1) := by decide +kernel
theorem dX10_steps_97 : decode cX10_steps 97 = .ok (.i2l, 1) := by decide +kernel
theorem dX10_steps_98 : decode cX10_steps 98 = .ok (.lrem, 1) := by decide +kernel
theorem dX10_steps_99 : decode cX10_steps 99 = .ok (.l2i, 1) := by decide +kernel
theorem dX10_steps_100 : decode cX10_steps 100 = .ok (.iastore, 1) := by decide +kernel
theorem dX10_steps_101 : decode cX10_steps 101 = .ok (.iconst 0, 1) := by decide +kernel
theorem dX10_steps_102 : decode cX10_steps 102 = .ok (.ireturn, 1) := by decide +kernel
theorem dX10_steps_103 : decode cX10_steps 103 = .ok (.aload_n 0, 1) := by decide +kernel
theorem dX10_steps_104 : decode cX10_steps 104 = .ok (.getfield 31, 3) := by decide +kernel
theorem dX10_steps_107 : decode cX10_steps 107 = .ok (.iconst 1, 1) := by decide +kernel
theorem dX10_steps_108 : decode cX10_steps 108 = .ok (.iaload, 1) := by decide +kernel
theorem dX10_steps_109 : decode cX10_steps 109 = .ok (.iconst 5, 1) := by decide +kernel
theorem dX10_steps_110 : decode cX10_steps 110 = .ok (.if_icmp .ge 7, 3) := by decide +kernel
theorem dX10_steps_113 : decode cX10_steps 113 = .ok (.iconst 1, 1) := by decide +kernel
theorem dX10_steps_114 : decode cX10_steps 114 = .ok (.goto 4, 3) := by decide +kernel
theorem dX10_steps_117 : decode cX10_steps 117 = .ok (.iconst 0, 1) := by decide +kernel
theorem dX10_steps_118 : decode cX10_steps 118 = .ok (.istore 4, 2) := by decide +kernel
theorem dX10_steps_120 : decode cX10_steps 120 = .ok (.iload 4, 2) := by decide +kernel
theorem dX10_steps_122 : decode cX10_steps 122 = .ok (.ifCond .eq 20, 3) := by decide +kernel
theorem dX10_steps_125 : decode cX10_steps 125 = .ok (.aload_n 0, 1) := by decide +kernel
theorem dX10_steps_126 : decode cX10_steps 126 = .ok (.getfield 31, 3) := by decide +kernel
theorem dX10_steps_129 : decode cX10_steps 129 = .ok (.lload_n 1, 1) := by decide +kernel
theorem dX10_steps_130 : decode cX10_steps 130 = .ok (.aload_n 0, 1) := by decide +kernel
theorem dX10_steps_131 : decode cX10_steps 131 = .ok (.getfield 31, 3) := by decide +kernel
theorem dX10_steps_134 : decode cX10_steps 134 = .ok (.iconst 0, 1) := by decide +kernel
theorem dX10_steps_135 : decode cX10_steps 135 = .ok (.iaload, 1) := by decide +kernel
theorem dX10_steps_136 : decode cX10_steps 136 = .ok (.i2l, 1) := by decide +kernel
theorem dX10_steps_137 : decode cX10_steps 137 = .ok (.lrem, 1) := by decide +kernel
theorem dX10_steps_138 : decode cX10_steps 138 = .ok (.l2i, 1) := by decide +kernel
theorem dX10_steps_139 : decode cX10_steps 139 = .ok (.invokestatic 208, 3) := by decide +kernel
theorem dX10_steps_142 : decode cX10_steps 142 = .ok (.iload 4, 2) := by decide +kernel
theorem dX10_steps_144 : decode cX10_steps 144 = .ok (.ireturn, 1) := by decide +kernel
theorem dX10_steps_145 : decode cX10_steps 145 = .ok (.aload_n 0, 1) := by decide +kernel
theorem dX10_steps_146 : decode cX10_steps 146 = .ok (.getfield 31, 3) := by decide +kernel
theorem dX10_steps_149 : decode cX10_steps 149 = .ok (.iconst 1, 1) := by decide +kernel
theorem dX10_steps_150 : decode cX10_steps 150 = .ok (.iaload, 1) := by decide +kernel
theorem dX10_steps_151 : decode cX10_steps 151 = .ok (.iconst 1, 1) := by decide +kernel
theorem dX10_steps_152 : decode cX10_steps 152 = .ok (.if_icmp .le 10, 3) := by decide +kernel
theorem dX10_steps_155 : decode cX10_steps 155 = .ok (.aload_n 0, 1) := by decide +kernel
theorem dX10_steps_156 : decode cX10_steps 156 = .ok (.getfield 31, 3) := by decide +kernel
theorem dX10_steps_159 : decode cX10_steps 159 = .ok (.invokestatic 211, 3) := by decide +kernel
theorem dX10_steps_162 : decode cX10_steps 162 = .ok (.iconst 0, 1) := by decide +kernel
theorem dX10_steps_163 : decode cX10_steps 163 = .ok (.ireturn, 1) := by decide +kernel
theorem dX10_drawn_0 : decode cX10_drawn 0 = .ok (.aload_n 0, 1) := by decide +kernel
theorem dX10_drawn_1 : decode cX10_drawn 1 = .ok (.invokevirtual 179, 3) := by decide +kernel
theorem dX10_drawn_4 : decode cX10_drawn 4 = .ok (.ifCond .ne 6, 3) := by decide +kernel
theorem dX10_drawn_7 : decode cX10_drawn 7 = .ok (.ldc 182, 2) := by decide +kernel
theorem dX10_drawn_9 : decode cX10_drawn 9 = .ok (.ireturn, 1) := by decide +kernel
theorem dX10_drawn_10 : decode cX10_drawn 10 = .ok (.iload_n 1, 1) := by decide +kernel
theorem dX10_drawn_11 : decode cX10_drawn 11 = .ok (.iconst 0, 1) := by decide +kernel
theorem dX10_drawn_12 : decode cX10_drawn 12 = .ok (.bipush 60, 2) := by decide +kernel
theorem dX10_drawn_14 : decode cX10_drawn 14 = .ok (.invokestatic 62, 3) := by decide +kernel
theorem dX10_drawn_17 : decode cX10_drawn 17 = .ok (.ifCond .eq 22, 3) := by decide +kernel
theorem dX10_drawn_20 : decode cX10_drawn 20 = .ok (.iload_n 2, 1) := by decide +kernel
theorem dX10_drawn_21 : decode cX10_drawn 21 = .ok (.iconst 1, 1) := by decide +kernel
theorem dX10_drawn_22 : decode cX10_drawn 22 = .ok (.ldc 233, 2) := by decide +kernel
theorem dX10_drawn_24 : decode cX10_drawn 24 = .ok (.invokestatic 62, 3) := by decide +kernel
theorem dX10_drawn_27 : decode cX10_drawn 27 = .ok (.ifCond .eq 12, 3) := by decide +kernel
theorem dX10_drawn_30 : decode cX10_drawn 30 = .ok (.iload_n 3, 1) := by decide +kernel
theorem dX10_drawn_31 : decode cX10_drawn 31 = .ok (.iconst 0, 1) := by decide +kernel
theorem dX10_drawn_32 : decode cX10_drawn 32 = .ok (.iconst 1, 1) := by decide +kernel
theorem dX10_drawn_33 : decode cX10_drawn 33 = .ok (.invokestatic 62, 3) := by decide +kernel
theorem dX10_drawn_36 : decode cX10_drawn 36 = .ok (.ifCond .ne 6, 3) := by decide +kernel
theorem dX10_drawn_39 : decode cX10_drawn 39 = .ok (.ldc 70, 2) := by decide +kernel
theorem dX10_drawn_41 : decode cX10_drawn 41 = .ok (.ireturn, 1) := by decide +kernel
theorem dX10_drawn_42 : decode cX10_drawn 42 = .ok (.aload_n 0, 1) := by decide +kernel
theorem dX10_drawn_43 : decode cX10_drawn 43 = .ok (.getfield 25, 3) := by decide +kernel
theorem dX10_drawn_46 : decode cX10_drawn 46 = .ok (.iconst 0, 1) := by decide +kernel
theorem dX10_drawn_47 : decode cX10_drawn 47 = .ok (.aload_n 0, 1) := by decide +kernel
theorem dX10_drawn_48 : decode cX10_drawn 48 = .ok (.getfield 31, 3) := by decide +kernel
theorem dX10_drawn_51 : decode cX10_drawn 51 = .ok (.iconst 0, 1) := by decide +kernel
theorem dX10_drawn_52 : decode cX10_drawn 52 = .ok (.invokestatic 146, 3) := by decide +kernel
theorem dX10_drawn_55 : decode cX10_drawn 55 = .ok (.iload_n 2, 1) := by decide +kernel
theorem dX10_drawn_56 : decode cX10_drawn 56 = .ok (.i2l, 1) := by decide +kernel
theorem dX10_drawn_57 : decode cX10_drawn 57 = .ok (.lstore 4, 2) := by decide +kernel
theorem dX10_drawn_59 : decode cX10_drawn 59 = .ok (.iconst 0, 1) := by decide +kernel
theorem dX10_drawn_60 : decode cX10_drawn 60 = .ok (.istore 6, 2) := by decide +kernel
theorem dX10_drawn_62 : decode cX10_drawn 62 = .ok (.iconst 0, 1) := by decide +kernel
theorem dX10_drawn_63 : decode cX10_drawn 63 = .ok (.istore 7, 2) := by decide +kernel
theorem dX10_drawn_65 : decode cX10_drawn 65 = .ok (.iload 7, 2) := by decide +kernel
theorem dX10_drawn_67 : decode cX10_drawn 67 = .ok (.iload_n 1, 1) := by decide +kernel
theorem dX10_drawn_68 : decode cX10_drawn 68 = .ok (.if_icmp .ge 40, 3) := by decide +kernel
theorem dX10_drawn_71 : decode cX10_drawn 71 = .ok (.lload 4, 2) := by decide +kernel
theorem dX10_drawn_73 : decode cX10_drawn 73 = .ok (.ldc2_w 234, 3) := by decide +kernel
theorem dX10_drawn_76 : decode cX10_drawn 76 = .ok (.lmul, 1) := by decide +kernel
theorem dX10_drawn_77 : decode cX10_drawn 77 = .ok (.ldc2_w 236, 3) := by decide +kernel
theorem dX10_drawn_80 : decode cX10_drawn 80 = .ok (.lrem, 1) := by decide +kernel
theorem dX10_drawn_81 : decode cX10_drawn 81 = .ok (.lstore 4, 2) := by decide +kernel
theorem dX10_drawn_83 : decode cX10_drawn 83 = .ok (.iload 6, 2) := by decide +kernel
theorem dX10_drawn_85 : decode cX10_drawn 85 = .ok (.aload_n 0, 1) := by decide +kernel
theorem dX10_drawn_86 : decode cX10_drawn 86 = .ok (.lload 4, 2) := by decide +kernel
theorem dX10_drawn_88 : decode cX10_drawn 88 = .ok (.invokevirtual 238, 3) := by decide +kernel
theorem dX10_drawn_91 : decode cX10_drawn 91 = .ok (.ifCond .eq 7, 3) := by decide +kernel
theorem dX10_drawn_94 : decode cX10_drawn 94 = .ok (.iconst 1, 1) := by decide +kernel
theorem dX10_drawn_95 : decode cX10_drawn 95 = .ok (.goto 4, 3) := by decide +kernel
theorem dX10_drawn_98 : decode cX10_drawn 98 = .ok (.iconst 0, 1) := by decide +kernel
theorem dX10_drawn_99 : decode cX10_drawn 99 = .ok (.iadd, 1) := by decide +kernel
theorem dX10_drawn_100 : decode cX10_drawn 100 = .ok (.istore 6, 2) := by decide +kernel
theorem dX10_drawn_102 : decode cX10_drawn 102 = .ok (.iinc 7 1, 3) := by decide +kernel
theorem dX10_drawn_105 : decode cX10_drawn 105 = .ok (.goto (-40), 3) := by decide +kernel
theorem dX10_drawn_108 : decode cX10_drawn 108 = .ok (.iload_n 3, 1) := by decide +kernel
theorem dX10_drawn_109 : decode cX10_drawn 109 = .ok (.ifCond .ne 8, 3) := by decide +kernel
theorem dX10_drawn_112 : decode cX10_drawn 112 = .ok (.iload 6, 2) := by decide +kernel
theorem dX10_drawn_114 : decode cX10_drawn 114 = .ok (.goto 10, 3) := by decide +kernel
theorem dX10_drawn_117 : decode cX10_drawn 117 = .ok (.aload_n 0, 1) := by decide +kernel
theorem dX10_drawn_118 : decode cX10_drawn 118 = .ok (.getfield 31, 3) := by decide +kernel
theorem dX10_drawn_121 : decode cX10_drawn 121 = .ok (.invokestatic 157, 3) := by decide +kernel
theorem dX10_drawn_124 : decode cX10_drawn 124 = .ok (.ireturn, 1) := by decide +kernel
theorem dX10_image_0 : decode cX10_image 0 = .ok (.iload_n 1, 1) := by decide +kernel
theorem dX10_image_1 : decode cX10_image 1 = .ok (.iconst 0, 1) := by decide +kernel
theorem dX10_image_2 : decode cX10_image 2 = .ok (.iconst 1, 1) := by decide +kernel
theorem dX10_image_3 : decode cX10_image 3 = .ok (.invokestatic 62, 3) := by decide +kernel
theorem dX10_image_6 : decode cX10_image 6 = .ok (.ifCond .ne 6, 3) := by decide +kernel
theorem dX10_image_9 : decode cX10_image 9 = .ok (.ldc 70, 2) := by decide +kernel
theorem dX10_image_11 : decode cX10_image 11 = .ok (.ireturn, 1) := by decide +kernel
theorem dX10_image_12 : decode cX10_image 12 = .ok (.aload_n 0, 1) := by decide +kernel
theorem dX10_image_13 : decode cX10_image 13 = .ok (.invokevirtual 179, 3) := by decide +kernel
theorem dX10_image_16 : decode cX10_image 16 = .ok (.ifCond .ne 6, 3) := by decide +kernel
theorem dX10_image_19 : decode cX10_image 19 = .ok (.ldc 182, 2) := by decide +kernel
theorem dX10_image_21 : decode cX10_image 21 = .ok (.ireturn, 1) := by decide +kernel
theorem dX10_image_22 : decode cX10_image 22 = .ok (.aload_n 0, 1) := by decide +kernel
theorem dX10_image_23 : decode cX10_image 23 = .ok (.getfield 25, 3) := by decide +kernel
theorem dX10_image_26 : decode cX10_image 26 = .ok (.iconst 0, 1) := by decide +kernel
theorem dX10_image_27 : decode cX10_image 27 = .ok (.aload_n 0, 1) := by decide +kernel
theorem dX10_image_28 : decode cX10_image 28 = .ok (.getfield 37, 3) := by decide +kernel
theorem dX10_image_31 : decode cX10_image 31 = .ok (.bipush 124, 2) := by decide +kernel
theorem dX10_image_33 : decode cX10_image 33 = .ok (.iload_n 1, 1) := by decide +kernel
theorem dX10_image_34 : decode cX10_image 34 = .ok (.imul, 1) := by decide +kernel
theorem dX10_image_35 : decode cX10_image 35 = .ok (.invokestatic 146, 3) := by decide +kernel
theorem dX10_image_38 : decode cX10_image 38 = .ok (.aload_n 0, 1) := by decide +kernel
theorem dX10_image_39 : decode cX10_image 39 = .ok (.getfield 40, 3) := by decide +kernel
theorem dX10_image_42 : decode cX10_image 42 = .ok (.iload_n 1, 1) := by decide +kernel
theorem dX10_image_43 : decode cX10_image 43 = .ok (.iconst 1, 1) := by decide +kernel
theorem dX10_image_44 : decode cX10_image 44 = .ok (.bastore, 1) := by decide +kernel
theorem dX10_image_45 : decode cX10_image 45 = .ok (.iconst 1, 1) := by decide +kernel
theorem dX10_image_46 : decode cX10_image 46 = .ok (.ireturn, 1) := by decide +kernel
theorem dX10_restore_0 : decode cX10_restore 0 = .ok (.iload_n 1, 1) := by decide +kernel
theorem dX10_restore_1 : decode cX10_restore 1 = .ok (.iconst 0, 1) := by decide +kernel
theorem dX10_restore_2 : decode cX10_restore 2 = .ok (.iconst 1, 1) := by decide +kernel
theorem dX10_restore_3 : decode cX10_restore 3 = .ok (.invokestatic 62, 3) := by decide +kernel
theorem dX10_restore_6 : decode cX10_restore 6 = .ok (.ifCond .ne 6, 3) := by decide +kernel
theorem dX10_restore_9 : decode cX10_restore 9 = .ok (.ldc 70, 2) := by decide +kernel
theorem dX10_restore_11 : decode cX10_restore 11 = .ok (.ireturn, 1) := by decide +kernel
theorem dX10_restore_12 : decode cX10_restore 12 = .ok (.aload_n 0, 1) := by decide +kernel
theorem dX10_restore_13 : decode cX10_restore 13 = .ok (.getfield 40, 3) := by decide +kernel
theorem dX10_restore_16 : decode cX10_restore 16 = .ok (.iload_n 1, 1) := by decide +kernel
theorem dX10_restore_17 : decode cX10_restore 17 = .ok (.baload, 1) := by decide +kernel
theorem dX10_restore_18 : decode cX10_restore 18 = .ok (.ifCond .ne 6, 3) := by decide +kernel
theorem dX10_restore_21 : decode cX10_restore 21 = .ok (.ldc 182, 2) := by decide +kernel
theorem dX10_restore_23 : decode cX10_restore 23 = .ok (.ireturn, 1) := by decide +kernel
theorem dX10_restore_24 : decode cX10_restore 24 = .ok (.aload_n 0, 1) := by decide +kernel
theorem dX10_restore_25 : decode cX10_restore 25 = .ok (.getfield 37, 3) := by decide +kernel
theorem dX10_restore_28 : decode cX10_restore 28 = .ok (.bipush 124, 2) := by decide +kernel
theorem dX10_restore_30 : decode cX10_restore 30 = .ok (.iload_n 1, 1) := by decide +kernel
theorem dX10_restore_31 : decode cX10_restore 31 = .ok (.imul, 1) := by decide +kernel
theorem dX10_restore_32 : decode cX10_restore 32 = .ok (.aload_n 0, 1) := by decide +kernel
theorem dX10_restore_33 : decode cX10_restore 33 = .ok (.getfield 25, 3) := by decide +kernel
theorem dX10_restore_36 : decode cX10_restore 36 = .ok (.iconst 0, 1) := by decide +kernel
theorem dX10_restore_37 : decode cX10_restore 37 = .ok (.invokestatic 146, 3) := by decide +kernel
theorem dX10_restore_40 : decode cX10_restore 40 = .ok (.aload_n 0, 1) := by decide +kernel
theorem dX10_restore_41 : decode cX10_restore 41 = .ok (.iconst 0, 1) := by decide +kernel
theorem dX10_restore_42 : decode cX10_restore 42 = .ok (.putfield 150, 3) := by decide +kernel
theorem dX10_restore_45 : decode cX10_restore 45 = .ok (.iconst 1, 1) := by decide +kernel
theorem dX10_restore_46 : decode cX10_restore 46 = .ok (.ireturn, 1) := by decide +kernel
theorem dX10_kindIn_0 : decode cX10_kindIn 0 = .ok (.aload_n 0, 1) := by decide +kernel
theorem dX10_kindIn_1 : decode cX10_kindIn 1 = .ok (.getfield 25, 3) := by decide +kernel
theorem dX10_kindIn_4 : decode cX10_kindIn 4 = .ok (.bipush 44, 2) := by decide +kernel
theorem dX10_kindIn_6 : decode cX10_kindIn 6 = .ok (.bipush 10, 2) := by decide +kernel
theorem dX10_kindIn_8 : decode cX10_kindIn 8 = .ok (.iload_n 1, 1) := by decide +kernel
theorem dX10_kindIn_9 : decode cX10_kindIn 9 = .ok (.imul, 1) := by decide +kernel
theorem dX10_kindIn_10 : decode cX10_kindIn 10 = .ok (.iadd, 1) := by decide +kernel
theorem dX10_kindIn_11 : decode cX10_kindIn 11 = .ok (.iaload, 1) := by decide +kernel
theorem dX10_kindIn_12 : decode cX10_kindIn 12 = .ok (.ireturn, 1) := by decide +kernel
theorem dX10_kind_0 : decode cX10_kind 0 = .ok (.aload_n 0, 1) := by decide +kernel
theorem dX10_kind_1 : decode cX10_kind 1 = .ok (.iload_n 1, 1) := by decide +kernel
theorem dX10_kind_2 : decode cX10_kind 2 = .ok (.invokevirtual 202, 3) := by decide +kernel
theorem dX10_kind_5 : decode cX10_kind 5 = .ok (.ifCond .eq 11, 3) := by decide +kernel
theorem dX10_kind_8 : decode cX10_kind 8 = .ok (.aload_n 0, 1) := by decide +kernel
theorem dX10_kind_9 : decode cX10_kind 9 = .ok (.iload_n 1, 1) := by decide +kernel
theorem dX10_kind_10 : decode cX10_kind 10 = .ok (.invokevirtual 242, 3) := by decide +kernel
theorem dX10_kind_13 : decode cX10_kind 13 = .ok (.goto 5, 3) := by decide +kernel
theorem dX10_kind_16 : decode cX10_kind 16 = .ok (.ldc 70, 2) := by decide +kernel
theorem dX10_kind_18 : decode cX10_kind 18 = .ok (.ireturn, 1) := by decide +kernel
theorem dX10_as_0 : decode cX10_as 0 = .ok (.aload_n 0, 1) := by decide +kernel
theorem dX10_as_1 : decode cX10_as 1 = .ok (.iload_n 1, 1) := by decide +kernel
theorem dX10_as_2 : decode cX10_as 2 = .ok (.invokevirtual 202, 3) := by decide +kernel
theorem dX10_as_5 : decode cX10_as 5 = .ok (.ifCond .eq 12, 3) := by decide +kernel
theorem dX10_as_8 : decode cX10_as 8 = .ok (.iload_n 2, 1) := by decide +kernel
theorem dX10_as_9 : decode cX10_as 9 = .ok (.iconst 0, 1) := by decide +kernel
theorem dX10_as_10 : decode cX10_as 10 = .ok (.iconst 5, 1) := by decide +kernel
theorem dX10_as_11 : decode cX10_as 11 = .ok (.invokestatic 62, 3) := by decide +kernel
theorem dX10_as_14 : decode cX10_as 14 = .ok (.ifCond .ne 6, 3) := by decide +kernel
theorem dX10_as_17 : decode cX10_as 17 = .ok (.ldc 70, 2) := by decide +kernel
theorem dX10_as_19 : decode cX10_as 19 = .ok (.ireturn, 1) := by decide +kernel
theorem dX10_as_20 : decode cX10_as 20 = .ok (.aload_n 0, 1) := by decide +kernel
theorem dX10_as_21 : decode cX10_as 21 = .ok (.iload_n 1, 1) := by decide +kernel
theorem dX10_as_22 : decode cX10_as 22 = .ok (.invokevirtual 242, 3) := by decide +kernel
theorem dX10_as_25 : decode cX10_as 25 = .ok (.istore_n 3, 1) := by decide +kernel
theorem dX10_as_26 : decode cX10_as 26 = .ok (.iload_n 2, 1) := by decide +kernel
theorem dX10_as_27 : decode cX10_as 27 = .ok (.ifCond .eq 28, 3) := by decide +kernel
theorem dX10_as_30 : decode cX10_as 30 = .ok (.iload_n 2, 1) := by decide +kernel
theorem dX10_as_31 : decode cX10_as 31 = .ok (.iload_n 3, 1) := by decide +kernel
theorem dX10_as_32 : decode cX10_as 32 = .ok (.if_icmp .eq 23, 3) := by decide +kernel
theorem dX10_as_35 : decode cX10_as 35 = .ok (.iload_n 2, 1) := by decide +kernel
theorem dX10_as_36 : decode cX10_as 36 = .ok (.iconst 1, 1) := by decide +kernel
theorem dX10_as_37 : decode cX10_as 37 = .ok (.if_icmp .ne 8, 3) := by decide +kernel
theorem dX10_as_40 : decode cX10_as 40 = .ok (.iload_n 3, 1) := by decide +kernel
theorem dX10_as_41 : decode cX10_as 41 = .ok (.iconst 4, 1) := by decide +kernel
theorem dX10_as_42 : decode cX10_as 42 = .ok (.if_icmp .lt 13, 3) := by decide +kernel
theorem dX10_as_45 : decode cX10_as 45 = .ok (.iload_n 2, 1) := by decide +kernel
theorem dX10_as_46 : decode cX10_as 46 = .ok (.iconst 4, 1) := by decide +kernel
theorem dX10_as_47 : decode cX10_as 47 = .ok (.if_icmp .ne 12, 3) := by decide +kernel
theorem dX10_as_50 : decode cX10_as 50 = .ok (.iload_n 3, 1) := by decide +kernel
theorem dX10_as_51 : decode cX10_as 51 = .ok (.iconst 5, 1) := by decide +kernel
theorem dX10_as_52 : decode cX10_as 52 = .ok (.if_icmp .ne 7, 3) := by decide +kernel
theorem dX10_as_55 : decode cX10_as 55 = .ok (.iconst 1, 1) := by decide +kernel
theorem dX10_as_56 : decode cX10_as 56 = .ok (.goto 4, 3) := by decide +kernel
theorem dX10_as_59 : decode cX10_as 59 = .ok (.iconst 0, 1) := by decide +kernel
theorem dX10_as_60 : decode cX10_as 60 = .ok (.istore 4, 2) := by decide +kernel
theorem dX10_as_62 : decode cX10_as 62 = .ok (.iload 4, 2) := by decide +kernel
theorem dX10_as_64 : decode cX10_as 64 = .ok (.ifCond .eq 11, 3) := by decide +kernel
theorem dX10_as_67 : decode cX10_as 67 = .ok (.aload_n 0, 1) := by decide +kernel
theorem dX10_as_68 : decode cX10_as 68 = .ok (.iload_n 1, 1) := by decide +kernel
theorem dX10_as_69 : decode cX10_as 69 = .ok (.invokevirtual 75, 3) := by decide +kernel
theorem dX10_as_72 : decode cX10_as 72 = .ok (.goto 8, 3) := by decide +kernel
theorem dX10_as_75 : decode cX10_as 75 = .ok (.aload_n 0, 1) := by decide +kernel
theorem dX10_as_76 : decode cX10_as 76 = .ok (.iconst 3, 1) := by decide +kernel
theorem dX10_as_77 : decode cX10_as 77 = .ok (.invokevirtual 71, 3) := by decide +kernel
theorem dX10_as_80 : decode cX10_as 80 = .ok (.ireturn, 1) := by decide +kernel
theorem dX10_begins_0 : decode cX10_begins 0 = .ok (.aload_n 0, 1) := by decide +kernel
theorem dX10_begins_1 : decode cX10_begins 1 = .ok (.getfield 245, 3) := by decide +kernel
theorem dX10_begins_4 : decode cX10_begins 4 = .ok (.bipush 16, 2) := by decide +kernel
theorem dX10_begins_6 : decode cX10_begins 6 = .ok (.if_icmp .ge 23, 3) := by decide +kernel
theorem dX10_begins_9 : decode cX10_begins 9 = .ok (.aload_n 0, 1) := by decide +kernel
theorem dX10_begins_10 : decode cX10_begins 10 = .ok (.getfield 53, 3) := by decide +kernel
theorem dX10_begins_13 : decode cX10_begins 13 = .ok (.aload_n 0, 1) := by decide +kernel
theorem dX10_begins_14 : decode cX10_begins 14 = .ok (.getfield 245, 3) := by decide +kernel
theorem dX10_begins_17 : decode cX10_begins 17 = .ok (.iload_n 1, 1) := by decide +kernel
theorem dX10_begins_18 : decode cX10_begins 18 = .ok (.iastore, 1) := by decide +kernel
theorem dX10_begins_19 : decode cX10_begins 19 = .ok (.aload_n 0, 1) := by decide +kernel
theorem dX10_begins_20 : decode cX10_begins 20 = .ok (.dup, 1) := by decide +kernel
theorem dX10_begins_21 : decode cX10_begins 21 = .ok (.getfield 245, 3) := by decide +kernel
theorem dX10_begins_24 : decode cX10_begins 24 = .ok (.iconst 1, 1) := by decide +kernel
theorem dX10_begins_25 : decode cX10_begins 25 = .ok (.iadd, 1) := by decide +kernel
theorem dX10_begins_26 : decode cX10_begins 26 = .ok (.putfield 245, 3) := by decide +kernel
theorem dX10_begins_29 : decode cX10_begins 29 = .ok (.return_, 1) := by decide +kernel
theorem dX10_plainMark_0 : decode cX10_plainMark 0 = .ok (.aload_n 0, 1) := by decide +kernel
theorem dX10_plainMark_1 : decode cX10_plainMark 1 = .ok (.iload_n 1, 1) := by decide +kernel
theorem dX10_plainMark_2 : decode cX10_plainMark 2 = .ok (.invokevirtual 242, 3) := by decide +kernel
theorem dX10_plainMark_5 : decode cX10_plainMark 5 = .ok (.istore_n 2, 1) := by decide +kernel
theorem dX10_plainMark_6 : decode cX10_plainMark 6 = .ok (.iload_n 2, 1) := by decide +kernel
theorem dX10_plainMark_7 : decode cX10_plainMark 7 = .ok (.iconst 1, 1) := by decide +kernel
theorem dX10_plainMark_8 : decode cX10_plainMark 8 = .ok (.if_icmp .eq 19, 3) := by decide +kernel
theorem dX10_plainMark_11 : decode cX10_plainMark 11 = .ok (.aload_n 0, 1) := by decide +kernel
theorem dX10_plainMark_12 : decode cX10_plainMark 12 = .ok (.iload_n 2, 1) := by decide +kernel
theorem dX10_plainMark_13 : decode cX10_plainMark 13 = .ok (.iconst 2, 1) := by decide +kernel
theorem dX10_plainMark_14 : decode cX10_plainMark 14 = .ok (.if_icmp .ne 8, 3) := by decide +kernel
theorem dX10_plainMark_17 : decode cX10_plainMark 17 = .ok (.bipush 24, 2) := by decide +kernel
theorem dX10_plainMark_19 : decode cX10_plainMark 19 = .ok (.goto 5, 3) := by decide +kernel
theorem dX10_plainMark_22 : decode cX10_plainMark 22 = .ok (.bipush 22, 2) := by decide +kernel
theorem dX10_plainMark_24 : decode cX10_plainMark 24 = .ok (.invokevirtual 248, 3) := by decide +kernel
theorem dX10_plainMark_27 : decode cX10_plainMark 27 = .ok (.aload_n 0, 1) := by decide +kernel
theorem dX10_plainMark_28 : decode cX10_plainMark 28 = .ok (.bipush 21, 2) := by decide +kernel
theorem dX10_plainMark_30 : decode cX10_plainMark 30 = .ok (.invokevirtual 248, 3) := by decide +kernel
theorem dX10_plainMark_33 : decode cX10_plainMark 33 = .ok (.aload_n 0, 1) := by decide +kernel
theorem dX10_plainMark_34 : decode cX10_plainMark 34 = .ok (.bipush 20, 2) := by decide +kernel
theorem dX10_plainMark_36 : decode cX10_plainMark 36 = .ok (.invokevirtual 248, 3) := by decide +kernel
theorem dX10_plainMark_39 : decode cX10_plainMark 39 = .ok (.iload_n 1, 1) := by decide +kernel
theorem dX10_plainMark_40 : decode cX10_plainMark 40 = .ok (.aload_n 0, 1) := by decide +kernel
theorem dX10_plainMark_41 : decode cX10_plainMark 41 = .ok (.getfield 25, 3) := by decide +kernel
theorem dX10_plainMark_44 : decode cX10_plainMark 44 = .ok (.iload_n 1, 1) := by decide +kernel
theorem dX10_plainMark_45 : decode cX10_plainMark 45 = .ok (.invokestatic 153, 3) := by decide +kernel
theorem dX10_plainMark_48 : decode cX10_plainMark 48 = .ok (.iadd, 1) := by decide +kernel
theorem dX10_plainMark_49 : decode cX10_plainMark 49 = .ok (.istore_n 3, 1) := by decide +kernel
theorem dX10_plainMark_50 : decode cX10_plainMark 50 = .ok (.iload_n 2, 1) := by decide +kernel
theorem dX10_plainMark_51 : decode cX10_plainMark 51 = .ok (.iconst 2, 1) := by decide +kernel
theorem dX10_plainMark_52 : decode cX10_plainMark 52 = .ok (.if_icmp .ne 9, 3) := by decide +kernel
theorem dX10_plainMark_55 : decode cX10_plainMark 55 = .ok (.iconst 2, 1) := by decide +kernel
theorem dX10_plainMark_56 : decode cX10_plainMark 56 = .ok (.iload_n 3, 1) := by decide +kernel
theorem dX10_plainMark_57 : decode cX10_plainMark 57 = .ok (.imul, 1) := by decide +kernel
theorem dX10_plainMark_58 : decode cX10_plainMark 58 = .ok (.goto 17, 3) := by decide +kernel
theorem dX10_plainMark_61 : decode cX10_plainMark 61 = .ok (.iload_n 2, 1) := by decide +kernel
theorem dX10_plainMark_62 : decode cX10_plainMark 62 = .ok (.iconst 3, 1) := by decide +kernel
theorem dX10_plainMark_63 : decode cX10_plainMark 63 = .ok (.if_icmp .ne 11, 3) := by decide +kernel
theorem dX10_plainMark_66 : decode cX10_plainMark 66 = .ok (.iload_n 3, 1) := by decide +kernel
theorem dX10_plainMark_67 : decode cX10_plainMark 67 = .ok (.sipush 1000, 3) := by decide +kernel
theorem dX10_plainMark_70 : decode cX10_plainMark 70 = .ok (.isub, 1) := by decide +kernel
theorem dX10_plainMark_71 : decode cX10_plainMark 71 = .ok (.goto 4, 3) := by decide +kernel
theorem dX10_plainMark_74 : decode cX10_plainMark 74 = .ok (.iload_n 3, 1) := by decide +kernel
theorem dX10_plainMark_75 : decode cX10_plainMark 75 = .ok (.ireturn, 1) := by decide +kernel
theorem dX10_guestSize_0 : decode cX10_guestSize 0 = .ok (.aload_n 0, 1) := by decide +kernel
theorem dX10_guestSize_1 : decode cX10_guestSize 1 = .ok (.iload_n 1, 1) := by decide +kernel
theorem dX10_guestSize_2 : decode cX10_guestSize 2 = .ok (.invokevirtual 242, 3) := by decide +kernel
theorem dX10_guestSize_5 : decode cX10_guestSize 5 = .ok (.iconst 5, 1) := by decide +kernel
theorem dX10_guestSize_6 : decode cX10_guestSize 6 = .ok (.if_icmp .ne 7, 3) := by decide +kernel
theorem dX10_guestSize_9 : decode cX10_guestSize 9 = .ok (.iconst 1, 1) := by decide +kernel
theorem dX10_guestSize_10 : decode cX10_guestSize 10 = .ok (.goto 4, 3) := by decide +kernel
theorem dX10_guestSize_13 : decode cX10_guestSize 13 = .ok (.iconst 0, 1) := by decide +kernel
theorem dX10_guestSize_14 : decode cX10_guestSize 14 = .ok (.istore_n 2, 1) := by decide +kernel
theorem dX10_guestSize_15 : decode cX10_guestSize 15 = .ok (.iload_n 2, 1) := by decide +kernel
theorem dX10_guestSize_16 : decode cX10_guestSize 16 = .ok (.ifCond .eq 9, 3) := by decide +kernel
theorem dX10_guestSize_19 : decode cX10_guestSize 19 = .ok (.aload_n 0, 1) := by decide +kernel
theorem dX10_guestSize_20 : decode cX10_guestSize 20 = .ok (.bipush 14, 2) := by decide +kernel
theorem dX10_guestSize_22 : decode cX10_guestSize 22 = .ok (.invokevirtual 248, 3) := by decide +kernel
theorem dX10_guestSize_25 : decode cX10_guestSize 25 = .ok (.aload_n 0, 1) := by decide +kernel
theorem dX10_guestSize_26 : decode cX10_guestSize 26 = .ok (.bipush 13, 2) := by decide +kernel
theorem dX10_guestSize_28 : decode cX10_guestSize 28 = .ok (.invokevirtual 248, 3) := by decide +kernel
theorem dX10_guestSize_31 : decode cX10_guestSize 31 = .ok (.aload_n 0, 1) := by decide +kernel
theorem dX10_guestSize_32 : decode cX10_guestSize 32 = .ok (.bipush 10, 2) := by decide +kernel
theorem dX10_guestSize_34 : decode cX10_guestSize 34 = .ok (.invokevirtual 248, 3) := by decide +kernel
theorem dX10_guestSize_37 : decode cX10_guestSize 37 = .ok (.aload_n 0, 1) := by decide +kernel
theorem dX10_guestSize_38 : decode cX10_guestSize 38 = .ok (.getfield 25, 3) := by decide +kernel
theorem dX10_guestSize_41 : decode cX10_guestSize 41 = .ok (.bipush 44, 2) := by decide +kernel
theorem dX10_guestSize_43 : decode cX10_guestSize 43 = .ok (.bipush 10, 2) := by decide +kernel
theorem dX10_guestSize_45 : decode cX10_guestSize 45 = .ok (.iload_n 1, 1) := by decide +kernel
theorem dX10_guestSize_46 : decode cX10_guestSize 46 = .ok (.imul, 1) := by decide +kernel
theorem dX10_guestSize_47 : decode cX10_guestSize 47 = .ok (.iadd, 1) := by decide +kernel
theorem dX10_guestSize_48 : decode cX10_guestSize 48 = .ok (.iconst 2, 1) := by decide +kernel
theorem dX10_guestSize_49 : decode cX10_guestSize 49 = .ok (.iadd, 1) := by decide +kernel
theorem dX10_guestSize_50 : decode cX10_guestSize 50 = .ok (.iaload, 1) := by decide +kernel
theorem dX10_guestSize_51 : decode cX10_guestSize 51 = .ok (.bipush 100, 2) := by decide +kernel
theorem dX10_guestSize_53 : decode cX10_guestSize 53 = .ok (.isub, 1) := by decide +kernel
theorem dX10_guestSize_54 : decode cX10_guestSize 54 = .ok (.istore_n 3, 1) := by decide +kernel
theorem dX10_guestSize_55 : decode cX10_guestSize 55 = .ok (.iload_n 2, 1) := by decide +kernel
theorem dX10_guestSize_56 : decode cX10_guestSize 56 = .ok (.ifCond .eq 9, 3) := by decide +kernel
theorem dX10_guestSize_59 : decode cX10_guestSize 59 = .ok (.iconst 2, 1) := by decide +kernel
theorem dX10_guestSize_60 : decode cX10_guestSize 60 = .ok (.iload_n 3, 1) := by decide +kernel
theorem dX10_guestSize_61 : decode cX10_guestSize 61 = .ok (.imul, 1) := by decide +kernel
theorem dX10_guestSize_62 : decode cX10_guestSize 62 = .ok (.goto 4, 3) := by decide +kernel
theorem dX10_guestSize_65 : decode cX10_guestSize 65 = .ok (.iload_n 3, 1) := by decide +kernel
theorem dX10_guestSize_66 : decode cX10_guestSize 66 = .ok (.ireturn, 1) := by decide +kernel
theorem dX10_plainSize_0 : decode cX10_plainSize 0 = .ok (.aload_n 0, 1) := by decide +kernel
theorem dX10_plainSize_1 : decode cX10_plainSize 1 = .ok (.iload_n 1, 1) := by decide +kernel
theorem dX10_plainSize_2 : decode cX10_plainSize 2 = .ok (.invokevirtual 242, 3) := by decide +kernel
theorem dX10_plainSize_5 : decode cX10_plainSize 5 = .ok (.iconst 2, 1) := by decide +kernel
theorem dX10_plainSize_6 : decode cX10_plainSize 6 = .ok (.if_icmp .ne 7, 3) := by decide +kernel
theorem dX10_plainSize_9 : decode cX10_plainSize 9 = .ok (.iconst 1, 1) := by decide +kernel
theorem dX10_plainSize_10 : decode cX10_plainSize 10 = .ok (.goto 4, 3) := by decide +kernel
theorem dX10_plainSize_13 : decode cX10_plainSize 13 = .ok (.iconst 0, 1) := by decide +kernel
theorem dX10_plainSize_14 : decode cX10_plainSize 14 = .ok (.istore_n 2, 1) := by decide +kernel
theorem dX10_plainSize_15 : decode cX10_plainSize 15 = .ok (.iload_n 2, 1) := by decide +kernel
theorem dX10_plainSize_16 : decode cX10_plainSize 16 = .ok (.ifCond .eq 9, 3) := by decide +kernel
theorem dX10_plainSize_19 : decode cX10_plainSize 19 = .ok (.aload_n 0, 1) := by decide +kernel
theorem dX10_plainSize_20 : decode cX10_plainSize 20 = .ok (.bipush 12, 2) := by decide +kernel
theorem dX10_plainSize_22 : decode cX10_plainSize 22 = .ok (.invokevirtual 248, 3) := by decide +kernel
theorem dX10_plainSize_25 : decode cX10_plainSize 25 = .ok (.aload_n 0, 1) := by decide +kernel
theorem dX10_plainSize_26 : decode cX10_plainSize 26 = .ok (.bipush 11, 2) := by decide +kernel
theorem dX10_plainSize_28 : decode cX10_plainSize 28 = .ok (.invokevirtual 248, 3) := by decide +kernel
theorem dX10_plainSize_31 : decode cX10_plainSize 31 = .ok (.aload_n 0, 1) := by decide +kernel
theorem dX10_plainSize_32 : decode cX10_plainSize 32 = .ok (.bipush 10, 2) := by decide +kernel
theorem dX10_plainSize_34 : decode cX10_plainSize 34 = .ok (.invokevirtual 248, 3) := by decide +kernel
theorem dX10_plainSize_37 : decode cX10_plainSize 37 = .ok (.aload_n 0, 1) := by decide +kernel
theorem dX10_plainSize_38 : decode cX10_plainSize 38 = .ok (.getfield 25, 3) := by decide +kernel
theorem dX10_plainSize_41 : decode cX10_plainSize 41 = .ok (.bipush 44, 2) := by decide +kernel
theorem dX10_plainSize_43 : decode cX10_plainSize 43 = .ok (.bipush 10, 2) := by decide +kernel
theorem dX10_plainSize_45 : decode cX10_plainSize 45 = .ok (.iload_n 1, 1) := by decide +kernel
theorem dX10_plainSize_46 : decode cX10_plainSize 46 = .ok (.imul, 1) := by decide +kernel
theorem dX10_plainSize_47 : decode cX10_plainSize 47 = .ok (.iadd, 1) := by decide +kernel
theorem dX10_plainSize_48 : decode cX10_plainSize 48 = .ok (.iconst 2, 1) := by decide +kernel
theorem dX10_plainSize_49 : decode cX10_plainSize 49 = .ok (.iadd, 1) := by decide +kernel
theorem dX10_plainSize_50 : decode cX10_plainSize 50 = .ok (.iaload, 1) := by decide +kernel
theorem dX10_plainSize_51 : decode cX10_plainSize 51 = .ok (.aload_n 0, 1) := by decide +kernel
theorem dX10_plainSize_52 : decode cX10_plainSize 52 = .ok (.iload_n 1, 1) := by decide +kernel
theorem dX10_plainSize_53 : decode cX10_plainSize 53 = .ok (.invokevirtual 251, 3) := by decide +kernel
theorem dX10_plainSize_56 : decode cX10_plainSize 56 = .ok (.iadd, 1) := by decide +kernel
theorem dX10_plainSize_57 : decode cX10_plainSize 57 = .ok (.istore_n 3, 1) := by decide +kernel
theorem dX10_plainSize_58 : decode cX10_plainSize 58 = .ok (.iload_n 2, 1) := by decide +kernel
theorem dX10_plainSize_59 : decode cX10_plainSize 59 = .ok (.ifCond .eq 8, 3) := by decide +kernel
theorem dX10_plainSize_62 : decode cX10_plainSize 62 = .ok (.iload_n 3, 1) := by decide +kernel
theorem dX10_plainSize_63 : decode cX10_plainSize 63 = .ok (.ineg, 1) := by decide +kernel
theorem dX10_plainSize_64 : decode cX10_plainSize 64 = .ok (.goto 4, 3) := by decide +kernel
theorem dX10_plainSize_67 : decode cX10_plainSize 67 = .ok (.iload_n 3, 1) := by decide +kernel
theorem dX10_plainSize_68 : decode cX10_plainSize 68 = .ok (.ireturn, 1) := by decide +kernel
theorem dX10_guestMark_0 : decode cX10_guestMark 0 = .ok (.aload_n 0, 1) := by decide +kernel
theorem dX10_guestMark_1 : decode cX10_guestMark 1 = .ok (.bipush 23, 2) := by decide +kernel
theorem dX10_guestMark_3 : decode cX10_guestMark 3 = .ok (.invokevirtual 248, 3) := by decide +kernel
theorem dX10_guestMark_6 : decode cX10_guestMark 6 = .ok (.aload_n 0, 1) := by decide +kernel
theorem dX10_guestMark_7 : decode cX10_guestMark 7 = .ok (.bipush 20, 2) := by decide +kernel
theorem dX10_guestMark_9 : decode cX10_guestMark 9 = .ok (.invokevirtual 248, 3) := by decide +kernel
theorem dX10_guestMark_12 : decode cX10_guestMark 12 = .ok (.iload_n 1, 1) := by decide +kernel
theorem dX10_guestMark_13 : decode cX10_guestMark 13 = .ok (.aload_n 0, 1) := by decide +kernel
theorem dX10_guestMark_14 : decode cX10_guestMark 14 = .ok (.iload_n 1, 1) := by decide +kernel
theorem dX10_guestMark_15 : decode cX10_guestMark 15 = .ok (.invokevirtual 254, 3) := by decide +kernel
theorem dX10_guestMark_18 : decode cX10_guestMark 18 = .ok (.isub, 1) := by decide +kernel
theorem dX10_guestMark_19 : decode cX10_guestMark 19 = .ok (.ireturn, 1) := by decide +kernel
theorem dX10_ask_0 : decode cX10_ask 0 = .ok (.aload_n 0, 1) := by decide +kernel
theorem dX10_ask_1 : decode cX10_ask 1 = .ok (.iload_n 1, 1) := by decide +kernel
theorem dX10_ask_2 : decode cX10_ask 2 = .ok (.invokevirtual 202, 3) := by decide +kernel
theorem dX10_ask_5 : decode cX10_ask 5 = .ok (.ifCond .eq 12, 3) := by decide +kernel
theorem dX10_ask_8 : decode cX10_ask 8 = .ok (.iload_n 2, 1) := by decide +kernel
theorem dX10_ask_9 : decode cX10_ask 9 = .ok (.iconst 0, 1) := by decide +kernel
theorem dX10_ask_10 : decode cX10_ask 10 = .ok (.iconst 1, 1) := by decide +kernel
theorem dX10_ask_11 : decode cX10_ask 11 = .ok (.invokestatic 62, 3) := by decide +kernel
theorem dX10_ask_14 : decode cX10_ask 14 = .ok (.ifCond .ne 6, 3) := by decide +kernel
theorem dX10_ask_17 : decode cX10_ask 17 = .ok (.ldc 70, 2) := by decide +kernel
theorem dX10_ask_19 : decode cX10_ask 19 = .ok (.ireturn, 1) := by decide +kernel
theorem dX10_ask_20 : decode cX10_ask 20 = .ok (.aload_n 0, 1) := by decide +kernel
theorem dX10_ask_21 : decode cX10_ask 21 = .ok (.iconst 0, 1) := by decide +kernel
theorem dX10_ask_22 : decode cX10_ask 22 = .ok (.putfield 245, 3) := by decide +kernel
theorem dX10_ask_25 : decode cX10_ask 25 = .ok (.aload_n 0, 1) := by decide +kernel
theorem dX10_ask_26 : decode cX10_ask 26 = .ok (.iload_n 1, 1) := by decide +kernel
theorem dX10_ask_27 : decode cX10_ask 27 = .ok (.invokevirtual 242, 3) := by decide +kernel
theorem dX10_ask_30 : decode cX10_ask 30 = .ok (.iconst 4, 1) := by decide +kernel
theorem dX10_ask_31 : decode cX10_ask 31 = .ok (.if_icmp .lt 7, 3) := by decide +kernel
theorem dX10_ask_34 : decode cX10_ask 34 = .ok (.iconst 1, 1) := by decide +kernel
theorem dX10_ask_35 : decode cX10_ask 35 = .ok (.goto 4, 3) := by decide +kernel
theorem dX10_ask_38 : decode cX10_ask 38 = .ok (.iconst 0, 1) := by decide +kernel
theorem dX10_ask_39 : decode cX10_ask 39 = .ok (.istore_n 3, 1) := by decide +kernel
theorem dX10_ask_40 : decode cX10_ask 40 = .ok (.iload_n 2, 1) := by decide +kernel
theorem dX10_ask_41 : decode cX10_ask 41 = .ok (.ifCond .ne 21, 3) := by decide +kernel
theorem dX10_ask_44 : decode cX10_ask 44 = .ok (.iload_n 3, 1) := by decide +kernel
theorem dX10_ask_45 : decode cX10_ask 45 = .ok (.ifCond .eq 11, 3) := by decide +kernel
theorem dX10_ask_48 : decode cX10_ask 48 = .ok (.aload_n 0, 1) := by decide +kernel
theorem dX10_ask_49 : decode cX10_ask 49 = .ok (.iload_n 1, 1) := by decide +kernel
theorem dX10_ask_50 : decode cX10_ask 50 = .ok (.invokevirtual 254, 3) := by decide +kernel
theorem dX10_ask_53 : decode cX10_ask 53 = .ok (.goto 8, 3) := by decide +kernel
theorem dX10_ask_56 : decode cX10_ask 56 = .ok (.aload_n 0, 1) := by decide +kernel
theorem dX10_ask_57 : decode cX10_ask 57 = .ok (.iload_n 1, 1) := by decide +kernel
theorem dX10_ask_58 : decode cX10_ask 58 = .ok (.invokevirtual 257, 3) := by decide +kernel
theorem dX10_ask_61 : decode cX10_ask 61 = .ok (.ireturn, 1) := by decide +kernel
theorem dX10_ask_62 : decode cX10_ask 62 = .ok (.iload_n 3, 1) := by decide +kernel
theorem dX10_ask_63 : decode cX10_ask 63 = .ok (.ifCond .eq 11, 3) := by decide +kernel
theorem dX10_ask_66 : decode cX10_ask 66 = .ok (.aload_n 0, 1) := by decide +kernel
theorem dX10_ask_67 : decode cX10_ask 67 = .ok (.iload_n 1, 1) := by decide +kernel
theorem dX10_ask_68 : decode cX10_ask 68 = .ok (.invokevirtual 260, 3) := by decide +kernel
theorem dX10_ask_71 : decode cX10_ask 71 = .ok (.goto 8, 3) := by decide +kernel
theorem dX10_ask_74 : decode cX10_ask 74 = .ok (.aload_n 0, 1) := by decide +kernel
theorem dX10_ask_75 : decode cX10_ask 75 = .ok (.iload_n 1, 1) := by decide +kernel
theorem dX10_ask_76 : decode cX10_ask 76 = .ok (.invokevirtual 251, 3) := by decide +kernel
theorem dX10_ask_79 : decode cX10_ask 79 = .ok (.ireturn, 1) := by decide +kernel
theorem dX10_trace_0 : decode cX10_trace 0 = .ok (.iload_n 1, 1) := by decide +kernel
theorem dX10_trace_1 : decode cX10_trace 1 = .ok (.iconst 0, 1) := by decide +kernel
theorem dX10_trace_2 : decode cX10_trace 2 = .ok (.aload_n 0, 1) := by decide +kernel
theorem dX10_trace_3 : decode cX10_trace 3 = .ok (.getfield 245, 3) := by decide +kernel
theorem dX10_trace_6 : decode cX10_trace 6 = .ok (.iconst 1, 1) := by decide +kernel
theorem dX10_trace_7 : decode cX10_trace 7 = .ok (.isub, 1) := by decide +kernel
theorem dX10_trace_8 : decode cX10_trace 8 = .ok (.invokestatic 62, 3) := by decide +kernel
theorem dX10_trace_11 : decode cX10_trace 11 = .ok (.ifCond .eq 12, 3) := by decide +kernel
theorem dX10_trace_14 : decode cX10_trace 14 = .ok (.aload_n 0, 1) := by decide +kernel
theorem dX10_trace_15 : decode cX10_trace 15 = .ok (.getfield 53, 3) := by decide +kernel
theorem dX10_trace_18 : decode cX10_trace 18 = .ok (.iload_n 1, 1) := by decide +kernel
theorem dX10_trace_19 : decode cX10_trace 19 = .ok (.iaload, 1) := by decide +kernel
theorem dX10_trace_20 : decode cX10_trace 20 = .ok (.goto 5, 3) := by decide +kernel
theorem dX10_trace_23 : decode cX10_trace 23 = .ok (.ldc 56, 2) := by decide +kernel
theorem dX10_trace_25 : decode cX10_trace 25 = .ok (.ireturn, 1) := by decide +kernel
theorem dX10_count_0 : decode cX10_count 0 = .ok (.iconst 0, 1) := by decide +kernel
theorem dX10_count_1 : decode cX10_count 1 = .ok (.istore_n 2, 1) := by decide +kernel
theorem dX10_count_2 : decode cX10_count 2 = .ok (.iload_n 1, 1) := by decide +kernel
theorem dX10_count_3 : decode cX10_count 3 = .ok (.tableswitch 146 0 8 #[49, 81, 88, 95, 102, 121, 128, 136, 141], 49) := by decide +kernel
theorem dX10_count_52 : decode cX10_count 52 = .ok (.iconst 0, 1) := by decide +kernel
theorem dX10_count_53 : decode cX10_count 53 = .ok (.istore_n 3, 1) := by decide +kernel
theorem dX10_count_54 : decode cX10_count 54 = .ok (.iload_n 3, 1) := by decide +kernel
theorem dX10_count_55 : decode cX10_count 55 = .ok (.bipush 8, 2) := by decide +kernel
theorem dX10_count_57 : decode cX10_count 57 = .ok (.if_icmp .ge 25, 3) := by decide +kernel
theorem dX10_count_60 : decode cX10_count 60 = .ok (.iload_n 2, 1) := by decide +kernel
theorem dX10_count_61 : decode cX10_count 61 = .ok (.aload_n 0, 1) := by decide +kernel
theorem dX10_count_62 : decode cX10_count 62 = .ok (.iload_n 3, 1) := by decide +kernel
theorem dX10_count_63 : decode cX10_count 63 = .ok (.invokevirtual 78, 3) := by decide +kernel
theorem dX10_count_66 : decode cX10_count 66 = .ok (.ifCond .eq 7, 3) := by decide +kernel
theorem dX10_count_69 : decode cX10_count 69 = .ok (.iconst 0, 1) := by decide +kernel
theorem dX10_count_70 : decode cX10_count 70 = .ok (.goto 4, 3) := by decide +kernel
theorem dX10_count_73 : decode cX10_count 73 = .ok (.iconst 1, 1) := by decide +kernel
theorem dX10_count_74 : decode cX10_count 74 = .ok (.iadd, 1) := by decide +kernel
theorem dX10_count_75 : decode cX10_count 75 = .ok (.istore_n 2, 1) := by decide +kernel
theorem dX10_count_76 : decode cX10_count 76 = .ok (.iinc 3 1, 3) := by decide +kernel
theorem dX10_count_79 : decode cX10_count 79 = .ok (.goto (-25), 3) := by decide +kernel
theorem dX10_count_82 : decode cX10_count 82 = .ok (.iload_n 2, 1) := by decide +kernel
theorem dX10_count_83 : decode cX10_count 83 = .ok (.ireturn, 1) := by decide +kernel
theorem dX10_count_84 : decode cX10_count 84 = .ok (.aload_n 0, 1) := by decide +kernel
theorem dX10_count_85 : decode cX10_count 85 = .ok (.getfield 25, 3) := by decide +kernel
theorem dX10_count_88 : decode cX10_count 88 = .ok (.iconst 0, 1) := by decide +kernel
theorem dX10_count_89 : decode cX10_count 89 = .ok (.iaload, 1) := by decide +kernel
theorem dX10_count_90 : decode cX10_count 90 = .ok (.ireturn, 1) := by decide +kernel
theorem dX10_count_91 : decode cX10_count 91 = .ok (.aload_n 0, 1) := by decide +kernel
theorem dX10_count_92 : decode cX10_count 92 = .ok (.getfield 25, 3) := by decide +kernel
theorem dX10_count_95 : decode cX10_count 95 = .ok (.iconst 1, 1) := by decide +kernel
theorem dX10_count_96 : decode cX10_count 96 = .ok (.iaload, 1) := by decide +kernel
theorem dX10_count_97 : decode cX10_count 97 = .ok (.ireturn, 1) := by decide +kernel
theorem dX10_count_98 : decode cX10_count 98 = .ok (.aload_n 0, 1) := by decide +kernel
theorem dX10_count_99 : decode cX10_count 99 = .ok (.getfield 25, 3) := by decide +kernel
theorem dX10_count_102 : decode cX10_count 102 = .ok (.iconst 2, 1) := by decide +kernel
theorem dX10_count_103 : decode cX10_count 103 = .ok (.iaload, 1) := by decide +kernel
theorem dX10_count_104 : decode cX10_count 104 = .ok (.ireturn, 1) := by decide +kernel
theorem dX10_count_105 : decode cX10_count 105 = .ok (.aload_n 0, 1) := by decide +kernel
theorem dX10_count_106 : decode cX10_count 106 = .ok (.invokevirtual 179, 3) := by decide +kernel
theorem dX10_count_109 : decode cX10_count 109 = .ok (.ifCond .eq 13, 3) := by decide +kernel
theorem dX10_count_112 : decode cX10_count 112 = .ok (.aload_n 0, 1) := by decide +kernel
theorem dX10_count_113 : decode cX10_count 113 = .ok (.getfield 25, 3) := by decide +kernel
theorem dX10_count_116 : decode cX10_count 116 = .ok (.invokestatic 157, 3) := by decide +kernel
theorem dX10_count_119 : decode cX10_count 119 = .ok (.goto 4, 3) := by decide +kernel
theorem dX10_count_122 : decode cX10_count 122 = .ok (.iconst 0, 1) := by decide +kernel
theorem dX10_count_123 : decode cX10_count 123 = .ok (.ireturn, 1) := by decide +kernel
theorem dX10_count_124 : decode cX10_count 124 = .ok (.aload_n 0, 1) := by decide +kernel
theorem dX10_count_125 : decode cX10_count 125 = .ok (.getfield 25, 3) := by decide +kernel
theorem dX10_count_128 : decode cX10_count 128 = .ok (.iconst 3, 1) := by decide +kernel
theorem dX10_count_129 : decode cX10_count 129 = .ok (.iaload, 1) := by decide +kernel
theorem dX10_count_130 : decode cX10_count 130 = .ok (.ireturn, 1) := by decide +kernel
theorem dX10_count_131 : decode cX10_count 131 = .ok (.aload_n 0, 1) := by decide +kernel
theorem dX10_count_132 : decode cX10_count 132 = .ok (.getfield 25, 3) := by decide +kernel
theorem dX10_count_135 : decode cX10_count 135 = .ok (.invokestatic 224, 3) := by decide +kernel
theorem dX10_count_138 : decode cX10_count 138 = .ok (.ireturn, 1) := by decide +kernel
theorem dX10_count_139 : decode cX10_count 139 = .ok (.aload_n 0, 1) := by decide +kernel
theorem dX10_count_140 : decode cX10_count 140 = .ok (.getfield 150, 3) := by decide +kernel
theorem dX10_count_143 : decode cX10_count 143 = .ok (.ireturn, 1) := by decide +kernel
theorem dX10_count_144 : decode cX10_count 144 = .ok (.aload_n 0, 1) := by decide +kernel
theorem dX10_count_145 : decode cX10_count 145 = .ok (.getfield 88, 3) := by decide +kernel
theorem dX10_count_148 : decode cX10_count 148 = .ok (.ireturn, 1) := by decide +kernel
theorem dX10_count_149 : decode cX10_count 149 = .ok (.ldc 70, 2) := by decide +kernel
theorem dX10_count_151 : decode cX10_count 151 = .ok (.ireturn, 1) := by decide +kernel
theorem dX10_status_0 : decode cX10_status 0 = .ok (.aload_n 0, 1) := by decide +kernel
theorem dX10_status_1 : decode cX10_status 1 = .ok (.getfield 57, 3) := by decide +kernel
theorem dX10_status_4 : decode cX10_status 4 = .ok (.ireturn, 1) := by decide +kernel
