theorem d_L_cell_0 : decode c_L_cell 0 = .ok (.iload_n 1, 1) := by decide +kernel
theorem d_L_cell_1 : decode c_L_cell 1 = .ok (.aload_n 0, 1) := by decide +kernel
theorem d_L_cell_2 : decode c_L_cell 2 = .ok (.arraylength, 1) := by decide +kernel
theorem d_L_cell_3 : decode c_L_cell 3 = .ok (.if_icmp .ge 9, 3) := by decide +kernel
theorem d_L_cell_6 : decode c_L_cell 6 = .ok (.aload_n 0, 1) := by decide +kernel
theorem d_L_cell_7 : decode c_L_cell 7 = .ok (.iload_n 1, 1) := by decide +kernel
theorem d_L_cell_8 : decode c_L_cell 8 = .ok (.iaload, 1) := by decide +kernel
theorem d_L_cell_9 : decode c_L_cell 9 = .ok (.goto 4, 3) := by decide +kernel
theorem d_L_cell_12 : decode c_L_cell 12 = .ok (.iconst 0, 1) := by decide +kernel
theorem d_L_cell_13 : decode c_L_cell 13 = .ok (.ireturn, 1) := by decide +kernel
theorem d_L_count_0 : decode c_L_count 0 = .ok (.aload 4, 2) := by decide +kernel
theorem d_L_count_2 : decode c_L_count 2 = .ok (.iconst 0, 1) := by decide +kernel
theorem d_L_count_3 : decode c_L_count 3 = .ok (.aload_n 0, 1) := by decide +kernel
theorem d_L_count_4 : decode c_L_count 4 = .ok (.iload_n 1, 1) := by decide +kernel
theorem d_L_count_5 : decode c_L_count 5 = .ok (.lload_n 2, 1) := by decide +kernel
theorem d_L_count_6 : decode c_L_count 6 = .ok (.invokevirtual 7, 3) := by decide +kernel
theorem d_L_count_9 : decode c_L_count 9 = .ok (.ifCond .eq 7, 3) := by decide +kernel
theorem d_L_count_12 : decode c_L_count 12 = .ok (.lconst 1, 1) := by decide +kernel
theorem d_L_count_13 : decode c_L_count 13 = .ok (.goto 4, 3) := by decide +kernel
theorem d_L_count_16 : decode c_L_count 16 = .ok (.lconst 0, 1) := by decide +kernel
theorem d_L_count_17 : decode c_L_count 17 = .ok (.lastore, 1) := by decide +kernel
theorem d_L_count_18 : decode c_L_count 18 = .ok (.goto 11, 3) := by decide +kernel
theorem d_L_count_21 : decode c_L_count 21 = .ok (.astore 5, 2) := by decide +kernel
theorem d_L_count_23 : decode c_L_count 23 = .ok (.iconst 1, 1) := by decide +kernel
theorem d_L_count_24 : decode c_L_count 24 = .ok (.ireturn, 1) := by decide +kernel
theorem d_L_count_25 : decode c_L_count 25 = .ok (.astore 5, 2) := by decide +kernel
theorem d_L_count_27 : decode c_L_count 27 = .ok (.iconst 2, 1) := by decide +kernel
theorem d_L_count_28 : decode c_L_count 28 = .ok (.ireturn, 1) := by decide +kernel
theorem d_L_count_29 : decode c_L_count 29 = .ok (.iconst 0, 1) := by decide +kernel
theorem d_L_count_30 : decode c_L_count 30 = .ok (.ireturn, 1) := by decide +kernel
theorem d_L_make_0 : decode c_L_make 0 = .ok (.aload_n 2, 1) := by decide +kernel
theorem d_L_make_1 : decode c_L_make 1 = .ok (.iconst 0, 1) := by decide +kernel
theorem d_L_make_2 : decode c_L_make 2 = .ok (.aload_n 0, 1) := by decide +kernel
theorem d_L_make_3 : decode c_L_make 3 = .ok (.iload_n 1, 1) := by decide +kernel
theorem d_L_make_4 : decode c_L_make 4 = .ok (.invokevirtual 17, 3) := by decide +kernel
theorem d_L_make_7 : decode c_L_make 7 = .ok (.i2l, 1) := by decide +kernel
theorem d_L_make_8 : decode c_L_make 8 = .ok (.lastore, 1) := by decide +kernel
theorem d_L_make_9 : decode c_L_make 9 = .ok (.goto 6, 3) := by decide +kernel
theorem d_L_make_12 : decode c_L_make 12 = .ok (.astore_n 3, 1) := by decide +kernel
theorem d_L_make_13 : decode c_L_make 13 = .ok (.iconst 1, 1) := by decide +kernel
theorem d_L_make_14 : decode c_L_make 14 = .ok (.ireturn, 1) := by decide +kernel
theorem d_L_make_15 : decode c_L_make 15 = .ok (.iconst 0, 1) := by decide +kernel
theorem d_L_make_16 : decode c_L_make 16 = .ok (.ireturn, 1) := by decide +kernel
theorem d_L_length_0 : decode c_L_length 0 = .ok (.aload_n 2, 1) := by decide +kernel
theorem d_L_length_1 : decode c_L_length 1 = .ok (.iconst 0, 1) := by decide +kernel
theorem d_L_length_2 : decode c_L_length 2 = .ok (.aload_n 0, 1) := by decide +kernel
theorem d_L_length_3 : decode c_L_length 3 = .ok (.iload_n 1, 1) := by decide +kernel
theorem d_L_length_4 : decode c_L_length 4 = .ok (.invokevirtual 21, 3) := by decide +kernel
theorem d_L_length_7 : decode c_L_length 7 = .ok (.i2l, 1) := by decide +kernel
theorem d_L_length_8 : decode c_L_length 8 = .ok (.lastore, 1) := by decide +kernel
theorem d_L_length_9 : decode c_L_length 9 = .ok (.goto 6, 3) := by decide +kernel
theorem d_L_length_12 : decode c_L_length 12 = .ok (.astore_n 3, 1) := by decide +kernel
theorem d_L_length_13 : decode c_L_length 13 = .ok (.iconst 1, 1) := by decide +kernel
theorem d_L_length_14 : decode c_L_length 14 = .ok (.ireturn, 1) := by decide +kernel
theorem d_L_length_15 : decode c_L_length 15 = .ok (.iconst 0, 1) := by decide +kernel
theorem d_L_length_16 : decode c_L_length 16 = .ok (.ireturn, 1) := by decide +kernel
theorem d_L_code_0 : decode c_L_code 0 = .ok (.aload_n 2, 1) := by decide +kernel
theorem d_L_code_1 : decode c_L_code 1 = .ok (.iconst 0, 1) := by decide +kernel
theorem d_L_code_2 : decode c_L_code 2 = .ok (.aload_n 0, 1) := by decide +kernel
theorem d_L_code_3 : decode c_L_code 3 = .ok (.iload_n 1, 1) := by decide +kernel
theorem d_L_code_4 : decode c_L_code 4 = .ok (.invokevirtual 24, 3) := by decide +kernel
theorem d_L_code_7 : decode c_L_code 7 = .ok (.lastore, 1) := by decide +kernel
theorem d_L_code_8 : decode c_L_code 8 = .ok (.goto 9, 3) := by decide +kernel
theorem d_L_code_11 : decode c_L_code 11 = .ok (.astore_n 3, 1) := by decide +kernel
theorem d_L_code_12 : decode c_L_code 12 = .ok (.iconst 1, 1) := by decide +kernel
theorem d_L_code_13 : decode c_L_code 13 = .ok (.ireturn, 1) := by decide +kernel
theorem d_L_code_14 : decode c_L_code 14 = .ok (.astore_n 3, 1) := by decide +kernel
theorem d_L_code_15 : decode c_L_code 15 = .ok (.iconst 2, 1) := by decide +kernel
theorem d_L_code_16 : decode c_L_code 16 = .ok (.ireturn, 1) := by decide +kernel
theorem d_L_code_17 : decode c_L_code 17 = .ok (.iconst 0, 1) := by decide +kernel
theorem d_L_code_18 : decode c_L_code 18 = .ok (.ireturn, 1) := by decide +kernel
theorem d_L_given_0 : decode c_L_given 0 = .ok (.aload_n 3, 1) := by decide +kernel
theorem d_L_given_1 : decode c_L_given 1 = .ok (.iconst 0, 1) := by decide +kernel
theorem d_L_given_2 : decode c_L_given 2 = .ok (.aload_n 0, 1) := by decide +kernel
theorem d_L_given_3 : decode c_L_given 3 = .ok (.iload_n 1, 1) := by decide +kernel
theorem d_L_given_4 : decode c_L_given 4 = .ok (.iload_n 2, 1) := by decide +kernel
theorem d_L_given_5 : decode c_L_given 5 = .ok (.invokevirtual 30, 3) := by decide +kernel
theorem d_L_given_8 : decode c_L_given 8 = .ok (.ifCond .eq 7, 3) := by decide +kernel
theorem d_L_given_11 : decode c_L_given 11 = .ok (.lconst 1, 1) := by decide +kernel
theorem d_L_given_12 : decode c_L_given 12 = .ok (.goto 4, 3) := by decide +kernel
theorem d_L_given_15 : decode c_L_given 15 = .ok (.lconst 0, 1) := by decide +kernel
theorem d_L_given_16 : decode c_L_given 16 = .ok (.lastore, 1) := by decide +kernel
theorem d_L_given_17 : decode c_L_given 17 = .ok (.goto 11, 3) := by decide +kernel
theorem d_L_given_20 : decode c_L_given 20 = .ok (.astore 4, 2) := by decide +kernel
theorem d_L_given_22 : decode c_L_given 22 = .ok (.iconst 1, 1) := by decide +kernel
theorem d_L_given_23 : decode c_L_given 23 = .ok (.ireturn, 1) := by decide +kernel
theorem d_L_given_24 : decode c_L_given 24 = .ok (.astore 4, 2) := by decide +kernel
theorem d_L_given_26 : decode c_L_given 26 = .ok (.iconst 2, 1) := by decide +kernel
theorem d_L_given_27 : decode c_L_given 27 = .ok (.ireturn, 1) := by decide +kernel
theorem d_L_given_28 : decode c_L_given 28 = .ok (.iconst 0, 1) := by decide +kernel
theorem d_L_given_29 : decode c_L_given 29 = .ok (.ireturn, 1) := by decide +kernel
theorem d_L_range_0 : decode c_L_range 0 = .ok (.aload 5, 2) := by decide +kernel
theorem d_L_range_2 : decode c_L_range 2 = .ok (.iconst 0, 1) := by decide +kernel
theorem d_L_range_3 : decode c_L_range 3 = .ok (.aload_n 0, 1) := by decide +kernel
theorem d_L_range_4 : decode c_L_range 4 = .ok (.iload_n 1, 1) := by decide +kernel
theorem d_L_range_5 : decode c_L_range 5 = .ok (.iload_n 2, 1) := by decide +kernel
theorem d_L_range_6 : decode c_L_range 6 = .ok (.iload_n 3, 1) := by decide +kernel
theorem d_L_range_7 : decode c_L_range 7 = .ok (.iload 4, 2) := by decide +kernel
theorem d_L_range_9 : decode c_L_range 9 = .ok (.invokevirtual 34, 3) := by decide +kernel
theorem d_L_range_12 : decode c_L_range 12 = .ok (.ifCond .eq 7, 3) := by decide +kernel
theorem d_L_range_15 : decode c_L_range 15 = .ok (.lconst 1, 1) := by decide +kernel
theorem d_L_range_16 : decode c_L_range 16 = .ok (.goto 4, 3) := by decide +kernel
theorem d_L_range_19 : decode c_L_range 19 = .ok (.lconst 0, 1) := by decide +kernel
theorem d_L_range_20 : decode c_L_range 20 = .ok (.lastore, 1) := by decide +kernel
theorem d_L_range_21 : decode c_L_range 21 = .ok (.goto 11, 3) := by decide +kernel
theorem d_L_range_24 : decode c_L_range 24 = .ok (.astore 6, 2) := by decide +kernel
theorem d_L_range_26 : decode c_L_range 26 = .ok (.iconst 1, 1) := by decide +kernel
theorem d_L_range_27 : decode c_L_range 27 = .ok (.ireturn, 1) := by decide +kernel
theorem d_L_range_28 : decode c_L_range 28 = .ok (.astore 6, 2) := by decide +kernel
theorem d_L_range_30 : decode c_L_range 30 = .ok (.iconst 2, 1) := by decide +kernel
theorem d_L_range_31 : decode c_L_range 31 = .ok (.ireturn, 1) := by decide +kernel
theorem d_L_range_32 : decode c_L_range 32 = .ok (.iconst 0, 1) := by decide +kernel
theorem d_L_range_33 : decode c_L_range 33 = .ok (.ireturn, 1) := by decide +kernel
theorem d_L_feed_0 : decode c_L_feed 0 = .ok (.aload_n 2, 1) := by decide +kernel
theorem d_L_feed_1 : decode c_L_feed 1 = .ok (.iconst 0, 1) := by decide +kernel
theorem d_L_feed_2 : decode c_L_feed 2 = .ok (.aload_n 0, 1) := by decide +kernel
theorem d_L_feed_3 : decode c_L_feed 3 = .ok (.iload_n 1, 1) := by decide +kernel
theorem d_L_feed_4 : decode c_L_feed 4 = .ok (.invokevirtual 38, 3) := by decide +kernel
theorem d_L_feed_7 : decode c_L_feed 7 = .ok (.ifCond .eq 7, 3) := by decide +kernel
theorem d_L_feed_10 : decode c_L_feed 10 = .ok (.lconst 1, 1) := by decide +kernel
theorem d_L_feed_11 : decode c_L_feed 11 = .ok (.goto 4, 3) := by decide +kernel
theorem d_L_feed_14 : decode c_L_feed 14 = .ok (.lconst 0, 1) := by decide +kernel
theorem d_L_feed_15 : decode c_L_feed 15 = .ok (.lastore, 1) := by decide +kernel
theorem d_L_feed_16 : decode c_L_feed 16 = .ok (.goto 6, 3) := by decide +kernel
theorem d_L_feed_19 : decode c_L_feed 19 = .ok (.astore_n 3, 1) := by decide +kernel
theorem d_L_feed_20 : decode c_L_feed 20 = .ok (.iconst 1, 1) := by decide +kernel
theorem d_L_feed_21 : decode c_L_feed 21 = .ok (.ireturn, 1) := by decide +kernel
theorem d_L_feed_22 : decode c_L_feed 22 = .ok (.iconst 0, 1) := by decide +kernel
theorem d_L_feed_23 : decode c_L_feed 23 = .ok (.ireturn, 1) := by decide +kernel
theorem d_L_read_0 : decode c_L_read 0 = .ok (.aload_n 1, 1) := by decide +kernel
theorem d_L_read_1 : decode c_L_read 1 = .ok (.iconst 0, 1) := by decide +kernel
theorem d_L_read_2 : decode c_L_read 2 = .ok (.aload_n 0, 1) := by decide +kernel
theorem d_L_read_3 : decode c_L_read 3 = .ok (.invokevirtual 42, 3) := by decide +kernel
theorem d_L_read_6 : decode c_L_read 6 = .ok (.i2l, 1) := by decide +kernel
theorem d_L_read_7 : decode c_L_read 7 = .ok (.lastore, 1) := by decide +kernel
theorem d_L_read_8 : decode c_L_read 8 = .ok (.goto 6, 3) := by decide +kernel
theorem d_L_read_11 : decode c_L_read 11 = .ok (.astore_n 2, 1) := by decide +kernel
theorem d_L_read_12 : decode c_L_read 12 = .ok (.iconst 1, 1) := by decide +kernel
theorem d_L_read_13 : decode c_L_read 13 = .ok (.ireturn, 1) := by decide +kernel
theorem d_L_read_14 : decode c_L_read 14 = .ok (.iconst 0, 1) := by decide +kernel
theorem d_L_read_15 : decode c_L_read 15 = .ok (.ireturn, 1) := by decide +kernel
theorem d_L_last_0 : decode c_L_last 0 = .ok (.aload_n 1, 1) := by decide +kernel
theorem d_L_last_1 : decode c_L_last 1 = .ok (.iconst 0, 1) := by decide +kernel
theorem d_L_last_2 : decode c_L_last 2 = .ok (.aload_n 0, 1) := by decide +kernel
theorem d_L_last_3 : decode c_L_last 3 = .ok (.invokevirtual 46, 3) := by decide +kernel
theorem d_L_last_6 : decode c_L_last 6 = .ok (.lastore, 1) := by decide +kernel
theorem d_L_last_7 : decode c_L_last 7 = .ok (.goto 6, 3) := by decide +kernel
theorem d_L_last_10 : decode c_L_last 10 = .ok (.astore_n 2, 1) := by decide +kernel
theorem d_L_last_11 : decode c_L_last 11 = .ok (.iconst 1, 1) := by decide +kernel
theorem d_L_last_12 : decode c_L_last 12 = .ok (.ireturn, 1) := by decide +kernel
theorem d_L_last_13 : decode c_L_last 13 = .ok (.iconst 0, 1) := by decide +kernel
theorem d_L_last_14 : decode c_L_last 14 = .ok (.ireturn, 1) := by decide +kernel
theorem d_L_law_0 : decode c_L_law 0 = .ok (.new 8, 3) := by decide +kernel
theorem d_L_law_3 : decode c_L_law 3 = .ok (.dup, 1) := by decide +kernel
theorem d_L_law_4 : decode c_L_law 4 = .ok (.aload_n 0, 1) := by decide +kernel
theorem d_L_law_5 : decode c_L_law 5 = .ok (.iconst 0, 1) := by decide +kernel
theorem d_L_law_6 : decode c_L_law 6 = .ok (.invokestatic 50, 3) := by decide +kernel
theorem d_L_law_9 : decode c_L_law 9 = .ok (.invokespecial 56, 3) := by decide +kernel
theorem d_L_law_12 : decode c_L_law 12 = .ok (.astore_n 1, 1) := by decide +kernel
theorem d_L_law_13 : decode c_L_law 13 = .ok (.new 59, 3) := by decide +kernel
theorem d_L_law_16 : decode c_L_law 16 = .ok (.dup, 1) := by decide +kernel
theorem d_L_law_17 : decode c_L_law 17 = .ok (.aload_n 0, 1) := by decide +kernel
theorem d_L_law_18 : decode c_L_law 18 = .ok (.iconst 0, 1) := by decide +kernel
theorem d_L_law_19 : decode c_L_law 19 = .ok (.invokestatic 50, 3) := by decide +kernel
theorem d_L_law_22 : decode c_L_law 22 = .ok (.invokespecial 61, 3) := by decide +kernel
theorem d_L_law_25 : decode c_L_law 25 = .ok (.astore_n 2, 1) := by decide +kernel
theorem d_L_law_26 : decode c_L_law 26 = .ok (.iconst 1, 1) := by decide +kernel
theorem d_L_law_27 : decode c_L_law 27 = .ok (.newarray .long, 2) := by decide +kernel
theorem d_L_law_29 : decode c_L_law 29 = .ok (.astore_n 3, 1) := by decide +kernel
theorem d_L_law_30 : decode c_L_law 30 = .ok (.iconst 1, 1) := by decide +kernel
theorem d_L_law_31 : decode c_L_law 31 = .ok (.istore 4, 2) := by decide +kernel
theorem d_L_law_33 : decode c_L_law 33 = .ok (.iload 4, 2) := by decide +kernel
theorem d_L_law_35 : decode c_L_law 35 = .ok (.aload_n 0, 1) := by decide +kernel
theorem d_L_law_36 : decode c_L_law 36 = .ok (.arraylength, 1) := by decide +kernel
theorem d_L_law_37 : decode c_L_law 37 = .ok (.iconst 5, 1) := by decide +kernel
theorem d_L_law_38 : decode c_L_law 38 = .ok (.isub, 1) := by decide +kernel
theorem d_L_law_39 : decode c_L_law 39 = .ok (.if_icmp .gt 761, 3) := by decide +kernel
theorem d_L_law_42 : decode c_L_law 42 = .ok (.aload_n 0, 1) := by decide +kernel
theorem d_L_law_43 : decode c_L_law 43 = .ok (.iload 4, 2) := by decide +kernel
theorem d_L_law_45 : decode c_L_law 45 = .ok (.iaload, 1) := by decide +kernel
theorem d_L_law_46 : decode c_L_law 46 = .ok (.bipush 15, 2) := by decide +kernel
theorem d_L_law_48 : decode c_L_law 48 = .ok (.iand, 1) := by decide +kernel
theorem d_L_law_49 : decode c_L_law 49 = .ok (.tableswitch 745 0 13 #[71, 178, 234, 290, 345, 420, 519, 532, 595, 639, 682, 695, 709, 734], 71) := by decide +kernel
theorem d_L_law_120 : decode c_L_law 120 = .ok (.aload_n 1, 1) := by decide +kernel
theorem d_L_law_121 : decode c_L_law 121 = .ok (.aload_n 0, 1) := by decide +kernel
theorem d_L_law_122 : decode c_L_law 122 = .ok (.iload 4, 2) := by decide +kernel
theorem d_L_law_124 : decode c_L_law 124 = .ok (.iconst 1, 1) := by decide +kernel
theorem d_L_law_125 : decode c_L_law 125 = .ok (.iadd, 1) := by decide +kernel
theorem d_L_law_126 : decode c_L_law 126 = .ok (.iaload, 1) := by decide +kernel
theorem d_L_law_127 : decode c_L_law 127 = .ok (.aload_n 0, 1) := by decide +kernel
theorem d_L_law_128 : decode c_L_law 128 = .ok (.iload 4, 2) := by decide +kernel
theorem d_L_law_130 : decode c_L_law 130 = .ok (.iconst 2, 1) := by decide +kernel
theorem d_L_law_131 : decode c_L_law 131 = .ok (.iadd, 1) := by decide +kernel
theorem d_L_law_132 : decode c_L_law 132 = .ok (.iaload, 1) := by decide +kernel
theorem d_L_law_133 : decode c_L_law 133 = .ok (.i2l, 1) := by decide +kernel
theorem d_L_law_134 : decode c_L_law 134 = .ok (.bipush 32, 2) := by decide +kernel
theorem d_L_law_136 : decode c_L_law 136 = .ok (.lshl, 1) := by decide +kernel
theorem d_L_law_137 : decode c_L_law 137 = .ok (.aload_n 0, 1) := by decide +kernel
theorem d_L_law_138 : decode c_L_law 138 = .ok (.iload 4, 2) := by decide +kernel
theorem d_L_law_140 : decode c_L_law 140 = .ok (.iconst 3, 1) := by decide +kernel
theorem d_L_law_141 : decode c_L_law 141 = .ok (.iadd, 1) := by decide +kernel
theorem d_L_law_142 : decode c_L_law 142 = .ok (.iaload, 1) := by decide +kernel
theorem d_L_law_143 : decode c_L_law 143 = .ok (.i2l, 1) := by decide +kernel
theorem d_L_law_144 : decode c_L_law 144 = .ok (.ldc2_w 62, 3) := by decide +kernel
theorem d_L_law_147 : decode c_L_law 147 = .ok (.land, 1) := by decide +kernel
theorem d_L_law_148 : decode c_L_law 148 = .ok (.lor, 1) := by decide +kernel
theorem d_L_law_149 : decode c_L_law 149 = .ok (.aload_n 3, 1) := by decide +kernel
theorem d_L_law_150 : decode c_L_law 150 = .ok (.invokestatic 64, 3) := by decide +kernel
theorem d_L_law_153 : decode c_L_law 153 = .ok (.istore 5, 2) := by decide +kernel
theorem d_L_law_155 : decode c_L_law 155 = .ok (.aload_n 2, 1) := by decide +kernel
theorem d_L_law_156 : decode c_L_law 156 = .ok (.aload_n 0, 1) := by decide +kernel
theorem d_L_law_157 : decode c_L_law 157 = .ok (.iload 4, 2) := by decide +kernel
theorem d_L_law_159 : decode c_L_law 159 = .ok (.iconst 1, 1) := by decide +kernel
theorem d_L_law_160 : decode c_L_law 160 = .ok (.iadd, 1) := by decide +kernel
theorem d_L_law_161 : decode c_L_law 161 = .ok (.iaload, 1) := by decide +kernel
theorem d_L_law_162 : decode c_L_law 162 = .ok (.aload_n 0, 1) := by decide +kernel
theorem d_L_law_163 : decode c_L_law 163 = .ok (.iload 4, 2) := by decide +kernel
theorem d_L_law_165 : decode c_L_law 165 = .ok (.iconst 2, 1) := by decide +kernel
theorem d_L_law_166 : decode c_L_law 166 = .ok (.iadd, 1) := by decide +kernel
theorem d_L_law_167 : decode c_L_law 167 = .ok (.iaload, 1) := by decide +kernel
theorem d_L_law_168 : decode c_L_law 168 = .ok (.i2l, 1) := by decide +kernel
theorem d_L_law_169 : decode c_L_law 169 = .ok (.bipush 32, 2) := by decide +kernel
theorem d_L_law_171 : decode c_L_law 171 = .ok (.lshl, 1) := by decide +kernel
theorem d_L_law_172 : decode c_L_law 172 = .ok (.aload_n 0, 1) := by decide +kernel
theorem d_L_law_173 : decode c_L_law 173 = .ok (.iload 4, 2) := by decide +kernel
theorem d_L_law_175 : decode c_L_law 175 = .ok (.iconst 3, 1) := by decide +kernel
theorem d_L_law_176 : decode c_L_law 176 = .ok (.iadd, 1) := by decide +kernel
theorem d_L_law_177 : decode c_L_law 177 = .ok (.iaload, 1) := by decide +kernel
theorem d_L_law_178 : decode c_L_law 178 = .ok (.i2l, 1) := by decide +kernel
theorem d_L_law_179 : decode c_L_law 179 = .ok (.ldc2_w 62, 3) := by decide +kernel
theorem d_L_law_182 : decode c_L_law 182 = .ok (.land, 1) := by decide +kernel
theorem d_L_law_183 : decode c_L_law 183 = .ok (.lor, 1) := by decide +kernel
theorem d_L_law_184 : decode c_L_law 184 = .ok (.invokevirtual 67, 3) := by decide +kernel
theorem d_L_law_187 : decode c_L_law 187 = .ok (.istore 6, 2) := by decide +kernel
theorem d_L_law_189 : decode c_L_law 189 = .ok (.aload_n 2, 1) := by decide +kernel
theorem d_L_law_190 : decode c_L_law 190 = .ok (.invokevirtual 68, 3) := by decide +kernel
theorem d_L_law_193 : decode c_L_law 193 = .ok (.iload 5, 2) := by decide +kernel
theorem d_L_law_195 : decode c_L_law 195 = .ok (.if_icmp .eq 5, 3) := by decide +kernel
theorem d_L_law_198 : decode c_L_law 198 = .ok (.iconst 0, 1) := by decide +kernel
theorem d_L_law_199 : decode c_L_law 199 = .ok (.ireturn, 1) := by decide +kernel
theorem d_L_law_200 : decode c_L_law 200 = .ok (.iload 5, 2) := by decide +kernel
theorem d_L_law_202 : decode c_L_law 202 = .ok (.ifCond .ne 22, 3) := by decide +kernel
theorem d_L_law_205 : decode c_L_law 205 = .ok (.aload_n 3, 1) := by decide +kernel
theorem d_L_law_206 : decode c_L_law 206 = .ok (.iconst 0, 1) := by decide +kernel
theorem d_L_law_207 : decode c_L_law 207 = .ok (.laload, 1) := by decide +kernel
theorem d_L_law_208 : decode c_L_law 208 = .ok (.iload 6, 2) := by decide +kernel
theorem d_L_law_210 : decode c_L_law 210 = .ok (.ifCond .eq 7, 3) := by decide +kernel
theorem d_L_law_213 : decode c_L_law 213 = .ok (.lconst 1, 1) := by decide +kernel
theorem d_L_law_214 : decode c_L_law 214 = .ok (.goto 4, 3) := by decide +kernel
theorem d_L_law_217 : decode c_L_law 217 = .ok (.lconst 0, 1) := by decide +kernel
theorem d_L_law_218 : decode c_L_law 218 = .ok (.lcmp, 1) := by decide +kernel
theorem d_L_law_219 : decode c_L_law 219 = .ok (.ifCond .eq 5, 3) := by decide +kernel
theorem d_L_law_222 : decode c_L_law 222 = .ok (.iconst 0, 1) := by decide +kernel
theorem d_L_law_223 : decode c_L_law 223 = .ok (.ireturn, 1) := by decide +kernel
theorem d_L_law_224 : decode c_L_law 224 = .ok (.goto 570, 3) := by decide +kernel
theorem d_L_law_227 : decode c_L_law 227 = .ok (.aload_n 1, 1) := by decide +kernel
theorem d_L_law_228 : decode c_L_law 228 = .ok (.aload_n 0, 1) := by decide +kernel
theorem d_L_law_229 : decode c_L_law 229 = .ok (.iload 4, 2) := by decide +kernel
theorem d_L_law_231 : decode c_L_law 231 = .ok (.iconst 1, 1) := by decide +kernel
theorem d_L_law_232 : decode c_L_law 232 = .ok (.iadd, 1) := by decide +kernel
theorem d_L_law_233 : decode c_L_law 233 = .ok (.iaload, 1) := by decide +kernel
theorem d_L_law_234 : decode c_L_law 234 = .ok (.aload_n 3, 1) := by decide +kernel
theorem d_L_law_235 : decode c_L_law 235 = .ok (.invokestatic 71, 3) := by decide +kernel
theorem d_L_law_238 : decode c_L_law 238 = .ok (.istore 5, 2) := by decide +kernel
theorem d_L_law_240 : decode c_L_law 240 = .ok (.aload_n 2, 1) := by decide +kernel
theorem d_L_law_241 : decode c_L_law 241 = .ok (.aload_n 0, 1) := by decide +kernel
theorem d_L_law_242 : decode c_L_law 242 = .ok (.iload 4, 2) := by decide +kernel
theorem d_L_law_244 : decode c_L_law 244 = .ok (.iconst 1, 1) := by decide +kernel
theorem d_L_law_245 : decode c_L_law 245 = .ok (.iadd, 1) := by decide +kernel
theorem d_L_law_246 : decode c_L_law 246 = .ok (.iaload, 1) := by decide +kernel
theorem d_L_law_247 : decode c_L_law 247 = .ok (.invokevirtual 74, 3) := by decide +kernel
theorem d_L_law_250 : decode c_L_law 250 = .ok (.istore 6, 2) := by decide +kernel
theorem d_L_law_252 : decode c_L_law 252 = .ok (.aload_n 2, 1) := by decide +kernel
theorem d_L_law_253 : decode c_L_law 253 = .ok (.invokevirtual 68, 3) := by decide +kernel
theorem d_L_law_256 : decode c_L_law 256 = .ok (.iload 5, 2) := by decide +kernel
theorem d_L_law_258 : decode c_L_law 258 = .ok (.if_icmp .eq 5, 3) := by decide +kernel
theorem d_L_law_261 : decode c_L_law 261 = .ok (.iconst 0, 1) := by decide +kernel
theorem d_L_law_262 : decode c_L_law 262 = .ok (.ireturn, 1) := by decide +kernel
theorem d_L_law_263 : decode c_L_law 263 = .ok (.iload 5, 2) := by decide +kernel
theorem d_L_law_265 : decode c_L_law 265 = .ok (.ifCond .ne 15, 3) := by decide +kernel
theorem d_L_law_268 : decode c_L_law 268 = .ok (.aload_n 3, 1) := by decide +kernel
theorem d_L_law_269 : decode c_L_law 269 = .ok (.iconst 0, 1) := by decide +kernel
theorem d_L_law_270 : decode c_L_law 270 = .ok (.laload, 1) := by decide +kernel
theorem d_L_law_271 : decode c_L_law 271 = .ok (.iload 6, 2) := by decide +kernel
theorem d_L_law_273 : decode c_L_law 273 = .ok (.i2l, 1) := by decide +kernel
theorem d_L_law_274 : decode c_L_law 274 = .ok (.lcmp, 1) := by decide +kernel
theorem d_L_law_275 : decode c_L_law 275 = .ok (.ifCond .eq 5, 3) := by decide +kernel
theorem d_L_law_278 : decode c_L_law 278 = .ok (.iconst 0, 1) := by decide +kernel
theorem d_L_law_279 : decode c_L_law 279 = .ok (.ireturn, 1) := by decide +kernel
theorem d_L_law_280 : decode c_L_law 280 = .ok (.goto 514, 3) := by decide +kernel
theorem d_L_law_283 : decode c_L_law 283 = .ok (.aload_n 1, 1) := by decide +kernel
theorem d_L_law_284 : decode c_L_law 284 = .ok (.aload_n 0, 1) := by decide +kernel
theorem d_L_law_285 : decode c_L_law 285 = .ok (.iload 4, 2) := by decide +kernel
theorem d_L_law_287 : decode c_L_law 287 = .ok (.iconst 1, 1) := by decide +kernel
theorem d_L_law_288 : decode c_L_law 288 = .ok (.iadd, 1) := by decide +kernel
theorem d_L_law_289 : decode c_L_law 289 = .ok (.iaload, 1) := by decide +kernel
theorem d_L_law_290 : decode c_L_law 290 = .ok (.aload_n 3, 1) := by decide +kernel
theorem d_L_law_291 : decode c_L_law 291 = .ok (.invokestatic 75, 3) := by decide +kernel
theorem d_L_law_294 : decode c_L_law 294 = .ok (.istore 5, 2) := by decide +kernel
theorem d_L_law_296 : decode c_L_law 296 = .ok (.aload_n 2, 1) := by decide +kernel
theorem d_L_law_297 : decode c_L_law 297 = .ok (.aload_n 0, 1) := by decide +kernel
theorem d_L_law_298 : decode c_L_law 298 = .ok (.iload 4, 2) := by decide +kernel
theorem d_L_law_300 : decode c_L_law 300 = .ok (.iconst 1, 1) := by decide +kernel
theorem d_L_law_301 : decode c_L_law 301 = .ok (.iadd, 1) := by decide +kernel
theorem d_L_law_302 : decode c_L_law 302 = .ok (.iaload, 1) := by decide +kernel
theorem d_L_law_303 : decode c_L_law 303 = .ok (.invokevirtual 77, 3) := by decide +kernel
theorem d_L_law_306 : decode c_L_law 306 = .ok (.istore 6, 2) := by decide +kernel
theorem d_L_law_308 : decode c_L_law 308 = .ok (.aload_n 2, 1) := by decide +kernel
theorem d_L_law_309 : decode c_L_law 309 = .ok (.invokevirtual 68, 3) := by decide +kernel
theorem d_L_law_312 : decode c_L_law 312 = .ok (.iload 5, 2) := by decide +kernel
theorem d_L_law_314 : decode c_L_law 314 = .ok (.if_icmp .eq 5, 3) := by decide +kernel
theorem d_L_law_317 : decode c_L_law 317 = .ok (.iconst 0, 1) := by decide +kernel
theorem d_L_law_318 : decode c_L_law 318 = .ok (.ireturn, 1) := by decide +kernel
theorem d_L_law_319 : decode c_L_law 319 = .ok (.iload 5, 2) := by decide +kernel
theorem d_L_law_321 : decode c_L_law 321 = .ok (.ifCond .ne 15, 3) := by decide +kernel
theorem d_L_law_324 : decode c_L_law 324 = .ok (.aload_n 3, 1) := by decide +kernel
theorem d_L_law_325 : decode c_L_law 325 = .ok (.iconst 0, 1) := by decide +kernel
theorem d_L_law_326 : decode c_L_law 326 = .ok (.laload, 1) := by decide +kernel
theorem d_L_law_327 : decode c_L_law 327 = .ok (.iload 6, 2) := by decide +kernel
theorem d_L_law_329 : decode c_L_law 329 = .ok (.i2l, 1) := by decide +kernel
theorem d_L_law_330 : decode c_L_law 330 = .ok (.lcmp, 1) := by decide +kernel
theorem d_L_law_331 : decode c_L_law 331 = .ok (.ifCond .eq 5, 3) := by decide +kernel
theorem d_L_law_334 : decode c_L_law 334 = .ok (.iconst 0, 1) := by decide +kernel
theorem d_L_law_335 : decode c_L_law 335 = .ok (.ireturn, 1) := by decide +kernel
theorem d_L_law_336 : decode c_L_law 336 = .ok (.goto 458, 3) := by decide +kernel
theorem d_L_law_339 : decode c_L_law 339 = .ok (.aload_n 1, 1) := by decide +kernel
theorem d_L_law_340 : decode c_L_law 340 = .ok (.aload_n 0, 1) := by decide +kernel
theorem d_L_law_341 : decode c_L_law 341 = .ok (.iload 4, 2) := by decide +kernel
theorem d_L_law_343 : decode c_L_law 343 = .ok (.iconst 1, 1) := by decide +kernel
theorem d_L_law_344 : decode c_L_law 344 = .ok (.iadd, 1) := by decide +kernel
theorem d_L_law_345 : decode c_L_law 345 = .ok (.iaload, 1) := by decide +kernel
theorem d_L_law_346 : decode c_L_law 346 = .ok (.aload_n 3, 1) := by decide +kernel
theorem d_L_law_347 : decode c_L_law 347 = .ok (.invokestatic 78, 3) := by decide +kernel
theorem d_L_law_350 : decode c_L_law 350 = .ok (.istore 5, 2) := by decide +kernel
theorem d_L_law_352 : decode c_L_law 352 = .ok (.aload_n 2, 1) := by decide +kernel
theorem d_L_law_353 : decode c_L_law 353 = .ok (.aload_n 0, 1) := by decide +kernel
theorem d_L_law_354 : decode c_L_law 354 = .ok (.iload 4, 2) := by decide +kernel
theorem d_L_law_356 : decode c_L_law 356 = .ok (.iconst 1, 1) := by decide +kernel
theorem d_L_law_357 : decode c_L_law 357 = .ok (.iadd, 1) := by decide +kernel
theorem d_L_law_358 : decode c_L_law 358 = .ok (.iaload, 1) := by decide +kernel
theorem d_L_law_359 : decode c_L_law 359 = .ok (.invokevirtual 80, 3) := by decide +kernel
theorem d_L_law_362 : decode c_L_law 362 = .ok (.lstore 6, 2) := by decide +kernel
theorem d_L_law_364 : decode c_L_law 364 = .ok (.aload_n 2, 1) := by decide +kernel
theorem d_L_law_365 : decode c_L_law 365 = .ok (.invokevirtual 68, 3) := by decide +kernel
theorem d_L_law_368 : decode c_L_law 368 = .ok (.iload 5, 2) := by decide +kernel
theorem d_L_law_370 : decode c_L_law 370 = .ok (.if_icmp .eq 5, 3) := by decide +kernel
theorem d_L_law_373 : decode c_L_law 373 = .ok (.iconst 0, 1) := by decide +kernel
theorem d_L_law_374 : decode c_L_law 374 = .ok (.ireturn, 1) := by decide +kernel
theorem d_L_law_375 : decode c_L_law 375 = .ok (.iload 5, 2) := by decide +kernel
theorem d_L_law_377 : decode c_L_law 377 = .ok (.ifCond .ne 14, 3) := by decide +kernel
theorem d_L_law_380 : decode c_L_law 380 = .ok (.aload_n 3, 1) := by decide +kernel
theorem d_L_law_381 : decode c_L_law 381 = .ok (.iconst 0, 1) := by decide +kernel
theorem d_L_law_382 : decode c_L_law 382 = .ok (.laload, 1) := by decide +kernel
theorem d_L_law_383 : decode c_L_law 383 = .ok (.lload 6, 2) := by decide +kernel
theorem d_L_law_385 : decode c_L_law 385 = .ok (.lcmp, 1) := by decide +kernel
theorem d_L_law_386 : decode c_L_law 386 = .ok (.ifCond .eq 5, 3) := by decide +kernel
theorem d_L_law_389 : decode c_L_law 389 = .ok (.iconst 0, 1) := by decide +kernel
theorem d_L_law_390 : decode c_L_law 390 = .ok (.ireturn, 1) := by decide +kernel
theorem d_L_law_391 : decode c_L_law 391 = .ok (.goto 403, 3) := by decide +kernel
theorem d_L_law_394 : decode c_L_law 394 = .ok (.aload_n 1, 1) := by decide +kernel
theorem d_L_law_395 : decode c_L_law 395 = .ok (.aload_n 0, 1) := by decide +kernel
theorem d_L_law_396 : decode c_L_law 396 = .ok (.iload 4, 2) := by decide +kernel
theorem d_L_law_398 : decode c_L_law 398 = .ok (.iconst 1, 1) := by decide +kernel
theorem d_L_law_399 : decode c_L_law 399 = .ok (.iadd, 1) := by decide +kernel
theorem d_L_law_400 : decode c_L_law 400 = .ok (.iaload, 1) := by decide +kernel
theorem d_L_law_401 : decode c_L_law 401 = .ok (.aload_n 0, 1) := by decide +kernel
theorem d_L_law_402 : decode c_L_law 402 = .ok (.iload 4, 2) := by decide +kernel
theorem d_L_law_404 : decode c_L_law 404 = .ok (.iconst 2, 1) := by decide +kernel
theorem d_L_law_405 : decode c_L_law 405 = .ok (.iadd, 1) := by decide +kernel
theorem d_L_law_406 : decode c_L_law 406 = .ok (.iaload, 1) := by decide +kernel
theorem d_L_law_407 : decode c_L_law 407 = .ok (.aload_n 3, 1) := by decide +kernel
theorem d_L_law_408 : decode c_L_law 408 = .ok (.invokestatic 81, 3) := by decide +kernel
theorem d_L_law_411 : decode c_L_law 411 = .ok (.istore 5, 2) := by decide +kernel
theorem d_L_law_413 : decode c_L_law 413 = .ok (.aload_n 2, 1) := by decide +kernel
theorem d_L_law_414 : decode c_L_law 414 = .ok (.aload_n 0, 1) := by decide +kernel
theorem d_L_law_415 : decode c_L_law 415 = .ok (.iload 4, 2) := by decide +kernel
theorem d_L_law_417 : decode c_L_law 417 = .ok (.iconst 1, 1) := by decide +kernel
theorem d_L_law_418 : decode c_L_law 418 = .ok (.iadd, 1) := by decide +kernel
theorem d_L_law_419 : decode c_L_law 419 = .ok (.iaload, 1) := by decide +kernel
theorem d_L_law_420 : decode c_L_law 420 = .ok (.aload_n 0, 1) := by decide +kernel
theorem d_L_law_421 : decode c_L_law 421 = .ok (.iload 4, 2) := by decide +kernel
theorem d_L_law_423 : decode c_L_law 423 = .ok (.iconst 2, 1) := by decide +kernel
theorem d_L_law_424 : decode c_L_law 424 = .ok (.iadd, 1) := by decide +kernel
theorem d_L_law_425 : decode c_L_law 425 = .ok (.iaload, 1) := by decide +kernel
theorem d_L_law_426 : decode c_L_law 426 = .ok (.invokevirtual 84, 3) := by decide +kernel
theorem d_L_law_429 : decode c_L_law 429 = .ok (.istore 6, 2) := by decide +kernel
theorem d_L_law_431 : decode c_L_law 431 = .ok (.aload_n 2, 1) := by decide +kernel
theorem d_L_law_432 : decode c_L_law 432 = .ok (.invokevirtual 68, 3) := by decide +kernel
theorem d_L_law_435 : decode c_L_law 435 = .ok (.iload 5, 2) := by decide +kernel
theorem d_L_law_437 : decode c_L_law 437 = .ok (.if_icmp .eq 5, 3) := by decide +kernel
theorem d_L_law_440 : decode c_L_law 440 = .ok (.iconst 0, 1) := by decide +kernel
theorem d_L_law_441 : decode c_L_law 441 = .ok (.ireturn, 1) := by decide +kernel
theorem d_L_law_442 : decode c_L_law 442 = .ok (.iload 5, 2) := by decide +kernel
theorem d_L_law_444 : decode c_L_law 444 = .ok (.ifCond .ne 22, 3) := by decide +kernel
theorem d_L_law_447 : decode c_L_law 447 = .ok (.aload_n 3, 1) := by decide +kernel
theorem d_L_law_448 : decode c_L_law 448 = .ok (.iconst 0, 1) := by decide +kernel
theorem d_L_law_449 : decode c_L_law 449 = .ok (.laload, 1) := by decide +kernel
theorem d_L_law_450 : decode c_L_law 450 = .ok (.iload 6, 2) := by decide +kernel
theorem d_L_law_452 : decode c_L_law 452 = .ok (.ifCond .eq 7, 3) := by decide +kernel
theorem d_L_law_455 : decode c_L_law 455 = .ok (.lconst 1, 1) := by decide +kernel
theorem d_L_law_456 : decode c_L_law 456 = .ok (.goto 4, 3) := by decide +kernel
theorem d_L_law_459 : decode c_L_law 459 = .ok (.lconst 0, 1) := by decide +kernel
theorem d_L_law_460 : decode c_L_law 460 = .ok (.lcmp, 1) := by decide +kernel
theorem d_L_law_461 : decode c_L_law 461 = .ok (.ifCond .eq 5, 3) := by decide +kernel
theorem d_L_law_464 : decode c_L_law 464 = .ok (.iconst 0, 1) := by decide +kernel
theorem d_L_law_465 : decode c_L_law 465 = .ok (.ireturn, 1) := by decide +kernel
theorem d_L_law_466 : decode c_L_law 466 = .ok (.goto 328, 3) := by decide +kernel
theorem d_L_law_469 : decode c_L_law 469 = .ok (.aload_n 1, 1) := by decide +kernel
theorem d_L_law_470 : decode c_L_law 470 = .ok (.aload_n 0, 1) := by decide +kernel
theorem d_L_law_471 : decode c_L_law 471 = .ok (.iload 4, 2) := by decide +kernel
theorem d_L_law_473 : decode c_L_law 473 = .ok (.iconst 1, 1) := by decide +kernel
theorem d_L_law_474 : decode c_L_law 474 = .ok (.iadd, 1) := by decide +kernel
theorem d_L_law_475 : decode c_L_law 475 = .ok (.iaload, 1) := by decide +kernel
theorem d_L_law_476 : decode c_L_law 476 = .ok (.aload_n 0, 1) := by decide +kernel
theorem d_L_law_477 : decode c_L_law 477 = .ok (.iload 4, 2) := by decide +kernel
theorem d_L_law_479 : decode c_L_law 479 = .ok (.iconst 2, 1) := by decide +kernel
theorem d_L_law_480 : decode c_L_law 480 = .ok (.iadd, 1) := by decide +kernel
theorem d_L_law_481 : decode c_L_law 481 = .ok (.iaload, 1) := by decide +kernel
theorem d_L_law_482 : decode c_L_law 482 = .ok (.aload_n 0, 1) := by decide +kernel
theorem d_L_law_483 : decode c_L_law 483 = .ok (.iload 4, 2) := by decide +kernel
theorem d_L_law_485 : decode c_L_law 485 = .ok (.iconst 3, 1) := by decide +kernel
theorem d_L_law_486 : decode c_L_law 486 = .ok (.iadd, 1) := by decide +kernel
theorem d_L_law_487 : decode c_L_law 487 = .ok (.iaload, 1) := by decide +kernel
theorem d_L_law_488 : decode c_L_law 488 = .ok (.aload_n 0, 1) := by decide +kernel
theorem d_L_law_489 : decode c_L_law 489 = .ok (.iload 4, 2) := by decide +kernel
theorem d_L_law_491 : decode c_L_law 491 = .ok (.iconst 4, 1) := by decide +kernel
theorem d_L_law_492 : decode c_L_law 492 = .ok (.iadd, 1) := by decide +kernel
theorem d_L_law_493 : decode c_L_law 493 = .ok (.iaload, 1) := by decide +kernel
theorem d_L_law_494 : decode c_L_law 494 = .ok (.aload_n 3, 1) := by decide +kernel
theorem d_L_law_495 : decode c_L_law 495 = .ok (.invokestatic 85, 3) := by decide +kernel
theorem d_L_law_498 : decode c_L_law 498 = .ok (.istore 5, 2) := by decide +kernel
theorem d_L_law_500 : decode c_L_law 500 = .ok (.aload_n 2, 1) := by decide +kernel
theorem d_L_law_501 : decode c_L_law 501 = .ok (.aload_n 0, 1) := by decide +kernel
theorem d_L_law_502 : decode c_L_law 502 = .ok (.iload 4, 2) := by decide +kernel
theorem d_L_law_504 : decode c_L_law 504 = .ok (.iconst 1, 1) := by decide +kernel
theorem d_L_law_505 : decode c_L_law 505 = .ok (.iadd, 1) := by decide +kernel
theorem d_L_law_506 : decode c_L_law 506 = .ok (.iaload, 1) := by decide +kernel
theorem d_L_law_507 : decode c_L_law 507 = .ok (.aload_n 0, 1) := by decide +kernel
theorem d_L_law_508 : decode c_L_law 508 = .ok (.iload 4, 2) := by decide +kernel
theorem d_L_law_510 : decode c_L_law 510 = .ok (.iconst 2, 1) := by decide +kernel
theorem d_L_law_511 : decode c_L_law 511 = .ok (.iadd, 1) := by decide +kernel
theorem d_L_law_512 : decode c_L_law 512 = .ok (.iaload, 1) := by decide +kernel
theorem d_L_law_513 : decode c_L_law 513 = .ok (.aload_n 0, 1) := by decide +kernel
theorem d_L_law_514 : decode c_L_law 514 = .ok (.iload 4, 2) := by decide +kernel
theorem d_L_law_516 : decode c_L_law 516 = .ok (.iconst 3, 1) := by decide +kernel
theorem d_L_law_517 : decode c_L_law 517 = .ok (.iadd, 1) := by decide +kernel
theorem d_L_law_518 : decode c_L_law 518 = .ok (.iaload, 1) := by decide +kernel
theorem d_L_law_519 : decode c_L_law 519 = .ok (.aload_n 0, 1) := by decide +kernel
theorem d_L_law_520 : decode c_L_law 520 = .ok (.iload 4, 2) := by decide +kernel
theorem d_L_law_522 : decode c_L_law 522 = .ok (.iconst 4, 1) := by decide +kernel
theorem d_L_law_523 : decode c_L_law 523 = .ok (.iadd, 1) := by decide +kernel
theorem d_L_law_524 : decode c_L_law 524 = .ok (.iaload, 1) := by decide +kernel
theorem d_L_law_525 : decode c_L_law 525 = .ok (.invokevirtual 88, 3) := by decide +kernel
theorem d_L_law_528 : decode c_L_law 528 = .ok (.istore 6, 2) := by decide +kernel
theorem d_L_law_530 : decode c_L_law 530 = .ok (.aload_n 2, 1) := by decide +kernel
theorem d_L_law_531 : decode c_L_law 531 = .ok (.invokevirtual 68, 3) := by decide +kernel
theorem d_L_law_534 : decode c_L_law 534 = .ok (.iload 5, 2) := by decide +kernel
theorem d_L_law_536 : decode c_L_law 536 = .ok (.if_icmp .eq 5, 3) := by decide +kernel
theorem d_L_law_539 : decode c_L_law 539 = .ok (.iconst 0, 1) := by decide +kernel
theorem d_L_law_540 : decode c_L_law 540 = .ok (.ireturn, 1) := by decide +kernel
theorem d_L_law_541 : decode c_L_law 541 = .ok (.iload 5, 2) := by decide +kernel
theorem d_L_law_543 : decode c_L_law 543 = .ok (.ifCond .ne 22, 3) := by decide +kernel
theorem d_L_law_546 : decode c_L_law 546 = .ok (.aload_n 3, 1) := by decide +kernel
theorem d_L_law_547 : decode c_L_law 547 = .ok (.iconst 0, 1) := by decide +kernel
theorem d_L_law_548 : decode c_L_law 548 = .ok (.laload, 1) := by decide +kernel
theorem d_L_law_549 : decode c_L_law 549 = .ok (.iload 6, 2) := by decide +kernel
theorem d_L_law_551 : decode c_L_law 551 = .ok (.ifCond .eq 7, 3) := by decide +kernel
theorem d_L_law_554 : decode c_L_law 554 = .ok (.lconst 1, 1) := by decide +kernel
theorem d_L_law_555 : decode c_L_law 555 = .ok (.goto 4, 3) := by decide +kernel
theorem d_L_law_558 : decode c_L_law 558 = .ok (.lconst 0, 1) := by decide +kernel
theorem d_L_law_559 : decode c_L_law 559 = .ok (.lcmp, 1) := by decide +kernel
theorem d_L_law_560 : decode c_L_law 560 = .ok (.ifCond .eq 5, 3) := by decide +kernel
theorem d_L_law_563 : decode c_L_law 563 = .ok (.iconst 0, 1) := by decide +kernel
theorem d_L_law_564 : decode c_L_law 564 = .ok (.ireturn, 1) := by decide +kernel
theorem d_L_law_565 : decode c_L_law 565 = .ok (.goto 229, 3) := by decide +kernel
theorem d_L_law_568 : decode c_L_law 568 = .ok (.aload_n 1, 1) := by decide +kernel
theorem d_L_law_569 : decode c_L_law 569 = .ok (.invokevirtual 89, 3) := by decide +kernel
theorem d_L_law_572 : decode c_L_law 572 = .ok (.aload_n 2, 1) := by decide +kernel
theorem d_L_law_573 : decode c_L_law 573 = .ok (.invokevirtual 92, 3) := by decide +kernel
theorem d_L_law_576 : decode c_L_law 576 = .ok (.if_icmp .eq 218, 3) := by decide +kernel
theorem d_L_law_579 : decode c_L_law 579 = .ok (.iconst 0, 1) := by decide +kernel
theorem d_L_law_580 : decode c_L_law 580 = .ok (.ireturn, 1) := by decide +kernel
theorem d_L_law_581 : decode c_L_law 581 = .ok (.aload_n 1, 1) := by decide +kernel
theorem d_L_law_582 : decode c_L_law 582 = .ok (.aload_n 0, 1) := by decide +kernel
theorem d_L_law_583 : decode c_L_law 583 = .ok (.iload 4, 2) := by decide +kernel
theorem d_L_law_585 : decode c_L_law 585 = .ok (.iconst 1, 1) := by decide +kernel
theorem d_L_law_586 : decode c_L_law 586 = .ok (.iadd, 1) := by decide +kernel
theorem d_L_law_587 : decode c_L_law 587 = .ok (.iaload, 1) := by decide +kernel
theorem d_L_law_588 : decode c_L_law 588 = .ok (.aload_n 3, 1) := by decide +kernel
theorem d_L_law_589 : decode c_L_law 589 = .ok (.invokestatic 93, 3) := by decide +kernel
theorem d_L_law_592 : decode c_L_law 592 = .ok (.istore 5, 2) := by decide +kernel
theorem d_L_law_594 : decode c_L_law 594 = .ok (.aload_n 2, 1) := by decide +kernel
theorem d_L_law_595 : decode c_L_law 595 = .ok (.aload_n 0, 1) := by decide +kernel
theorem d_L_law_596 : decode c_L_law 596 = .ok (.iload 4, 2) := by decide +kernel
theorem d_L_law_598 : decode c_L_law 598 = .ok (.iconst 1, 1) := by decide +kernel
theorem d_L_law_599 : decode c_L_law 599 = .ok (.iadd, 1) := by decide +kernel
theorem d_L_law_600 : decode c_L_law 600 = .ok (.iaload, 1) := by decide +kernel
theorem d_L_law_601 : decode c_L_law 601 = .ok (.invokevirtual 95, 3) := by decide +kernel
theorem d_L_law_604 : decode c_L_law 604 = .ok (.istore 6, 2) := by decide +kernel
theorem d_L_law_606 : decode c_L_law 606 = .ok (.aload_n 2, 1) := by decide +kernel
theorem d_L_law_607 : decode c_L_law 607 = .ok (.invokevirtual 68, 3) := by decide +kernel
theorem d_L_law_610 : decode c_L_law 610 = .ok (.iload 5, 2) := by decide +kernel
theorem d_L_law_612 : decode c_L_law 612 = .ok (.if_icmp .eq 5, 3) := by decide +kernel
theorem d_L_law_615 : decode c_L_law 615 = .ok (.iconst 0, 1) := by decide +kernel
theorem d_L_law_616 : decode c_L_law 616 = .ok (.ireturn, 1) := by decide +kernel
theorem d_L_law_617 : decode c_L_law 617 = .ok (.iload 5, 2) := by decide +kernel
theorem d_L_law_619 : decode c_L_law 619 = .ok (.ifCond .ne 22, 3) := by decide +kernel
theorem d_L_law_622 : decode c_L_law 622 = .ok (.aload_n 3, 1) := by decide +kernel
theorem d_L_law_623 : decode c_L_law 623 = .ok (.iconst 0, 1) := by decide +kernel
theorem d_L_law_624 : decode c_L_law 624 = .ok (.laload, 1) := by decide +kernel
theorem d_L_law_625 : decode c_L_law 625 = .ok (.iload 6, 2) := by decide +kernel
theorem d_L_law_627 : decode c_L_law 627 = .ok (.ifCond .eq 7, 3) := by decide +kernel
theorem d_L_law_630 : decode c_L_law 630 = .ok (.lconst 1, 1) := by decide +kernel
theorem d_L_law_631 : decode c_L_law 631 = .ok (.goto 4, 3) := by decide +kernel
theorem d_L_law_634 : decode c_L_law 634 = .ok (.lconst 0, 1) := by decide +kernel
theorem d_L_law_635 : decode c_L_law 635 = .ok (.lcmp, 1) := by decide +kernel
theorem d_L_law_636 : decode c_L_law 636 = .ok (.ifCond .eq 5, 3) := by decide +kernel
theorem d_L_law_639 : decode c_L_law 639 = .ok (.iconst 0, 1) := by decide +kernel
theorem d_L_law_640 : decode c_L_law 640 = .ok (.ireturn, 1) := by decide +kernel
theorem d_L_law_641 : decode c_L_law 641 = .ok (.goto 153, 3) := by decide +kernel
theorem d_L_law_644 : decode c_L_law 644 = .ok (.aload_n 1, 1) := by decide +kernel
theorem d_L_law_645 : decode c_L_law 645 = .ok (.aload_n 3, 1) := by decide +kernel
theorem d_L_law_646 : decode c_L_law 646 = .ok (.invokestatic 96, 3) := by decide +kernel
theorem d_L_law_649 : decode c_L_law 649 = .ok (.istore 5, 2) := by decide +kernel
theorem d_L_law_651 : decode c_L_law 651 = .ok (.aload_n 2, 1) := by decide +kernel
theorem d_L_law_652 : decode c_L_law 652 = .ok (.invokevirtual 99, 3) := by decide +kernel
theorem d_L_law_655 : decode c_L_law 655 = .ok (.istore 6, 2) := by decide +kernel
theorem d_L_law_657 : decode c_L_law 657 = .ok (.aload_n 2, 1) := by decide +kernel
theorem d_L_law_658 : decode c_L_law 658 = .ok (.invokevirtual 68, 3) := by decide +kernel
theorem d_L_law_661 : decode c_L_law 661 = .ok (.iload 5, 2) := by decide +kernel
theorem d_L_law_663 : decode c_L_law 663 = .ok (.if_icmp .eq 5, 3) := by decide +kernel
theorem d_L_law_666 : decode c_L_law 666 = .ok (.iconst 0, 1) := by decide +kernel
theorem d_L_law_667 : decode c_L_law 667 = .ok (.ireturn, 1) := by decide +kernel
theorem d_L_law_668 : decode c_L_law 668 = .ok (.iload 5, 2) := by decide +kernel
theorem d_L_law_670 : decode c_L_law 670 = .ok (.ifCond .ne 15, 3) := by decide +kernel
theorem d_L_law_673 : decode c_L_law 673 = .ok (.aload_n 3, 1) := by decide +kernel
theorem d_L_law_674 : decode c_L_law 674 = .ok (.iconst 0, 1) := by decide +kernel
theorem d_L_law_675 : decode c_L_law 675 = .ok (.laload, 1) := by decide +kernel
theorem d_L_law_676 : decode c_L_law 676 = .ok (.iload 6, 2) := by decide +kernel
theorem d_L_law_678 : decode c_L_law 678 = .ok (.i2l, 1) := by decide +kernel
theorem d_L_law_679 : decode c_L_law 679 = .ok (.lcmp, 1) := by decide +kernel
theorem d_L_law_680 : decode c_L_law 680 = .ok (.ifCond .eq 5, 3) := by decide +kernel
theorem d_L_law_683 : decode c_L_law 683 = .ok (.iconst 0, 1) := by decide +kernel
theorem d_L_law_684 : decode c_L_law 684 = .ok (.ireturn, 1) := by decide +kernel
theorem d_L_law_685 : decode c_L_law 685 = .ok (.goto 109, 3) := by decide +kernel
theorem d_L_law_688 : decode c_L_law 688 = .ok (.aload_n 1, 1) := by decide +kernel
theorem d_L_law_689 : decode c_L_law 689 = .ok (.aload_n 3, 1) := by decide +kernel
theorem d_L_law_690 : decode c_L_law 690 = .ok (.invokestatic 100, 3) := by decide +kernel
theorem d_L_law_693 : decode c_L_law 693 = .ok (.istore 5, 2) := by decide +kernel
theorem d_L_law_695 : decode c_L_law 695 = .ok (.aload_n 2, 1) := by decide +kernel
theorem d_L_law_696 : decode c_L_law 696 = .ok (.invokevirtual 102, 3) := by decide +kernel
theorem d_L_law_699 : decode c_L_law 699 = .ok (.lstore 6, 2) := by decide +kernel
theorem d_L_law_701 : decode c_L_law 701 = .ok (.aload_n 2, 1) := by decide +kernel
theorem d_L_law_702 : decode c_L_law 702 = .ok (.invokevirtual 68, 3) := by decide +kernel
theorem d_L_law_705 : decode c_L_law 705 = .ok (.iload 5, 2) := by decide +kernel
theorem d_L_law_707 : decode c_L_law 707 = .ok (.if_icmp .eq 5, 3) := by decide +kernel
theorem d_L_law_710 : decode c_L_law 710 = .ok (.iconst 0, 1) := by decide +kernel
theorem d_L_law_711 : decode c_L_law 711 = .ok (.ireturn, 1) := by decide +kernel
theorem d_L_law_712 : decode c_L_law 712 = .ok (.iload 5, 2) := by decide +kernel
theorem d_L_law_714 : decode c_L_law 714 = .ok (.ifCond .ne 14, 3) := by decide +kernel
theorem d_L_law_717 : decode c_L_law 717 = .ok (.aload_n 3, 1) := by decide +kernel
theorem d_L_law_718 : decode c_L_law 718 = .ok (.iconst 0, 1) := by decide +kernel
theorem d_L_law_719 : decode c_L_law 719 = .ok (.laload, 1) := by decide +kernel
theorem d_L_law_720 : decode c_L_law 720 = .ok (.lload 6, 2) := by decide +kernel
theorem d_L_law_722 : decode c_L_law 722 = .ok (.lcmp, 1) := by decide +kernel
theorem d_L_law_723 : decode c_L_law 723 = .ok (.ifCond .eq 5, 3) := by decide +kernel
theorem d_L_law_726 : decode c_L_law 726 = .ok (.iconst 0, 1) := by decide +kernel
theorem d_L_law_727 : decode c_L_law 727 = .ok (.ireturn, 1) := by decide +kernel
theorem d_L_law_728 : decode c_L_law 728 = .ok (.goto 66, 3) := by decide +kernel
theorem d_L_law_731 : decode c_L_law 731 = .ok (.aload_n 1, 1) := by decide +kernel
theorem d_L_law_732 : decode c_L_law 732 = .ok (.invokevirtual 103, 3) := by decide +kernel
theorem d_L_law_735 : decode c_L_law 735 = .ok (.aload_n 2, 1) := by decide +kernel
theorem d_L_law_736 : decode c_L_law 736 = .ok (.invokevirtual 106, 3) := by decide +kernel
theorem d_L_law_739 : decode c_L_law 739 = .ok (.if_icmp .eq 55, 3) := by decide +kernel
theorem d_L_law_742 : decode c_L_law 742 = .ok (.iconst 0, 1) := by decide +kernel
theorem d_L_law_743 : decode c_L_law 743 = .ok (.ireturn, 1) := by decide +kernel
theorem d_L_law_744 : decode c_L_law 744 = .ok (.aload_n 1, 1) := by decide +kernel
theorem d_L_law_745 : decode c_L_law 745 = .ok (.invokevirtual 107, 3) := by decide +kernel
theorem d_L_law_748 : decode c_L_law 748 = .ok (.aload_n 2, 1) := by decide +kernel
theorem d_L_law_749 : decode c_L_law 749 = .ok (.invokevirtual 110, 3) := by decide +kernel
theorem d_L_law_752 : decode c_L_law 752 = .ok (.lcmp, 1) := by decide +kernel
theorem d_L_law_753 : decode c_L_law 753 = .ok (.ifCond .eq 41, 3) := by decide +kernel
theorem d_L_law_756 : decode c_L_law 756 = .ok (.iconst 0, 1) := by decide +kernel
theorem d_L_law_757 : decode c_L_law 757 = .ok (.ireturn, 1) := by decide +kernel
theorem d_L_law_758 : decode c_L_law 758 = .ok (.aload_n 1, 1) := by decide +kernel
theorem d_L_law_759 : decode c_L_law 759 = .ok (.aload_n 0, 1) := by decide +kernel
theorem d_L_law_760 : decode c_L_law 760 = .ok (.iload 4, 2) := by decide +kernel
theorem d_L_law_762 : decode c_L_law 762 = .ok (.iconst 1, 1) := by decide +kernel
theorem d_L_law_763 : decode c_L_law 763 = .ok (.iadd, 1) := by decide +kernel
theorem d_L_law_764 : decode c_L_law 764 = .ok (.iaload, 1) := by decide +kernel
theorem d_L_law_765 : decode c_L_law 765 = .ok (.invokevirtual 111, 3) := by decide +kernel
theorem d_L_law_768 : decode c_L_law 768 = .ok (.aload_n 2, 1) := by decide +kernel
theorem d_L_law_769 : decode c_L_law 769 = .ok (.aload_n 0, 1) := by decide +kernel
theorem d_L_law_770 : decode c_L_law 770 = .ok (.iload 4, 2) := by decide +kernel
theorem d_L_law_772 : decode c_L_law 772 = .ok (.iconst 1, 1) := by decide +kernel
theorem d_L_law_773 : decode c_L_law 773 = .ok (.iadd, 1) := by decide +kernel
theorem d_L_law_774 : decode c_L_law 774 = .ok (.iaload, 1) := by decide +kernel
theorem d_L_law_775 : decode c_L_law 775 = .ok (.invokevirtual 114, 3) := by decide +kernel
theorem d_L_law_778 : decode c_L_law 778 = .ok (.if_icmp .eq 16, 3) := by decide +kernel
theorem d_L_law_781 : decode c_L_law 781 = .ok (.iconst 0, 1) := by decide +kernel
theorem d_L_law_782 : decode c_L_law 782 = .ok (.ireturn, 1) := by decide +kernel
theorem d_L_law_783 : decode c_L_law 783 = .ok (.aload_n 1, 1) := by decide +kernel
theorem d_L_law_784 : decode c_L_law 784 = .ok (.invokevirtual 115, 3) := by decide +kernel
theorem d_L_law_787 : decode c_L_law 787 = .ok (.aload_n 2, 1) := by decide +kernel
theorem d_L_law_788 : decode c_L_law 788 = .ok (.invokevirtual 118, 3) := by decide +kernel
theorem d_L_law_791 : decode c_L_law 791 = .ok (.goto 3, 3) := by decide +kernel
theorem d_L_law_794 : decode c_L_law 794 = .ok (.iinc 4 5, 3) := by decide +kernel
theorem d_L_law_797 : decode c_L_law 797 = .ok (.goto (-764), 3) := by decide +kernel
theorem d_L_law_800 : decode c_L_law 800 = .ok (.iconst 1, 1) := by decide +kernel
theorem d_L_law_801 : decode c_L_law 801 = .ok (.ireturn, 1) := by decide +kernel
