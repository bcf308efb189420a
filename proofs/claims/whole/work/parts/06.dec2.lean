theorem d_B_init_0 : decode c_B_init 0 = .ok (.aload_n 0, 1) := by decide +kernel
theorem d_B_init_1 : decode c_B_init 1 = .ok (.invokespecial 1, 3) := by decide +kernel
theorem d_B_init_4 : decode c_B_init 4 = .ok (.aload_n 0, 1) := by decide +kernel
theorem d_B_init_5 : decode c_B_init 5 = .ok (.new 7, 3) := by decide +kernel
theorem d_B_init_8 : decode c_B_init 8 = .ok (.dup, 1) := by decide +kernel
theorem d_B_init_9 : decode c_B_init 9 = .ok (.invokespecial 9, 3) := by decide +kernel
theorem d_B_init_12 : decode c_B_init 12 = .ok (.putfield 10, 3) := by decide +kernel
theorem d_B_init_15 : decode c_B_init 15 = .ok (.aload_n 0, 1) := by decide +kernel
theorem d_B_init_16 : decode c_B_init 16 = .ok (.new 16, 3) := by decide +kernel
theorem d_B_init_19 : decode c_B_init 19 = .ok (.dup, 1) := by decide +kernel
theorem d_B_init_20 : decode c_B_init 20 = .ok (.invokespecial 18, 3) := by decide +kernel
theorem d_B_init_23 : decode c_B_init 23 = .ok (.putfield 19, 3) := by decide +kernel
theorem d_B_init_26 : decode c_B_init 26 = .ok (.aload_n 0, 1) := by decide +kernel
theorem d_B_init_27 : decode c_B_init 27 = .ok (.bipush 48, 2) := by decide +kernel
theorem d_B_init_29 : decode c_B_init 29 = .ok (.newarray .long, 2) := by decide +kernel
theorem d_B_init_31 : decode c_B_init 31 = .ok (.putfield 23, 3) := by decide +kernel
theorem d_B_init_34 : decode c_B_init 34 = .ok (.aload_n 0, 1) := by decide +kernel
theorem d_B_init_35 : decode c_B_init 35 = .ok (.bipush 48, 2) := by decide +kernel
theorem d_B_init_37 : decode c_B_init 37 = .ok (.newarray .int, 2) := by decide +kernel
theorem d_B_init_39 : decode c_B_init 39 = .ok (.putfield 27, 3) := by decide +kernel
theorem d_B_init_42 : decode c_B_init 42 = .ok (.aload_n 0, 1) := by decide +kernel
theorem d_B_init_43 : decode c_B_init 43 = .ok (.bipush 48, 2) := by decide +kernel
theorem d_B_init_45 : decode c_B_init 45 = .ok (.newarray .int, 2) := by decide +kernel
theorem d_B_init_47 : decode c_B_init 47 = .ok (.putfield 31, 3) := by decide +kernel
theorem d_B_init_50 : decode c_B_init 50 = .ok (.aload_n 0, 1) := by decide +kernel
theorem d_B_init_51 : decode c_B_init 51 = .ok (.iconst 0, 1) := by decide +kernel
theorem d_B_init_52 : decode c_B_init 52 = .ok (.putfield 34, 3) := by decide +kernel
theorem d_B_init_55 : decode c_B_init 55 = .ok (.aload_n 0, 1) := by decide +kernel
theorem d_B_init_56 : decode c_B_init 56 = .ok (.lconst 0, 1) := by decide +kernel
theorem d_B_init_57 : decode c_B_init 57 = .ok (.putfield 38, 3) := by decide +kernel
theorem d_B_init_60 : decode c_B_init 60 = .ok (.aload_n 0, 1) := by decide +kernel
theorem d_B_init_61 : decode c_B_init 61 = .ok (.new 42, 3) := by decide +kernel
theorem d_B_init_64 : decode c_B_init 64 = .ok (.dup, 1) := by decide +kernel
theorem d_B_init_65 : decode c_B_init 65 = .ok (.iload_n 1, 1) := by decide +kernel
theorem d_B_init_66 : decode c_B_init 66 = .ok (.iconst 3, 1) := by decide +kernel
theorem d_B_init_67 : decode c_B_init 67 = .ok (.invokestatic 44, 3) := by decide +kernel
theorem d_B_init_70 : decode c_B_init 70 = .ok (.invokespecial 50, 3) := by decide +kernel
theorem d_B_init_73 : decode c_B_init 73 = .ok (.putfield 53, 3) := by decide +kernel
theorem d_B_init_76 : decode c_B_init 76 = .ok (.aload_n 0, 1) := by decide +kernel
theorem d_B_init_77 : decode c_B_init 77 = .ok (.invokevirtual 57, 3) := by decide +kernel
theorem d_B_init_80 : decode c_B_init 80 = .ok (.return_, 1) := by decide +kernel
theorem d_B_count_0 : decode c_B_count 0 = .ok (.iload_n 1, 1) := by decide +kernel
theorem d_B_count_1 : decode c_B_count 1 = .ok (.invokestatic 60, 3) := by decide +kernel
theorem d_B_count_4 : decode c_B_count 4 = .ok (.lload_n 2, 1) := by decide +kernel
theorem d_B_count_5 : decode c_B_count 5 = .ok (.lconst 0, 1) := by decide +kernel
theorem d_B_count_6 : decode c_B_count 6 = .ok (.lcmp, 1) := by decide +kernel
theorem d_B_count_7 : decode c_B_count 7 = .ok (.ifCond .lt 11, 3) := by decide +kernel
theorem d_B_count_10 : decode c_B_count 10 = .ok (.lload_n 2, 1) := by decide +kernel
theorem d_B_count_11 : decode c_B_count 11 = .ok (.ldc2_w 63, 3) := by decide +kernel
theorem d_B_count_14 : decode c_B_count 14 = .ok (.lcmp, 1) := by decide +kernel
theorem d_B_count_15 : decode c_B_count 15 = .ok (.ifCond .le 13, 3) := by decide +kernel
theorem d_B_count_18 : decode c_B_count 18 = .ok (.new 65, 3) := by decide +kernel
theorem d_B_count_21 : decode c_B_count 21 = .ok (.dup, 1) := by decide +kernel
theorem d_B_count_22 : decode c_B_count 22 = .ok (.ldc 67, 2) := by decide +kernel
theorem d_B_count_24 : decode c_B_count 24 = .ok (.invokespecial 69, 3) := by decide +kernel
theorem d_B_count_27 : decode c_B_count 27 = .ok (.athrow, 1) := by decide +kernel
theorem d_B_count_28 : decode c_B_count 28 = .ok (.aload_n 0, 1) := by decide +kernel
theorem d_B_count_29 : decode c_B_count 29 = .ok (.getfield 23, 3) := by decide +kernel
theorem d_B_count_32 : decode c_B_count 32 = .ok (.iload_n 1, 1) := by decide +kernel
theorem d_B_count_33 : decode c_B_count 33 = .ok (.laload, 1) := by decide +kernel
theorem d_B_count_34 : decode c_B_count 34 = .ok (.lload_n 2, 1) := by decide +kernel
theorem d_B_count_35 : decode c_B_count 35 = .ok (.lcmp, 1) := by decide +kernel
theorem d_B_count_36 : decode c_B_count 36 = .ok (.ifCond .eq 7, 3) := by decide +kernel
theorem d_B_count_39 : decode c_B_count 39 = .ok (.iconst 1, 1) := by decide +kernel
theorem d_B_count_40 : decode c_B_count 40 = .ok (.goto 4, 3) := by decide +kernel
theorem d_B_count_43 : decode c_B_count 43 = .ok (.iconst 0, 1) := by decide +kernel
theorem d_B_count_44 : decode c_B_count 44 = .ok (.istore 4, 2) := by decide +kernel
theorem d_B_count_46 : decode c_B_count 46 = .ok (.aload_n 0, 1) := by decide +kernel
theorem d_B_count_47 : decode c_B_count 47 = .ok (.getfield 23, 3) := by decide +kernel
theorem d_B_count_50 : decode c_B_count 50 = .ok (.iload_n 1, 1) := by decide +kernel
theorem d_B_count_51 : decode c_B_count 51 = .ok (.lload_n 2, 1) := by decide +kernel
theorem d_B_count_52 : decode c_B_count 52 = .ok (.lastore, 1) := by decide +kernel
theorem d_B_count_53 : decode c_B_count 53 = .ok (.iload 4, 2) := by decide +kernel
theorem d_B_count_55 : decode c_B_count 55 = .ok (.ireturn, 1) := by decide +kernel
theorem d_B_make_0 : decode c_B_make 0 = .ok (.iload_n 1, 1) := by decide +kernel
theorem d_B_make_1 : decode c_B_make 1 = .ok (.iconst 1, 1) := by decide +kernel
theorem d_B_make_2 : decode c_B_make 2 = .ok (.if_icmp .lt 9, 3) := by decide +kernel
theorem d_B_make_5 : decode c_B_make 5 = .ok (.iload_n 1, 1) := by decide +kernel
theorem d_B_make_6 : decode c_B_make 6 = .ok (.bipush 16, 2) := by decide +kernel
theorem d_B_make_8 : decode c_B_make 8 = .ok (.if_icmp .le 13, 3) := by decide +kernel
theorem d_B_make_11 : decode c_B_make 11 = .ok (.new 65, 3) := by decide +kernel
theorem d_B_make_14 : decode c_B_make 14 = .ok (.dup, 1) := by decide +kernel
theorem d_B_make_15 : decode c_B_make 15 = .ok (.ldc 72, 2) := by decide +kernel
theorem d_B_make_17 : decode c_B_make 17 = .ok (.invokespecial 69, 3) := by decide +kernel
theorem d_B_make_20 : decode c_B_make 20 = .ok (.athrow, 1) := by decide +kernel
theorem d_B_make_21 : decode c_B_make 21 = .ok (.aload_n 0, 1) := by decide +kernel
theorem d_B_make_22 : decode c_B_make 22 = .ok (.getfield 10, 3) := by decide +kernel
theorem d_B_make_25 : decode c_B_make 25 = .ok (.aload_n 0, 1) := by decide +kernel
theorem d_B_make_26 : decode c_B_make 26 = .ok (.getfield 23, 3) := by decide +kernel
theorem d_B_make_29 : decode c_B_make 29 = .ok (.invokevirtual 74, 3) := by decide +kernel
theorem d_B_make_32 : decode c_B_make 32 = .ok (.istore_n 2, 1) := by decide +kernel
theorem d_B_make_33 : decode c_B_make 33 = .ok (.iload_n 2, 1) := by decide +kernel
theorem d_B_make_34 : decode c_B_make 34 = .ok (.iconst 1, 1) := by decide +kernel
theorem d_B_make_35 : decode c_B_make 35 = .ok (.iload_n 1, 1) := by decide +kernel
theorem d_B_make_36 : decode c_B_make 36 = .ok (.ishl, 1) := by decide +kernel
theorem d_B_make_37 : decode c_B_make 37 = .ok (.if_icmp .le 5, 3) := by decide +kernel
theorem d_B_make_40 : decode c_B_make 40 = .ok (.iconst (-1), 1) := by decide +kernel
theorem d_B_make_41 : decode c_B_make 41 = .ok (.ireturn, 1) := by decide +kernel
theorem d_B_make_42 : decode c_B_make 42 = .ok (.aload_n 0, 1) := by decide +kernel
theorem d_B_make_43 : decode c_B_make 43 = .ok (.getfield 10, 3) := by decide +kernel
theorem d_B_make_46 : decode c_B_make 46 = .ok (.aload_n 0, 1) := by decide +kernel
theorem d_B_make_47 : decode c_B_make 47 = .ok (.getfield 23, 3) := by decide +kernel
theorem d_B_make_50 : decode c_B_make 50 = .ok (.iload_n 1, 1) := by decide +kernel
theorem d_B_make_51 : decode c_B_make 51 = .ok (.aload_n 0, 1) := by decide +kernel
theorem d_B_make_52 : decode c_B_make 52 = .ok (.getfield 53, 3) := by decide +kernel
theorem d_B_make_55 : decode c_B_make 55 = .ok (.getfield 78, 3) := by decide +kernel
theorem d_B_make_58 : decode c_B_make 58 = .ok (.invokevirtual 81, 3) := by decide +kernel
theorem d_B_make_61 : decode c_B_make 61 = .ok (.aload_n 0, 1) := by decide +kernel
theorem d_B_make_62 : decode c_B_make 62 = .ok (.getfield 53, 3) := by decide +kernel
theorem d_B_make_65 : decode c_B_make 65 = .ok (.invokevirtual 85, 3) := by decide +kernel
theorem d_B_make_68 : decode c_B_make 68 = .ok (.aload_n 0, 1) := by decide +kernel
theorem d_B_make_69 : decode c_B_make 69 = .ok (.invokevirtual 57, 3) := by decide +kernel
theorem d_B_make_72 : decode c_B_make 72 = .ok (.iload_n 2, 1) := by decide +kernel
theorem d_B_make_73 : decode c_B_make 73 = .ok (.ireturn, 1) := by decide +kernel
theorem d_B_length_0 : decode c_B_length 0 = .ok (.iload_n 1, 1) := by decide +kernel
theorem d_B_length_1 : decode c_B_length 1 = .ok (.invokestatic 60, 3) := by decide +kernel
theorem d_B_length_4 : decode c_B_length 4 = .ok (.aload_n 0, 1) := by decide +kernel
theorem d_B_length_5 : decode c_B_length 5 = .ok (.getfield 53, 3) := by decide +kernel
theorem d_B_length_8 : decode c_B_length 8 = .ok (.getfield 78, 3) := by decide +kernel
theorem d_B_length_11 : decode c_B_length 11 = .ok (.iload_n 1, 1) := by decide +kernel
theorem d_B_length_12 : decode c_B_length 12 = .ok (.iaload, 1) := by decide +kernel
theorem d_B_length_13 : decode c_B_length 13 = .ok (.ireturn, 1) := by decide +kernel
theorem d_B_code_0 : decode c_B_code 0 = .ok (.iload_n 1, 1) := by decide +kernel
theorem d_B_code_1 : decode c_B_code 1 = .ok (.invokestatic 60, 3) := by decide +kernel
theorem d_B_code_4 : decode c_B_code 4 = .ok (.aload_n 0, 1) := by decide +kernel
theorem d_B_code_5 : decode c_B_code 5 = .ok (.invokevirtual 88, 3) := by decide +kernel
theorem d_B_code_8 : decode c_B_code 8 = .ok (.aload_n 0, 1) := by decide +kernel
theorem d_B_code_9 : decode c_B_code 9 = .ok (.getfield 53, 3) := by decide +kernel
theorem d_B_code_12 : decode c_B_code 12 = .ok (.getfield 78, 3) := by decide +kernel
theorem d_B_code_15 : decode c_B_code 15 = .ok (.iload_n 1, 1) := by decide +kernel
theorem d_B_code_16 : decode c_B_code 16 = .ok (.iaload, 1) := by decide +kernel
theorem d_B_code_17 : decode c_B_code 17 = .ok (.ifCond .ne 9, 3) := by decide +kernel
theorem d_B_code_20 : decode c_B_code 20 = .ok (.ldc2_w 91, 3) := by decide +kernel
theorem d_B_code_23 : decode c_B_code 23 = .ok (.goto 13, 3) := by decide +kernel
theorem d_B_code_26 : decode c_B_code 26 = .ok (.aload_n 0, 1) := by decide +kernel
theorem d_B_code_27 : decode c_B_code 27 = .ok (.getfield 53, 3) := by decide +kernel
theorem d_B_code_30 : decode c_B_code 30 = .ok (.getfield 93, 3) := by decide +kernel
theorem d_B_code_33 : decode c_B_code 33 = .ok (.iload_n 1, 1) := by decide +kernel
theorem d_B_code_34 : decode c_B_code 34 = .ok (.iaload, 1) := by decide +kernel
theorem d_B_code_35 : decode c_B_code 35 = .ok (.i2l, 1) := by decide +kernel
theorem d_B_code_36 : decode c_B_code 36 = .ok (.lreturn, 1) := by decide +kernel
theorem d_B_given_0 : decode c_B_given 0 = .ok (.iload_n 1, 1) := by decide +kernel
theorem d_B_given_1 : decode c_B_given 1 = .ok (.invokestatic 60, 3) := by decide +kernel
theorem d_B_given_4 : decode c_B_given 4 = .ok (.iload_n 2, 1) := by decide +kernel
theorem d_B_given_5 : decode c_B_given 5 = .ok (.ifCond .lt 9, 3) := by decide +kernel
theorem d_B_given_8 : decode c_B_given 8 = .ok (.iload_n 2, 1) := by decide +kernel
theorem d_B_given_9 : decode c_B_given 9 = .ok (.bipush 16, 2) := by decide +kernel
theorem d_B_given_11 : decode c_B_given 11 = .ok (.if_icmp .le 13, 3) := by decide +kernel
theorem d_B_given_14 : decode c_B_given 14 = .ok (.new 65, 3) := by decide +kernel
theorem d_B_given_17 : decode c_B_given 17 = .ok (.dup, 1) := by decide +kernel
theorem d_B_given_18 : decode c_B_given 18 = .ok (.ldc 96, 2) := by decide +kernel
theorem d_B_given_20 : decode c_B_given 20 = .ok (.invokespecial 69, 3) := by decide +kernel
theorem d_B_given_23 : decode c_B_given 23 = .ok (.athrow, 1) := by decide +kernel
theorem d_B_given_24 : decode c_B_given 24 = .ok (.aload_n 0, 1) := by decide +kernel
theorem d_B_given_25 : decode c_B_given 25 = .ok (.iload_n 1, 1) := by decide +kernel
theorem d_B_given_26 : decode c_B_given 26 = .ok (.invokevirtual 98, 3) := by decide +kernel
theorem d_B_given_29 : decode c_B_given 29 = .ok (.aload_n 0, 1) := by decide +kernel
theorem d_B_given_30 : decode c_B_given 30 = .ok (.iload_n 1, 1) := by decide +kernel
theorem d_B_given_31 : decode c_B_given 31 = .ok (.iload_n 2, 1) := by decide +kernel
theorem d_B_given_32 : decode c_B_given 32 = .ok (.invokevirtual 101, 3) := by decide +kernel
theorem d_B_given_35 : decode c_B_given 35 = .ok (.ireturn, 1) := by decide +kernel
theorem d_B_range_0 : decode c_B_range 0 = .ok (.iload_n 1, 1) := by decide +kernel
theorem d_B_range_1 : decode c_B_range 1 = .ok (.invokestatic 60, 3) := by decide +kernel
theorem d_B_range_4 : decode c_B_range 4 = .ok (.iload 4, 2) := by decide +kernel
theorem d_B_range_6 : decode c_B_range 6 = .ok (.iconst 1, 1) := by decide +kernel
theorem d_B_range_7 : decode c_B_range 7 = .ok (.if_icmp .lt 10, 3) := by decide +kernel
theorem d_B_range_10 : decode c_B_range 10 = .ok (.iload 4, 2) := by decide +kernel
theorem d_B_range_12 : decode c_B_range 12 = .ok (.bipush 16, 2) := by decide +kernel
theorem d_B_range_14 : decode c_B_range 14 = .ok (.if_icmp .le 13, 3) := by decide +kernel
theorem d_B_range_17 : decode c_B_range 17 = .ok (.new 65, 3) := by decide +kernel
theorem d_B_range_20 : decode c_B_range 20 = .ok (.dup, 1) := by decide +kernel
theorem d_B_range_21 : decode c_B_range 21 = .ok (.ldc 105, 2) := by decide +kernel
theorem d_B_range_23 : decode c_B_range 23 = .ok (.invokespecial 69, 3) := by decide +kernel
theorem d_B_range_26 : decode c_B_range 26 = .ok (.athrow, 1) := by decide +kernel
theorem d_B_range_27 : decode c_B_range 27 = .ok (.iload_n 3, 1) := by decide +kernel
theorem d_B_range_28 : decode c_B_range 28 = .ok (.bipush (-32), 2) := by decide +kernel
theorem d_B_range_30 : decode c_B_range 30 = .ok (.if_icmp .lt 9, 3) := by decide +kernel
theorem d_B_range_33 : decode c_B_range 33 = .ok (.iload_n 3, 1) := by decide +kernel
theorem d_B_range_34 : decode c_B_range 34 = .ok (.bipush 32, 2) := by decide +kernel
theorem d_B_range_36 : decode c_B_range 36 = .ok (.if_icmp .le 13, 3) := by decide +kernel
theorem d_B_range_39 : decode c_B_range 39 = .ok (.new 65, 3) := by decide +kernel
theorem d_B_range_42 : decode c_B_range 42 = .ok (.dup, 1) := by decide +kernel
theorem d_B_range_43 : decode c_B_range 43 = .ok (.ldc 107, 2) := by decide +kernel
theorem d_B_range_45 : decode c_B_range 45 = .ok (.invokespecial 69, 3) := by decide +kernel
theorem d_B_range_48 : decode c_B_range 48 = .ok (.athrow, 1) := by decide +kernel
theorem d_B_range_49 : decode c_B_range 49 = .ok (.aload_n 0, 1) := by decide +kernel
theorem d_B_range_50 : decode c_B_range 50 = .ok (.getfield 27, 3) := by decide +kernel
theorem d_B_range_53 : decode c_B_range 53 = .ok (.iload_n 1, 1) := by decide +kernel
theorem d_B_range_54 : decode c_B_range 54 = .ok (.iload_n 2, 1) := by decide +kernel
theorem d_B_range_55 : decode c_B_range 55 = .ok (.iastore, 1) := by decide +kernel
theorem d_B_range_56 : decode c_B_range 56 = .ok (.aload_n 0, 1) := by decide +kernel
theorem d_B_range_57 : decode c_B_range 57 = .ok (.getfield 31, 3) := by decide +kernel
theorem d_B_range_60 : decode c_B_range 60 = .ok (.iload_n 1, 1) := by decide +kernel
theorem d_B_range_61 : decode c_B_range 61 = .ok (.iload_n 3, 1) := by decide +kernel
theorem d_B_range_62 : decode c_B_range 62 = .ok (.iastore, 1) := by decide +kernel
theorem d_B_range_63 : decode c_B_range 63 = .ok (.aload_n 0, 1) := by decide +kernel
theorem d_B_range_64 : decode c_B_range 64 = .ok (.iload_n 1, 1) := by decide +kernel
theorem d_B_range_65 : decode c_B_range 65 = .ok (.iload 4, 2) := by decide +kernel
theorem d_B_range_67 : decode c_B_range 67 = .ok (.invokevirtual 101, 3) := by decide +kernel
theorem d_B_range_70 : decode c_B_range 70 = .ok (.ireturn, 1) := by decide +kernel
theorem d_B_check_0 : decode c_B_check 0 = .ok (.aload_n 0, 1) := by decide +kernel
theorem d_B_check_1 : decode c_B_check 1 = .ok (.getfield 53, 3) := by decide +kernel
theorem d_B_check_4 : decode c_B_check 4 = .ok (.invokevirtual 109, 3) := by decide +kernel
theorem d_B_check_7 : decode c_B_check 7 = .ok (.ireturn, 1) := by decide +kernel
theorem d_B_feed_0 : decode c_B_feed 0 = .ok (.iload_n 1, 1) := by decide +kernel
theorem d_B_feed_1 : decode c_B_feed 1 = .ok (.ifCond .eq 18, 3) := by decide +kernel
theorem d_B_feed_4 : decode c_B_feed 4 = .ok (.iload_n 1, 1) := by decide +kernel
theorem d_B_feed_5 : decode c_B_feed 5 = .ok (.iconst 1, 1) := by decide +kernel
theorem d_B_feed_6 : decode c_B_feed 6 = .ok (.if_icmp .eq 13, 3) := by decide +kernel
theorem d_B_feed_9 : decode c_B_feed 9 = .ok (.new 65, 3) := by decide +kernel
theorem d_B_feed_12 : decode c_B_feed 12 = .ok (.dup, 1) := by decide +kernel
theorem d_B_feed_13 : decode c_B_feed 13 = .ok (.ldc 113, 2) := by decide +kernel
theorem d_B_feed_15 : decode c_B_feed 15 = .ok (.invokespecial 69, 3) := by decide +kernel
theorem d_B_feed_18 : decode c_B_feed 18 = .ok (.athrow, 1) := by decide +kernel
theorem d_B_feed_19 : decode c_B_feed 19 = .ok (.aload_n 0, 1) := by decide +kernel
theorem d_B_feed_20 : decode c_B_feed 20 = .ok (.getfield 19, 3) := by decide +kernel
theorem d_B_feed_23 : decode c_B_feed 23 = .ok (.iload_n 1, 1) := by decide +kernel
theorem d_B_feed_24 : decode c_B_feed 24 = .ok (.invokevirtual 115, 3) := by decide +kernel
theorem d_B_feed_27 : decode c_B_feed 27 = .ok (.ireturn, 1) := by decide +kernel
theorem d_B_read_0 : decode c_B_read 0 = .ok (.aload_n 0, 1) := by decide +kernel
theorem d_B_read_1 : decode c_B_read 1 = .ok (.invokevirtual 88, 3) := by decide +kernel
theorem d_B_read_4 : decode c_B_read 4 = .ok (.iconst 1, 1) := by decide +kernel
theorem d_B_read_5 : decode c_B_read 5 = .ok (.istore_n 1, 1) := by decide +kernel
theorem d_B_read_6 : decode c_B_read 6 = .ok (.iload_n 1, 1) := by decide +kernel
theorem d_B_read_7 : decode c_B_read 7 = .ok (.bipush 16, 2) := by decide +kernel
theorem d_B_read_9 : decode c_B_read 9 = .ok (.if_icmp .gt 74, 3) := by decide +kernel
theorem d_B_read_12 : decode c_B_read 12 = .ok (.iload_n 1, 1) := by decide +kernel
theorem d_B_read_13 : decode c_B_read 13 = .ok (.aload_n 0, 1) := by decide +kernel
theorem d_B_read_14 : decode c_B_read 14 = .ok (.getfield 19, 3) := by decide +kernel
theorem d_B_read_17 : decode c_B_read 17 = .ok (.getfield 119, 3) := by decide +kernel
theorem d_B_read_20 : decode c_B_read 20 = .ok (.if_icmp .gt 63, 3) := by decide +kernel
theorem d_B_read_23 : decode c_B_read 23 = .ok (.aload_n 0, 1) := by decide +kernel
theorem d_B_read_24 : decode c_B_read 24 = .ok (.getfield 53, 3) := by decide +kernel
theorem d_B_read_27 : decode c_B_read 27 = .ok (.aload_n 0, 1) := by decide +kernel
theorem d_B_read_28 : decode c_B_read 28 = .ok (.getfield 19, 3) := by decide +kernel
theorem d_B_read_31 : decode c_B_read 31 = .ok (.iconst 0, 1) := by decide +kernel
theorem d_B_read_32 : decode c_B_read 32 = .ok (.iload_n 1, 1) := by decide +kernel
theorem d_B_read_33 : decode c_B_read 33 = .ok (.invokevirtual 123, 3) := by decide +kernel
theorem d_B_read_36 : decode c_B_read 36 = .ok (.l2i, 1) := by decide +kernel
theorem d_B_read_37 : decode c_B_read 37 = .ok (.iload_n 1, 1) := by decide +kernel
theorem d_B_read_38 : decode c_B_read 38 = .ok (.invokevirtual 127, 3) := by decide +kernel
theorem d_B_read_41 : decode c_B_read 41 = .ok (.istore_n 2, 1) := by decide +kernel
theorem d_B_read_42 : decode c_B_read 42 = .ok (.iload_n 2, 1) := by decide +kernel
theorem d_B_read_43 : decode c_B_read 43 = .ok (.iconst (-1), 1) := by decide +kernel
theorem d_B_read_44 : decode c_B_read 44 = .ok (.if_icmp .ne 14, 3) := by decide +kernel
theorem d_B_read_47 : decode c_B_read 47 = .ok (.aload_n 0, 1) := by decide +kernel
theorem d_B_read_48 : decode c_B_read 48 = .ok (.getfield 19, 3) := by decide +kernel
theorem d_B_read_51 : decode c_B_read 51 = .ok (.iload_n 1, 1) := by decide +kernel
theorem d_B_read_52 : decode c_B_read 52 = .ok (.invokevirtual 130, 3) := by decide +kernel
theorem d_B_read_55 : decode c_B_read 55 = .ok (.bipush (-2), 2) := by decide +kernel
theorem d_B_read_57 : decode c_B_read 57 = .ok (.ireturn, 1) := by decide +kernel
theorem d_B_read_58 : decode c_B_read 58 = .ok (.aload_n 0, 1) := by decide +kernel
theorem d_B_read_59 : decode c_B_read 59 = .ok (.getfield 53, 3) := by decide +kernel
theorem d_B_read_62 : decode c_B_read 62 = .ok (.getfield 78, 3) := by decide +kernel
theorem d_B_read_65 : decode c_B_read 65 = .ok (.iload_n 2, 1) := by decide +kernel
theorem d_B_read_66 : decode c_B_read 66 = .ok (.iaload, 1) := by decide +kernel
theorem d_B_read_67 : decode c_B_read 67 = .ok (.iload_n 1, 1) := by decide +kernel
theorem d_B_read_68 : decode c_B_read 68 = .ok (.if_icmp .ne 9, 3) := by decide +kernel
theorem d_B_read_71 : decode c_B_read 71 = .ok (.aload_n 0, 1) := by decide +kernel
theorem d_B_read_72 : decode c_B_read 72 = .ok (.iload_n 2, 1) := by decide +kernel
theorem d_B_read_73 : decode c_B_read 73 = .ok (.invokevirtual 133, 3) := by decide +kernel
theorem d_B_read_76 : decode c_B_read 76 = .ok (.ireturn, 1) := by decide +kernel
theorem d_B_read_77 : decode c_B_read 77 = .ok (.iinc 1 1, 3) := by decide +kernel
theorem d_B_read_80 : decode c_B_read 80 = .ok (.goto (-74), 3) := by decide +kernel
theorem d_B_read_83 : decode c_B_read 83 = .ok (.iconst (-1), 1) := by decide +kernel
theorem d_B_read_84 : decode c_B_read 84 = .ok (.ireturn, 1) := by decide +kernel
theorem d_B_last_0 : decode c_B_last 0 = .ok (.aload_n 0, 1) := by decide +kernel
theorem d_B_last_1 : decode c_B_last 1 = .ok (.getfield 34, 3) := by decide +kernel
theorem d_B_last_4 : decode c_B_last 4 = .ok (.ifCond .ne 13, 3) := by decide +kernel
theorem d_B_last_7 : decode c_B_last 7 = .ok (.new 65, 3) := by decide +kernel
theorem d_B_last_10 : decode c_B_last 10 = .ok (.dup, 1) := by decide +kernel
theorem d_B_last_11 : decode c_B_last 11 = .ok (.ldc 137, 2) := by decide +kernel
theorem d_B_last_13 : decode c_B_last 13 = .ok (.invokespecial 69, 3) := by decide +kernel
theorem d_B_last_16 : decode c_B_last 16 = .ok (.athrow, 1) := by decide +kernel
theorem d_B_last_17 : decode c_B_last 17 = .ok (.aload_n 0, 1) := by decide +kernel
theorem d_B_last_18 : decode c_B_last 18 = .ok (.getfield 38, 3) := by decide +kernel
theorem d_B_last_21 : decode c_B_last 21 = .ok (.lreturn, 1) := by decide +kernel
theorem d_B_waiting_0 : decode c_B_waiting 0 = .ok (.aload_n 0, 1) := by decide +kernel
theorem d_B_waiting_1 : decode c_B_waiting 1 = .ok (.getfield 19, 3) := by decide +kernel
theorem d_B_waiting_4 : decode c_B_waiting 4 = .ok (.getfield 119, 3) := by decide +kernel
theorem d_B_waiting_7 : decode c_B_waiting 7 = .ok (.ireturn, 1) := by decide +kernel
theorem d_B_sum_0 : decode c_B_sum 0 = .ok (.lconst 0, 1) := by decide +kernel
theorem d_B_sum_1 : decode c_B_sum 1 = .ok (.lstore_n 1, 1) := by decide +kernel
theorem d_B_sum_2 : decode c_B_sum 2 = .ok (.iconst 0, 1) := by decide +kernel
theorem d_B_sum_3 : decode c_B_sum 3 = .ok (.istore_n 3, 1) := by decide +kernel
theorem d_B_sum_4 : decode c_B_sum 4 = .ok (.iload_n 3, 1) := by decide +kernel
theorem d_B_sum_5 : decode c_B_sum 5 = .ok (.bipush 48, 2) := by decide +kernel
theorem d_B_sum_7 : decode c_B_sum 7 = .ok (.if_icmp .ge 29, 3) := by decide +kernel
theorem d_B_sum_10 : decode c_B_sum 10 = .ok (.lload_n 1, 1) := by decide +kernel
theorem d_B_sum_11 : decode c_B_sum 11 = .ok (.aload_n 0, 1) := by decide +kernel
theorem d_B_sum_12 : decode c_B_sum 12 = .ok (.getfield 23, 3) := by decide +kernel
theorem d_B_sum_15 : decode c_B_sum 15 = .ok (.iload_n 3, 1) := by decide +kernel
theorem d_B_sum_16 : decode c_B_sum 16 = .ok (.laload, 1) := by decide +kernel
theorem d_B_sum_17 : decode c_B_sum 17 = .ok (.aload_n 0, 1) := by decide +kernel
theorem d_B_sum_18 : decode c_B_sum 18 = .ok (.getfield 53, 3) := by decide +kernel
theorem d_B_sum_21 : decode c_B_sum 21 = .ok (.getfield 78, 3) := by decide +kernel
theorem d_B_sum_24 : decode c_B_sum 24 = .ok (.iload_n 3, 1) := by decide +kernel
theorem d_B_sum_25 : decode c_B_sum 25 = .ok (.iaload, 1) := by decide +kernel
theorem d_B_sum_26 : decode c_B_sum 26 = .ok (.i2l, 1) := by decide +kernel
theorem d_B_sum_27 : decode c_B_sum 27 = .ok (.lmul, 1) := by decide +kernel
theorem d_B_sum_28 : decode c_B_sum 28 = .ok (.ladd, 1) := by decide +kernel
theorem d_B_sum_29 : decode c_B_sum 29 = .ok (.lstore_n 1, 1) := by decide +kernel
theorem d_B_sum_30 : decode c_B_sum 30 = .ok (.iinc 3 1, 3) := by decide +kernel
theorem d_B_sum_33 : decode c_B_sum 33 = .ok (.goto (-29), 3) := by decide +kernel
theorem d_B_sum_36 : decode c_B_sum 36 = .ok (.lload_n 1, 1) := by decide +kernel
theorem d_B_sum_37 : decode c_B_sum 37 = .ok (.lreturn, 1) := by decide +kernel
theorem d_B_lengths_0 : decode c_B_lengths 0 = .ok (.aload_n 0, 1) := by decide +kernel
theorem d_B_lengths_1 : decode c_B_lengths 1 = .ok (.getfield 53, 3) := by decide +kernel
theorem d_B_lengths_4 : decode c_B_lengths 4 = .ok (.invokevirtual 139, 3) := by decide +kernel
theorem d_B_lengths_7 : decode c_B_lengths 7 = .ok (.istore_n 2, 1) := by decide +kernel
theorem d_B_lengths_8 : decode c_B_lengths 8 = .ok (.iconst 0, 1) := by decide +kernel
theorem d_B_lengths_9 : decode c_B_lengths 9 = .ok (.istore_n 3, 1) := by decide +kernel
theorem d_B_lengths_10 : decode c_B_lengths 10 = .ok (.iconst 0, 1) := by decide +kernel
theorem d_B_lengths_11 : decode c_B_lengths 11 = .ok (.istore 4, 2) := by decide +kernel
theorem d_B_lengths_13 : decode c_B_lengths 13 = .ok (.iload 4, 2) := by decide +kernel
theorem d_B_lengths_15 : decode c_B_lengths 15 = .ok (.bipush 48, 2) := by decide +kernel
theorem d_B_lengths_17 : decode c_B_lengths 17 = .ok (.if_icmp .ge 39, 3) := by decide +kernel
theorem d_B_lengths_20 : decode c_B_lengths 20 = .ok (.iload_n 3, 1) := by decide +kernel
theorem d_B_lengths_21 : decode c_B_lengths 21 = .ok (.iload_n 2, 1) := by decide +kernel
theorem d_B_lengths_22 : decode c_B_lengths 22 = .ok (.if_icmp .ge 34, 3) := by decide +kernel
theorem d_B_lengths_25 : decode c_B_lengths 25 = .ok (.aload_n 0, 1) := by decide +kernel
theorem d_B_lengths_26 : decode c_B_lengths 26 = .ok (.iload_n 3, 1) := by decide +kernel
theorem d_B_lengths_27 : decode c_B_lengths 27 = .ok (.iload_n 2, 1) := by decide +kernel
theorem d_B_lengths_28 : decode c_B_lengths 28 = .ok (.invokevirtual 142, 3) := by decide +kernel
theorem d_B_lengths_31 : decode c_B_lengths 31 = .ok (.istore 5, 2) := by decide +kernel
theorem d_B_lengths_33 : decode c_B_lengths 33 = .ok (.iload 4, 2) := by decide +kernel
theorem d_B_lengths_35 : decode c_B_lengths 35 = .ok (.iload_n 1, 1) := by decide +kernel
theorem d_B_lengths_36 : decode c_B_lengths 36 = .ok (.if_icmp .ne 6, 3) := by decide +kernel
theorem d_B_lengths_39 : decode c_B_lengths 39 = .ok (.iload 5, 2) := by decide +kernel
theorem d_B_lengths_41 : decode c_B_lengths 41 = .ok (.ireturn, 1) := by decide +kernel
theorem d_B_lengths_42 : decode c_B_lengths 42 = .ok (.iload_n 3, 1) := by decide +kernel
theorem d_B_lengths_43 : decode c_B_lengths 43 = .ok (.iload 5, 2) := by decide +kernel
theorem d_B_lengths_45 : decode c_B_lengths 45 = .ok (.invokestatic 145, 3) := by decide +kernel
theorem d_B_lengths_48 : decode c_B_lengths 48 = .ok (.iadd, 1) := by decide +kernel
theorem d_B_lengths_49 : decode c_B_lengths 49 = .ok (.istore_n 3, 1) := by decide +kernel
theorem d_B_lengths_50 : decode c_B_lengths 50 = .ok (.iinc 4 1, 3) := by decide +kernel
theorem d_B_lengths_53 : decode c_B_lengths 53 = .ok (.goto (-40), 3) := by decide +kernel
theorem d_B_lengths_56 : decode c_B_lengths 56 = .ok (.iconst (-1), 1) := by decide +kernel
theorem d_B_lengths_57 : decode c_B_lengths 57 = .ok (.ireturn, 1) := by decide +kernel
theorem d_B_clear_0 : decode c_B_clear 0 = .ok (.iconst 0, 1) := by decide +kernel
theorem d_B_clear_1 : decode c_B_clear 1 = .ok (.istore_n 1, 1) := by decide +kernel
theorem d_B_clear_2 : decode c_B_clear 2 = .ok (.iload_n 1, 1) := by decide +kernel
theorem d_B_clear_3 : decode c_B_clear 3 = .ok (.bipush 48, 2) := by decide +kernel
theorem d_B_clear_5 : decode c_B_clear 5 = .ok (.if_icmp .ge 26, 3) := by decide +kernel
theorem d_B_clear_8 : decode c_B_clear 8 = .ok (.aload_n 0, 1) := by decide +kernel
theorem d_B_clear_9 : decode c_B_clear 9 = .ok (.getfield 23, 3) := by decide +kernel
theorem d_B_clear_12 : decode c_B_clear 12 = .ok (.iload_n 1, 1) := by decide +kernel
theorem d_B_clear_13 : decode c_B_clear 13 = .ok (.lconst 0, 1) := by decide +kernel
theorem d_B_clear_14 : decode c_B_clear 14 = .ok (.lastore, 1) := by decide +kernel
theorem d_B_clear_15 : decode c_B_clear 15 = .ok (.aload_n 0, 1) := by decide +kernel
theorem d_B_clear_16 : decode c_B_clear 16 = .ok (.getfield 53, 3) := by decide +kernel
theorem d_B_clear_19 : decode c_B_clear 19 = .ok (.getfield 78, 3) := by decide +kernel
theorem d_B_clear_22 : decode c_B_clear 22 = .ok (.iload_n 1, 1) := by decide +kernel
theorem d_B_clear_23 : decode c_B_clear 23 = .ok (.iconst 0, 1) := by decide +kernel
theorem d_B_clear_24 : decode c_B_clear 24 = .ok (.iastore, 1) := by decide +kernel
theorem d_B_clear_25 : decode c_B_clear 25 = .ok (.iinc 1 1, 3) := by decide +kernel
theorem d_B_clear_28 : decode c_B_clear 28 = .ok (.goto (-26), 3) := by decide +kernel
theorem d_B_clear_31 : decode c_B_clear 31 = .ok (.aload_n 0, 1) := by decide +kernel
theorem d_B_clear_32 : decode c_B_clear 32 = .ok (.getfield 53, 3) := by decide +kernel
theorem d_B_clear_35 : decode c_B_clear 35 = .ok (.invokevirtual 85, 3) := by decide +kernel
theorem d_B_clear_38 : decode c_B_clear 38 = .ok (.aload_n 0, 1) := by decide +kernel
theorem d_B_clear_39 : decode c_B_clear 39 = .ok (.invokevirtual 57, 3) := by decide +kernel
theorem d_B_clear_42 : decode c_B_clear 42 = .ok (.aload_n 0, 1) := by decide +kernel
theorem d_B_clear_43 : decode c_B_clear 43 = .ok (.getfield 19, 3) := by decide +kernel
theorem d_B_clear_46 : decode c_B_clear 46 = .ok (.aload_n 0, 1) := by decide +kernel
theorem d_B_clear_47 : decode c_B_clear 47 = .ok (.getfield 19, 3) := by decide +kernel
theorem d_B_clear_50 : decode c_B_clear 50 = .ok (.getfield 119, 3) := by decide +kernel
theorem d_B_clear_53 : decode c_B_clear 53 = .ok (.invokevirtual 130, 3) := by decide +kernel
theorem d_B_clear_56 : decode c_B_clear 56 = .ok (.aload_n 0, 1) := by decide +kernel
theorem d_B_clear_57 : decode c_B_clear 57 = .ok (.iconst 0, 1) := by decide +kernel
theorem d_B_clear_58 : decode c_B_clear 58 = .ok (.putfield 34, 3) := by decide +kernel
theorem d_B_clear_61 : decode c_B_clear 61 = .ok (.return_, 1) := by decide +kernel
theorem d_B_needSymbol_0 : decode c_B_needSymbol 0 = .ok (.iload_n 0, 1) := by decide +kernel
theorem d_B_needSymbol_1 : decode c_B_needSymbol 1 = .ok (.ifCond .lt 9, 3) := by decide +kernel
theorem d_B_needSymbol_4 : decode c_B_needSymbol 4 = .ok (.iload_n 0, 1) := by decide +kernel
theorem d_B_needSymbol_5 : decode c_B_needSymbol 5 = .ok (.bipush 48, 2) := by decide +kernel
theorem d_B_needSymbol_7 : decode c_B_needSymbol 7 = .ok (.if_icmp .lt 13, 3) := by decide +kernel
theorem d_B_needSymbol_10 : decode c_B_needSymbol 10 = .ok (.new 148, 3) := by decide +kernel
theorem d_B_needSymbol_13 : decode c_B_needSymbol 13 = .ok (.dup, 1) := by decide +kernel
theorem d_B_needSymbol_14 : decode c_B_needSymbol 14 = .ok (.ldc 150, 2) := by decide +kernel
theorem d_B_needSymbol_16 : decode c_B_needSymbol 16 = .ok (.invokespecial 152, 3) := by decide +kernel
theorem d_B_needSymbol_19 : decode c_B_needSymbol 19 = .ok (.athrow, 1) := by decide +kernel
theorem d_B_needSymbol_20 : decode c_B_needSymbol 20 = .ok (.return_, 1) := by decide +kernel
theorem d_B_needCodes_0 : decode c_B_needCodes 0 = .ok (.aload_n 0, 1) := by decide +kernel
theorem d_B_needCodes_1 : decode c_B_needCodes 1 = .ok (.getfield 53, 3) := by decide +kernel
theorem d_B_needCodes_4 : decode c_B_needCodes 4 = .ok (.invokevirtual 109, 3) := by decide +kernel
theorem d_B_needCodes_7 : decode c_B_needCodes 7 = .ok (.iconst 2, 1) := by decide +kernel
theorem d_B_needCodes_8 : decode c_B_needCodes 8 = .ok (.if_icmp .ne 13, 3) := by decide +kernel
theorem d_B_needCodes_11 : decode c_B_needCodes 11 = .ok (.new 153, 3) := by decide +kernel
theorem d_B_needCodes_14 : decode c_B_needCodes 14 = .ok (.dup, 1) := by decide +kernel
theorem d_B_needCodes_15 : decode c_B_needCodes 15 = .ok (.ldc 155, 2) := by decide +kernel
theorem d_B_needCodes_17 : decode c_B_needCodes 17 = .ok (.invokespecial 157, 3) := by decide +kernel
theorem d_B_needCodes_20 : decode c_B_needCodes 20 = .ok (.athrow, 1) := by decide +kernel
theorem d_B_needCodes_21 : decode c_B_needCodes 21 = .ok (.return_, 1) := by decide +kernel
theorem d_B_tellLength_0 : decode c_B_tellLength 0 = .ok (.aload_n 0, 1) := by decide +kernel
theorem d_B_tellLength_1 : decode c_B_tellLength 1 = .ok (.getfield 53, 3) := by decide +kernel
theorem d_B_tellLength_4 : decode c_B_tellLength 4 = .ok (.getfield 78, 3) := by decide +kernel
theorem d_B_tellLength_7 : decode c_B_tellLength 7 = .ok (.iload_n 1, 1) := by decide +kernel
theorem d_B_tellLength_8 : decode c_B_tellLength 8 = .ok (.iload_n 2, 1) := by decide +kernel
theorem d_B_tellLength_9 : decode c_B_tellLength 9 = .ok (.iastore, 1) := by decide +kernel
theorem d_B_tellLength_10 : decode c_B_tellLength 10 = .ok (.aload_n 0, 1) := by decide +kernel
theorem d_B_tellLength_11 : decode c_B_tellLength 11 = .ok (.getfield 53, 3) := by decide +kernel
theorem d_B_tellLength_14 : decode c_B_tellLength 14 = .ok (.invokevirtual 85, 3) := by decide +kernel
theorem d_B_tellLength_17 : decode c_B_tellLength 17 = .ok (.aload_n 0, 1) := by decide +kernel
theorem d_B_tellLength_18 : decode c_B_tellLength 18 = .ok (.getfield 53, 3) := by decide +kernel
theorem d_B_tellLength_21 : decode c_B_tellLength 21 = .ok (.invokevirtual 109, 3) := by decide +kernel
theorem d_B_tellLength_24 : decode c_B_tellLength 24 = .ok (.iconst 2, 1) := by decide +kernel
theorem d_B_tellLength_25 : decode c_B_tellLength 25 = .ok (.if_icmp .eq 7, 3) := by decide +kernel
theorem d_B_tellLength_28 : decode c_B_tellLength 28 = .ok (.iconst 1, 1) := by decide +kernel
theorem d_B_tellLength_29 : decode c_B_tellLength 29 = .ok (.goto 4, 3) := by decide +kernel
theorem d_B_tellLength_32 : decode c_B_tellLength 32 = .ok (.iconst 0, 1) := by decide +kernel
theorem d_B_tellLength_33 : decode c_B_tellLength 33 = .ok (.ireturn, 1) := by decide +kernel
theorem d_B_dropRange_0 : decode c_B_dropRange 0 = .ok (.aload_n 0, 1) := by decide +kernel
theorem d_B_dropRange_1 : decode c_B_dropRange 1 = .ok (.getfield 27, 3) := by decide +kernel
theorem d_B_dropRange_4 : decode c_B_dropRange 4 = .ok (.iload_n 1, 1) := by decide +kernel
theorem d_B_dropRange_5 : decode c_B_dropRange 5 = .ok (.iload_n 1, 1) := by decide +kernel
theorem d_B_dropRange_6 : decode c_B_dropRange 6 = .ok (.iastore, 1) := by decide +kernel
theorem d_B_dropRange_7 : decode c_B_dropRange 7 = .ok (.aload_n 0, 1) := by decide +kernel
theorem d_B_dropRange_8 : decode c_B_dropRange 8 = .ok (.getfield 31, 3) := by decide +kernel
theorem d_B_dropRange_11 : decode c_B_dropRange 11 = .ok (.iload_n 1, 1) := by decide +kernel
theorem d_B_dropRange_12 : decode c_B_dropRange 12 = .ok (.iconst 0, 1) := by decide +kernel
theorem d_B_dropRange_13 : decode c_B_dropRange 13 = .ok (.iastore, 1) := by decide +kernel
theorem d_B_dropRange_14 : decode c_B_dropRange 14 = .ok (.return_, 1) := by decide +kernel
theorem d_B_dropAllRanges_0 : decode c_B_dropAllRanges 0 = .ok (.iconst 0, 1) := by decide +kernel
theorem d_B_dropAllRanges_1 : decode c_B_dropAllRanges 1 = .ok (.istore_n 1, 1) := by decide +kernel
theorem d_B_dropAllRanges_2 : decode c_B_dropAllRanges 2 = .ok (.iload_n 1, 1) := by decide +kernel
theorem d_B_dropAllRanges_3 : decode c_B_dropAllRanges 3 = .ok (.bipush 48, 2) := by decide +kernel
theorem d_B_dropAllRanges_5 : decode c_B_dropAllRanges 5 = .ok (.if_icmp .ge 14, 3) := by decide +kernel
theorem d_B_dropAllRanges_8 : decode c_B_dropAllRanges 8 = .ok (.aload_n 0, 1) := by decide +kernel
theorem d_B_dropAllRanges_9 : decode c_B_dropAllRanges 9 = .ok (.iload_n 1, 1) := by decide +kernel
theorem d_B_dropAllRanges_10 : decode c_B_dropAllRanges 10 = .ok (.invokevirtual 98, 3) := by decide +kernel
theorem d_B_dropAllRanges_13 : decode c_B_dropAllRanges 13 = .ok (.iinc 1 1, 3) := by decide +kernel
theorem d_B_dropAllRanges_16 : decode c_B_dropAllRanges 16 = .ok (.goto (-14), 3) := by decide +kernel
theorem d_B_dropAllRanges_19 : decode c_B_dropAllRanges 19 = .ok (.return_, 1) := by decide +kernel
theorem d_B_takeSymbol_0 : decode c_B_takeSymbol 0 = .ok (.aload_n 0, 1) := by decide +kernel
theorem d_B_takeSymbol_1 : decode c_B_takeSymbol 1 = .ok (.getfield 53, 3) := by decide +kernel
theorem d_B_takeSymbol_4 : decode c_B_takeSymbol 4 = .ok (.getfield 78, 3) := by decide +kernel
theorem d_B_takeSymbol_7 : decode c_B_takeSymbol 7 = .ok (.iload_n 1, 1) := by decide +kernel
theorem d_B_takeSymbol_8 : decode c_B_takeSymbol 8 = .ok (.iaload, 1) := by decide +kernel
theorem d_B_takeSymbol_9 : decode c_B_takeSymbol 9 = .ok (.istore_n 2, 1) := by decide +kernel
theorem d_B_takeSymbol_10 : decode c_B_takeSymbol 10 = .ok (.aload_n 0, 1) := by decide +kernel
theorem d_B_takeSymbol_11 : decode c_B_takeSymbol 11 = .ok (.getfield 31, 3) := by decide +kernel
theorem d_B_takeSymbol_14 : decode c_B_takeSymbol 14 = .ok (.iload_n 1, 1) := by decide +kernel
theorem d_B_takeSymbol_15 : decode c_B_takeSymbol 15 = .ok (.iaload, 1) := by decide +kernel
theorem d_B_takeSymbol_16 : decode c_B_takeSymbol 16 = .ok (.invokestatic 158, 3) := by decide +kernel
theorem d_B_takeSymbol_19 : decode c_B_takeSymbol 19 = .ok (.istore_n 3, 1) := by decide +kernel
theorem d_B_takeSymbol_20 : decode c_B_takeSymbol 20 = .ok (.aload_n 0, 1) := by decide +kernel
theorem d_B_takeSymbol_21 : decode c_B_takeSymbol 21 = .ok (.getfield 19, 3) := by decide +kernel
theorem d_B_takeSymbol_24 : decode c_B_takeSymbol 24 = .ok (.getfield 119, 3) := by decide +kernel
theorem d_B_takeSymbol_27 : decode c_B_takeSymbol 27 = .ok (.iload_n 2, 1) := by decide +kernel
theorem d_B_takeSymbol_28 : decode c_B_takeSymbol 28 = .ok (.iload_n 3, 1) := by decide +kernel
theorem d_B_takeSymbol_29 : decode c_B_takeSymbol 29 = .ok (.iadd, 1) := by decide +kernel
theorem d_B_takeSymbol_30 : decode c_B_takeSymbol 30 = .ok (.if_icmp .ge 5, 3) := by decide +kernel
theorem d_B_takeSymbol_33 : decode c_B_takeSymbol 33 = .ok (.iconst (-1), 1) := by decide +kernel
theorem d_B_takeSymbol_34 : decode c_B_takeSymbol 34 = .ok (.ireturn, 1) := by decide +kernel
theorem d_B_takeSymbol_35 : decode c_B_takeSymbol 35 = .ok (.aload_n 0, 1) := by decide +kernel
theorem d_B_takeSymbol_36 : decode c_B_takeSymbol 36 = .ok (.getfield 19, 3) := by decide +kernel
theorem d_B_takeSymbol_39 : decode c_B_takeSymbol 39 = .ok (.iload_n 2, 1) := by decide +kernel
theorem d_B_takeSymbol_40 : decode c_B_takeSymbol 40 = .ok (.iload_n 3, 1) := by decide +kernel
theorem d_B_takeSymbol_41 : decode c_B_takeSymbol 41 = .ok (.invokevirtual 123, 3) := by decide +kernel
theorem d_B_takeSymbol_44 : decode c_B_takeSymbol 44 = .ok (.lstore 4, 2) := by decide +kernel
theorem d_B_takeSymbol_46 : decode c_B_takeSymbol 46 = .ok (.aload_n 0, 1) := by decide +kernel
theorem d_B_takeSymbol_47 : decode c_B_takeSymbol 47 = .ok (.getfield 27, 3) := by decide +kernel
theorem d_B_takeSymbol_50 : decode c_B_takeSymbol 50 = .ok (.iload_n 1, 1) := by decide +kernel
theorem d_B_takeSymbol_51 : decode c_B_takeSymbol 51 = .ok (.iaload, 1) := by decide +kernel
theorem d_B_takeSymbol_52 : decode c_B_takeSymbol 52 = .ok (.i2l, 1) := by decide +kernel
theorem d_B_takeSymbol_53 : decode c_B_takeSymbol 53 = .ok (.lstore 6, 2) := by decide +kernel
theorem d_B_takeSymbol_55 : decode c_B_takeSymbol 55 = .ok (.aload_n 0, 1) := by decide +kernel
theorem d_B_takeSymbol_56 : decode c_B_takeSymbol 56 = .ok (.aload_n 0, 1) := by decide +kernel
theorem d_B_takeSymbol_57 : decode c_B_takeSymbol 57 = .ok (.getfield 31, 3) := by decide +kernel
theorem d_B_takeSymbol_60 : decode c_B_takeSymbol 60 = .ok (.iload_n 1, 1) := by decide +kernel
theorem d_B_takeSymbol_61 : decode c_B_takeSymbol 61 = .ok (.iaload, 1) := by decide +kernel
theorem d_B_takeSymbol_62 : decode c_B_takeSymbol 62 = .ok (.ifCond .ge 11, 3) := by decide +kernel
theorem d_B_takeSymbol_65 : decode c_B_takeSymbol 65 = .ok (.lload 6, 2) := by decide +kernel
theorem d_B_takeSymbol_67 : decode c_B_takeSymbol 67 = .ok (.lload 4, 2) := by decide +kernel
theorem d_B_takeSymbol_69 : decode c_B_takeSymbol 69 = .ok (.lsub, 1) := by decide +kernel
theorem d_B_takeSymbol_70 : decode c_B_takeSymbol 70 = .ok (.goto 8, 3) := by decide +kernel
theorem d_B_takeSymbol_73 : decode c_B_takeSymbol 73 = .ok (.lload 6, 2) := by decide +kernel
theorem d_B_takeSymbol_75 : decode c_B_takeSymbol 75 = .ok (.lload 4, 2) := by decide +kernel
theorem d_B_takeSymbol_77 : decode c_B_takeSymbol 77 = .ok (.ladd, 1) := by decide +kernel
theorem d_B_takeSymbol_78 : decode c_B_takeSymbol 78 = .ok (.putfield 38, 3) := by decide +kernel
theorem d_B_takeSymbol_81 : decode c_B_takeSymbol 81 = .ok (.aload_n 0, 1) := by decide +kernel
theorem d_B_takeSymbol_82 : decode c_B_takeSymbol 82 = .ok (.iconst 1, 1) := by decide +kernel
theorem d_B_takeSymbol_83 : decode c_B_takeSymbol 83 = .ok (.putfield 34, 3) := by decide +kernel
theorem d_B_takeSymbol_86 : decode c_B_takeSymbol 86 = .ok (.aload_n 0, 1) := by decide +kernel
theorem d_B_takeSymbol_87 : decode c_B_takeSymbol 87 = .ok (.getfield 19, 3) := by decide +kernel
theorem d_B_takeSymbol_90 : decode c_B_takeSymbol 90 = .ok (.iload_n 2, 1) := by decide +kernel
theorem d_B_takeSymbol_91 : decode c_B_takeSymbol 91 = .ok (.iload_n 3, 1) := by decide +kernel
theorem d_B_takeSymbol_92 : decode c_B_takeSymbol 92 = .ok (.iadd, 1) := by decide +kernel
theorem d_B_takeSymbol_93 : decode c_B_takeSymbol 93 = .ok (.invokevirtual 130, 3) := by decide +kernel
theorem d_B_takeSymbol_96 : decode c_B_takeSymbol 96 = .ok (.iload_n 1, 1) := by decide +kernel
theorem d_B_takeSymbol_97 : decode c_B_takeSymbol 97 = .ok (.ireturn, 1) := by decide +kernel
theorem d_B_numberTold_0 : decode c_B_numberTold 0 = .ok (.aload_n 0, 1) := by decide +kernel
theorem d_B_numberTold_1 : decode c_B_numberTold 1 = .ok (.getfield 53, 3) := by decide +kernel
theorem d_B_numberTold_4 : decode c_B_numberTold 4 = .ok (.iconst 0, 1) := by decide +kernel
theorem d_B_numberTold_5 : decode c_B_numberTold 5 = .ok (.iload_n 1, 1) := by decide +kernel
theorem d_B_numberTold_6 : decode c_B_numberTold 6 = .ok (.iload_n 2, 1) := by decide +kernel
theorem d_B_numberTold_7 : decode c_B_numberTold 7 = .ok (.invokevirtual 161, 3) := by decide +kernel
theorem d_B_numberTold_10 : decode c_B_numberTold 10 = .ok (.istore_n 3, 1) := by decide +kernel
theorem d_B_numberTold_11 : decode c_B_numberTold 11 = .ok (.iload_n 3, 1) := by decide +kernel
theorem d_B_numberTold_12 : decode c_B_numberTold 12 = .ok (.iconst 3, 1) := by decide +kernel
theorem d_B_numberTold_13 : decode c_B_numberTold 13 = .ok (.if_icmp .lt 15, 3) := by decide +kernel
theorem d_B_numberTold_16 : decode c_B_numberTold 16 = .ok (.sipush 200, 3) := by decide +kernel
theorem d_B_numberTold_19 : decode c_B_numberTold 19 = .ok (.iload_n 3, 1) := by decide +kernel
theorem d_B_numberTold_20 : decode c_B_numberTold 20 = .ok (.sipush 138, 3) := by decide +kernel
theorem d_B_numberTold_23 : decode c_B_numberTold 23 = .ok (.invokestatic 165, 3) := by decide +kernel
theorem d_B_numberTold_26 : decode c_B_numberTold 26 = .ok (.iadd, 1) := by decide +kernel
theorem d_B_numberTold_27 : decode c_B_numberTold 27 = .ok (.ireturn, 1) := by decide +kernel
theorem d_B_numberTold_28 : decode c_B_numberTold 28 = .ok (.iload_n 1, 1) := by decide +kernel
theorem d_B_numberTold_29 : decode c_B_numberTold 29 = .ok (.ifCond .ne 7, 3) := by decide +kernel
theorem d_B_numberTold_32 : decode c_B_numberTold 32 = .ok (.iconst 0, 1) := by decide +kernel
theorem d_B_numberTold_33 : decode c_B_numberTold 33 = .ok (.goto 23, 3) := by decide +kernel
theorem d_B_numberTold_36 : decode c_B_numberTold 36 = .ok (.aload_n 0, 1) := by decide +kernel
theorem d_B_numberTold_37 : decode c_B_numberTold 37 = .ok (.getfield 53, 3) := by decide +kernel
theorem d_B_numberTold_40 : decode c_B_numberTold 40 = .ok (.aload_n 0, 1) := by decide +kernel
theorem d_B_numberTold_41 : decode c_B_numberTold 41 = .ok (.getfield 53, 3) := by decide +kernel
theorem d_B_numberTold_44 : decode c_B_numberTold 44 = .ok (.getfield 78, 3) := by decide +kernel
theorem d_B_numberTold_47 : decode c_B_numberTold 47 = .ok (.iload_n 1, 1) := by decide +kernel
theorem d_B_numberTold_48 : decode c_B_numberTold 48 = .ok (.iconst 1, 1) := by decide +kernel
theorem d_B_numberTold_49 : decode c_B_numberTold 49 = .ok (.isub, 1) := by decide +kernel
theorem d_B_numberTold_50 : decode c_B_numberTold 50 = .ok (.iaload, 1) := by decide +kernel
theorem d_B_numberTold_51 : decode c_B_numberTold 51 = .ok (.iload_n 1, 1) := by decide +kernel
theorem d_B_numberTold_52 : decode c_B_numberTold 52 = .ok (.iload_n 2, 1) := by decide +kernel
theorem d_B_numberTold_53 : decode c_B_numberTold 53 = .ok (.invokevirtual 161, 3) := by decide +kernel
theorem d_B_numberTold_56 : decode c_B_numberTold 56 = .ok (.istore 4, 2) := by decide +kernel
theorem d_B_numberTold_58 : decode c_B_numberTold 58 = .ok (.iload 4, 2) := by decide +kernel
theorem d_B_numberTold_60 : decode c_B_numberTold 60 = .ok (.iconst 3, 1) := by decide +kernel
theorem d_B_numberTold_61 : decode c_B_numberTold 61 = .ok (.if_icmp .lt 14, 3) := by decide +kernel
theorem d_B_numberTold_64 : decode c_B_numberTold 64 = .ok (.bipush 100, 2) := by decide +kernel
theorem d_B_numberTold_66 : decode c_B_numberTold 66 = .ok (.iload 4, 2) := by decide +kernel
theorem d_B_numberTold_68 : decode c_B_numberTold 68 = .ok (.bipush 6, 2) := by decide +kernel
theorem d_B_numberTold_70 : decode c_B_numberTold 70 = .ok (.invokestatic 165, 3) := by decide +kernel
theorem d_B_numberTold_73 : decode c_B_numberTold 73 = .ok (.iadd, 1) := by decide +kernel
theorem d_B_numberTold_74 : decode c_B_numberTold 74 = .ok (.ireturn, 1) := by decide +kernel
theorem d_B_numberTold_75 : decode c_B_numberTold 75 = .ok (.aload_n 0, 1) := by decide +kernel
theorem d_B_numberTold_76 : decode c_B_numberTold 76 = .ok (.getfield 53, 3) := by decide +kernel
theorem d_B_numberTold_79 : decode c_B_numberTold 79 = .ok (.getfield 78, 3) := by decide +kernel
theorem d_B_numberTold_82 : decode c_B_numberTold 82 = .ok (.iload_n 1, 1) := by decide +kernel
theorem d_B_numberTold_83 : decode c_B_numberTold 83 = .ok (.iaload, 1) := by decide +kernel
theorem d_B_numberTold_84 : decode c_B_numberTold 84 = .ok (.ireturn, 1) := by decide +kernel
theorem d_B_lengthsToldBy_0 : decode c_B_lengthsToldBy 0 = .ok (.iload_n 0, 1) := by decide +kernel
theorem d_B_lengthsToldBy_1 : decode c_B_lengthsToldBy 1 = .ok (.sipush 200, 3) := by decide +kernel
theorem d_B_lengthsToldBy_4 : decode c_B_lengthsToldBy 4 = .ok (.if_icmp .le 9, 3) := by decide +kernel
theorem d_B_lengthsToldBy_7 : decode c_B_lengthsToldBy 7 = .ok (.iload_n 0, 1) := by decide +kernel
theorem d_B_lengthsToldBy_8 : decode c_B_lengthsToldBy 8 = .ok (.sipush 200, 3) := by decide +kernel
theorem d_B_lengthsToldBy_11 : decode c_B_lengthsToldBy 11 = .ok (.isub, 1) := by decide +kernel
theorem d_B_lengthsToldBy_12 : decode c_B_lengthsToldBy 12 = .ok (.ireturn, 1) := by decide +kernel
theorem d_B_lengthsToldBy_13 : decode c_B_lengthsToldBy 13 = .ok (.iload_n 0, 1) := by decide +kernel
theorem d_B_lengthsToldBy_14 : decode c_B_lengthsToldBy 14 = .ok (.bipush 100, 2) := by decide +kernel
theorem d_B_lengthsToldBy_16 : decode c_B_lengthsToldBy 16 = .ok (.if_icmp .le 10, 3) := by decide +kernel
theorem d_B_lengthsToldBy_19 : decode c_B_lengthsToldBy 19 = .ok (.iload_n 0, 1) := by decide +kernel
theorem d_B_lengthsToldBy_20 : decode c_B_lengthsToldBy 20 = .ok (.bipush 100, 2) := by decide +kernel
theorem d_B_lengthsToldBy_22 : decode c_B_lengthsToldBy 22 = .ok (.isub, 1) := by decide +kernel
theorem d_B_lengthsToldBy_23 : decode c_B_lengthsToldBy 23 = .ok (.goto 4, 3) := by decide +kernel
theorem d_B_lengthsToldBy_26 : decode c_B_lengthsToldBy 26 = .ok (.iconst 1, 1) := by decide +kernel
theorem d_B_lengthsToldBy_27 : decode c_B_lengthsToldBy 27 = .ok (.ireturn, 1) := by decide +kernel
