theorem d_M_init_0 : decode c_M_init 0 = .ok (.aload_n 0, 1) := by decide +kernel
theorem d_M_init_1 : decode c_M_init 1 = .ok (.invokespecial 1, 3) := by decide +kernel
theorem d_M_init_4 : decode c_M_init 4 = .ok (.aload_n 0, 1) := by decide +kernel
theorem d_M_init_5 : decode c_M_init 5 = .ok (.bipush 48, 2) := by decide +kernel
theorem d_M_init_7 : decode c_M_init 7 = .ok (.newarray .long, 2) := by decide +kernel
theorem d_M_init_9 : decode c_M_init 9 = .ok (.putfield 7, 3) := by decide +kernel
theorem d_M_init_12 : decode c_M_init 12 = .ok (.aload_n 0, 1) := by decide +kernel
theorem d_M_init_13 : decode c_M_init 13 = .ok (.bipush 48, 2) := by decide +kernel
theorem d_M_init_15 : decode c_M_init 15 = .ok (.newarray .int, 2) := by decide +kernel
theorem d_M_init_17 : decode c_M_init 17 = .ok (.putfield 13, 3) := by decide +kernel
theorem d_M_init_20 : decode c_M_init 20 = .ok (.aload_n 0, 1) := by decide +kernel
theorem d_M_init_21 : decode c_M_init 21 = .ok (.bipush 48, 2) := by decide +kernel
theorem d_M_init_23 : decode c_M_init 23 = .ok (.newarray .boolean, 2) := by decide +kernel
theorem d_M_init_25 : decode c_M_init 25 = .ok (.putfield 17, 3) := by decide +kernel
theorem d_M_init_28 : decode c_M_init 28 = .ok (.aload_n 0, 1) := by decide +kernel
theorem d_M_init_29 : decode c_M_init 29 = .ok (.bipush 48, 2) := by decide +kernel
theorem d_M_init_31 : decode c_M_init 31 = .ok (.newarray .int, 2) := by decide +kernel
theorem d_M_init_33 : decode c_M_init 33 = .ok (.putfield 21, 3) := by decide +kernel
theorem d_M_init_36 : decode c_M_init 36 = .ok (.aload_n 0, 1) := by decide +kernel
theorem d_M_init_37 : decode c_M_init 37 = .ok (.bipush 48, 2) := by decide +kernel
theorem d_M_init_39 : decode c_M_init 39 = .ok (.newarray .int, 2) := by decide +kernel
theorem d_M_init_41 : decode c_M_init 41 = .ok (.putfield 24, 3) := by decide +kernel
theorem d_M_init_44 : decode c_M_init 44 = .ok (.aload_n 0, 1) := by decide +kernel
theorem d_M_init_45 : decode c_M_init 45 = .ok (.sipush 400, 3) := by decide +kernel
theorem d_M_init_48 : decode c_M_init 48 = .ok (.newarray .int, 2) := by decide +kernel
theorem d_M_init_50 : decode c_M_init 50 = .ok (.putfield 27, 3) := by decide +kernel
theorem d_M_init_53 : decode c_M_init 53 = .ok (.aload_n 0, 1) := by decide +kernel
theorem d_M_init_54 : decode c_M_init 54 = .ok (.bipush 48, 2) := by decide +kernel
theorem d_M_init_56 : decode c_M_init 56 = .ok (.newarray .int, 2) := by decide +kernel
theorem d_M_init_58 : decode c_M_init 58 = .ok (.putfield 30, 3) := by decide +kernel
theorem d_M_init_61 : decode c_M_init 61 = .ok (.aload_n 0, 1) := by decide +kernel
theorem d_M_init_62 : decode c_M_init 62 = .ok (.sipush 1536, 3) := by decide +kernel
theorem d_M_init_65 : decode c_M_init 65 = .ok (.newarray .int, 2) := by decide +kernel
theorem d_M_init_67 : decode c_M_init 67 = .ok (.putfield 33, 3) := by decide +kernel
theorem d_M_init_70 : decode c_M_init 70 = .ok (.aload_n 0, 1) := by decide +kernel
theorem d_M_init_71 : decode c_M_init 71 = .ok (.bipush 16, 2) := by decide +kernel
theorem d_M_init_73 : decode c_M_init 73 = .ok (.newarray .int, 2) := by decide +kernel
theorem d_M_init_75 : decode c_M_init 75 = .ok (.putfield 36, 3) := by decide +kernel
theorem d_M_init_78 : decode c_M_init 78 = .ok (.aload_n 0, 1) := by decide +kernel
theorem d_M_init_79 : decode c_M_init 79 = .ok (.bipush 96, 2) := by decide +kernel
theorem d_M_init_81 : decode c_M_init 81 = .ok (.newarray .long, 2) := by decide +kernel
theorem d_M_init_83 : decode c_M_init 83 = .ok (.putfield 39, 3) := by decide +kernel
theorem d_M_init_86 : decode c_M_init 86 = .ok (.aload_n 0, 1) := by decide +kernel
theorem d_M_init_87 : decode c_M_init 87 = .ok (.bipush 96, 2) := by decide +kernel
theorem d_M_init_89 : decode c_M_init 89 = .ok (.newarray .long, 2) := by decide +kernel
theorem d_M_init_91 : decode c_M_init 91 = .ok (.putfield 42, 3) := by decide +kernel
theorem d_M_init_94 : decode c_M_init 94 = .ok (.aload_n 0, 1) := by decide +kernel
theorem d_M_init_95 : decode c_M_init 95 = .ok (.bipush 48, 2) := by decide +kernel
theorem d_M_init_97 : decode c_M_init 97 = .ok (.newarray .int, 2) := by decide +kernel
theorem d_M_init_99 : decode c_M_init 99 = .ok (.putfield 45, 3) := by decide +kernel
theorem d_M_init_102 : decode c_M_init 102 = .ok (.aload_n 0, 1) := by decide +kernel
theorem d_M_init_103 : decode c_M_init 103 = .ok (.iload_n 1, 1) := by decide +kernel
theorem d_M_init_104 : decode c_M_init 104 = .ok (.iconst 3, 1) := by decide +kernel
theorem d_M_init_105 : decode c_M_init 105 = .ok (.irem, 1) := by decide +kernel
theorem d_M_init_106 : decode c_M_init 106 = .ok (.iconst 3, 1) := by decide +kernel
theorem d_M_init_107 : decode c_M_init 107 = .ok (.iadd, 1) := by decide +kernel
theorem d_M_init_108 : decode c_M_init 108 = .ok (.iconst 3, 1) := by decide +kernel
theorem d_M_init_109 : decode c_M_init 109 = .ok (.irem, 1) := by decide +kernel
theorem d_M_init_110 : decode c_M_init 110 = .ok (.putfield 48, 3) := by decide +kernel
theorem d_M_init_113 : decode c_M_init 113 = .ok (.return_, 1) := by decide +kernel
theorem d_M_thrown_0 : decode c_M_thrown 0 = .ok (.aload_n 0, 1) := by decide +kernel
theorem d_M_thrown_1 : decode c_M_thrown 1 = .ok (.getfield 52, 3) := by decide +kernel
theorem d_M_thrown_4 : decode c_M_thrown 4 = .ok (.ireturn, 1) := by decide +kernel
theorem d_M_fails_0 : decode c_M_fails 0 = .ok (.aload_n 0, 1) := by decide +kernel
theorem d_M_fails_1 : decode c_M_fails 1 = .ok (.iload_n 1, 1) := by decide +kernel
theorem d_M_fails_2 : decode c_M_fails 2 = .ok (.ifCond .ne 7, 3) := by decide +kernel
theorem d_M_fails_5 : decode c_M_fails 5 = .ok (.iconst 1, 1) := by decide +kernel
theorem d_M_fails_6 : decode c_M_fails 6 = .ok (.goto 12, 3) := by decide +kernel
theorem d_M_fails_9 : decode c_M_fails 9 = .ok (.iload_n 2, 1) := by decide +kernel
theorem d_M_fails_10 : decode c_M_fails 10 = .ok (.ifCond .ne 7, 3) := by decide +kernel
theorem d_M_fails_13 : decode c_M_fails 13 = .ok (.iconst 2, 1) := by decide +kernel
theorem d_M_fails_14 : decode c_M_fails 14 = .ok (.goto 4, 3) := by decide +kernel
theorem d_M_fails_17 : decode c_M_fails 17 = .ok (.iconst 0, 1) := by decide +kernel
theorem d_M_fails_18 : decode c_M_fails 18 = .ok (.putfield 52, 3) := by decide +kernel
theorem d_M_fails_21 : decode c_M_fails 21 = .ok (.aload_n 0, 1) := by decide +kernel
theorem d_M_fails_22 : decode c_M_fails 22 = .ok (.getfield 52, 3) := by decide +kernel
theorem d_M_fails_25 : decode c_M_fails 25 = .ok (.ifCond .le 7, 3) := by decide +kernel
theorem d_M_fails_28 : decode c_M_fails 28 = .ok (.iconst 1, 1) := by decide +kernel
theorem d_M_fails_29 : decode c_M_fails 29 = .ok (.goto 4, 3) := by decide +kernel
theorem d_M_fails_32 : decode c_M_fails 32 = .ok (.iconst 0, 1) := by decide +kernel
theorem d_M_fails_33 : decode c_M_fails 33 = .ok (.ireturn, 1) := by decide +kernel
theorem d_M_isSymbol_0 : decode c_M_isSymbol 0 = .ok (.iload_n 0, 1) := by decide +kernel
theorem d_M_isSymbol_1 : decode c_M_isSymbol 1 = .ok (.ifCond .lt 13, 3) := by decide +kernel
theorem d_M_isSymbol_4 : decode c_M_isSymbol 4 = .ok (.iload_n 0, 1) := by decide +kernel
theorem d_M_isSymbol_5 : decode c_M_isSymbol 5 = .ok (.bipush 48, 2) := by decide +kernel
theorem d_M_isSymbol_7 : decode c_M_isSymbol 7 = .ok (.if_icmp .ge 7, 3) := by decide +kernel
theorem d_M_isSymbol_10 : decode c_M_isSymbol 10 = .ok (.iconst 1, 1) := by decide +kernel
theorem d_M_isSymbol_11 : decode c_M_isSymbol 11 = .ok (.goto 4, 3) := by decide +kernel
theorem d_M_isSymbol_14 : decode c_M_isSymbol 14 = .ok (.iconst 0, 1) := by decide +kernel
theorem d_M_isSymbol_15 : decode c_M_isSymbol 15 = .ok (.ireturn, 1) := by decide +kernel
theorem d_M_count_0 : decode c_M_count 0 = .ok (.aload_n 0, 1) := by decide +kernel
theorem d_M_count_1 : decode c_M_count 1 = .ok (.iload_n 1, 1) := by decide +kernel
theorem d_M_count_2 : decode c_M_count 2 = .ok (.invokestatic 55, 3) := by decide +kernel
theorem d_M_count_5 : decode c_M_count 5 = .ok (.lload_n 2, 1) := by decide +kernel
theorem d_M_count_6 : decode c_M_count 6 = .ok (.lconst 0, 1) := by decide +kernel
theorem d_M_count_7 : decode c_M_count 7 = .ok (.lcmp, 1) := by decide +kernel
theorem d_M_count_8 : decode c_M_count 8 = .ok (.ifCond .lt 15, 3) := by decide +kernel
theorem d_M_count_11 : decode c_M_count 11 = .ok (.lload_n 2, 1) := by decide +kernel
theorem d_M_count_12 : decode c_M_count 12 = .ok (.ldc2_w 59, 3) := by decide +kernel
theorem d_M_count_15 : decode c_M_count 15 = .ok (.lcmp, 1) := by decide +kernel
theorem d_M_count_16 : decode c_M_count 16 = .ok (.ifCond .gt 7, 3) := by decide +kernel
theorem d_M_count_19 : decode c_M_count 19 = .ok (.iconst 1, 1) := by decide +kernel
theorem d_M_count_20 : decode c_M_count 20 = .ok (.goto 4, 3) := by decide +kernel
theorem d_M_count_23 : decode c_M_count 23 = .ok (.iconst 0, 1) := by decide +kernel
theorem d_M_count_24 : decode c_M_count 24 = .ok (.invokevirtual 61, 3) := by decide +kernel
theorem d_M_count_27 : decode c_M_count 27 = .ok (.ifCond .eq 5, 3) := by decide +kernel
theorem d_M_count_30 : decode c_M_count 30 = .ok (.iconst 0, 1) := by decide +kernel
theorem d_M_count_31 : decode c_M_count 31 = .ok (.ireturn, 1) := by decide +kernel
theorem d_M_count_32 : decode c_M_count 32 = .ok (.aload_n 0, 1) := by decide +kernel
theorem d_M_count_33 : decode c_M_count 33 = .ok (.getfield 7, 3) := by decide +kernel
theorem d_M_count_36 : decode c_M_count 36 = .ok (.iload_n 1, 1) := by decide +kernel
theorem d_M_count_37 : decode c_M_count 37 = .ok (.laload, 1) := by decide +kernel
theorem d_M_count_38 : decode c_M_count 38 = .ok (.lload_n 2, 1) := by decide +kernel
theorem d_M_count_39 : decode c_M_count 39 = .ok (.lcmp, 1) := by decide +kernel
theorem d_M_count_40 : decode c_M_count 40 = .ok (.ifCond .eq 7, 3) := by decide +kernel
theorem d_M_count_43 : decode c_M_count 43 = .ok (.iconst 1, 1) := by decide +kernel
theorem d_M_count_44 : decode c_M_count 44 = .ok (.goto 4, 3) := by decide +kernel
theorem d_M_count_47 : decode c_M_count 47 = .ok (.iconst 0, 1) := by decide +kernel
theorem d_M_count_48 : decode c_M_count 48 = .ok (.istore 4, 2) := by decide +kernel
theorem d_M_count_50 : decode c_M_count 50 = .ok (.aload_n 0, 1) := by decide +kernel
theorem d_M_count_51 : decode c_M_count 51 = .ok (.getfield 7, 3) := by decide +kernel
theorem d_M_count_54 : decode c_M_count 54 = .ok (.iload_n 1, 1) := by decide +kernel
theorem d_M_count_55 : decode c_M_count 55 = .ok (.lload_n 2, 1) := by decide +kernel
theorem d_M_count_56 : decode c_M_count 56 = .ok (.lastore, 1) := by decide +kernel
theorem d_M_count_57 : decode c_M_count 57 = .ok (.iload 4, 2) := by decide +kernel
theorem d_M_count_59 : decode c_M_count 59 = .ok (.ireturn, 1) := by decide +kernel
theorem d_M_sort_0 : decode c_M_sort 0 = .ok (.iconst 0, 1) := by decide +kernel
theorem d_M_sort_1 : decode c_M_sort 1 = .ok (.istore_n 1, 1) := by decide +kernel
theorem d_M_sort_2 : decode c_M_sort 2 = .ok (.bipush 47, 2) := by decide +kernel
theorem d_M_sort_4 : decode c_M_sort 4 = .ok (.istore_n 2, 1) := by decide +kernel
theorem d_M_sort_5 : decode c_M_sort 5 = .ok (.iload_n 2, 1) := by decide +kernel
theorem d_M_sort_6 : decode c_M_sort 6 = .ok (.ifCond .lt 79, 3) := by decide +kernel
theorem d_M_sort_9 : decode c_M_sort 9 = .ok (.aload_n 0, 1) := by decide +kernel
theorem d_M_sort_10 : decode c_M_sort 10 = .ok (.getfield 7, 3) := by decide +kernel
theorem d_M_sort_13 : decode c_M_sort 13 = .ok (.iload_n 2, 1) := by decide +kernel
theorem d_M_sort_14 : decode c_M_sort 14 = .ok (.laload, 1) := by decide +kernel
theorem d_M_sort_15 : decode c_M_sort 15 = .ok (.lconst 0, 1) := by decide +kernel
theorem d_M_sort_16 : decode c_M_sort 16 = .ok (.lcmp, 1) := by decide +kernel
theorem d_M_sort_17 : decode c_M_sort 17 = .ok (.ifCond .le 62, 3) := by decide +kernel
theorem d_M_sort_20 : decode c_M_sort 20 = .ok (.iload_n 1, 1) := by decide +kernel
theorem d_M_sort_21 : decode c_M_sort 21 = .ok (.istore_n 3, 1) := by decide +kernel
theorem d_M_sort_22 : decode c_M_sort 22 = .ok (.iload_n 3, 1) := by decide +kernel
theorem d_M_sort_23 : decode c_M_sort 23 = .ok (.ifCond .le 46, 3) := by decide +kernel
theorem d_M_sort_26 : decode c_M_sort 26 = .ok (.aload_n 0, 1) := by decide +kernel
theorem d_M_sort_27 : decode c_M_sort 27 = .ok (.getfield 7, 3) := by decide +kernel
theorem d_M_sort_30 : decode c_M_sort 30 = .ok (.aload_n 0, 1) := by decide +kernel
theorem d_M_sort_31 : decode c_M_sort 31 = .ok (.getfield 30, 3) := by decide +kernel
theorem d_M_sort_34 : decode c_M_sort 34 = .ok (.iload_n 3, 1) := by decide +kernel
theorem d_M_sort_35 : decode c_M_sort 35 = .ok (.iconst 1, 1) := by decide +kernel
theorem d_M_sort_36 : decode c_M_sort 36 = .ok (.isub, 1) := by decide +kernel
theorem d_M_sort_37 : decode c_M_sort 37 = .ok (.iaload, 1) := by decide +kernel
theorem d_M_sort_38 : decode c_M_sort 38 = .ok (.laload, 1) := by decide +kernel
theorem d_M_sort_39 : decode c_M_sort 39 = .ok (.aload_n 0, 1) := by decide +kernel
theorem d_M_sort_40 : decode c_M_sort 40 = .ok (.getfield 7, 3) := by decide +kernel
theorem d_M_sort_43 : decode c_M_sort 43 = .ok (.iload_n 2, 1) := by decide +kernel
theorem d_M_sort_44 : decode c_M_sort 44 = .ok (.laload, 1) := by decide +kernel
theorem d_M_sort_45 : decode c_M_sort 45 = .ok (.lcmp, 1) := by decide +kernel
theorem d_M_sort_46 : decode c_M_sort 46 = .ok (.ifCond .le 23, 3) := by decide +kernel
theorem d_M_sort_49 : decode c_M_sort 49 = .ok (.aload_n 0, 1) := by decide +kernel
theorem d_M_sort_50 : decode c_M_sort 50 = .ok (.getfield 30, 3) := by decide +kernel
theorem d_M_sort_53 : decode c_M_sort 53 = .ok (.iload_n 3, 1) := by decide +kernel
theorem d_M_sort_54 : decode c_M_sort 54 = .ok (.aload_n 0, 1) := by decide +kernel
theorem d_M_sort_55 : decode c_M_sort 55 = .ok (.getfield 30, 3) := by decide +kernel
theorem d_M_sort_58 : decode c_M_sort 58 = .ok (.iload_n 3, 1) := by decide +kernel
theorem d_M_sort_59 : decode c_M_sort 59 = .ok (.iconst 1, 1) := by decide +kernel
theorem d_M_sort_60 : decode c_M_sort 60 = .ok (.isub, 1) := by decide +kernel
theorem d_M_sort_61 : decode c_M_sort 61 = .ok (.iaload, 1) := by decide +kernel
theorem d_M_sort_62 : decode c_M_sort 62 = .ok (.iastore, 1) := by decide +kernel
theorem d_M_sort_63 : decode c_M_sort 63 = .ok (.iinc 3 (-1), 3) := by decide +kernel
theorem d_M_sort_66 : decode c_M_sort 66 = .ok (.goto (-44), 3) := by decide +kernel
theorem d_M_sort_69 : decode c_M_sort 69 = .ok (.aload_n 0, 1) := by decide +kernel
theorem d_M_sort_70 : decode c_M_sort 70 = .ok (.getfield 30, 3) := by decide +kernel
theorem d_M_sort_73 : decode c_M_sort 73 = .ok (.iload_n 3, 1) := by decide +kernel
theorem d_M_sort_74 : decode c_M_sort 74 = .ok (.iload_n 2, 1) := by decide +kernel
theorem d_M_sort_75 : decode c_M_sort 75 = .ok (.iastore, 1) := by decide +kernel
theorem d_M_sort_76 : decode c_M_sort 76 = .ok (.iinc 1 1, 3) := by decide +kernel
theorem d_M_sort_79 : decode c_M_sort 79 = .ok (.iinc 2 (-1), 3) := by decide +kernel
theorem d_M_sort_82 : decode c_M_sort 82 = .ok (.goto (-77), 3) := by decide +kernel
theorem d_M_sort_85 : decode c_M_sort 85 = .ok (.iload_n 1, 1) := by decide +kernel
theorem d_M_sort_86 : decode c_M_sort 86 = .ok (.ireturn, 1) := by decide +kernel
theorem d_M_pack_0 : decode c_M_pack 0 = .ok (.iload_n 1, 1) := by decide +kernel
theorem d_M_pack_1 : decode c_M_pack 1 = .ok (.ifCond .ne 7, 3) := by decide +kernel
theorem d_M_pack_4 : decode c_M_pack 4 = .ok (.iconst 0, 1) := by decide +kernel
theorem d_M_pack_5 : decode c_M_pack 5 = .ok (.goto 13, 3) := by decide +kernel
theorem d_M_pack_8 : decode c_M_pack 8 = .ok (.aload_n 0, 1) := by decide +kernel
theorem d_M_pack_9 : decode c_M_pack 9 = .ok (.getfield 36, 3) := by decide +kernel
theorem d_M_pack_12 : decode c_M_pack 12 = .ok (.iload_n 1, 1) := by decide +kernel
theorem d_M_pack_13 : decode c_M_pack 13 = .ok (.iconst 1, 1) := by decide +kernel
theorem d_M_pack_14 : decode c_M_pack 14 = .ok (.isub, 1) := by decide +kernel
theorem d_M_pack_15 : decode c_M_pack 15 = .ok (.iaload, 1) := by decide +kernel
theorem d_M_pack_16 : decode c_M_pack 16 = .ok (.iconst 2, 1) := by decide +kernel
theorem d_M_pack_17 : decode c_M_pack 17 = .ok (.idiv, 1) := by decide +kernel
theorem d_M_pack_18 : decode c_M_pack 18 = .ok (.istore_n 3, 1) := by decide +kernel
theorem d_M_pack_19 : decode c_M_pack 19 = .ok (.iconst 0, 1) := by decide +kernel
theorem d_M_pack_20 : decode c_M_pack 20 = .ok (.istore 4, 2) := by decide +kernel
theorem d_M_pack_22 : decode c_M_pack 22 = .ok (.iconst 0, 1) := by decide +kernel
theorem d_M_pack_23 : decode c_M_pack 23 = .ok (.istore 5, 2) := by decide +kernel
theorem d_M_pack_25 : decode c_M_pack 25 = .ok (.iload 4, 2) := by decide +kernel
theorem d_M_pack_27 : decode c_M_pack 27 = .ok (.iload_n 2, 1) := by decide +kernel
theorem d_M_pack_28 : decode c_M_pack 28 = .ok (.if_icmp .lt 9, 3) := by decide +kernel
theorem d_M_pack_31 : decode c_M_pack 31 = .ok (.iload 5, 2) := by decide +kernel
theorem d_M_pack_33 : decode c_M_pack 33 = .ok (.iload_n 3, 1) := by decide +kernel
theorem d_M_pack_34 : decode c_M_pack 34 = .ok (.if_icmp .ge 169, 3) := by decide +kernel
theorem d_M_pack_37 : decode c_M_pack 37 = .ok (.iload 5, 2) := by decide +kernel
theorem d_M_pack_39 : decode c_M_pack 39 = .ok (.iload_n 3, 1) := by decide +kernel
theorem d_M_pack_40 : decode c_M_pack 40 = .ok (.if_icmp .ge 27, 3) := by decide +kernel
theorem d_M_pack_43 : decode c_M_pack 43 = .ok (.aload_n 0, 1) := by decide +kernel
theorem d_M_pack_44 : decode c_M_pack 44 = .ok (.getfield 42, 3) := by decide +kernel
theorem d_M_pack_47 : decode c_M_pack 47 = .ok (.iconst 2, 1) := by decide +kernel
theorem d_M_pack_48 : decode c_M_pack 48 = .ok (.iload 5, 2) := by decide +kernel
theorem d_M_pack_50 : decode c_M_pack 50 = .ok (.imul, 1) := by decide +kernel
theorem d_M_pack_51 : decode c_M_pack 51 = .ok (.laload, 1) := by decide +kernel
theorem d_M_pack_52 : decode c_M_pack 52 = .ok (.aload_n 0, 1) := by decide +kernel
theorem d_M_pack_53 : decode c_M_pack 53 = .ok (.getfield 42, 3) := by decide +kernel
theorem d_M_pack_56 : decode c_M_pack 56 = .ok (.iconst 2, 1) := by decide +kernel
theorem d_M_pack_57 : decode c_M_pack 57 = .ok (.iload 5, 2) := by decide +kernel
theorem d_M_pack_59 : decode c_M_pack 59 = .ok (.imul, 1) := by decide +kernel
theorem d_M_pack_60 : decode c_M_pack 60 = .ok (.iconst 1, 1) := by decide +kernel
theorem d_M_pack_61 : decode c_M_pack 61 = .ok (.iadd, 1) := by decide +kernel
theorem d_M_pack_62 : decode c_M_pack 62 = .ok (.laload, 1) := by decide +kernel
theorem d_M_pack_63 : decode c_M_pack 63 = .ok (.ladd, 1) := by decide +kernel
theorem d_M_pack_64 : decode c_M_pack 64 = .ok (.goto 4, 3) := by decide +kernel
theorem d_M_pack_67 : decode c_M_pack 67 = .ok (.lconst 0, 1) := by decide +kernel
theorem d_M_pack_68 : decode c_M_pack 68 = .ok (.lstore 6, 2) := by decide +kernel
theorem d_M_pack_70 : decode c_M_pack 70 = .ok (.iload 4, 2) := by decide +kernel
theorem d_M_pack_72 : decode c_M_pack 72 = .ok (.iload_n 2, 1) := by decide +kernel
theorem d_M_pack_73 : decode c_M_pack 73 = .ok (.if_icmp .ge 31, 3) := by decide +kernel
theorem d_M_pack_76 : decode c_M_pack 76 = .ok (.iload 5, 2) := by decide +kernel
theorem d_M_pack_78 : decode c_M_pack 78 = .ok (.iload_n 3, 1) := by decide +kernel
theorem d_M_pack_79 : decode c_M_pack 79 = .ok (.if_icmp .eq 21, 3) := by decide +kernel
theorem d_M_pack_82 : decode c_M_pack 82 = .ok (.aload_n 0, 1) := by decide +kernel
theorem d_M_pack_83 : decode c_M_pack 83 = .ok (.getfield 7, 3) := by decide +kernel
theorem d_M_pack_86 : decode c_M_pack 86 = .ok (.aload_n 0, 1) := by decide +kernel
theorem d_M_pack_87 : decode c_M_pack 87 = .ok (.getfield 30, 3) := by decide +kernel
theorem d_M_pack_90 : decode c_M_pack 90 = .ok (.iload 4, 2) := by decide +kernel
theorem d_M_pack_92 : decode c_M_pack 92 = .ok (.iaload, 1) := by decide +kernel
theorem d_M_pack_93 : decode c_M_pack 93 = .ok (.laload, 1) := by decide +kernel
theorem d_M_pack_94 : decode c_M_pack 94 = .ok (.lload 6, 2) := by decide +kernel
theorem d_M_pack_96 : decode c_M_pack 96 = .ok (.lcmp, 1) := by decide +kernel
theorem d_M_pack_97 : decode c_M_pack 97 = .ok (.ifCond .gt 7, 3) := by decide +kernel
theorem d_M_pack_100 : decode c_M_pack 100 = .ok (.iconst 1, 1) := by decide +kernel
theorem d_M_pack_101 : decode c_M_pack 101 = .ok (.goto 4, 3) := by decide +kernel
theorem d_M_pack_104 : decode c_M_pack 104 = .ok (.iconst 0, 1) := by decide +kernel
theorem d_M_pack_105 : decode c_M_pack 105 = .ok (.istore 8, 2) := by decide +kernel
theorem d_M_pack_107 : decode c_M_pack 107 = .ok (.aload_n 0, 1) := by decide +kernel
theorem d_M_pack_108 : decode c_M_pack 108 = .ok (.getfield 39, 3) := by decide +kernel
theorem d_M_pack_111 : decode c_M_pack 111 = .ok (.iload 4, 2) := by decide +kernel
theorem d_M_pack_113 : decode c_M_pack 113 = .ok (.iload 5, 2) := by decide +kernel
theorem d_M_pack_115 : decode c_M_pack 115 = .ok (.iadd, 1) := by decide +kernel
theorem d_M_pack_116 : decode c_M_pack 116 = .ok (.iload 8, 2) := by decide +kernel
theorem d_M_pack_118 : decode c_M_pack 118 = .ok (.ifCond .eq 18, 3) := by decide +kernel
theorem d_M_pack_121 : decode c_M_pack 121 = .ok (.aload_n 0, 1) := by decide +kernel
theorem d_M_pack_122 : decode c_M_pack 122 = .ok (.getfield 7, 3) := by decide +kernel
theorem d_M_pack_125 : decode c_M_pack 125 = .ok (.aload_n 0, 1) := by decide +kernel
theorem d_M_pack_126 : decode c_M_pack 126 = .ok (.getfield 30, 3) := by decide +kernel
theorem d_M_pack_129 : decode c_M_pack 129 = .ok (.iload 4, 2) := by decide +kernel
theorem d_M_pack_131 : decode c_M_pack 131 = .ok (.iaload, 1) := by decide +kernel
theorem d_M_pack_132 : decode c_M_pack 132 = .ok (.laload, 1) := by decide +kernel
theorem d_M_pack_133 : decode c_M_pack 133 = .ok (.goto 5, 3) := by decide +kernel
theorem d_M_pack_136 : decode c_M_pack 136 = .ok (.lload 6, 2) := by decide +kernel
theorem d_M_pack_138 : decode c_M_pack 138 = .ok (.lastore, 1) := by decide +kernel
theorem d_M_pack_139 : decode c_M_pack 139 = .ok (.aload_n 0, 1) := by decide +kernel
theorem d_M_pack_140 : decode c_M_pack 140 = .ok (.getfield 33, 3) := by decide +kernel
theorem d_M_pack_143 : decode c_M_pack 143 = .ok (.bipush 96, 2) := by decide +kernel
theorem d_M_pack_145 : decode c_M_pack 145 = .ok (.iload_n 1, 1) := by decide +kernel
theorem d_M_pack_146 : decode c_M_pack 146 = .ok (.imul, 1) := by decide +kernel
theorem d_M_pack_147 : decode c_M_pack 147 = .ok (.iload 4, 2) := by decide +kernel
theorem d_M_pack_149 : decode c_M_pack 149 = .ok (.iadd, 1) := by decide +kernel
theorem d_M_pack_150 : decode c_M_pack 150 = .ok (.iload 5, 2) := by decide +kernel
theorem d_M_pack_152 : decode c_M_pack 152 = .ok (.iadd, 1) := by decide +kernel
theorem d_M_pack_153 : decode c_M_pack 153 = .ok (.iload 8, 2) := by decide +kernel
theorem d_M_pack_155 : decode c_M_pack 155 = .ok (.ifCond .eq 13, 3) := by decide +kernel
theorem d_M_pack_158 : decode c_M_pack 158 = .ok (.aload_n 0, 1) := by decide +kernel
theorem d_M_pack_159 : decode c_M_pack 159 = .ok (.getfield 30, 3) := by decide +kernel
theorem d_M_pack_162 : decode c_M_pack 162 = .ok (.iload 4, 2) := by decide +kernel
theorem d_M_pack_164 : decode c_M_pack 164 = .ok (.iaload, 1) := by decide +kernel
theorem d_M_pack_165 : decode c_M_pack 165 = .ok (.goto 4, 3) := by decide +kernel
theorem d_M_pack_168 : decode c_M_pack 168 = .ok (.iconst (-1), 1) := by decide +kernel
theorem d_M_pack_169 : decode c_M_pack 169 = .ok (.iastore, 1) := by decide +kernel
theorem d_M_pack_170 : decode c_M_pack 170 = .ok (.iload 4, 2) := by decide +kernel
theorem d_M_pack_172 : decode c_M_pack 172 = .ok (.iload 8, 2) := by decide +kernel
theorem d_M_pack_174 : decode c_M_pack 174 = .ok (.ifCond .eq 7, 3) := by decide +kernel
theorem d_M_pack_177 : decode c_M_pack 177 = .ok (.iconst 1, 1) := by decide +kernel
theorem d_M_pack_178 : decode c_M_pack 178 = .ok (.goto 4, 3) := by decide +kernel
theorem d_M_pack_181 : decode c_M_pack 181 = .ok (.iconst 0, 1) := by decide +kernel
theorem d_M_pack_182 : decode c_M_pack 182 = .ok (.iadd, 1) := by decide +kernel
theorem d_M_pack_183 : decode c_M_pack 183 = .ok (.istore 4, 2) := by decide +kernel
theorem d_M_pack_185 : decode c_M_pack 185 = .ok (.iload 5, 2) := by decide +kernel
theorem d_M_pack_187 : decode c_M_pack 187 = .ok (.iload 8, 2) := by decide +kernel
theorem d_M_pack_189 : decode c_M_pack 189 = .ok (.ifCond .eq 7, 3) := by decide +kernel
theorem d_M_pack_192 : decode c_M_pack 192 = .ok (.iconst 0, 1) := by decide +kernel
theorem d_M_pack_193 : decode c_M_pack 193 = .ok (.goto 4, 3) := by decide +kernel
theorem d_M_pack_196 : decode c_M_pack 196 = .ok (.iconst 1, 1) := by decide +kernel
theorem d_M_pack_197 : decode c_M_pack 197 = .ok (.iadd, 1) := by decide +kernel
theorem d_M_pack_198 : decode c_M_pack 198 = .ok (.istore 5, 2) := by decide +kernel
theorem d_M_pack_200 : decode c_M_pack 200 = .ok (.goto (-175), 3) := by decide +kernel
theorem d_M_pack_203 : decode c_M_pack 203 = .ok (.aload_n 0, 1) := by decide +kernel
theorem d_M_pack_204 : decode c_M_pack 204 = .ok (.getfield 36, 3) := by decide +kernel
theorem d_M_pack_207 : decode c_M_pack 207 = .ok (.iload_n 1, 1) := by decide +kernel
theorem d_M_pack_208 : decode c_M_pack 208 = .ok (.iload_n 2, 1) := by decide +kernel
theorem d_M_pack_209 : decode c_M_pack 209 = .ok (.iload_n 3, 1) := by decide +kernel
theorem d_M_pack_210 : decode c_M_pack 210 = .ok (.iadd, 1) := by decide +kernel
theorem d_M_pack_211 : decode c_M_pack 211 = .ok (.iastore, 1) := by decide +kernel
theorem d_M_pack_212 : decode c_M_pack 212 = .ok (.iconst 0, 1) := by decide +kernel
theorem d_M_pack_213 : decode c_M_pack 213 = .ok (.istore 6, 2) := by decide +kernel
theorem d_M_pack_215 : decode c_M_pack 215 = .ok (.iload 6, 2) := by decide +kernel
theorem d_M_pack_217 : decode c_M_pack 217 = .ok (.aload_n 0, 1) := by decide +kernel
theorem d_M_pack_218 : decode c_M_pack 218 = .ok (.getfield 36, 3) := by decide +kernel
theorem d_M_pack_221 : decode c_M_pack 221 = .ok (.iload_n 1, 1) := by decide +kernel
theorem d_M_pack_222 : decode c_M_pack 222 = .ok (.iaload, 1) := by decide +kernel
theorem d_M_pack_223 : decode c_M_pack 223 = .ok (.if_icmp .ge 23, 3) := by decide +kernel
theorem d_M_pack_226 : decode c_M_pack 226 = .ok (.aload_n 0, 1) := by decide +kernel
theorem d_M_pack_227 : decode c_M_pack 227 = .ok (.getfield 42, 3) := by decide +kernel
theorem d_M_pack_230 : decode c_M_pack 230 = .ok (.iload 6, 2) := by decide +kernel
theorem d_M_pack_232 : decode c_M_pack 232 = .ok (.aload_n 0, 1) := by decide +kernel
theorem d_M_pack_233 : decode c_M_pack 233 = .ok (.getfield 39, 3) := by decide +kernel
theorem d_M_pack_236 : decode c_M_pack 236 = .ok (.iload 6, 2) := by decide +kernel
theorem d_M_pack_238 : decode c_M_pack 238 = .ok (.laload, 1) := by decide +kernel
theorem d_M_pack_239 : decode c_M_pack 239 = .ok (.lastore, 1) := by decide +kernel
theorem d_M_pack_240 : decode c_M_pack 240 = .ok (.iinc 6 1, 3) := by decide +kernel
theorem d_M_pack_243 : decode c_M_pack 243 = .ok (.goto (-28), 3) := by decide +kernel
theorem d_M_pack_246 : decode c_M_pack 246 = .ok (.return_, 1) := by decide +kernel
theorem d_M_make_0 : decode c_M_make 0 = .ok (.aload_n 0, 1) := by decide +kernel
theorem d_M_make_1 : decode c_M_make 1 = .ok (.iload_n 1, 1) := by decide +kernel
theorem d_M_make_2 : decode c_M_make 2 = .ok (.iconst 1, 1) := by decide +kernel
theorem d_M_make_3 : decode c_M_make 3 = .ok (.if_icmp .lt 13, 3) := by decide +kernel
theorem d_M_make_6 : decode c_M_make 6 = .ok (.iload_n 1, 1) := by decide +kernel
theorem d_M_make_7 : decode c_M_make 7 = .ok (.bipush 16, 2) := by decide +kernel
theorem d_M_make_9 : decode c_M_make 9 = .ok (.if_icmp .gt 7, 3) := by decide +kernel
theorem d_M_make_12 : decode c_M_make 12 = .ok (.iconst 1, 1) := by decide +kernel
theorem d_M_make_13 : decode c_M_make 13 = .ok (.goto 4, 3) := by decide +kernel
theorem d_M_make_16 : decode c_M_make 16 = .ok (.iconst 0, 1) := by decide +kernel
theorem d_M_make_17 : decode c_M_make 17 = .ok (.iconst 1, 1) := by decide +kernel
theorem d_M_make_18 : decode c_M_make 18 = .ok (.invokevirtual 61, 3) := by decide +kernel
theorem d_M_make_21 : decode c_M_make 21 = .ok (.ifCond .eq 5, 3) := by decide +kernel
theorem d_M_make_24 : decode c_M_make 24 = .ok (.iconst 0, 1) := by decide +kernel
theorem d_M_make_25 : decode c_M_make 25 = .ok (.ireturn, 1) := by decide +kernel
theorem d_M_make_26 : decode c_M_make 26 = .ok (.aload_n 0, 1) := by decide +kernel
theorem d_M_make_27 : decode c_M_make 27 = .ok (.invokevirtual 65, 3) := by decide +kernel
theorem d_M_make_30 : decode c_M_make 30 = .ok (.istore_n 2, 1) := by decide +kernel
theorem d_M_make_31 : decode c_M_make 31 = .ok (.iload_n 2, 1) := by decide +kernel
theorem d_M_make_32 : decode c_M_make 32 = .ok (.iconst 1, 1) := by decide +kernel
theorem d_M_make_33 : decode c_M_make 33 = .ok (.iload_n 1, 1) := by decide +kernel
theorem d_M_make_34 : decode c_M_make 34 = .ok (.ishl, 1) := by decide +kernel
theorem d_M_make_35 : decode c_M_make 35 = .ok (.if_icmp .le 5, 3) := by decide +kernel
theorem d_M_make_38 : decode c_M_make 38 = .ok (.iconst (-1), 1) := by decide +kernel
theorem d_M_make_39 : decode c_M_make 39 = .ok (.ireturn, 1) := by decide +kernel
theorem d_M_make_40 : decode c_M_make 40 = .ok (.iconst 0, 1) := by decide +kernel
theorem d_M_make_41 : decode c_M_make 41 = .ok (.istore_n 3, 1) := by decide +kernel
theorem d_M_make_42 : decode c_M_make 42 = .ok (.iload_n 3, 1) := by decide +kernel
theorem d_M_make_43 : decode c_M_make 43 = .ok (.bipush 48, 2) := by decide +kernel
theorem d_M_make_45 : decode c_M_make 45 = .ok (.if_icmp .ge 23, 3) := by decide +kernel
theorem d_M_make_48 : decode c_M_make 48 = .ok (.aload_n 0, 1) := by decide +kernel
theorem d_M_make_49 : decode c_M_make 49 = .ok (.getfield 13, 3) := by decide +kernel
theorem d_M_make_52 : decode c_M_make 52 = .ok (.iload_n 3, 1) := by decide +kernel
theorem d_M_make_53 : decode c_M_make 53 = .ok (.iconst 0, 1) := by decide +kernel
theorem d_M_make_54 : decode c_M_make 54 = .ok (.iastore, 1) := by decide +kernel
theorem d_M_make_55 : decode c_M_make 55 = .ok (.aload_n 0, 1) := by decide +kernel
theorem d_M_make_56 : decode c_M_make 56 = .ok (.getfield 17, 3) := by decide +kernel
theorem d_M_make_59 : decode c_M_make 59 = .ok (.iload_n 3, 1) := by decide +kernel
theorem d_M_make_60 : decode c_M_make 60 = .ok (.iconst 0, 1) := by decide +kernel
theorem d_M_make_61 : decode c_M_make 61 = .ok (.bastore, 1) := by decide +kernel
theorem d_M_make_62 : decode c_M_make 62 = .ok (.iinc 3 1, 3) := by decide +kernel
theorem d_M_make_65 : decode c_M_make 65 = .ok (.goto (-23), 3) := by decide +kernel
theorem d_M_make_68 : decode c_M_make 68 = .ok (.iload_n 2, 1) := by decide +kernel
theorem d_M_make_69 : decode c_M_make 69 = .ok (.iconst 1, 1) := by decide +kernel
theorem d_M_make_70 : decode c_M_make 70 = .ok (.if_icmp .ne 17, 3) := by decide +kernel
theorem d_M_make_73 : decode c_M_make 73 = .ok (.aload_n 0, 1) := by decide +kernel
theorem d_M_make_74 : decode c_M_make 74 = .ok (.getfield 13, 3) := by decide +kernel
theorem d_M_make_77 : decode c_M_make 77 = .ok (.aload_n 0, 1) := by decide +kernel
theorem d_M_make_78 : decode c_M_make 78 = .ok (.getfield 30, 3) := by decide +kernel
theorem d_M_make_81 : decode c_M_make 81 = .ok (.iconst 0, 1) := by decide +kernel
theorem d_M_make_82 : decode c_M_make 82 = .ok (.iaload, 1) := by decide +kernel
theorem d_M_make_83 : decode c_M_make 83 = .ok (.iconst 1, 1) := by decide +kernel
theorem d_M_make_84 : decode c_M_make 84 = .ok (.iastore, 1) := by decide +kernel
theorem d_M_make_85 : decode c_M_make 85 = .ok (.iconst 1, 1) := by decide +kernel
theorem d_M_make_86 : decode c_M_make 86 = .ok (.ireturn, 1) := by decide +kernel
theorem d_M_make_87 : decode c_M_make 87 = .ok (.iconst 0, 1) := by decide +kernel
theorem d_M_make_88 : decode c_M_make 88 = .ok (.istore_n 3, 1) := by decide +kernel
theorem d_M_make_89 : decode c_M_make 89 = .ok (.iload_n 3, 1) := by decide +kernel
theorem d_M_make_90 : decode c_M_make 90 = .ok (.iload_n 1, 1) := by decide +kernel
theorem d_M_make_91 : decode c_M_make 91 = .ok (.if_icmp .ge 15, 3) := by decide +kernel
theorem d_M_make_94 : decode c_M_make 94 = .ok (.aload_n 0, 1) := by decide +kernel
theorem d_M_make_95 : decode c_M_make 95 = .ok (.iload_n 3, 1) := by decide +kernel
theorem d_M_make_96 : decode c_M_make 96 = .ok (.iload_n 2, 1) := by decide +kernel
theorem d_M_make_97 : decode c_M_make 97 = .ok (.invokevirtual 69, 3) := by decide +kernel
theorem d_M_make_100 : decode c_M_make 100 = .ok (.iinc 3 1, 3) := by decide +kernel
theorem d_M_make_103 : decode c_M_make 103 = .ok (.goto (-14), 3) := by decide +kernel
theorem d_M_make_106 : decode c_M_make 106 = .ok (.iload_n 2, 1) := by decide +kernel
theorem d_M_make_107 : decode c_M_make 107 = .ok (.ifCond .ne 7, 3) := by decide +kernel
theorem d_M_make_110 : decode c_M_make 110 = .ok (.iconst 0, 1) := by decide +kernel
theorem d_M_make_111 : decode c_M_make 111 = .ok (.goto 8, 3) := by decide +kernel
theorem d_M_make_114 : decode c_M_make 114 = .ok (.iconst 2, 1) := by decide +kernel
theorem d_M_make_115 : decode c_M_make 115 = .ok (.iload_n 2, 1) := by decide +kernel
theorem d_M_make_116 : decode c_M_make 116 = .ok (.imul, 1) := by decide +kernel
theorem d_M_make_117 : decode c_M_make 117 = .ok (.iconst 2, 1) := by decide +kernel
theorem d_M_make_118 : decode c_M_make 118 = .ok (.isub, 1) := by decide +kernel
theorem d_M_make_119 : decode c_M_make 119 = .ok (.istore_n 3, 1) := by decide +kernel
theorem d_M_make_120 : decode c_M_make 120 = .ok (.iload_n 1, 1) := by decide +kernel
theorem d_M_make_121 : decode c_M_make 121 = .ok (.iconst 1, 1) := by decide +kernel
theorem d_M_make_122 : decode c_M_make 122 = .ok (.isub, 1) := by decide +kernel
theorem d_M_make_123 : decode c_M_make 123 = .ok (.istore 4, 2) := by decide +kernel
theorem d_M_make_125 : decode c_M_make 125 = .ok (.iload 4, 2) := by decide +kernel
theorem d_M_make_127 : decode c_M_make 127 = .ok (.ifCond .lt 78, 3) := by decide +kernel
theorem d_M_make_130 : decode c_M_make 130 = .ok (.iconst 0, 1) := by decide +kernel
theorem d_M_make_131 : decode c_M_make 131 = .ok (.istore 5, 2) := by decide +kernel
theorem d_M_make_133 : decode c_M_make 133 = .ok (.iconst 0, 1) := by decide +kernel
theorem d_M_make_134 : decode c_M_make 134 = .ok (.istore 6, 2) := by decide +kernel
theorem d_M_make_136 : decode c_M_make 136 = .ok (.iload 6, 2) := by decide +kernel
theorem d_M_make_138 : decode c_M_make 138 = .ok (.iload_n 3, 1) := by decide +kernel
theorem d_M_make_139 : decode c_M_make 139 = .ok (.if_icmp .ge 55, 3) := by decide +kernel
theorem d_M_make_142 : decode c_M_make 142 = .ok (.aload_n 0, 1) := by decide +kernel
theorem d_M_make_143 : decode c_M_make 143 = .ok (.getfield 33, 3) := by decide +kernel
theorem d_M_make_146 : decode c_M_make 146 = .ok (.bipush 96, 2) := by decide +kernel
theorem d_M_make_148 : decode c_M_make 148 = .ok (.iload 4, 2) := by decide +kernel
theorem d_M_make_150 : decode c_M_make 150 = .ok (.imul, 1) := by decide +kernel
theorem d_M_make_151 : decode c_M_make 151 = .ok (.iload 6, 2) := by decide +kernel
theorem d_M_make_153 : decode c_M_make 153 = .ok (.iadd, 1) := by decide +kernel
theorem d_M_make_154 : decode c_M_make 154 = .ok (.iaload, 1) := by decide +kernel
theorem d_M_make_155 : decode c_M_make 155 = .ok (.istore 7, 2) := by decide +kernel
theorem d_M_make_157 : decode c_M_make 157 = .ok (.iload 5, 2) := by decide +kernel
theorem d_M_make_159 : decode c_M_make 159 = .ok (.iload 7, 2) := by decide +kernel
theorem d_M_make_161 : decode c_M_make 161 = .ok (.ifCond .ge 7, 3) := by decide +kernel
theorem d_M_make_164 : decode c_M_make 164 = .ok (.iconst 1, 1) := by decide +kernel
theorem d_M_make_165 : decode c_M_make 165 = .ok (.goto 4, 3) := by decide +kernel
theorem d_M_make_168 : decode c_M_make 168 = .ok (.iconst 0, 1) := by decide +kernel
theorem d_M_make_169 : decode c_M_make 169 = .ok (.iadd, 1) := by decide +kernel
theorem d_M_make_170 : decode c_M_make 170 = .ok (.istore 5, 2) := by decide +kernel
theorem d_M_make_172 : decode c_M_make 172 = .ok (.iload 7, 2) := by decide +kernel
theorem d_M_make_174 : decode c_M_make 174 = .ok (.ifCond .lt 14, 3) := by decide +kernel
theorem d_M_make_177 : decode c_M_make 177 = .ok (.aload_n 0, 1) := by decide +kernel
theorem d_M_make_178 : decode c_M_make 178 = .ok (.getfield 13, 3) := by decide +kernel
theorem d_M_make_181 : decode c_M_make 181 = .ok (.iload 7, 2) := by decide +kernel
theorem d_M_make_183 : decode c_M_make 183 = .ok (.dup2, 1) := by decide +kernel
theorem d_M_make_184 : decode c_M_make 184 = .ok (.iaload, 1) := by decide +kernel
theorem d_M_make_185 : decode c_M_make 185 = .ok (.iconst 1, 1) := by decide +kernel
theorem d_M_make_186 : decode c_M_make 186 = .ok (.iadd, 1) := by decide +kernel
theorem d_M_make_187 : decode c_M_make 187 = .ok (.iastore, 1) := by decide +kernel
theorem d_M_make_188 : decode c_M_make 188 = .ok (.iinc 6 1, 3) := by decide +kernel
theorem d_M_make_191 : decode c_M_make 191 = .ok (.goto (-55), 3) := by decide +kernel
theorem d_M_make_194 : decode c_M_make 194 = .ok (.iconst 2, 1) := by decide +kernel
theorem d_M_make_195 : decode c_M_make 195 = .ok (.iload 5, 2) := by decide +kernel
theorem d_M_make_197 : decode c_M_make 197 = .ok (.imul, 1) := by decide +kernel
theorem d_M_make_198 : decode c_M_make 198 = .ok (.istore_n 3, 1) := by decide +kernel
theorem d_M_make_199 : decode c_M_make 199 = .ok (.iinc 4 (-1), 3) := by decide +kernel
theorem d_M_make_202 : decode c_M_make 202 = .ok (.goto (-77), 3) := by decide +kernel
theorem d_M_make_205 : decode c_M_make 205 = .ok (.iload_n 2, 1) := by decide +kernel
theorem d_M_make_206 : decode c_M_make 206 = .ok (.ireturn, 1) := by decide +kernel
theorem d_M_length_0 : decode c_M_length 0 = .ok (.aload_n 0, 1) := by decide +kernel
theorem d_M_length_1 : decode c_M_length 1 = .ok (.iload_n 1, 1) := by decide +kernel
theorem d_M_length_2 : decode c_M_length 2 = .ok (.invokestatic 55, 3) := by decide +kernel
theorem d_M_length_5 : decode c_M_length 5 = .ok (.iconst 1, 1) := by decide +kernel
theorem d_M_length_6 : decode c_M_length 6 = .ok (.invokevirtual 61, 3) := by decide +kernel
theorem d_M_length_9 : decode c_M_length 9 = .ok (.ifCond .eq 7, 3) := by decide +kernel
theorem d_M_length_12 : decode c_M_length 12 = .ok (.iconst 0, 1) := by decide +kernel
theorem d_M_length_13 : decode c_M_length 13 = .ok (.goto 9, 3) := by decide +kernel
theorem d_M_length_16 : decode c_M_length 16 = .ok (.aload_n 0, 1) := by decide +kernel
theorem d_M_length_17 : decode c_M_length 17 = .ok (.getfield 13, 3) := by decide +kernel
theorem d_M_length_20 : decode c_M_length 20 = .ok (.iload_n 1, 1) := by decide +kernel
theorem d_M_length_21 : decode c_M_length 21 = .ok (.iaload, 1) := by decide +kernel
theorem d_M_length_22 : decode c_M_length 22 = .ok (.ireturn, 1) := by decide +kernel
theorem d_M_fill_0 : decode c_M_fill 0 = .ok (.iconst 0, 1) := by decide +kernel
theorem d_M_fill_1 : decode c_M_fill 1 = .ok (.istore_n 1, 1) := by decide +kernel
theorem d_M_fill_2 : decode c_M_fill 2 = .ok (.iconst 0, 1) := by decide +kernel
theorem d_M_fill_3 : decode c_M_fill 3 = .ok (.istore_n 2, 1) := by decide +kernel
theorem d_M_fill_4 : decode c_M_fill 4 = .ok (.iload_n 2, 1) := by decide +kernel
theorem d_M_fill_5 : decode c_M_fill 5 = .ok (.bipush 48, 2) := by decide +kernel
theorem d_M_fill_7 : decode c_M_fill 7 = .ok (.if_icmp .ge 36, 3) := by decide +kernel
theorem d_M_fill_10 : decode c_M_fill 10 = .ok (.iload_n 1, 1) := by decide +kernel
theorem d_M_fill_11 : decode c_M_fill 11 = .ok (.aload_n 0, 1) := by decide +kernel
theorem d_M_fill_12 : decode c_M_fill 12 = .ok (.getfield 13, 3) := by decide +kernel
theorem d_M_fill_15 : decode c_M_fill 15 = .ok (.iload_n 2, 1) := by decide +kernel
theorem d_M_fill_16 : decode c_M_fill 16 = .ok (.iaload, 1) := by decide +kernel
theorem d_M_fill_17 : decode c_M_fill 17 = .ok (.ifCond .le 17, 3) := by decide +kernel
theorem d_M_fill_20 : decode c_M_fill 20 = .ok (.iconst 1, 1) := by decide +kernel
theorem d_M_fill_21 : decode c_M_fill 21 = .ok (.bipush 16, 2) := by decide +kernel
theorem d_M_fill_23 : decode c_M_fill 23 = .ok (.aload_n 0, 1) := by decide +kernel
theorem d_M_fill_24 : decode c_M_fill 24 = .ok (.getfield 13, 3) := by decide +kernel
theorem d_M_fill_27 : decode c_M_fill 27 = .ok (.iload_n 2, 1) := by decide +kernel
theorem d_M_fill_28 : decode c_M_fill 28 = .ok (.iaload, 1) := by decide +kernel
theorem d_M_fill_29 : decode c_M_fill 29 = .ok (.isub, 1) := by decide +kernel
theorem d_M_fill_30 : decode c_M_fill 30 = .ok (.ishl, 1) := by decide +kernel
theorem d_M_fill_31 : decode c_M_fill 31 = .ok (.goto 4, 3) := by decide +kernel
theorem d_M_fill_34 : decode c_M_fill 34 = .ok (.iconst 0, 1) := by decide +kernel
theorem d_M_fill_35 : decode c_M_fill 35 = .ok (.iadd, 1) := by decide +kernel
theorem d_M_fill_36 : decode c_M_fill 36 = .ok (.istore_n 1, 1) := by decide +kernel
theorem d_M_fill_37 : decode c_M_fill 37 = .ok (.iinc 2 1, 3) := by decide +kernel
theorem d_M_fill_40 : decode c_M_fill 40 = .ok (.goto (-36), 3) := by decide +kernel
theorem d_M_fill_43 : decode c_M_fill 43 = .ok (.iload_n 1, 1) := by decide +kernel
theorem d_M_fill_44 : decode c_M_fill 44 = .ok (.ldc 73, 2) := by decide +kernel
theorem d_M_fill_46 : decode c_M_fill 46 = .ok (.if_icmp .le 7, 3) := by decide +kernel
theorem d_M_fill_49 : decode c_M_fill 49 = .ok (.iconst 2, 1) := by decide +kernel
theorem d_M_fill_50 : decode c_M_fill 50 = .ok (.goto 14, 3) := by decide +kernel
theorem d_M_fill_53 : decode c_M_fill 53 = .ok (.iload_n 1, 1) := by decide +kernel
theorem d_M_fill_54 : decode c_M_fill 54 = .ok (.ldc 73, 2) := by decide +kernel
theorem d_M_fill_56 : decode c_M_fill 56 = .ok (.if_icmp .ne 7, 3) := by decide +kernel
theorem d_M_fill_59 : decode c_M_fill 59 = .ok (.iconst 0, 1) := by decide +kernel
theorem d_M_fill_60 : decode c_M_fill 60 = .ok (.goto 4, 3) := by decide +kernel
theorem d_M_fill_63 : decode c_M_fill 63 = .ok (.iconst 1, 1) := by decide +kernel
theorem d_M_fill_64 : decode c_M_fill 64 = .ok (.ireturn, 1) := by decide +kernel
theorem d_M_check_0 : decode c_M_check 0 = .ok (.aload_n 0, 1) := by decide +kernel
theorem d_M_check_1 : decode c_M_check 1 = .ok (.iconst 0, 1) := by decide +kernel
theorem d_M_check_2 : decode c_M_check 2 = .ok (.putfield 52, 3) := by decide +kernel
theorem d_M_check_5 : decode c_M_check 5 = .ok (.aload_n 0, 1) := by decide +kernel
theorem d_M_check_6 : decode c_M_check 6 = .ok (.invokevirtual 74, 3) := by decide +kernel
theorem d_M_check_9 : decode c_M_check 9 = .ok (.ireturn, 1) := by decide +kernel
theorem d_M_given_0 : decode c_M_given 0 = .ok (.aload_n 0, 1) := by decide +kernel
theorem d_M_given_1 : decode c_M_given 1 = .ok (.iload_n 1, 1) := by decide +kernel
theorem d_M_given_2 : decode c_M_given 2 = .ok (.invokestatic 55, 3) := by decide +kernel
theorem d_M_given_5 : decode c_M_given 5 = .ok (.iload_n 2, 1) := by decide +kernel
theorem d_M_given_6 : decode c_M_given 6 = .ok (.ifCond .lt 13, 3) := by decide +kernel
theorem d_M_given_9 : decode c_M_given 9 = .ok (.iload_n 2, 1) := by decide +kernel
theorem d_M_given_10 : decode c_M_given 10 = .ok (.bipush 16, 2) := by decide +kernel
theorem d_M_given_12 : decode c_M_given 12 = .ok (.if_icmp .gt 7, 3) := by decide +kernel
theorem d_M_given_15 : decode c_M_given 15 = .ok (.iconst 1, 1) := by decide +kernel
theorem d_M_given_16 : decode c_M_given 16 = .ok (.goto 4, 3) := by decide +kernel
theorem d_M_given_19 : decode c_M_given 19 = .ok (.iconst 0, 1) := by decide +kernel
theorem d_M_given_20 : decode c_M_given 20 = .ok (.invokevirtual 61, 3) := by decide +kernel
theorem d_M_given_23 : decode c_M_given 23 = .ok (.ifCond .eq 5, 3) := by decide +kernel
theorem d_M_given_26 : decode c_M_given 26 = .ok (.iconst 0, 1) := by decide +kernel
theorem d_M_given_27 : decode c_M_given 27 = .ok (.ireturn, 1) := by decide +kernel
theorem d_M_given_28 : decode c_M_given 28 = .ok (.aload_n 0, 1) := by decide +kernel
theorem d_M_given_29 : decode c_M_given 29 = .ok (.getfield 13, 3) := by decide +kernel
theorem d_M_given_32 : decode c_M_given 32 = .ok (.iload_n 1, 1) := by decide +kernel
theorem d_M_given_33 : decode c_M_given 33 = .ok (.iload_n 2, 1) := by decide +kernel
theorem d_M_given_34 : decode c_M_given 34 = .ok (.iastore, 1) := by decide +kernel
theorem d_M_given_35 : decode c_M_given 35 = .ok (.aload_n 0, 1) := by decide +kernel
theorem d_M_given_36 : decode c_M_given 36 = .ok (.getfield 17, 3) := by decide +kernel
theorem d_M_given_39 : decode c_M_given 39 = .ok (.iload_n 1, 1) := by decide +kernel
theorem d_M_given_40 : decode c_M_given 40 = .ok (.iconst 0, 1) := by decide +kernel
theorem d_M_given_41 : decode c_M_given 41 = .ok (.bastore, 1) := by decide +kernel
theorem d_M_given_42 : decode c_M_given 42 = .ok (.aload_n 0, 1) := by decide +kernel
theorem d_M_given_43 : decode c_M_given 43 = .ok (.invokevirtual 74, 3) := by decide +kernel
theorem d_M_given_46 : decode c_M_given 46 = .ok (.iconst 2, 1) := by decide +kernel
theorem d_M_given_47 : decode c_M_given 47 = .ok (.if_icmp .ge 7, 3) := by decide +kernel
theorem d_M_given_50 : decode c_M_given 50 = .ok (.iconst 1, 1) := by decide +kernel
theorem d_M_given_51 : decode c_M_given 51 = .ok (.goto 4, 3) := by decide +kernel
theorem d_M_given_54 : decode c_M_given 54 = .ok (.iconst 0, 1) := by decide +kernel
theorem d_M_given_55 : decode c_M_given 55 = .ok (.ireturn, 1) := by decide +kernel
theorem d_M_range_0 : decode c_M_range 0 = .ok (.aload_n 0, 1) := by decide +kernel
theorem d_M_range_1 : decode c_M_range 1 = .ok (.iload_n 1, 1) := by decide +kernel
theorem d_M_range_2 : decode c_M_range 2 = .ok (.invokestatic 55, 3) := by decide +kernel
theorem d_M_range_5 : decode c_M_range 5 = .ok (.iload 4, 2) := by decide +kernel
theorem d_M_range_7 : decode c_M_range 7 = .ok (.iconst 1, 1) := by decide +kernel
theorem d_M_range_8 : decode c_M_range 8 = .ok (.if_icmp .lt 26, 3) := by decide +kernel
theorem d_M_range_11 : decode c_M_range 11 = .ok (.iload 4, 2) := by decide +kernel
theorem d_M_range_13 : decode c_M_range 13 = .ok (.bipush 16, 2) := by decide +kernel
theorem d_M_range_15 : decode c_M_range 15 = .ok (.if_icmp .gt 19, 3) := by decide +kernel
theorem d_M_range_18 : decode c_M_range 18 = .ok (.iload_n 3, 1) := by decide +kernel
theorem d_M_range_19 : decode c_M_range 19 = .ok (.bipush (-32), 2) := by decide +kernel
theorem d_M_range_21 : decode c_M_range 21 = .ok (.if_icmp .lt 13, 3) := by decide +kernel
theorem d_M_range_24 : decode c_M_range 24 = .ok (.iload_n 3, 1) := by decide +kernel
theorem d_M_range_25 : decode c_M_range 25 = .ok (.bipush 32, 2) := by decide +kernel
theorem d_M_range_27 : decode c_M_range 27 = .ok (.if_icmp .gt 7, 3) := by decide +kernel
theorem d_M_range_30 : decode c_M_range 30 = .ok (.iconst 1, 1) := by decide +kernel
theorem d_M_range_31 : decode c_M_range 31 = .ok (.goto 4, 3) := by decide +kernel
theorem d_M_range_34 : decode c_M_range 34 = .ok (.iconst 0, 1) := by decide +kernel
theorem d_M_range_35 : decode c_M_range 35 = .ok (.invokevirtual 61, 3) := by decide +kernel
theorem d_M_range_38 : decode c_M_range 38 = .ok (.ifCond .eq 5, 3) := by decide +kernel
theorem d_M_range_41 : decode c_M_range 41 = .ok (.iconst 0, 1) := by decide +kernel
theorem d_M_range_42 : decode c_M_range 42 = .ok (.ireturn, 1) := by decide +kernel
theorem d_M_range_43 : decode c_M_range 43 = .ok (.aload_n 0, 1) := by decide +kernel
theorem d_M_range_44 : decode c_M_range 44 = .ok (.getfield 13, 3) := by decide +kernel
theorem d_M_range_47 : decode c_M_range 47 = .ok (.iload_n 1, 1) := by decide +kernel
theorem d_M_range_48 : decode c_M_range 48 = .ok (.iload 4, 2) := by decide +kernel
theorem d_M_range_50 : decode c_M_range 50 = .ok (.iastore, 1) := by decide +kernel
theorem d_M_range_51 : decode c_M_range 51 = .ok (.aload_n 0, 1) := by decide +kernel
theorem d_M_range_52 : decode c_M_range 52 = .ok (.getfield 17, 3) := by decide +kernel
theorem d_M_range_55 : decode c_M_range 55 = .ok (.iload_n 1, 1) := by decide +kernel
theorem d_M_range_56 : decode c_M_range 56 = .ok (.iconst 1, 1) := by decide +kernel
theorem d_M_range_57 : decode c_M_range 57 = .ok (.bastore, 1) := by decide +kernel
theorem d_M_range_58 : decode c_M_range 58 = .ok (.aload_n 0, 1) := by decide +kernel
theorem d_M_range_59 : decode c_M_range 59 = .ok (.getfield 21, 3) := by decide +kernel
theorem d_M_range_62 : decode c_M_range 62 = .ok (.iload_n 1, 1) := by decide +kernel
theorem d_M_range_63 : decode c_M_range 63 = .ok (.iload_n 2, 1) := by decide +kernel
theorem d_M_range_64 : decode c_M_range 64 = .ok (.iastore, 1) := by decide +kernel
theorem d_M_range_65 : decode c_M_range 65 = .ok (.aload_n 0, 1) := by decide +kernel
theorem d_M_range_66 : decode c_M_range 66 = .ok (.getfield 24, 3) := by decide +kernel
theorem d_M_range_69 : decode c_M_range 69 = .ok (.iload_n 1, 1) := by decide +kernel
theorem d_M_range_70 : decode c_M_range 70 = .ok (.iload_n 3, 1) := by decide +kernel
theorem d_M_range_71 : decode c_M_range 71 = .ok (.iastore, 1) := by decide +kernel
theorem d_M_range_72 : decode c_M_range 72 = .ok (.aload_n 0, 1) := by decide +kernel
theorem d_M_range_73 : decode c_M_range 73 = .ok (.invokevirtual 74, 3) := by decide +kernel
theorem d_M_range_76 : decode c_M_range 76 = .ok (.iconst 2, 1) := by decide +kernel
theorem d_M_range_77 : decode c_M_range 77 = .ok (.if_icmp .ge 7, 3) := by decide +kernel
theorem d_M_range_80 : decode c_M_range 80 = .ok (.iconst 1, 1) := by decide +kernel
theorem d_M_range_81 : decode c_M_range 81 = .ok (.goto 4, 3) := by decide +kernel
theorem d_M_range_84 : decode c_M_range 84 = .ok (.iconst 0, 1) := by decide +kernel
theorem d_M_range_85 : decode c_M_range 85 = .ok (.ireturn, 1) := by decide +kernel
theorem d_M_makeCodes_0 : decode c_M_makeCodes 0 = .ok (.iconst 0, 1) := by decide +kernel
theorem d_M_makeCodes_1 : decode c_M_makeCodes 1 = .ok (.istore_n 1, 1) := by decide +kernel
theorem d_M_makeCodes_2 : decode c_M_makeCodes 2 = .ok (.iconst 0, 1) := by decide +kernel
theorem d_M_makeCodes_3 : decode c_M_makeCodes 3 = .ok (.istore_n 2, 1) := by decide +kernel
theorem d_M_makeCodes_4 : decode c_M_makeCodes 4 = .ok (.iconst 1, 1) := by decide +kernel
theorem d_M_makeCodes_5 : decode c_M_makeCodes 5 = .ok (.istore_n 3, 1) := by decide +kernel
theorem d_M_makeCodes_6 : decode c_M_makeCodes 6 = .ok (.iload_n 3, 1) := by decide +kernel
theorem d_M_makeCodes_7 : decode c_M_makeCodes 7 = .ok (.bipush 17, 2) := by decide +kernel
theorem d_M_makeCodes_9 : decode c_M_makeCodes 9 = .ok (.if_icmp .ge 149, 3) := by decide +kernel
theorem d_M_makeCodes_12 : decode c_M_makeCodes 12 = .ok (.aload_n 0, 1) := by decide +kernel
theorem d_M_makeCodes_13 : decode c_M_makeCodes 13 = .ok (.getfield 48, 3) := by decide +kernel
theorem d_M_makeCodes_16 : decode c_M_makeCodes 16 = .ok (.iconst 2, 1) := by decide +kernel
theorem d_M_makeCodes_17 : decode c_M_makeCodes 17 = .ok (.if_icmp .ne 10, 3) := by decide +kernel
theorem d_M_makeCodes_20 : decode c_M_makeCodes 20 = .ok (.bipush 17, 2) := by decide +kernel
theorem d_M_makeCodes_22 : decode c_M_makeCodes 22 = .ok (.iload_n 3, 1) := by decide +kernel
theorem d_M_makeCodes_23 : decode c_M_makeCodes 23 = .ok (.isub, 1) := by decide +kernel
theorem d_M_makeCodes_24 : decode c_M_makeCodes 24 = .ok (.goto 4, 3) := by decide +kernel
theorem d_M_makeCodes_27 : decode c_M_makeCodes 27 = .ok (.iload_n 3, 1) := by decide +kernel
theorem d_M_makeCodes_28 : decode c_M_makeCodes 28 = .ok (.istore 4, 2) := by decide +kernel
theorem d_M_makeCodes_30 : decode c_M_makeCodes 30 = .ok (.iconst 0, 1) := by decide +kernel
theorem d_M_makeCodes_31 : decode c_M_makeCodes 31 = .ok (.istore 5, 2) := by decide +kernel
theorem d_M_makeCodes_33 : decode c_M_makeCodes 33 = .ok (.iload 5, 2) := by decide +kernel
theorem d_M_makeCodes_35 : decode c_M_makeCodes 35 = .ok (.bipush 48, 2) := by decide +kernel
theorem d_M_makeCodes_37 : decode c_M_makeCodes 37 = .ok (.if_icmp .ge 115, 3) := by decide +kernel
theorem d_M_makeCodes_40 : decode c_M_makeCodes 40 = .ok (.aload_n 0, 1) := by decide +kernel
theorem d_M_makeCodes_41 : decode c_M_makeCodes 41 = .ok (.getfield 13, 3) := by decide +kernel
theorem d_M_makeCodes_44 : decode c_M_makeCodes 44 = .ok (.iload 5, 2) := by decide +kernel
theorem d_M_makeCodes_46 : decode c_M_makeCodes 46 = .ok (.iaload, 1) := by decide +kernel
theorem d_M_makeCodes_47 : decode c_M_makeCodes 47 = .ok (.iload 4, 2) := by decide +kernel
theorem d_M_makeCodes_49 : decode c_M_makeCodes 49 = .ok (.if_icmp .ne 97, 3) := by decide +kernel
theorem d_M_makeCodes_52 : decode c_M_makeCodes 52 = .ok (.iload_n 1, 1) := by decide +kernel
theorem d_M_makeCodes_53 : decode c_M_makeCodes 53 = .ok (.ifCond .ne 8, 3) := by decide +kernel
theorem d_M_makeCodes_56 : decode c_M_makeCodes 56 = .ok (.iconst 0, 1) := by decide +kernel
theorem d_M_makeCodes_57 : decode c_M_makeCodes 57 = .ok (.istore_n 2, 1) := by decide +kernel
theorem d_M_makeCodes_58 : decode c_M_makeCodes 58 = .ok (.goto 56, 3) := by decide +kernel
theorem d_M_makeCodes_61 : decode c_M_makeCodes 61 = .ok (.aload_n 0, 1) := by decide +kernel
theorem d_M_makeCodes_62 : decode c_M_makeCodes 62 = .ok (.getfield 48, 3) := by decide +kernel
theorem d_M_makeCodes_65 : decode c_M_makeCodes 65 = .ok (.iconst 2, 1) := by decide +kernel
theorem d_M_makeCodes_66 : decode c_M_makeCodes 66 = .ok (.if_icmp .ge 15, 3) := by decide +kernel
theorem d_M_makeCodes_69 : decode c_M_makeCodes 69 = .ok (.iload_n 2, 1) := by decide +kernel
theorem d_M_makeCodes_70 : decode c_M_makeCodes 70 = .ok (.iconst 1, 1) := by decide +kernel
theorem d_M_makeCodes_71 : decode c_M_makeCodes 71 = .ok (.iadd, 1) := by decide +kernel
theorem d_M_makeCodes_72 : decode c_M_makeCodes 72 = .ok (.iload 4, 2) := by decide +kernel
theorem d_M_makeCodes_74 : decode c_M_makeCodes 74 = .ok (.iload_n 1, 1) := by decide +kernel
theorem d_M_makeCodes_75 : decode c_M_makeCodes 75 = .ok (.isub, 1) := by decide +kernel
theorem d_M_makeCodes_76 : decode c_M_makeCodes 76 = .ok (.ishl, 1) := by decide +kernel
theorem d_M_makeCodes_77 : decode c_M_makeCodes 77 = .ok (.istore_n 2, 1) := by decide +kernel
theorem d_M_makeCodes_78 : decode c_M_makeCodes 78 = .ok (.goto 36, 3) := by decide +kernel
theorem d_M_makeCodes_81 : decode c_M_makeCodes 81 = .ok (.iinc 2 1, 3) := by decide +kernel
theorem d_M_makeCodes_84 : decode c_M_makeCodes 84 = .ok (.iload_n 2, 1) := by decide +kernel
theorem d_M_makeCodes_85 : decode c_M_makeCodes 85 = .ok (.iconst 1, 1) := by decide +kernel
theorem d_M_makeCodes_86 : decode c_M_makeCodes 86 = .ok (.iload_n 1, 1) := by decide +kernel
theorem d_M_makeCodes_87 : decode c_M_makeCodes 87 = .ok (.iload 4, 2) := by decide +kernel
theorem d_M_makeCodes_89 : decode c_M_makeCodes 89 = .ok (.isub, 1) := by decide +kernel
theorem d_M_makeCodes_90 : decode c_M_makeCodes 90 = .ok (.ishl, 1) := by decide +kernel
theorem d_M_makeCodes_91 : decode c_M_makeCodes 91 = .ok (.iconst 1, 1) := by decide +kernel
theorem d_M_makeCodes_92 : decode c_M_makeCodes 92 = .ok (.isub, 1) := by decide +kernel
theorem d_M_makeCodes_93 : decode c_M_makeCodes 93 = .ok (.iand, 1) := by decide +kernel
theorem d_M_makeCodes_94 : decode c_M_makeCodes 94 = .ok (.istore 6, 2) := by decide +kernel
theorem d_M_makeCodes_96 : decode c_M_makeCodes 96 = .ok (.iload_n 2, 1) := by decide +kernel
theorem d_M_makeCodes_97 : decode c_M_makeCodes 97 = .ok (.iload_n 1, 1) := by decide +kernel
theorem d_M_makeCodes_98 : decode c_M_makeCodes 98 = .ok (.iload 4, 2) := by decide +kernel
theorem d_M_makeCodes_100 : decode c_M_makeCodes 100 = .ok (.isub, 1) := by decide +kernel
theorem d_M_makeCodes_101 : decode c_M_makeCodes 101 = .ok (.ishr, 1) := by decide +kernel
theorem d_M_makeCodes_102 : decode c_M_makeCodes 102 = .ok (.iload 6, 2) := by decide +kernel
theorem d_M_makeCodes_104 : decode c_M_makeCodes 104 = .ok (.ifCond .le 7, 3) := by decide +kernel
theorem d_M_makeCodes_107 : decode c_M_makeCodes 107 = .ok (.iconst 1, 1) := by decide +kernel
theorem d_M_makeCodes_108 : decode c_M_makeCodes 108 = .ok (.goto 4, 3) := by decide +kernel
theorem d_M_makeCodes_111 : decode c_M_makeCodes 111 = .ok (.iconst 0, 1) := by decide +kernel
theorem d_M_makeCodes_112 : decode c_M_makeCodes 112 = .ok (.iadd, 1) := by decide +kernel
theorem d_M_makeCodes_113 : decode c_M_makeCodes 113 = .ok (.istore_n 2, 1) := by decide +kernel
theorem d_M_makeCodes_114 : decode c_M_makeCodes 114 = .ok (.iload 4, 2) := by decide +kernel
theorem d_M_makeCodes_116 : decode c_M_makeCodes 116 = .ok (.istore_n 1, 1) := by decide +kernel
theorem d_M_makeCodes_117 : decode c_M_makeCodes 117 = .ok (.aload_n 0, 1) := by decide +kernel
theorem d_M_makeCodes_118 : decode c_M_makeCodes 118 = .ok (.getfield 45, 3) := by decide +kernel
theorem d_M_makeCodes_121 : decode c_M_makeCodes 121 = .ok (.iload 5, 2) := by decide +kernel
theorem d_M_makeCodes_123 : decode c_M_makeCodes 123 = .ok (.aload_n 0, 1) := by decide +kernel
theorem d_M_makeCodes_124 : decode c_M_makeCodes 124 = .ok (.getfield 48, 3) := by decide +kernel
theorem d_M_makeCodes_127 : decode c_M_makeCodes 127 = .ok (.iconst 1, 1) := by decide +kernel
theorem d_M_makeCodes_128 : decode c_M_makeCodes 128 = .ok (.if_icmp .ne 16, 3) := by decide +kernel
theorem d_M_makeCodes_131 : decode c_M_makeCodes 131 = .ok (.iload_n 2, 1) := by decide +kernel
theorem d_M_makeCodes_132 : decode c_M_makeCodes 132 = .ok (.iconst (-1), 1) := by decide +kernel
theorem d_M_makeCodes_133 : decode c_M_makeCodes 133 = .ok (.ixor, 1) := by decide +kernel
theorem d_M_makeCodes_134 : decode c_M_makeCodes 134 = .ok (.iconst 1, 1) := by decide +kernel
theorem d_M_makeCodes_135 : decode c_M_makeCodes 135 = .ok (.iload 4, 2) := by decide +kernel
theorem d_M_makeCodes_137 : decode c_M_makeCodes 137 = .ok (.ishl, 1) := by decide +kernel
theorem d_M_makeCodes_138 : decode c_M_makeCodes 138 = .ok (.iconst 1, 1) := by decide +kernel
theorem d_M_makeCodes_139 : decode c_M_makeCodes 139 = .ok (.isub, 1) := by decide +kernel
theorem d_M_makeCodes_140 : decode c_M_makeCodes 140 = .ok (.iand, 1) := by decide +kernel
theorem d_M_makeCodes_141 : decode c_M_makeCodes 141 = .ok (.goto 4, 3) := by decide +kernel
theorem d_M_makeCodes_144 : decode c_M_makeCodes 144 = .ok (.iload_n 2, 1) := by decide +kernel
theorem d_M_makeCodes_145 : decode c_M_makeCodes 145 = .ok (.iastore, 1) := by decide +kernel
theorem d_M_makeCodes_146 : decode c_M_makeCodes 146 = .ok (.iinc 5 1, 3) := by decide +kernel
theorem d_M_makeCodes_149 : decode c_M_makeCodes 149 = .ok (.goto (-116), 3) := by decide +kernel
theorem d_M_makeCodes_152 : decode c_M_makeCodes 152 = .ok (.iinc 3 1, 3) := by decide +kernel
theorem d_M_makeCodes_155 : decode c_M_makeCodes 155 = .ok (.goto (-149), 3) := by decide +kernel
theorem d_M_makeCodes_158 : decode c_M_makeCodes 158 = .ok (.return_, 1) := by decide +kernel
theorem d_M_code_0 : decode c_M_code 0 = .ok (.aload_n 0, 1) := by decide +kernel
theorem d_M_code_1 : decode c_M_code 1 = .ok (.iload_n 1, 1) := by decide +kernel
theorem d_M_code_2 : decode c_M_code 2 = .ok (.invokestatic 55, 3) := by decide +kernel
theorem d_M_code_5 : decode c_M_code 5 = .ok (.aload_n 0, 1) := by decide +kernel
theorem d_M_code_6 : decode c_M_code 6 = .ok (.invokevirtual 74, 3) := by decide +kernel
theorem d_M_code_9 : decode c_M_code 9 = .ok (.iconst 2, 1) := by decide +kernel
theorem d_M_code_10 : decode c_M_code 10 = .ok (.if_icmp .ge 7, 3) := by decide +kernel
theorem d_M_code_13 : decode c_M_code 13 = .ok (.iconst 1, 1) := by decide +kernel
theorem d_M_code_14 : decode c_M_code 14 = .ok (.goto 4, 3) := by decide +kernel
theorem d_M_code_17 : decode c_M_code 17 = .ok (.iconst 0, 1) := by decide +kernel
theorem d_M_code_18 : decode c_M_code 18 = .ok (.invokevirtual 61, 3) := by decide +kernel
theorem d_M_code_21 : decode c_M_code 21 = .ok (.ifCond .eq 5, 3) := by decide +kernel
theorem d_M_code_24 : decode c_M_code 24 = .ok (.lconst 0, 1) := by decide +kernel
theorem d_M_code_25 : decode c_M_code 25 = .ok (.lreturn, 1) := by decide +kernel
theorem d_M_code_26 : decode c_M_code 26 = .ok (.aload_n 0, 1) := by decide +kernel
theorem d_M_code_27 : decode c_M_code 27 = .ok (.invokevirtual 77, 3) := by decide +kernel
theorem d_M_code_30 : decode c_M_code 30 = .ok (.aload_n 0, 1) := by decide +kernel
theorem d_M_code_31 : decode c_M_code 31 = .ok (.getfield 13, 3) := by decide +kernel
theorem d_M_code_34 : decode c_M_code 34 = .ok (.iload_n 1, 1) := by decide +kernel
theorem d_M_code_35 : decode c_M_code 35 = .ok (.iaload, 1) := by decide +kernel
theorem d_M_code_36 : decode c_M_code 36 = .ok (.ifCond .ne 9, 3) := by decide +kernel
theorem d_M_code_39 : decode c_M_code 39 = .ok (.ldc2_w 80, 3) := by decide +kernel
theorem d_M_code_42 : decode c_M_code 42 = .ok (.goto 10, 3) := by decide +kernel
theorem d_M_code_45 : decode c_M_code 45 = .ok (.aload_n 0, 1) := by decide +kernel
theorem d_M_code_46 : decode c_M_code 46 = .ok (.getfield 45, 3) := by decide +kernel
theorem d_M_code_49 : decode c_M_code 49 = .ok (.iload_n 1, 1) := by decide +kernel
theorem d_M_code_50 : decode c_M_code 50 = .ok (.iaload, 1) := by decide +kernel
theorem d_M_code_51 : decode c_M_code 51 = .ok (.i2l, 1) := by decide +kernel
theorem d_M_code_52 : decode c_M_code 52 = .ok (.lreturn, 1) := by decide +kernel
theorem d_M_feed_0 : decode c_M_feed 0 = .ok (.aload_n 0, 1) := by decide +kernel
theorem d_M_feed_1 : decode c_M_feed 1 = .ok (.iload_n 1, 1) := by decide +kernel
theorem d_M_feed_2 : decode c_M_feed 2 = .ok (.ifCond .eq 8, 3) := by decide +kernel
theorem d_M_feed_5 : decode c_M_feed 5 = .ok (.iload_n 1, 1) := by decide +kernel
theorem d_M_feed_6 : decode c_M_feed 6 = .ok (.iconst 1, 1) := by decide +kernel
theorem d_M_feed_7 : decode c_M_feed 7 = .ok (.if_icmp .ne 7, 3) := by decide +kernel
theorem d_M_feed_10 : decode c_M_feed 10 = .ok (.iconst 1, 1) := by decide +kernel
theorem d_M_feed_11 : decode c_M_feed 11 = .ok (.goto 4, 3) := by decide +kernel
theorem d_M_feed_14 : decode c_M_feed 14 = .ok (.iconst 0, 1) := by decide +kernel
theorem d_M_feed_15 : decode c_M_feed 15 = .ok (.iconst 1, 1) := by decide +kernel
theorem d_M_feed_16 : decode c_M_feed 16 = .ok (.invokevirtual 61, 3) := by decide +kernel
theorem d_M_feed_19 : decode c_M_feed 19 = .ok (.ifCond .ne 13, 3) := by decide +kernel
theorem d_M_feed_22 : decode c_M_feed 22 = .ok (.aload_n 0, 1) := by decide +kernel
theorem d_M_feed_23 : decode c_M_feed 23 = .ok (.getfield 82, 3) := by decide +kernel
theorem d_M_feed_26 : decode c_M_feed 26 = .ok (.sipush 400, 3) := by decide +kernel
theorem d_M_feed_29 : decode c_M_feed 29 = .ok (.if_icmp .ne 5, 3) := by decide +kernel
theorem d_M_feed_32 : decode c_M_feed 32 = .ok (.iconst 0, 1) := by decide +kernel
theorem d_M_feed_33 : decode c_M_feed 33 = .ok (.ireturn, 1) := by decide +kernel
theorem d_M_feed_34 : decode c_M_feed 34 = .ok (.aload_n 0, 1) := by decide +kernel
theorem d_M_feed_35 : decode c_M_feed 35 = .ok (.getfield 27, 3) := by decide +kernel
theorem d_M_feed_38 : decode c_M_feed 38 = .ok (.aload_n 0, 1) := by decide +kernel
theorem d_M_feed_39 : decode c_M_feed 39 = .ok (.getfield 82, 3) := by decide +kernel
theorem d_M_feed_42 : decode c_M_feed 42 = .ok (.iload_n 1, 1) := by decide +kernel
theorem d_M_feed_43 : decode c_M_feed 43 = .ok (.iastore, 1) := by decide +kernel
theorem d_M_feed_44 : decode c_M_feed 44 = .ok (.aload_n 0, 1) := by decide +kernel
theorem d_M_feed_45 : decode c_M_feed 45 = .ok (.dup, 1) := by decide +kernel
theorem d_M_feed_46 : decode c_M_feed 46 = .ok (.getfield 82, 3) := by decide +kernel
theorem d_M_feed_49 : decode c_M_feed 49 = .ok (.iconst 1, 1) := by decide +kernel
theorem d_M_feed_50 : decode c_M_feed 50 = .ok (.iadd, 1) := by decide +kernel
theorem d_M_feed_51 : decode c_M_feed 51 = .ok (.putfield 82, 3) := by decide +kernel
theorem d_M_feed_54 : decode c_M_feed 54 = .ok (.iconst 1, 1) := by decide +kernel
theorem d_M_feed_55 : decode c_M_feed 55 = .ok (.ireturn, 1) := by decide +kernel
theorem d_M_drop_0 : decode c_M_drop 0 = .ok (.iload_n 1, 1) := by decide +kernel
theorem d_M_drop_1 : decode c_M_drop 1 = .ok (.istore_n 2, 1) := by decide +kernel
theorem d_M_drop_2 : decode c_M_drop 2 = .ok (.iload_n 2, 1) := by decide +kernel
theorem d_M_drop_3 : decode c_M_drop 3 = .ok (.aload_n 0, 1) := by decide +kernel
theorem d_M_drop_4 : decode c_M_drop 4 = .ok (.getfield 82, 3) := by decide +kernel
theorem d_M_drop_7 : decode c_M_drop 7 = .ok (.if_icmp .ge 23, 3) := by decide +kernel
theorem d_M_drop_10 : decode c_M_drop 10 = .ok (.aload_n 0, 1) := by decide +kernel
theorem d_M_drop_11 : decode c_M_drop 11 = .ok (.getfield 27, 3) := by decide +kernel
theorem d_M_drop_14 : decode c_M_drop 14 = .ok (.iload_n 2, 1) := by decide +kernel
theorem d_M_drop_15 : decode c_M_drop 15 = .ok (.iload_n 1, 1) := by decide +kernel
theorem d_M_drop_16 : decode c_M_drop 16 = .ok (.isub, 1) := by decide +kernel
theorem d_M_drop_17 : decode c_M_drop 17 = .ok (.aload_n 0, 1) := by decide +kernel
theorem d_M_drop_18 : decode c_M_drop 18 = .ok (.getfield 27, 3) := by decide +kernel
theorem d_M_drop_21 : decode c_M_drop 21 = .ok (.iload_n 2, 1) := by decide +kernel
theorem d_M_drop_22 : decode c_M_drop 22 = .ok (.iaload, 1) := by decide +kernel
theorem d_M_drop_23 : decode c_M_drop 23 = .ok (.iastore, 1) := by decide +kernel
theorem d_M_drop_24 : decode c_M_drop 24 = .ok (.iinc 2 1, 3) := by decide +kernel
theorem d_M_drop_27 : decode c_M_drop 27 = .ok (.goto (-25), 3) := by decide +kernel
theorem d_M_drop_30 : decode c_M_drop 30 = .ok (.aload_n 0, 1) := by decide +kernel
theorem d_M_drop_31 : decode c_M_drop 31 = .ok (.dup, 1) := by decide +kernel
theorem d_M_drop_32 : decode c_M_drop 32 = .ok (.getfield 82, 3) := by decide +kernel
theorem d_M_drop_35 : decode c_M_drop 35 = .ok (.iload_n 1, 1) := by decide +kernel
theorem d_M_drop_36 : decode c_M_drop 36 = .ok (.isub, 1) := by decide +kernel
theorem d_M_drop_37 : decode c_M_drop 37 = .ok (.putfield 82, 3) := by decide +kernel
theorem d_M_drop_40 : decode c_M_drop 40 = .ok (.return_, 1) := by decide +kernel
theorem d_M_begins_0 : decode c_M_begins 0 = .ok (.aload_n 0, 1) := by decide +kernel
theorem d_M_begins_1 : decode c_M_begins 1 = .ok (.getfield 13, 3) := by decide +kernel
theorem d_M_begins_4 : decode c_M_begins 4 = .ok (.iload_n 1, 1) := by decide +kernel
theorem d_M_begins_5 : decode c_M_begins 5 = .ok (.iaload, 1) := by decide +kernel
theorem d_M_begins_6 : decode c_M_begins 6 = .ok (.iload_n 2, 1) := by decide +kernel
theorem d_M_begins_7 : decode c_M_begins 7 = .ok (.if_icmp .lt 12, 3) := by decide +kernel
theorem d_M_begins_10 : decode c_M_begins 10 = .ok (.aload_n 0, 1) := by decide +kernel
theorem d_M_begins_11 : decode c_M_begins 11 = .ok (.getfield 13, 3) := by decide +kernel
theorem d_M_begins_14 : decode c_M_begins 14 = .ok (.iload_n 1, 1) := by decide +kernel
theorem d_M_begins_15 : decode c_M_begins 15 = .ok (.iaload, 1) := by decide +kernel
theorem d_M_begins_16 : decode c_M_begins 16 = .ok (.ifCond .ne 5, 3) := by decide +kernel
theorem d_M_begins_19 : decode c_M_begins 19 = .ok (.iconst 0, 1) := by decide +kernel
theorem d_M_begins_20 : decode c_M_begins 20 = .ok (.ireturn, 1) := by decide +kernel
theorem d_M_begins_21 : decode c_M_begins 21 = .ok (.iconst 1, 1) := by decide +kernel
theorem d_M_begins_22 : decode c_M_begins 22 = .ok (.istore_n 3, 1) := by decide +kernel
theorem d_M_begins_23 : decode c_M_begins 23 = .ok (.iconst 0, 1) := by decide +kernel
theorem d_M_begins_24 : decode c_M_begins 24 = .ok (.istore 4, 2) := by decide +kernel
theorem d_M_begins_26 : decode c_M_begins 26 = .ok (.iload 4, 2) := by decide +kernel
theorem d_M_begins_28 : decode c_M_begins 28 = .ok (.iload_n 2, 1) := by decide +kernel
theorem d_M_begins_29 : decode c_M_begins 29 = .ok (.if_icmp .ge 49, 3) := by decide +kernel
theorem d_M_begins_32 : decode c_M_begins 32 = .ok (.iload_n 3, 1) := by decide +kernel
theorem d_M_begins_33 : decode c_M_begins 33 = .ok (.ifCond .eq 37, 3) := by decide +kernel
theorem d_M_begins_36 : decode c_M_begins 36 = .ok (.aload_n 0, 1) := by decide +kernel
theorem d_M_begins_37 : decode c_M_begins 37 = .ok (.getfield 45, 3) := by decide +kernel
theorem d_M_begins_40 : decode c_M_begins 40 = .ok (.iload_n 1, 1) := by decide +kernel
theorem d_M_begins_41 : decode c_M_begins 41 = .ok (.iaload, 1) := by decide +kernel
theorem d_M_begins_42 : decode c_M_begins 42 = .ok (.aload_n 0, 1) := by decide +kernel
theorem d_M_begins_43 : decode c_M_begins 43 = .ok (.getfield 13, 3) := by decide +kernel
theorem d_M_begins_46 : decode c_M_begins 46 = .ok (.iload_n 1, 1) := by decide +kernel
theorem d_M_begins_47 : decode c_M_begins 47 = .ok (.iaload, 1) := by decide +kernel
theorem d_M_begins_48 : decode c_M_begins 48 = .ok (.iconst 1, 1) := by decide +kernel
theorem d_M_begins_49 : decode c_M_begins 49 = .ok (.isub, 1) := by decide +kernel
theorem d_M_begins_50 : decode c_M_begins 50 = .ok (.iload 4, 2) := by decide +kernel
theorem d_M_begins_52 : decode c_M_begins 52 = .ok (.isub, 1) := by decide +kernel
theorem d_M_begins_53 : decode c_M_begins 53 = .ok (.ishr, 1) := by decide +kernel
theorem d_M_begins_54 : decode c_M_begins 54 = .ok (.iconst 1, 1) := by decide +kernel
theorem d_M_begins_55 : decode c_M_begins 55 = .ok (.iand, 1) := by decide +kernel
theorem d_M_begins_56 : decode c_M_begins 56 = .ok (.aload_n 0, 1) := by decide +kernel
theorem d_M_begins_57 : decode c_M_begins 57 = .ok (.getfield 27, 3) := by decide +kernel
theorem d_M_begins_60 : decode c_M_begins 60 = .ok (.iload 4, 2) := by decide +kernel
theorem d_M_begins_62 : decode c_M_begins 62 = .ok (.iaload, 1) := by decide +kernel
theorem d_M_begins_63 : decode c_M_begins 63 = .ok (.if_icmp .ne 7, 3) := by decide +kernel
theorem d_M_begins_66 : decode c_M_begins 66 = .ok (.iconst 1, 1) := by decide +kernel
theorem d_M_begins_67 : decode c_M_begins 67 = .ok (.goto 4, 3) := by decide +kernel
theorem d_M_begins_70 : decode c_M_begins 70 = .ok (.iconst 0, 1) := by decide +kernel
theorem d_M_begins_71 : decode c_M_begins 71 = .ok (.istore_n 3, 1) := by decide +kernel
theorem d_M_begins_72 : decode c_M_begins 72 = .ok (.iinc 4 1, 3) := by decide +kernel
theorem d_M_begins_75 : decode c_M_begins 75 = .ok (.goto (-49), 3) := by decide +kernel
theorem d_M_begins_78 : decode c_M_begins 78 = .ok (.iload_n 3, 1) := by decide +kernel
theorem d_M_begins_79 : decode c_M_begins 79 = .ok (.ireturn, 1) := by decide +kernel
theorem d_M_read_0 : decode c_M_read 0 = .ok (.aload_n 0, 1) := by decide +kernel
theorem d_M_read_1 : decode c_M_read 1 = .ok (.aload_n 0, 1) := by decide +kernel
theorem d_M_read_2 : decode c_M_read 2 = .ok (.invokevirtual 74, 3) := by decide +kernel
theorem d_M_read_5 : decode c_M_read 5 = .ok (.iconst 2, 1) := by decide +kernel
theorem d_M_read_6 : decode c_M_read 6 = .ok (.if_icmp .ge 7, 3) := by decide +kernel
theorem d_M_read_9 : decode c_M_read 9 = .ok (.iconst 1, 1) := by decide +kernel
theorem d_M_read_10 : decode c_M_read 10 = .ok (.goto 4, 3) := by decide +kernel
theorem d_M_read_13 : decode c_M_read 13 = .ok (.iconst 0, 1) := by decide +kernel
theorem d_M_read_14 : decode c_M_read 14 = .ok (.iconst 1, 1) := by decide +kernel
theorem d_M_read_15 : decode c_M_read 15 = .ok (.invokevirtual 61, 3) := by decide +kernel
theorem d_M_read_18 : decode c_M_read 18 = .ok (.ifCond .eq 5, 3) := by decide +kernel
theorem d_M_read_21 : decode c_M_read 21 = .ok (.iconst 0, 1) := by decide +kernel
theorem d_M_read_22 : decode c_M_read 22 = .ok (.ireturn, 1) := by decide +kernel
theorem d_M_read_23 : decode c_M_read 23 = .ok (.aload_n 0, 1) := by decide +kernel
theorem d_M_read_24 : decode c_M_read 24 = .ok (.invokevirtual 77, 3) := by decide +kernel
theorem d_M_read_27 : decode c_M_read 27 = .ok (.iconst 1, 1) := by decide +kernel
theorem d_M_read_28 : decode c_M_read 28 = .ok (.istore_n 1, 1) := by decide +kernel
theorem d_M_read_29 : decode c_M_read 29 = .ok (.iload_n 1, 1) := by decide +kernel
theorem d_M_read_30 : decode c_M_read 30 = .ok (.aload_n 0, 1) := by decide +kernel
theorem d_M_read_31 : decode c_M_read 31 = .ok (.getfield 82, 3) := by decide +kernel
theorem d_M_read_34 : decode c_M_read 34 = .ok (.if_icmp .gt 81, 3) := by decide +kernel
theorem d_M_read_37 : decode c_M_read 37 = .ok (.iconst 0, 1) := by decide +kernel
theorem d_M_read_38 : decode c_M_read 38 = .ok (.istore_n 2, 1) := by decide +kernel
theorem d_M_read_39 : decode c_M_read 39 = .ok (.iconst 0, 1) := by decide +kernel
theorem d_M_read_40 : decode c_M_read 40 = .ok (.istore_n 3, 1) := by decide +kernel
theorem d_M_read_41 : decode c_M_read 41 = .ok (.iload_n 3, 1) := by decide +kernel
theorem d_M_read_42 : decode c_M_read 42 = .ok (.bipush 48, 2) := by decide +kernel
theorem d_M_read_44 : decode c_M_read 44 = .ok (.if_icmp .ge 53, 3) := by decide +kernel
theorem d_M_read_47 : decode c_M_read 47 = .ok (.aload_n 0, 1) := by decide +kernel
theorem d_M_read_48 : decode c_M_read 48 = .ok (.iload_n 3, 1) := by decide +kernel
theorem d_M_read_49 : decode c_M_read 49 = .ok (.iload_n 1, 1) := by decide +kernel
theorem d_M_read_50 : decode c_M_read 50 = .ok (.invokevirtual 85, 3) := by decide +kernel
theorem d_M_read_53 : decode c_M_read 53 = .ok (.istore 4, 2) := by decide +kernel
theorem d_M_read_55 : decode c_M_read 55 = .ok (.iload_n 2, 1) := by decide +kernel
theorem d_M_read_56 : decode c_M_read 56 = .ok (.ifCond .ne 8, 3) := by decide +kernel
theorem d_M_read_59 : decode c_M_read 59 = .ok (.iload 4, 2) := by decide +kernel
theorem d_M_read_61 : decode c_M_read 61 = .ok (.ifCond .eq 7, 3) := by decide +kernel
theorem d_M_read_64 : decode c_M_read 64 = .ok (.iconst 1, 1) := by decide +kernel
theorem d_M_read_65 : decode c_M_read 65 = .ok (.goto 4, 3) := by decide +kernel
theorem d_M_read_68 : decode c_M_read 68 = .ok (.iconst 0, 1) := by decide +kernel
theorem d_M_read_69 : decode c_M_read 69 = .ok (.istore_n 2, 1) := by decide +kernel
theorem d_M_read_70 : decode c_M_read 70 = .ok (.iload 4, 2) := by decide +kernel
theorem d_M_read_72 : decode c_M_read 72 = .ok (.ifCond .eq 19, 3) := by decide +kernel
theorem d_M_read_75 : decode c_M_read 75 = .ok (.aload_n 0, 1) := by decide +kernel
theorem d_M_read_76 : decode c_M_read 76 = .ok (.getfield 13, 3) := by decide +kernel
theorem d_M_read_79 : decode c_M_read 79 = .ok (.iload_n 3, 1) := by decide +kernel
theorem d_M_read_80 : decode c_M_read 80 = .ok (.iaload, 1) := by decide +kernel
theorem d_M_read_81 : decode c_M_read 81 = .ok (.iload_n 1, 1) := by decide +kernel
theorem d_M_read_82 : decode c_M_read 82 = .ok (.if_icmp .ne 9, 3) := by decide +kernel
theorem d_M_read_85 : decode c_M_read 85 = .ok (.aload_n 0, 1) := by decide +kernel
theorem d_M_read_86 : decode c_M_read 86 = .ok (.iload_n 3, 1) := by decide +kernel
theorem d_M_read_87 : decode c_M_read 87 = .ok (.invokevirtual 89, 3) := by decide +kernel
theorem d_M_read_90 : decode c_M_read 90 = .ok (.ireturn, 1) := by decide +kernel
theorem d_M_read_91 : decode c_M_read 91 = .ok (.iinc 3 1, 3) := by decide +kernel
theorem d_M_read_94 : decode c_M_read 94 = .ok (.goto (-53), 3) := by decide +kernel
theorem d_M_read_97 : decode c_M_read 97 = .ok (.iload_n 2, 1) := by decide +kernel
theorem d_M_read_98 : decode c_M_read 98 = .ok (.ifCond .ne 11, 3) := by decide +kernel
theorem d_M_read_101 : decode c_M_read 101 = .ok (.aload_n 0, 1) := by decide +kernel
theorem d_M_read_102 : decode c_M_read 102 = .ok (.iload_n 1, 1) := by decide +kernel
theorem d_M_read_103 : decode c_M_read 103 = .ok (.invokevirtual 93, 3) := by decide +kernel
theorem d_M_read_106 : decode c_M_read 106 = .ok (.bipush (-2), 2) := by decide +kernel
theorem d_M_read_108 : decode c_M_read 108 = .ok (.ireturn, 1) := by decide +kernel
theorem d_M_read_109 : decode c_M_read 109 = .ok (.iinc 1 1, 3) := by decide +kernel
theorem d_M_read_112 : decode c_M_read 112 = .ok (.goto (-83), 3) := by decide +kernel
theorem d_M_read_115 : decode c_M_read 115 = .ok (.iconst (-1), 1) := by decide +kernel
theorem d_M_read_116 : decode c_M_read 116 = .ok (.ireturn, 1) := by decide +kernel
theorem d_M_take_0 : decode c_M_take 0 = .ok (.aload_n 0, 1) := by decide +kernel
theorem d_M_take_1 : decode c_M_take 1 = .ok (.getfield 17, 3) := by decide +kernel
theorem d_M_take_4 : decode c_M_take 4 = .ok (.iload_n 1, 1) := by decide +kernel
theorem d_M_take_5 : decode c_M_take 5 = .ok (.baload, 1) := by decide +kernel
theorem d_M_take_6 : decode c_M_take 6 = .ok (.ifCond .ne 7, 3) := by decide +kernel
theorem d_M_take_9 : decode c_M_take 9 = .ok (.iconst 0, 1) := by decide +kernel
theorem d_M_take_10 : decode c_M_take 10 = .ok (.goto 28, 3) := by decide +kernel
theorem d_M_take_13 : decode c_M_take 13 = .ok (.aload_n 0, 1) := by decide +kernel
theorem d_M_take_14 : decode c_M_take 14 = .ok (.getfield 24, 3) := by decide +kernel
theorem d_M_take_17 : decode c_M_take 17 = .ok (.iload_n 1, 1) := by decide +kernel
theorem d_M_take_18 : decode c_M_take 18 = .ok (.iaload, 1) := by decide +kernel
theorem d_M_take_19 : decode c_M_take 19 = .ok (.ifCond .ge 13, 3) := by decide +kernel
theorem d_M_take_22 : decode c_M_take 22 = .ok (.aload_n 0, 1) := by decide +kernel
theorem d_M_take_23 : decode c_M_take 23 = .ok (.getfield 24, 3) := by decide +kernel
theorem d_M_take_26 : decode c_M_take 26 = .ok (.iload_n 1, 1) := by decide +kernel
theorem d_M_take_27 : decode c_M_take 27 = .ok (.iaload, 1) := by decide +kernel
theorem d_M_take_28 : decode c_M_take 28 = .ok (.ineg, 1) := by decide +kernel
theorem d_M_take_29 : decode c_M_take 29 = .ok (.goto 9, 3) := by decide +kernel
theorem d_M_take_32 : decode c_M_take 32 = .ok (.aload_n 0, 1) := by decide +kernel
theorem d_M_take_33 : decode c_M_take 33 = .ok (.getfield 24, 3) := by decide +kernel
theorem d_M_take_36 : decode c_M_take 36 = .ok (.iload_n 1, 1) := by decide +kernel
theorem d_M_take_37 : decode c_M_take 37 = .ok (.iaload, 1) := by decide +kernel
theorem d_M_take_38 : decode c_M_take 38 = .ok (.istore_n 2, 1) := by decide +kernel
theorem d_M_take_39 : decode c_M_take 39 = .ok (.aload_n 0, 1) := by decide +kernel
theorem d_M_take_40 : decode c_M_take 40 = .ok (.getfield 13, 3) := by decide +kernel
theorem d_M_take_43 : decode c_M_take 43 = .ok (.iload_n 1, 1) := by decide +kernel
theorem d_M_take_44 : decode c_M_take 44 = .ok (.iaload, 1) := by decide +kernel
theorem d_M_take_45 : decode c_M_take 45 = .ok (.iload_n 2, 1) := by decide +kernel
theorem d_M_take_46 : decode c_M_take 46 = .ok (.iadd, 1) := by decide +kernel
theorem d_M_take_47 : decode c_M_take 47 = .ok (.aload_n 0, 1) := by decide +kernel
theorem d_M_take_48 : decode c_M_take 48 = .ok (.getfield 82, 3) := by decide +kernel
theorem d_M_take_51 : decode c_M_take 51 = .ok (.if_icmp .le 5, 3) := by decide +kernel
theorem d_M_take_54 : decode c_M_take 54 = .ok (.iconst (-1), 1) := by decide +kernel
theorem d_M_take_55 : decode c_M_take 55 = .ok (.ireturn, 1) := by decide +kernel
theorem d_M_take_56 : decode c_M_take 56 = .ok (.lconst 0, 1) := by decide +kernel
theorem d_M_take_57 : decode c_M_take 57 = .ok (.lstore_n 3, 1) := by decide +kernel
theorem d_M_take_58 : decode c_M_take 58 = .ok (.iconst 0, 1) := by decide +kernel
theorem d_M_take_59 : decode c_M_take 59 = .ok (.istore 5, 2) := by decide +kernel
theorem d_M_take_61 : decode c_M_take 61 = .ok (.iload 5, 2) := by decide +kernel
theorem d_M_take_63 : decode c_M_take 63 = .ok (.iload_n 2, 1) := by decide +kernel
theorem d_M_take_64 : decode c_M_take 64 = .ok (.if_icmp .ge 31, 3) := by decide +kernel
theorem d_M_take_67 : decode c_M_take 67 = .ok (.ldc2_w 97, 3) := by decide +kernel
theorem d_M_take_70 : decode c_M_take 70 = .ok (.lload_n 3, 1) := by decide +kernel
theorem d_M_take_71 : decode c_M_take 71 = .ok (.lmul, 1) := by decide +kernel
theorem d_M_take_72 : decode c_M_take 72 = .ok (.aload_n 0, 1) := by decide +kernel
theorem d_M_take_73 : decode c_M_take 73 = .ok (.getfield 27, 3) := by decide +kernel
theorem d_M_take_76 : decode c_M_take 76 = .ok (.aload_n 0, 1) := by decide +kernel
theorem d_M_take_77 : decode c_M_take 77 = .ok (.getfield 13, 3) := by decide +kernel
theorem d_M_take_80 : decode c_M_take 80 = .ok (.iload_n 1, 1) := by decide +kernel
theorem d_M_take_81 : decode c_M_take 81 = .ok (.iaload, 1) := by decide +kernel
theorem d_M_take_82 : decode c_M_take 82 = .ok (.iload 5, 2) := by decide +kernel
theorem d_M_take_84 : decode c_M_take 84 = .ok (.iadd, 1) := by decide +kernel
theorem d_M_take_85 : decode c_M_take 85 = .ok (.iaload, 1) := by decide +kernel
theorem d_M_take_86 : decode c_M_take 86 = .ok (.i2l, 1) := by decide +kernel
theorem d_M_take_87 : decode c_M_take 87 = .ok (.ladd, 1) := by decide +kernel
theorem d_M_take_88 : decode c_M_take 88 = .ok (.lstore_n 3, 1) := by decide +kernel
theorem d_M_take_89 : decode c_M_take 89 = .ok (.iinc 5 1, 3) := by decide +kernel
theorem d_M_take_92 : decode c_M_take 92 = .ok (.goto (-31), 3) := by decide +kernel
theorem d_M_take_95 : decode c_M_take 95 = .ok (.aload_n 0, 1) := by decide +kernel
theorem d_M_take_96 : decode c_M_take 96 = .ok (.iconst 1, 1) := by decide +kernel
theorem d_M_take_97 : decode c_M_take 97 = .ok (.putfield 99, 3) := by decide +kernel
theorem d_M_take_100 : decode c_M_take 100 = .ok (.aload_n 0, 1) := by decide +kernel
theorem d_M_take_101 : decode c_M_take 101 = .ok (.aload_n 0, 1) := by decide +kernel
theorem d_M_take_102 : decode c_M_take 102 = .ok (.getfield 17, 3) := by decide +kernel
theorem d_M_take_105 : decode c_M_take 105 = .ok (.iload_n 1, 1) := by decide +kernel
theorem d_M_take_106 : decode c_M_take 106 = .ok (.baload, 1) := by decide +kernel
theorem d_M_take_107 : decode c_M_take 107 = .ok (.ifCond .ne 8, 3) := by decide +kernel
theorem d_M_take_110 : decode c_M_take 110 = .ok (.iload_n 1, 1) := by decide +kernel
theorem d_M_take_111 : decode c_M_take 111 = .ok (.i2l, 1) := by decide +kernel
theorem d_M_take_112 : decode c_M_take 112 = .ok (.goto 33, 3) := by decide +kernel
theorem d_M_take_115 : decode c_M_take 115 = .ok (.aload_n 0, 1) := by decide +kernel
theorem d_M_take_116 : decode c_M_take 116 = .ok (.getfield 24, 3) := by decide +kernel
theorem d_M_take_119 : decode c_M_take 119 = .ok (.iload_n 1, 1) := by decide +kernel
theorem d_M_take_120 : decode c_M_take 120 = .ok (.iaload, 1) := by decide +kernel
theorem d_M_take_121 : decode c_M_take 121 = .ok (.ifCond .ge 15, 3) := by decide +kernel
theorem d_M_take_124 : decode c_M_take 124 = .ok (.aload_n 0, 1) := by decide +kernel
theorem d_M_take_125 : decode c_M_take 125 = .ok (.getfield 21, 3) := by decide +kernel
theorem d_M_take_128 : decode c_M_take 128 = .ok (.iload_n 1, 1) := by decide +kernel
theorem d_M_take_129 : decode c_M_take 129 = .ok (.iaload, 1) := by decide +kernel
theorem d_M_take_130 : decode c_M_take 130 = .ok (.i2l, 1) := by decide +kernel
theorem d_M_take_131 : decode c_M_take 131 = .ok (.lload_n 3, 1) := by decide +kernel
theorem d_M_take_132 : decode c_M_take 132 = .ok (.lsub, 1) := by decide +kernel
theorem d_M_take_133 : decode c_M_take 133 = .ok (.goto 12, 3) := by decide +kernel
theorem d_M_take_136 : decode c_M_take 136 = .ok (.aload_n 0, 1) := by decide +kernel
theorem d_M_take_137 : decode c_M_take 137 = .ok (.getfield 21, 3) := by decide +kernel
theorem d_M_take_140 : decode c_M_take 140 = .ok (.iload_n 1, 1) := by decide +kernel
theorem d_M_take_141 : decode c_M_take 141 = .ok (.iaload, 1) := by decide +kernel
theorem d_M_take_142 : decode c_M_take 142 = .ok (.i2l, 1) := by decide +kernel
theorem d_M_take_143 : decode c_M_take 143 = .ok (.lload_n 3, 1) := by decide +kernel
theorem d_M_take_144 : decode c_M_take 144 = .ok (.ladd, 1) := by decide +kernel
theorem d_M_take_145 : decode c_M_take 145 = .ok (.putfield 103, 3) := by decide +kernel
theorem d_M_take_148 : decode c_M_take 148 = .ok (.aload_n 0, 1) := by decide +kernel
theorem d_M_take_149 : decode c_M_take 149 = .ok (.aload_n 0, 1) := by decide +kernel
theorem d_M_take_150 : decode c_M_take 150 = .ok (.getfield 13, 3) := by decide +kernel
theorem d_M_take_153 : decode c_M_take 153 = .ok (.iload_n 1, 1) := by decide +kernel
theorem d_M_take_154 : decode c_M_take 154 = .ok (.iaload, 1) := by decide +kernel
theorem d_M_take_155 : decode c_M_take 155 = .ok (.iload_n 2, 1) := by decide +kernel
theorem d_M_take_156 : decode c_M_take 156 = .ok (.iadd, 1) := by decide +kernel
theorem d_M_take_157 : decode c_M_take 157 = .ok (.invokevirtual 93, 3) := by decide +kernel
theorem d_M_take_160 : decode c_M_take 160 = .ok (.iload_n 1, 1) := by decide +kernel
theorem d_M_take_161 : decode c_M_take 161 = .ok (.ireturn, 1) := by decide +kernel
theorem d_M_last_0 : decode c_M_last 0 = .ok (.aload_n 0, 1) := by decide +kernel
theorem d_M_last_1 : decode c_M_last 1 = .ok (.aload_n 0, 1) := by decide +kernel
theorem d_M_last_2 : decode c_M_last 2 = .ok (.getfield 99, 3) := by decide +kernel
theorem d_M_last_5 : decode c_M_last 5 = .ok (.iconst 1, 1) := by decide +kernel
theorem d_M_last_6 : decode c_M_last 6 = .ok (.invokevirtual 61, 3) := by decide +kernel
theorem d_M_last_9 : decode c_M_last 9 = .ok (.ifCond .eq 7, 3) := by decide +kernel
theorem d_M_last_12 : decode c_M_last 12 = .ok (.lconst 0, 1) := by decide +kernel
theorem d_M_last_13 : decode c_M_last 13 = .ok (.goto 7, 3) := by decide +kernel
theorem d_M_last_16 : decode c_M_last 16 = .ok (.aload_n 0, 1) := by decide +kernel
theorem d_M_last_17 : decode c_M_last 17 = .ok (.getfield 103, 3) := by decide +kernel
theorem d_M_last_20 : decode c_M_last 20 = .ok (.lreturn, 1) := by decide +kernel
theorem d_M_waiting_0 : decode c_M_waiting 0 = .ok (.aload_n 0, 1) := by decide +kernel
theorem d_M_waiting_1 : decode c_M_waiting 1 = .ok (.iconst 0, 1) := by decide +kernel
theorem d_M_waiting_2 : decode c_M_waiting 2 = .ok (.putfield 52, 3) := by decide +kernel
theorem d_M_waiting_5 : decode c_M_waiting 5 = .ok (.aload_n 0, 1) := by decide +kernel
theorem d_M_waiting_6 : decode c_M_waiting 6 = .ok (.getfield 82, 3) := by decide +kernel
theorem d_M_waiting_9 : decode c_M_waiting 9 = .ok (.ireturn, 1) := by decide +kernel
theorem d_M_sum_0 : decode c_M_sum 0 = .ok (.aload_n 0, 1) := by decide +kernel
theorem d_M_sum_1 : decode c_M_sum 1 = .ok (.iconst 0, 1) := by decide +kernel
theorem d_M_sum_2 : decode c_M_sum 2 = .ok (.putfield 52, 3) := by decide +kernel
theorem d_M_sum_5 : decode c_M_sum 5 = .ok (.lconst 0, 1) := by decide +kernel
theorem d_M_sum_6 : decode c_M_sum 6 = .ok (.lstore_n 1, 1) := by decide +kernel
theorem d_M_sum_7 : decode c_M_sum 7 = .ok (.iconst 0, 1) := by decide +kernel
theorem d_M_sum_8 : decode c_M_sum 8 = .ok (.istore_n 3, 1) := by decide +kernel
theorem d_M_sum_9 : decode c_M_sum 9 = .ok (.iload_n 3, 1) := by decide +kernel
theorem d_M_sum_10 : decode c_M_sum 10 = .ok (.bipush 48, 2) := by decide +kernel
theorem d_M_sum_12 : decode c_M_sum 12 = .ok (.if_icmp .ge 26, 3) := by decide +kernel
theorem d_M_sum_15 : decode c_M_sum 15 = .ok (.lload_n 1, 1) := by decide +kernel
theorem d_M_sum_16 : decode c_M_sum 16 = .ok (.aload_n 0, 1) := by decide +kernel
theorem d_M_sum_17 : decode c_M_sum 17 = .ok (.getfield 7, 3) := by decide +kernel
theorem d_M_sum_20 : decode c_M_sum 20 = .ok (.iload_n 3, 1) := by decide +kernel
theorem d_M_sum_21 : decode c_M_sum 21 = .ok (.laload, 1) := by decide +kernel
theorem d_M_sum_22 : decode c_M_sum 22 = .ok (.aload_n 0, 1) := by decide +kernel
theorem d_M_sum_23 : decode c_M_sum 23 = .ok (.getfield 13, 3) := by decide +kernel
theorem d_M_sum_26 : decode c_M_sum 26 = .ok (.iload_n 3, 1) := by decide +kernel
theorem d_M_sum_27 : decode c_M_sum 27 = .ok (.iaload, 1) := by decide +kernel
theorem d_M_sum_28 : decode c_M_sum 28 = .ok (.i2l, 1) := by decide +kernel
theorem d_M_sum_29 : decode c_M_sum 29 = .ok (.lmul, 1) := by decide +kernel
theorem d_M_sum_30 : decode c_M_sum 30 = .ok (.ladd, 1) := by decide +kernel
theorem d_M_sum_31 : decode c_M_sum 31 = .ok (.lstore_n 1, 1) := by decide +kernel
theorem d_M_sum_32 : decode c_M_sum 32 = .ok (.iinc 3 1, 3) := by decide +kernel
theorem d_M_sum_35 : decode c_M_sum 35 = .ok (.goto (-26), 3) := by decide +kernel
theorem d_M_sum_38 : decode c_M_sum 38 = .ok (.lload_n 1, 1) := by decide +kernel
theorem d_M_sum_39 : decode c_M_sum 39 = .ok (.lreturn, 1) := by decide +kernel
theorem d_M_lengths_0 : decode c_M_lengths 0 = .ok (.aload_n 0, 1) := by decide +kernel
theorem d_M_lengths_1 : decode c_M_lengths 1 = .ok (.iconst 0, 1) := by decide +kernel
theorem d_M_lengths_2 : decode c_M_lengths 2 = .ok (.putfield 52, 3) := by decide +kernel
theorem d_M_lengths_5 : decode c_M_lengths 5 = .ok (.bipush 48, 2) := by decide +kernel
theorem d_M_lengths_7 : decode c_M_lengths 7 = .ok (.istore_n 2, 1) := by decide +kernel
theorem d_M_lengths_8 : decode c_M_lengths 8 = .ok (.iload_n 2, 1) := by decide +kernel
theorem d_M_lengths_9 : decode c_M_lengths 9 = .ok (.ifCond .le 20, 3) := by decide +kernel
theorem d_M_lengths_12 : decode c_M_lengths 12 = .ok (.aload_n 0, 1) := by decide +kernel
theorem d_M_lengths_13 : decode c_M_lengths 13 = .ok (.getfield 13, 3) := by decide +kernel
theorem d_M_lengths_16 : decode c_M_lengths 16 = .ok (.iload_n 2, 1) := by decide +kernel
theorem d_M_lengths_17 : decode c_M_lengths 17 = .ok (.iconst 1, 1) := by decide +kernel
theorem d_M_lengths_18 : decode c_M_lengths 18 = .ok (.isub, 1) := by decide +kernel
theorem d_M_lengths_19 : decode c_M_lengths 19 = .ok (.iaload, 1) := by decide +kernel
theorem d_M_lengths_20 : decode c_M_lengths 20 = .ok (.ifCond .ne 9, 3) := by decide +kernel
theorem d_M_lengths_23 : decode c_M_lengths 23 = .ok (.iinc 2 (-1), 3) := by decide +kernel
theorem d_M_lengths_26 : decode c_M_lengths 26 = .ok (.goto (-18), 3) := by decide +kernel
theorem d_M_lengths_29 : decode c_M_lengths 29 = .ok (.iconst 0, 1) := by decide +kernel
theorem d_M_lengths_30 : decode c_M_lengths 30 = .ok (.istore_n 3, 1) := by decide +kernel
theorem d_M_lengths_31 : decode c_M_lengths 31 = .ok (.iconst 0, 1) := by decide +kernel
theorem d_M_lengths_32 : decode c_M_lengths 32 = .ok (.istore 4, 2) := by decide +kernel
theorem d_M_lengths_34 : decode c_M_lengths 34 = .ok (.iload 4, 2) := by decide +kernel
theorem d_M_lengths_36 : decode c_M_lengths 36 = .ok (.iload_n 2, 1) := by decide +kernel
theorem d_M_lengths_37 : decode c_M_lengths 37 = .ok (.if_icmp .ge 172, 3) := by decide +kernel
theorem d_M_lengths_40 : decode c_M_lengths 40 = .ok (.iconst 1, 1) := by decide +kernel
theorem d_M_lengths_41 : decode c_M_lengths 41 = .ok (.istore 5, 2) := by decide +kernel
theorem d_M_lengths_43 : decode c_M_lengths 43 = .ok (.iload 4, 2) := by decide +kernel
theorem d_M_lengths_45 : decode c_M_lengths 45 = .ok (.iload 5, 2) := by decide +kernel
theorem d_M_lengths_47 : decode c_M_lengths 47 = .ok (.iadd, 1) := by decide +kernel
theorem d_M_lengths_48 : decode c_M_lengths 48 = .ok (.iload_n 2, 1) := by decide +kernel
theorem d_M_lengths_49 : decode c_M_lengths 49 = .ok (.if_icmp .ge 29, 3) := by decide +kernel
theorem d_M_lengths_52 : decode c_M_lengths 52 = .ok (.aload_n 0, 1) := by decide +kernel
theorem d_M_lengths_53 : decode c_M_lengths 53 = .ok (.getfield 13, 3) := by decide +kernel
theorem d_M_lengths_56 : decode c_M_lengths 56 = .ok (.iload 4, 2) := by decide +kernel
theorem d_M_lengths_58 : decode c_M_lengths 58 = .ok (.iload 5, 2) := by decide +kernel
theorem d_M_lengths_60 : decode c_M_lengths 60 = .ok (.iadd, 1) := by decide +kernel
theorem d_M_lengths_61 : decode c_M_lengths 61 = .ok (.iaload, 1) := by decide +kernel
theorem d_M_lengths_62 : decode c_M_lengths 62 = .ok (.aload_n 0, 1) := by decide +kernel
theorem d_M_lengths_63 : decode c_M_lengths 63 = .ok (.getfield 13, 3) := by decide +kernel
theorem d_M_lengths_66 : decode c_M_lengths 66 = .ok (.iload 4, 2) := by decide +kernel
theorem d_M_lengths_68 : decode c_M_lengths 68 = .ok (.iaload, 1) := by decide +kernel
theorem d_M_lengths_69 : decode c_M_lengths 69 = .ok (.if_icmp .ne 9, 3) := by decide +kernel
theorem d_M_lengths_72 : decode c_M_lengths 72 = .ok (.iinc 5 1, 3) := by decide +kernel
theorem d_M_lengths_75 : decode c_M_lengths 75 = .ok (.goto (-32), 3) := by decide +kernel
theorem d_M_lengths_78 : decode c_M_lengths 78 = .ok (.aload_n 0, 1) := by decide +kernel
theorem d_M_lengths_79 : decode c_M_lengths 79 = .ok (.getfield 13, 3) := by decide +kernel
theorem d_M_lengths_82 : decode c_M_lengths 82 = .ok (.iload 4, 2) := by decide +kernel
theorem d_M_lengths_84 : decode c_M_lengths 84 = .ok (.iaload, 1) := by decide +kernel
theorem d_M_lengths_85 : decode c_M_lengths 85 = .ok (.istore 6, 2) := by decide +kernel
theorem d_M_lengths_87 : decode c_M_lengths 87 = .ok (.iconst 1, 1) := by decide +kernel
theorem d_M_lengths_88 : decode c_M_lengths 88 = .ok (.istore 7, 2) := by decide +kernel
theorem d_M_lengths_90 : decode c_M_lengths 90 = .ok (.aload_n 0, 1) := by decide +kernel
theorem d_M_lengths_91 : decode c_M_lengths 91 = .ok (.getfield 13, 3) := by decide +kernel
theorem d_M_lengths_94 : decode c_M_lengths 94 = .ok (.iload 4, 2) := by decide +kernel
theorem d_M_lengths_96 : decode c_M_lengths 96 = .ok (.iaload, 1) := by decide +kernel
theorem d_M_lengths_97 : decode c_M_lengths 97 = .ok (.ifCond .ne 38, 3) := by decide +kernel
theorem d_M_lengths_100 : decode c_M_lengths 100 = .ok (.iload 5, 2) := by decide +kernel
theorem d_M_lengths_102 : decode c_M_lengths 102 = .ok (.iconst 2, 1) := by decide +kernel
theorem d_M_lengths_103 : decode c_M_lengths 103 = .ok (.if_icmp .le 32, 3) := by decide +kernel
theorem d_M_lengths_106 : decode c_M_lengths 106 = .ok (.iload 5, 2) := by decide +kernel
theorem d_M_lengths_108 : decode c_M_lengths 108 = .ok (.sipush 138, 3) := by decide +kernel
theorem d_M_lengths_111 : decode c_M_lengths 111 = .ok (.if_icmp .le 9, 3) := by decide +kernel
theorem d_M_lengths_114 : decode c_M_lengths 114 = .ok (.sipush 138, 3) := by decide +kernel
theorem d_M_lengths_117 : decode c_M_lengths 117 = .ok (.goto 5, 3) := by decide +kernel
theorem d_M_lengths_120 : decode c_M_lengths 120 = .ok (.iload 5, 2) := by decide +kernel
theorem d_M_lengths_122 : decode c_M_lengths 122 = .ok (.istore 7, 2) := by decide +kernel
theorem d_M_lengths_124 : decode c_M_lengths 124 = .ok (.sipush 200, 3) := by decide +kernel
theorem d_M_lengths_127 : decode c_M_lengths 127 = .ok (.iload 7, 2) := by decide +kernel
theorem d_M_lengths_129 : decode c_M_lengths 129 = .ok (.iadd, 1) := by decide +kernel
theorem d_M_lengths_130 : decode c_M_lengths 130 = .ok (.istore 6, 2) := by decide +kernel
theorem d_M_lengths_132 : decode c_M_lengths 132 = .ok (.goto 56, 3) := by decide +kernel
theorem d_M_lengths_135 : decode c_M_lengths 135 = .ok (.iload 4, 2) := by decide +kernel
theorem d_M_lengths_137 : decode c_M_lengths 137 = .ok (.ifCond .le 51, 3) := by decide +kernel
theorem d_M_lengths_140 : decode c_M_lengths 140 = .ok (.aload_n 0, 1) := by decide +kernel
theorem d_M_lengths_141 : decode c_M_lengths 141 = .ok (.getfield 13, 3) := by decide +kernel
theorem d_M_lengths_144 : decode c_M_lengths 144 = .ok (.iload 4, 2) := by decide +kernel
theorem d_M_lengths_146 : decode c_M_lengths 146 = .ok (.iaload, 1) := by decide +kernel
theorem d_M_lengths_147 : decode c_M_lengths 147 = .ok (.aload_n 0, 1) := by decide +kernel
theorem d_M_lengths_148 : decode c_M_lengths 148 = .ok (.getfield 13, 3) := by decide +kernel
theorem d_M_lengths_151 : decode c_M_lengths 151 = .ok (.iload 4, 2) := by decide +kernel
theorem d_M_lengths_153 : decode c_M_lengths 153 = .ok (.iconst 1, 1) := by decide +kernel
theorem d_M_lengths_154 : decode c_M_lengths 154 = .ok (.isub, 1) := by decide +kernel
theorem d_M_lengths_155 : decode c_M_lengths 155 = .ok (.iaload, 1) := by decide +kernel
theorem d_M_lengths_156 : decode c_M_lengths 156 = .ok (.if_icmp .ne 32, 3) := by decide +kernel
theorem d_M_lengths_159 : decode c_M_lengths 159 = .ok (.iload 5, 2) := by decide +kernel
theorem d_M_lengths_161 : decode c_M_lengths 161 = .ok (.iconst 2, 1) := by decide +kernel
theorem d_M_lengths_162 : decode c_M_lengths 162 = .ok (.if_icmp .le 26, 3) := by decide +kernel
theorem d_M_lengths_165 : decode c_M_lengths 165 = .ok (.iload 5, 2) := by decide +kernel
theorem d_M_lengths_167 : decode c_M_lengths 167 = .ok (.bipush 6, 2) := by decide +kernel
theorem d_M_lengths_169 : decode c_M_lengths 169 = .ok (.if_icmp .le 8, 3) := by decide +kernel
theorem d_M_lengths_172 : decode c_M_lengths 172 = .ok (.bipush 6, 2) := by decide +kernel
theorem d_M_lengths_174 : decode c_M_lengths 174 = .ok (.goto 5, 3) := by decide +kernel
theorem d_M_lengths_177 : decode c_M_lengths 177 = .ok (.iload 5, 2) := by decide +kernel
theorem d_M_lengths_179 : decode c_M_lengths 179 = .ok (.istore 7, 2) := by decide +kernel
theorem d_M_lengths_181 : decode c_M_lengths 181 = .ok (.bipush 100, 2) := by decide +kernel
theorem d_M_lengths_183 : decode c_M_lengths 183 = .ok (.iload 7, 2) := by decide +kernel
theorem d_M_lengths_185 : decode c_M_lengths 185 = .ok (.iadd, 1) := by decide +kernel
theorem d_M_lengths_186 : decode c_M_lengths 186 = .ok (.istore 6, 2) := by decide +kernel
theorem d_M_lengths_188 : decode c_M_lengths 188 = .ok (.iload_n 3, 1) := by decide +kernel
theorem d_M_lengths_189 : decode c_M_lengths 189 = .ok (.iload_n 1, 1) := by decide +kernel
theorem d_M_lengths_190 : decode c_M_lengths 190 = .ok (.if_icmp .ne 6, 3) := by decide +kernel
theorem d_M_lengths_193 : decode c_M_lengths 193 = .ok (.iload 6, 2) := by decide +kernel
theorem d_M_lengths_195 : decode c_M_lengths 195 = .ok (.ireturn, 1) := by decide +kernel
theorem d_M_lengths_196 : decode c_M_lengths 196 = .ok (.iinc 3 1, 3) := by decide +kernel
theorem d_M_lengths_199 : decode c_M_lengths 199 = .ok (.iload 4, 2) := by decide +kernel
theorem d_M_lengths_201 : decode c_M_lengths 201 = .ok (.iload 7, 2) := by decide +kernel
theorem d_M_lengths_203 : decode c_M_lengths 203 = .ok (.iadd, 1) := by decide +kernel
theorem d_M_lengths_204 : decode c_M_lengths 204 = .ok (.istore 4, 2) := by decide +kernel
theorem d_M_lengths_206 : decode c_M_lengths 206 = .ok (.goto (-172), 3) := by decide +kernel
theorem d_M_lengths_209 : decode c_M_lengths 209 = .ok (.iconst (-1), 1) := by decide +kernel
theorem d_M_lengths_210 : decode c_M_lengths 210 = .ok (.ireturn, 1) := by decide +kernel
theorem d_M_clear_0 : decode c_M_clear 0 = .ok (.aload_n 0, 1) := by decide +kernel
theorem d_M_clear_1 : decode c_M_clear 1 = .ok (.iconst 0, 1) := by decide +kernel
theorem d_M_clear_2 : decode c_M_clear 2 = .ok (.putfield 52, 3) := by decide +kernel
theorem d_M_clear_5 : decode c_M_clear 5 = .ok (.iconst 0, 1) := by decide +kernel
theorem d_M_clear_6 : decode c_M_clear 6 = .ok (.istore_n 1, 1) := by decide +kernel
theorem d_M_clear_7 : decode c_M_clear 7 = .ok (.iload_n 1, 1) := by decide +kernel
theorem d_M_clear_8 : decode c_M_clear 8 = .ok (.bipush 48, 2) := by decide +kernel
theorem d_M_clear_10 : decode c_M_clear 10 = .ok (.if_icmp .ge 30, 3) := by decide +kernel
theorem d_M_clear_13 : decode c_M_clear 13 = .ok (.aload_n 0, 1) := by decide +kernel
theorem d_M_clear_14 : decode c_M_clear 14 = .ok (.getfield 7, 3) := by decide +kernel
theorem d_M_clear_17 : decode c_M_clear 17 = .ok (.iload_n 1, 1) := by decide +kernel
theorem d_M_clear_18 : decode c_M_clear 18 = .ok (.lconst 0, 1) := by decide +kernel
theorem d_M_clear_19 : decode c_M_clear 19 = .ok (.lastore, 1) := by decide +kernel
theorem d_M_clear_20 : decode c_M_clear 20 = .ok (.aload_n 0, 1) := by decide +kernel
theorem d_M_clear_21 : decode c_M_clear 21 = .ok (.getfield 13, 3) := by decide +kernel
theorem d_M_clear_24 : decode c_M_clear 24 = .ok (.iload_n 1, 1) := by decide +kernel
theorem d_M_clear_25 : decode c_M_clear 25 = .ok (.iconst 0, 1) := by decide +kernel
theorem d_M_clear_26 : decode c_M_clear 26 = .ok (.iastore, 1) := by decide +kernel
theorem d_M_clear_27 : decode c_M_clear 27 = .ok (.aload_n 0, 1) := by decide +kernel
theorem d_M_clear_28 : decode c_M_clear 28 = .ok (.getfield 17, 3) := by decide +kernel
theorem d_M_clear_31 : decode c_M_clear 31 = .ok (.iload_n 1, 1) := by decide +kernel
theorem d_M_clear_32 : decode c_M_clear 32 = .ok (.iconst 0, 1) := by decide +kernel
theorem d_M_clear_33 : decode c_M_clear 33 = .ok (.bastore, 1) := by decide +kernel
theorem d_M_clear_34 : decode c_M_clear 34 = .ok (.iinc 1 1, 3) := by decide +kernel
theorem d_M_clear_37 : decode c_M_clear 37 = .ok (.goto (-30), 3) := by decide +kernel
theorem d_M_clear_40 : decode c_M_clear 40 = .ok (.aload_n 0, 1) := by decide +kernel
theorem d_M_clear_41 : decode c_M_clear 41 = .ok (.iconst 0, 1) := by decide +kernel
theorem d_M_clear_42 : decode c_M_clear 42 = .ok (.putfield 82, 3) := by decide +kernel
theorem d_M_clear_45 : decode c_M_clear 45 = .ok (.aload_n 0, 1) := by decide +kernel
theorem d_M_clear_46 : decode c_M_clear 46 = .ok (.iconst 0, 1) := by decide +kernel
theorem d_M_clear_47 : decode c_M_clear 47 = .ok (.putfield 99, 3) := by decide +kernel
theorem d_M_clear_50 : decode c_M_clear 50 = .ok (.return_, 1) := by decide +kernel
