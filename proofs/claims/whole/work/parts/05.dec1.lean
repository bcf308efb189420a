theorem d_K_init_0 : decode c_K_init 0 = .ok (.aload_n 0, 1) := by decide +kernel
theorem d_K_init_1 : decode c_K_init 1 = .ok (.invokespecial 3, 3) := by decide +kernel
theorem d_K_init_4 : decode c_K_init 4 = .ok (.aload_n 0, 1) := by decide +kernel
theorem d_K_init_5 : decode c_K_init 5 = .ok (.bipush 48, 2) := by decide +kernel
theorem d_K_init_7 : decode c_K_init 7 = .ok (.newarray .int, 2) := by decide +kernel
theorem d_K_init_9 : decode c_K_init 9 = .ok (.putfield 9, 3) := by decide +kernel
theorem d_K_init_12 : decode c_K_init 12 = .ok (.aload_n 0, 1) := by decide +kernel
theorem d_K_init_13 : decode c_K_init 13 = .ok (.bipush 16, 2) := by decide +kernel
theorem d_K_init_15 : decode c_K_init 15 = .ok (.bipush 48, 2) := by decide +kernel
theorem d_K_init_17 : decode c_K_init 17 = .ok (.multianewarray 15 2, 4) := by decide +kernel
theorem d_K_init_21 : decode c_K_init 21 = .ok (.putfield 17, 3) := by decide +kernel
theorem d_K_init_24 : decode c_K_init 24 = .ok (.aload_n 0, 1) := by decide +kernel
theorem d_K_init_25 : decode c_K_init 25 = .ok (.bipush 96, 2) := by decide +kernel
theorem d_K_init_27 : decode c_K_init 27 = .ok (.newarray .long, 2) := by decide +kernel
theorem d_K_init_29 : decode c_K_init 29 = .ok (.putfield 20, 3) := by decide +kernel
theorem d_K_init_32 : decode c_K_init 32 = .ok (.aload_n 0, 1) := by decide +kernel
theorem d_K_init_33 : decode c_K_init 33 = .ok (.bipush 96, 2) := by decide +kernel
theorem d_K_init_35 : decode c_K_init 35 = .ok (.newarray .long, 2) := by decide +kernel
theorem d_K_init_37 : decode c_K_init 37 = .ok (.putfield 24, 3) := by decide +kernel
theorem d_K_init_40 : decode c_K_init 40 = .ok (.aload_n 0, 1) := by decide +kernel
theorem d_K_init_41 : decode c_K_init 41 = .ok (.iconst 0, 1) := by decide +kernel
theorem d_K_init_42 : decode c_K_init 42 = .ok (.putfield 27, 3) := by decide +kernel
theorem d_K_init_45 : decode c_K_init 45 = .ok (.aload_n 0, 1) := by decide +kernel
theorem d_K_init_46 : decode c_K_init 46 = .ok (.iconst 0, 1) := by decide +kernel
theorem d_K_init_47 : decode c_K_init 47 = .ok (.putfield 31, 3) := by decide +kernel
theorem d_K_init_50 : decode c_K_init 50 = .ok (.return_, 1) := by decide +kernel
theorem d_K_sortSymbols_0 : decode c_K_sortSymbols 0 = .ok (.aload_n 0, 1) := by decide +kernel
theorem d_K_sortSymbols_1 : decode c_K_sortSymbols 1 = .ok (.iconst 0, 1) := by decide +kernel
theorem d_K_sortSymbols_2 : decode c_K_sortSymbols 2 = .ok (.putfield 31, 3) := by decide +kernel
theorem d_K_sortSymbols_5 : decode c_K_sortSymbols 5 = .ok (.bipush 47, 2) := by decide +kernel
theorem d_K_sortSymbols_7 : decode c_K_sortSymbols 7 = .ok (.istore_n 2, 1) := by decide +kernel
theorem d_K_sortSymbols_8 : decode c_K_sortSymbols 8 = .ok (.iload_n 2, 1) := by decide +kernel
theorem d_K_sortSymbols_9 : decode c_K_sortSymbols 9 = .ok (.ifCond .lt 23, 3) := by decide +kernel
theorem d_K_sortSymbols_12 : decode c_K_sortSymbols 12 = .ok (.aload_n 1, 1) := by decide +kernel
theorem d_K_sortSymbols_13 : decode c_K_sortSymbols 13 = .ok (.iload_n 2, 1) := by decide +kernel
theorem d_K_sortSymbols_14 : decode c_K_sortSymbols 14 = .ok (.laload, 1) := by decide +kernel
theorem d_K_sortSymbols_15 : decode c_K_sortSymbols 15 = .ok (.lconst 0, 1) := by decide +kernel
theorem d_K_sortSymbols_16 : decode c_K_sortSymbols 16 = .ok (.lcmp, 1) := by decide +kernel
theorem d_K_sortSymbols_17 : decode c_K_sortSymbols 17 = .ok (.ifCond .le 9, 3) := by decide +kernel
theorem d_K_sortSymbols_20 : decode c_K_sortSymbols 20 = .ok (.aload_n 0, 1) := by decide +kernel
theorem d_K_sortSymbols_21 : decode c_K_sortSymbols 21 = .ok (.iload_n 2, 1) := by decide +kernel
theorem d_K_sortSymbols_22 : decode c_K_sortSymbols 22 = .ok (.aload_n 1, 1) := by decide +kernel
theorem d_K_sortSymbols_23 : decode c_K_sortSymbols 23 = .ok (.invokevirtual 34, 3) := by decide +kernel
theorem d_K_sortSymbols_26 : decode c_K_sortSymbols 26 = .ok (.iinc 2 (-1), 3) := by decide +kernel
theorem d_K_sortSymbols_29 : decode c_K_sortSymbols 29 = .ok (.goto (-21), 3) := by decide +kernel
theorem d_K_sortSymbols_32 : decode c_K_sortSymbols 32 = .ok (.aload_n 0, 1) := by decide +kernel
theorem d_K_sortSymbols_33 : decode c_K_sortSymbols 33 = .ok (.getfield 31, 3) := by decide +kernel
theorem d_K_sortSymbols_36 : decode c_K_sortSymbols 36 = .ok (.ireturn, 1) := by decide +kernel
theorem d_K_insert_0 : decode c_K_insert 0 = .ok (.aload_n 0, 1) := by decide +kernel
theorem d_K_insert_1 : decode c_K_insert 1 = .ok (.getfield 31, 3) := by decide +kernel
theorem d_K_insert_4 : decode c_K_insert 4 = .ok (.istore_n 3, 1) := by decide +kernel
theorem d_K_insert_5 : decode c_K_insert 5 = .ok (.iload_n 3, 1) := by decide +kernel
theorem d_K_insert_6 : decode c_K_insert 6 = .ok (.ifCond .le 40, 3) := by decide +kernel
theorem d_K_insert_9 : decode c_K_insert 9 = .ok (.aload_n 2, 1) := by decide +kernel
theorem d_K_insert_10 : decode c_K_insert 10 = .ok (.aload_n 0, 1) := by decide +kernel
theorem d_K_insert_11 : decode c_K_insert 11 = .ok (.getfield 9, 3) := by decide +kernel
theorem d_K_insert_14 : decode c_K_insert 14 = .ok (.iload_n 3, 1) := by decide +kernel
theorem d_K_insert_15 : decode c_K_insert 15 = .ok (.iconst 1, 1) := by decide +kernel
theorem d_K_insert_16 : decode c_K_insert 16 = .ok (.isub, 1) := by decide +kernel
theorem d_K_insert_17 : decode c_K_insert 17 = .ok (.iaload, 1) := by decide +kernel
theorem d_K_insert_18 : decode c_K_insert 18 = .ok (.laload, 1) := by decide +kernel
theorem d_K_insert_19 : decode c_K_insert 19 = .ok (.aload_n 2, 1) := by decide +kernel
theorem d_K_insert_20 : decode c_K_insert 20 = .ok (.iload_n 1, 1) := by decide +kernel
theorem d_K_insert_21 : decode c_K_insert 21 = .ok (.laload, 1) := by decide +kernel
theorem d_K_insert_22 : decode c_K_insert 22 = .ok (.lcmp, 1) := by decide +kernel
theorem d_K_insert_23 : decode c_K_insert 23 = .ok (.ifCond .le 23, 3) := by decide +kernel
theorem d_K_insert_26 : decode c_K_insert 26 = .ok (.aload_n 0, 1) := by decide +kernel
theorem d_K_insert_27 : decode c_K_insert 27 = .ok (.getfield 9, 3) := by decide +kernel
theorem d_K_insert_30 : decode c_K_insert 30 = .ok (.iload_n 3, 1) := by decide +kernel
theorem d_K_insert_31 : decode c_K_insert 31 = .ok (.aload_n 0, 1) := by decide +kernel
theorem d_K_insert_32 : decode c_K_insert 32 = .ok (.getfield 9, 3) := by decide +kernel
theorem d_K_insert_35 : decode c_K_insert 35 = .ok (.iload_n 3, 1) := by decide +kernel
theorem d_K_insert_36 : decode c_K_insert 36 = .ok (.iconst 1, 1) := by decide +kernel
theorem d_K_insert_37 : decode c_K_insert 37 = .ok (.isub, 1) := by decide +kernel
theorem d_K_insert_38 : decode c_K_insert 38 = .ok (.iaload, 1) := by decide +kernel
theorem d_K_insert_39 : decode c_K_insert 39 = .ok (.iastore, 1) := by decide +kernel
theorem d_K_insert_40 : decode c_K_insert 40 = .ok (.iinc 3 (-1), 3) := by decide +kernel
theorem d_K_insert_43 : decode c_K_insert 43 = .ok (.goto (-38), 3) := by decide +kernel
theorem d_K_insert_46 : decode c_K_insert 46 = .ok (.aload_n 0, 1) := by decide +kernel
theorem d_K_insert_47 : decode c_K_insert 47 = .ok (.getfield 9, 3) := by decide +kernel
theorem d_K_insert_50 : decode c_K_insert 50 = .ok (.iload_n 3, 1) := by decide +kernel
theorem d_K_insert_51 : decode c_K_insert 51 = .ok (.iload_n 1, 1) := by decide +kernel
theorem d_K_insert_52 : decode c_K_insert 52 = .ok (.iastore, 1) := by decide +kernel
theorem d_K_insert_53 : decode c_K_insert 53 = .ok (.aload_n 0, 1) := by decide +kernel
theorem d_K_insert_54 : decode c_K_insert 54 = .ok (.dup, 1) := by decide +kernel
theorem d_K_insert_55 : decode c_K_insert 55 = .ok (.getfield 31, 3) := by decide +kernel
theorem d_K_insert_58 : decode c_K_insert 58 = .ok (.iconst 1, 1) := by decide +kernel
theorem d_K_insert_59 : decode c_K_insert 59 = .ok (.iadd, 1) := by decide +kernel
theorem d_K_insert_60 : decode c_K_insert 60 = .ok (.putfield 31, 3) := by decide +kernel
theorem d_K_insert_63 : decode c_K_insert 63 = .ok (.return_, 1) := by decide +kernel
theorem d_K_makeLengths_0 : decode c_K_makeLengths 0 = .ok (.iconst 0, 1) := by decide +kernel
theorem d_K_makeLengths_1 : decode c_K_makeLengths 1 = .ok (.istore 4, 2) := by decide +kernel
theorem d_K_makeLengths_3 : decode c_K_makeLengths 3 = .ok (.iload 4, 2) := by decide +kernel
theorem d_K_makeLengths_5 : decode c_K_makeLengths 5 = .ok (.bipush 48, 2) := by decide +kernel
theorem d_K_makeLengths_7 : decode c_K_makeLengths 7 = .ok (.if_icmp .ge 14, 3) := by decide +kernel
theorem d_K_makeLengths_10 : decode c_K_makeLengths 10 = .ok (.aload_n 3, 1) := by decide +kernel
theorem d_K_makeLengths_11 : decode c_K_makeLengths 11 = .ok (.iload 4, 2) := by decide +kernel
theorem d_K_makeLengths_13 : decode c_K_makeLengths 13 = .ok (.iconst 0, 1) := by decide +kernel
theorem d_K_makeLengths_14 : decode c_K_makeLengths 14 = .ok (.iastore, 1) := by decide +kernel
theorem d_K_makeLengths_15 : decode c_K_makeLengths 15 = .ok (.iinc 4 1, 3) := by decide +kernel
theorem d_K_makeLengths_18 : decode c_K_makeLengths 18 = .ok (.goto (-15), 3) := by decide +kernel
theorem d_K_makeLengths_21 : decode c_K_makeLengths 21 = .ok (.aload_n 0, 1) := by decide +kernel
theorem d_K_makeLengths_22 : decode c_K_makeLengths 22 = .ok (.getfield 31, 3) := by decide +kernel
theorem d_K_makeLengths_25 : decode c_K_makeLengths 25 = .ok (.iconst 1, 1) := by decide +kernel
theorem d_K_makeLengths_26 : decode c_K_makeLengths 26 = .ok (.if_icmp .ne 12, 3) := by decide +kernel
theorem d_K_makeLengths_29 : decode c_K_makeLengths 29 = .ok (.aload_n 3, 1) := by decide +kernel
theorem d_K_makeLengths_30 : decode c_K_makeLengths 30 = .ok (.aload_n 0, 1) := by decide +kernel
theorem d_K_makeLengths_31 : decode c_K_makeLengths 31 = .ok (.getfield 9, 3) := by decide +kernel
theorem d_K_makeLengths_34 : decode c_K_makeLengths 34 = .ok (.iconst 0, 1) := by decide +kernel
theorem d_K_makeLengths_35 : decode c_K_makeLengths 35 = .ok (.iaload, 1) := by decide +kernel
theorem d_K_makeLengths_36 : decode c_K_makeLengths 36 = .ok (.iconst 1, 1) := by decide +kernel
theorem d_K_makeLengths_37 : decode c_K_makeLengths 37 = .ok (.iastore, 1) := by decide +kernel
theorem d_K_makeLengths_38 : decode c_K_makeLengths 38 = .ok (.aload_n 0, 1) := by decide +kernel
theorem d_K_makeLengths_39 : decode c_K_makeLengths 39 = .ok (.getfield 31, 3) := by decide +kernel
theorem d_K_makeLengths_42 : decode c_K_makeLengths 42 = .ok (.iconst 2, 1) := by decide +kernel
theorem d_K_makeLengths_43 : decode c_K_makeLengths 43 = .ok (.if_icmp .ge 4, 3) := by decide +kernel
theorem d_K_makeLengths_46 : decode c_K_makeLengths 46 = .ok (.return_, 1) := by decide +kernel
theorem d_K_makeLengths_47 : decode c_K_makeLengths 47 = .ok (.aload_n 0, 1) := by decide +kernel
theorem d_K_makeLengths_48 : decode c_K_makeLengths 48 = .ok (.iconst 0, 1) := by decide +kernel
theorem d_K_makeLengths_49 : decode c_K_makeLengths 49 = .ok (.putfield 27, 3) := by decide +kernel
theorem d_K_makeLengths_52 : decode c_K_makeLengths 52 = .ok (.iconst 0, 1) := by decide +kernel
theorem d_K_makeLengths_53 : decode c_K_makeLengths 53 = .ok (.istore 4, 2) := by decide +kernel
theorem d_K_makeLengths_55 : decode c_K_makeLengths 55 = .ok (.iload 4, 2) := by decide +kernel
theorem d_K_makeLengths_57 : decode c_K_makeLengths 57 = .ok (.iload_n 2, 1) := by decide +kernel
theorem d_K_makeLengths_58 : decode c_K_makeLengths 58 = .ok (.if_icmp .ge 16, 3) := by decide +kernel
theorem d_K_makeLengths_61 : decode c_K_makeLengths 61 = .ok (.aload_n 0, 1) := by decide +kernel
theorem d_K_makeLengths_62 : decode c_K_makeLengths 62 = .ok (.iload 4, 2) := by decide +kernel
theorem d_K_makeLengths_64 : decode c_K_makeLengths 64 = .ok (.aload_n 1, 1) := by decide +kernel
theorem d_K_makeLengths_65 : decode c_K_makeLengths 65 = .ok (.invokevirtual 38, 3) := by decide +kernel
theorem d_K_makeLengths_68 : decode c_K_makeLengths 68 = .ok (.iinc 4 1, 3) := by decide +kernel
theorem d_K_makeLengths_71 : decode c_K_makeLengths 71 = .ok (.goto (-16), 3) := by decide +kernel
theorem d_K_makeLengths_74 : decode c_K_makeLengths 74 = .ok (.aload_n 0, 1) := by decide +kernel
theorem d_K_makeLengths_75 : decode c_K_makeLengths 75 = .ok (.iload_n 2, 1) := by decide +kernel
theorem d_K_makeLengths_76 : decode c_K_makeLengths 76 = .ok (.aload_n 3, 1) := by decide +kernel
theorem d_K_makeLengths_77 : decode c_K_makeLengths 77 = .ok (.invokevirtual 41, 3) := by decide +kernel
theorem d_K_makeLengths_80 : decode c_K_makeLengths 80 = .ok (.return_, 1) := by decide +kernel
theorem d_K_buildRow_0 : decode c_K_buildRow 0 = .ok (.aload_n 0, 1) := by decide +kernel
theorem d_K_buildRow_1 : decode c_K_buildRow 1 = .ok (.getfield 27, 3) := by decide +kernel
theorem d_K_buildRow_4 : decode c_K_buildRow 4 = .ok (.iconst 2, 1) := by decide +kernel
theorem d_K_buildRow_5 : decode c_K_buildRow 5 = .ok (.idiv, 1) := by decide +kernel
theorem d_K_buildRow_6 : decode c_K_buildRow 6 = .ok (.istore_n 3, 1) := by decide +kernel
theorem d_K_buildRow_7 : decode c_K_buildRow 7 = .ok (.iconst 0, 1) := by decide +kernel
theorem d_K_buildRow_8 : decode c_K_buildRow 8 = .ok (.istore 4, 2) := by decide +kernel
theorem d_K_buildRow_10 : decode c_K_buildRow 10 = .ok (.iconst 0, 1) := by decide +kernel
theorem d_K_buildRow_11 : decode c_K_buildRow 11 = .ok (.istore 5, 2) := by decide +kernel
theorem d_K_buildRow_13 : decode c_K_buildRow 13 = .ok (.aload_n 0, 1) := by decide +kernel
theorem d_K_buildRow_14 : decode c_K_buildRow 14 = .ok (.aload_n 0, 1) := by decide +kernel
theorem d_K_buildRow_15 : decode c_K_buildRow 15 = .ok (.getfield 31, 3) := by decide +kernel
theorem d_K_buildRow_18 : decode c_K_buildRow 18 = .ok (.iload_n 3, 1) := by decide +kernel
theorem d_K_buildRow_19 : decode c_K_buildRow 19 = .ok (.iadd, 1) := by decide +kernel
theorem d_K_buildRow_20 : decode c_K_buildRow 20 = .ok (.putfield 27, 3) := by decide +kernel
theorem d_K_buildRow_23 : decode c_K_buildRow 23 = .ok (.iconst 0, 1) := by decide +kernel
theorem d_K_buildRow_24 : decode c_K_buildRow 24 = .ok (.istore 6, 2) := by decide +kernel
theorem d_K_buildRow_26 : decode c_K_buildRow 26 = .ok (.iload 6, 2) := by decide +kernel
theorem d_K_buildRow_28 : decode c_K_buildRow 28 = .ok (.aload_n 0, 1) := by decide +kernel
theorem d_K_buildRow_29 : decode c_K_buildRow 29 = .ok (.getfield 27, 3) := by decide +kernel
theorem d_K_buildRow_32 : decode c_K_buildRow 32 = .ok (.if_icmp .ge 113, 3) := by decide +kernel
theorem d_K_buildRow_35 : decode c_K_buildRow 35 = .ok (.iload 5, 2) := by decide +kernel
theorem d_K_buildRow_37 : decode c_K_buildRow 37 = .ok (.iload_n 3, 1) := by decide +kernel
theorem d_K_buildRow_38 : decode c_K_buildRow 38 = .ok (.if_icmp .ge 27, 3) := by decide +kernel
theorem d_K_buildRow_41 : decode c_K_buildRow 41 = .ok (.aload_n 0, 1) := by decide +kernel
theorem d_K_buildRow_42 : decode c_K_buildRow 42 = .ok (.getfield 20, 3) := by decide +kernel
theorem d_K_buildRow_45 : decode c_K_buildRow 45 = .ok (.iconst 2, 1) := by decide +kernel
theorem d_K_buildRow_46 : decode c_K_buildRow 46 = .ok (.iload 5, 2) := by decide +kernel
theorem d_K_buildRow_48 : decode c_K_buildRow 48 = .ok (.imul, 1) := by decide +kernel
theorem d_K_buildRow_49 : decode c_K_buildRow 49 = .ok (.laload, 1) := by decide +kernel
theorem d_K_buildRow_50 : decode c_K_buildRow 50 = .ok (.aload_n 0, 1) := by decide +kernel
theorem d_K_buildRow_51 : decode c_K_buildRow 51 = .ok (.getfield 20, 3) := by decide +kernel
theorem d_K_buildRow_54 : decode c_K_buildRow 54 = .ok (.iconst 2, 1) := by decide +kernel
theorem d_K_buildRow_55 : decode c_K_buildRow 55 = .ok (.iload 5, 2) := by decide +kernel
theorem d_K_buildRow_57 : decode c_K_buildRow 57 = .ok (.imul, 1) := by decide +kernel
theorem d_K_buildRow_58 : decode c_K_buildRow 58 = .ok (.iconst 1, 1) := by decide +kernel
theorem d_K_buildRow_59 : decode c_K_buildRow 59 = .ok (.iadd, 1) := by decide +kernel
theorem d_K_buildRow_60 : decode c_K_buildRow 60 = .ok (.laload, 1) := by decide +kernel
theorem d_K_buildRow_61 : decode c_K_buildRow 61 = .ok (.ladd, 1) := by decide +kernel
theorem d_K_buildRow_62 : decode c_K_buildRow 62 = .ok (.goto 6, 3) := by decide +kernel
theorem d_K_buildRow_65 : decode c_K_buildRow 65 = .ok (.ldc2_w 47, 3) := by decide +kernel
theorem d_K_buildRow_68 : decode c_K_buildRow 68 = .ok (.lstore 7, 2) := by decide +kernel
theorem d_K_buildRow_70 : decode c_K_buildRow 70 = .ok (.iload 4, 2) := by decide +kernel
theorem d_K_buildRow_72 : decode c_K_buildRow 72 = .ok (.aload_n 0, 1) := by decide +kernel
theorem d_K_buildRow_73 : decode c_K_buildRow 73 = .ok (.getfield 31, 3) := by decide +kernel
theorem d_K_buildRow_76 : decode c_K_buildRow 76 = .ok (.if_icmp .ge 51, 3) := by decide +kernel
theorem d_K_buildRow_79 : decode c_K_buildRow 79 = .ok (.aload_n 2, 1) := by decide +kernel
theorem d_K_buildRow_80 : decode c_K_buildRow 80 = .ok (.aload_n 0, 1) := by decide +kernel
theorem d_K_buildRow_81 : decode c_K_buildRow 81 = .ok (.getfield 9, 3) := by decide +kernel
theorem d_K_buildRow_84 : decode c_K_buildRow 84 = .ok (.iload 4, 2) := by decide +kernel
theorem d_K_buildRow_86 : decode c_K_buildRow 86 = .ok (.iaload, 1) := by decide +kernel
theorem d_K_buildRow_87 : decode c_K_buildRow 87 = .ok (.laload, 1) := by decide +kernel
theorem d_K_buildRow_88 : decode c_K_buildRow 88 = .ok (.lload 7, 2) := by decide +kernel
theorem d_K_buildRow_90 : decode c_K_buildRow 90 = .ok (.lcmp, 1) := by decide +kernel
theorem d_K_buildRow_91 : decode c_K_buildRow 91 = .ok (.ifCond .gt 36, 3) := by decide +kernel
theorem d_K_buildRow_94 : decode c_K_buildRow 94 = .ok (.aload_n 0, 1) := by decide +kernel
theorem d_K_buildRow_95 : decode c_K_buildRow 95 = .ok (.getfield 17, 3) := by decide +kernel
theorem d_K_buildRow_98 : decode c_K_buildRow 98 = .ok (.iload_n 1, 1) := by decide +kernel
theorem d_K_buildRow_99 : decode c_K_buildRow 99 = .ok (.aaload, 1) := by decide +kernel
theorem d_K_buildRow_100 : decode c_K_buildRow 100 = .ok (.iload 4, 2) := by decide +kernel
theorem d_K_buildRow_102 : decode c_K_buildRow 102 = .ok (.iload 6, 2) := by decide +kernel
theorem d_K_buildRow_104 : decode c_K_buildRow 104 = .ok (.iastore, 1) := by decide +kernel
theorem d_K_buildRow_105 : decode c_K_buildRow 105 = .ok (.aload_n 0, 1) := by decide +kernel
theorem d_K_buildRow_106 : decode c_K_buildRow 106 = .ok (.getfield 24, 3) := by decide +kernel
theorem d_K_buildRow_109 : decode c_K_buildRow 109 = .ok (.iload 6, 2) := by decide +kernel
theorem d_K_buildRow_111 : decode c_K_buildRow 111 = .ok (.aload_n 2, 1) := by decide +kernel
theorem d_K_buildRow_112 : decode c_K_buildRow 112 = .ok (.aload_n 0, 1) := by decide +kernel
theorem d_K_buildRow_113 : decode c_K_buildRow 113 = .ok (.getfield 9, 3) := by decide +kernel
theorem d_K_buildRow_116 : decode c_K_buildRow 116 = .ok (.iload 4, 2) := by decide +kernel
theorem d_K_buildRow_118 : decode c_K_buildRow 118 = .ok (.iaload, 1) := by decide +kernel
theorem d_K_buildRow_119 : decode c_K_buildRow 119 = .ok (.laload, 1) := by decide +kernel
theorem d_K_buildRow_120 : decode c_K_buildRow 120 = .ok (.lastore, 1) := by decide +kernel
theorem d_K_buildRow_121 : decode c_K_buildRow 121 = .ok (.iinc 4 1, 3) := by decide +kernel
theorem d_K_buildRow_124 : decode c_K_buildRow 124 = .ok (.goto 15, 3) := by decide +kernel
theorem d_K_buildRow_127 : decode c_K_buildRow 127 = .ok (.aload_n 0, 1) := by decide +kernel
theorem d_K_buildRow_128 : decode c_K_buildRow 128 = .ok (.getfield 24, 3) := by decide +kernel
theorem d_K_buildRow_131 : decode c_K_buildRow 131 = .ok (.iload 6, 2) := by decide +kernel
theorem d_K_buildRow_133 : decode c_K_buildRow 133 = .ok (.lload 7, 2) := by decide +kernel
theorem d_K_buildRow_135 : decode c_K_buildRow 135 = .ok (.lastore, 1) := by decide +kernel
theorem d_K_buildRow_136 : decode c_K_buildRow 136 = .ok (.iinc 5 1, 3) := by decide +kernel
theorem d_K_buildRow_139 : decode c_K_buildRow 139 = .ok (.iinc 6 1, 3) := by decide +kernel
theorem d_K_buildRow_142 : decode c_K_buildRow 142 = .ok (.goto (-116), 3) := by decide +kernel
theorem d_K_buildRow_145 : decode c_K_buildRow 145 = .ok (.aload_n 0, 1) := by decide +kernel
theorem d_K_buildRow_146 : decode c_K_buildRow 146 = .ok (.getfield 20, 3) := by decide +kernel
theorem d_K_buildRow_149 : decode c_K_buildRow 149 = .ok (.astore 6, 2) := by decide +kernel
theorem d_K_buildRow_151 : decode c_K_buildRow 151 = .ok (.aload_n 0, 1) := by decide +kernel
theorem d_K_buildRow_152 : decode c_K_buildRow 152 = .ok (.aload_n 0, 1) := by decide +kernel
theorem d_K_buildRow_153 : decode c_K_buildRow 153 = .ok (.getfield 24, 3) := by decide +kernel
theorem d_K_buildRow_156 : decode c_K_buildRow 156 = .ok (.putfield 20, 3) := by decide +kernel
theorem d_K_buildRow_159 : decode c_K_buildRow 159 = .ok (.aload_n 0, 1) := by decide +kernel
theorem d_K_buildRow_160 : decode c_K_buildRow 160 = .ok (.aload 6, 2) := by decide +kernel
theorem d_K_buildRow_162 : decode c_K_buildRow 162 = .ok (.putfield 24, 3) := by decide +kernel
theorem d_K_buildRow_165 : decode c_K_buildRow 165 = .ok (.return_, 1) := by decide +kernel
theorem d_K_countTaken_0 : decode c_K_countTaken 0 = .ok (.iconst 2, 1) := by decide +kernel
theorem d_K_countTaken_1 : decode c_K_countTaken 1 = .ok (.aload_n 0, 1) := by decide +kernel
theorem d_K_countTaken_2 : decode c_K_countTaken 2 = .ok (.getfield 31, 3) := by decide +kernel
theorem d_K_countTaken_5 : decode c_K_countTaken 5 = .ok (.imul, 1) := by decide +kernel
theorem d_K_countTaken_6 : decode c_K_countTaken 6 = .ok (.iconst 2, 1) := by decide +kernel
theorem d_K_countTaken_7 : decode c_K_countTaken 7 = .ok (.isub, 1) := by decide +kernel
theorem d_K_countTaken_8 : decode c_K_countTaken 8 = .ok (.istore_n 3, 1) := by decide +kernel
theorem d_K_countTaken_9 : decode c_K_countTaken 9 = .ok (.iload_n 1, 1) := by decide +kernel
theorem d_K_countTaken_10 : decode c_K_countTaken 10 = .ok (.iconst 1, 1) := by decide +kernel
theorem d_K_countTaken_11 : decode c_K_countTaken 11 = .ok (.isub, 1) := by decide +kernel
theorem d_K_countTaken_12 : decode c_K_countTaken 12 = .ok (.istore 4, 2) := by decide +kernel
theorem d_K_countTaken_14 : decode c_K_countTaken 14 = .ok (.iload 4, 2) := by decide +kernel
theorem d_K_countTaken_16 : decode c_K_countTaken 16 = .ok (.ifCond .lt 61, 3) := by decide +kernel
theorem d_K_countTaken_19 : decode c_K_countTaken 19 = .ok (.iconst 0, 1) := by decide +kernel
theorem d_K_countTaken_20 : decode c_K_countTaken 20 = .ok (.istore 5, 2) := by decide +kernel
theorem d_K_countTaken_22 : decode c_K_countTaken 22 = .ok (.iload 5, 2) := by decide +kernel
theorem d_K_countTaken_24 : decode c_K_countTaken 24 = .ok (.aload_n 0, 1) := by decide +kernel
theorem d_K_countTaken_25 : decode c_K_countTaken 25 = .ok (.getfield 31, 3) := by decide +kernel
theorem d_K_countTaken_28 : decode c_K_countTaken 28 = .ok (.if_icmp .ge 36, 3) := by decide +kernel
theorem d_K_countTaken_31 : decode c_K_countTaken 31 = .ok (.aload_n 0, 1) := by decide +kernel
theorem d_K_countTaken_32 : decode c_K_countTaken 32 = .ok (.getfield 17, 3) := by decide +kernel
theorem d_K_countTaken_35 : decode c_K_countTaken 35 = .ok (.iload 4, 2) := by decide +kernel
theorem d_K_countTaken_37 : decode c_K_countTaken 37 = .ok (.aaload, 1) := by decide +kernel
theorem d_K_countTaken_38 : decode c_K_countTaken 38 = .ok (.iload 5, 2) := by decide +kernel
theorem d_K_countTaken_40 : decode c_K_countTaken 40 = .ok (.iaload, 1) := by decide +kernel
theorem d_K_countTaken_41 : decode c_K_countTaken 41 = .ok (.iload_n 3, 1) := by decide +kernel
theorem d_K_countTaken_42 : decode c_K_countTaken 42 = .ok (.if_icmp .ge 22, 3) := by decide +kernel
theorem d_K_countTaken_45 : decode c_K_countTaken 45 = .ok (.aload_n 2, 1) := by decide +kernel
theorem d_K_countTaken_46 : decode c_K_countTaken 46 = .ok (.aload_n 0, 1) := by decide +kernel
theorem d_K_countTaken_47 : decode c_K_countTaken 47 = .ok (.getfield 9, 3) := by decide +kernel
theorem d_K_countTaken_50 : decode c_K_countTaken 50 = .ok (.iload 5, 2) := by decide +kernel
theorem d_K_countTaken_52 : decode c_K_countTaken 52 = .ok (.iaload, 1) := by decide +kernel
theorem d_K_countTaken_53 : decode c_K_countTaken 53 = .ok (.dup2, 1) := by decide +kernel
theorem d_K_countTaken_54 : decode c_K_countTaken 54 = .ok (.iaload, 1) := by decide +kernel
theorem d_K_countTaken_55 : decode c_K_countTaken 55 = .ok (.iconst 1, 1) := by decide +kernel
theorem d_K_countTaken_56 : decode c_K_countTaken 56 = .ok (.iadd, 1) := by decide +kernel
theorem d_K_countTaken_57 : decode c_K_countTaken 57 = .ok (.iastore, 1) := by decide +kernel
theorem d_K_countTaken_58 : decode c_K_countTaken 58 = .ok (.iinc 5 1, 3) := by decide +kernel
theorem d_K_countTaken_61 : decode c_K_countTaken 61 = .ok (.goto (-39), 3) := by decide +kernel
theorem d_K_countTaken_64 : decode c_K_countTaken 64 = .ok (.iconst 2, 1) := by decide +kernel
theorem d_K_countTaken_65 : decode c_K_countTaken 65 = .ok (.iload_n 3, 1) := by decide +kernel
theorem d_K_countTaken_66 : decode c_K_countTaken 66 = .ok (.iload 5, 2) := by decide +kernel
theorem d_K_countTaken_68 : decode c_K_countTaken 68 = .ok (.isub, 1) := by decide +kernel
theorem d_K_countTaken_69 : decode c_K_countTaken 69 = .ok (.imul, 1) := by decide +kernel
theorem d_K_countTaken_70 : decode c_K_countTaken 70 = .ok (.istore_n 3, 1) := by decide +kernel
theorem d_K_countTaken_71 : decode c_K_countTaken 71 = .ok (.iinc 4 (-1), 3) := by decide +kernel
theorem d_K_countTaken_74 : decode c_K_countTaken 74 = .ok (.goto (-60), 3) := by decide +kernel
theorem d_K_countTaken_77 : decode c_K_countTaken 77 = .ok (.return_, 1) := by decide +kernel
theorem d_T_init_0 : decode c_T_init 0 = .ok (.aload_n 0, 1) := by decide +kernel
theorem d_T_init_1 : decode c_T_init 1 = .ok (.invokespecial 3, 3) := by decide +kernel
theorem d_T_init_4 : decode c_T_init 4 = .ok (.aload_n 0, 1) := by decide +kernel
theorem d_T_init_5 : decode c_T_init 5 = .ok (.bipush 48, 2) := by decide +kernel
theorem d_T_init_7 : decode c_T_init 7 = .ok (.newarray .int, 2) := by decide +kernel
theorem d_T_init_9 : decode c_T_init 9 = .ok (.putfield 9, 3) := by decide +kernel
theorem d_T_init_12 : decode c_T_init 12 = .ok (.aload_n 0, 1) := by decide +kernel
theorem d_T_init_13 : decode c_T_init 13 = .ok (.bipush 48, 2) := by decide +kernel
theorem d_T_init_15 : decode c_T_init 15 = .ok (.newarray .int, 2) := by decide +kernel
theorem d_T_init_17 : decode c_T_init 17 = .ok (.putfield 15, 3) := by decide +kernel
theorem d_T_init_20 : decode c_T_init 20 = .ok (.aload_n 0, 1) := by decide +kernel
theorem d_T_init_21 : decode c_T_init 21 = .ok (.bipush 17, 2) := by decide +kernel
theorem d_T_init_23 : decode c_T_init 23 = .ok (.newarray .int, 2) := by decide +kernel
theorem d_T_init_25 : decode c_T_init 25 = .ok (.putfield 18, 3) := by decide +kernel
theorem d_T_init_28 : decode c_T_init 28 = .ok (.aload_n 0, 1) := by decide +kernel
theorem d_T_init_29 : decode c_T_init 29 = .ok (.bipush 17, 2) := by decide +kernel
theorem d_T_init_31 : decode c_T_init 31 = .ok (.newarray .int, 2) := by decide +kernel
theorem d_T_init_33 : decode c_T_init 33 = .ok (.putfield 21, 3) := by decide +kernel
theorem d_T_init_36 : decode c_T_init 36 = .ok (.aload_n 0, 1) := by decide +kernel
theorem d_T_init_37 : decode c_T_init 37 = .ok (.iconst 0, 1) := by decide +kernel
theorem d_T_init_38 : decode c_T_init 38 = .ok (.putfield 24, 3) := by decide +kernel
theorem d_T_init_41 : decode c_T_init 41 = .ok (.aload_n 0, 1) := by decide +kernel
theorem d_T_init_42 : decode c_T_init 42 = .ok (.iload_n 1, 1) := by decide +kernel
theorem d_T_init_43 : decode c_T_init 43 = .ok (.putfield 28, 3) := by decide +kernel
theorem d_T_init_46 : decode c_T_init 46 = .ok (.return_, 1) := by decide +kernel
theorem d_T_state_0 : decode c_T_state 0 = .ok (.aload_n 0, 1) := by decide +kernel
theorem d_T_state_1 : decode c_T_state 1 = .ok (.getfield 24, 3) := by decide +kernel
theorem d_T_state_4 : decode c_T_state 4 = .ok (.ldc 31, 2) := by decide +kernel
theorem d_T_state_6 : decode c_T_state 6 = .ok (.if_icmp .le 5, 3) := by decide +kernel
theorem d_T_state_9 : decode c_T_state 9 = .ok (.iconst 2, 1) := by decide +kernel
theorem d_T_state_10 : decode c_T_state 10 = .ok (.ireturn, 1) := by decide +kernel
theorem d_T_state_11 : decode c_T_state 11 = .ok (.aload_n 0, 1) := by decide +kernel
theorem d_T_state_12 : decode c_T_state 12 = .ok (.getfield 24, 3) := by decide +kernel
theorem d_T_state_15 : decode c_T_state 15 = .ok (.ldc 31, 2) := by decide +kernel
theorem d_T_state_17 : decode c_T_state 17 = .ok (.if_icmp .ne 7, 3) := by decide +kernel
theorem d_T_state_20 : decode c_T_state 20 = .ok (.iconst 0, 1) := by decide +kernel
theorem d_T_state_21 : decode c_T_state 21 = .ok (.goto 4, 3) := by decide +kernel
theorem d_T_state_24 : decode c_T_state 24 = .ok (.iconst 1, 1) := by decide +kernel
theorem d_T_state_25 : decode c_T_state 25 = .ok (.ireturn, 1) := by decide +kernel
theorem d_T_renew_0 : decode c_T_renew 0 = .ok (.aload_n 0, 1) := by decide +kernel
theorem d_T_renew_1 : decode c_T_renew 1 = .ok (.invokevirtual 32, 3) := by decide +kernel
theorem d_T_renew_4 : decode c_T_renew 4 = .ok (.aload_n 0, 1) := by decide +kernel
theorem d_T_renew_5 : decode c_T_renew 5 = .ok (.iconst 0, 1) := by decide +kernel
theorem d_T_renew_6 : decode c_T_renew 6 = .ok (.putfield 24, 3) := by decide +kernel
theorem d_T_renew_9 : decode c_T_renew 9 = .ok (.iconst 1, 1) := by decide +kernel
theorem d_T_renew_10 : decode c_T_renew 10 = .ok (.istore_n 1, 1) := by decide +kernel
theorem d_T_renew_11 : decode c_T_renew 11 = .ok (.iload_n 1, 1) := by decide +kernel
theorem d_T_renew_12 : decode c_T_renew 12 = .ok (.bipush 16, 2) := by decide +kernel
theorem d_T_renew_14 : decode c_T_renew 14 = .ok (.if_icmp .gt 29, 3) := by decide +kernel
theorem d_T_renew_17 : decode c_T_renew 17 = .ok (.aload_n 0, 1) := by decide +kernel
theorem d_T_renew_18 : decode c_T_renew 18 = .ok (.dup, 1) := by decide +kernel
theorem d_T_renew_19 : decode c_T_renew 19 = .ok (.getfield 24, 3) := by decide +kernel
theorem d_T_renew_22 : decode c_T_renew 22 = .ok (.aload_n 0, 1) := by decide +kernel
theorem d_T_renew_23 : decode c_T_renew 23 = .ok (.getfield 18, 3) := by decide +kernel
theorem d_T_renew_26 : decode c_T_renew 26 = .ok (.iload_n 1, 1) := by decide +kernel
theorem d_T_renew_27 : decode c_T_renew 27 = .ok (.iaload, 1) := by decide +kernel
theorem d_T_renew_28 : decode c_T_renew 28 = .ok (.ldc 31, 2) := by decide +kernel
theorem d_T_renew_30 : decode c_T_renew 30 = .ok (.iload_n 1, 1) := by decide +kernel
theorem d_T_renew_31 : decode c_T_renew 31 = .ok (.ishr, 1) := by decide +kernel
theorem d_T_renew_32 : decode c_T_renew 32 = .ok (.imul, 1) := by decide +kernel
theorem d_T_renew_33 : decode c_T_renew 33 = .ok (.iadd, 1) := by decide +kernel
theorem d_T_renew_34 : decode c_T_renew 34 = .ok (.putfield 24, 3) := by decide +kernel
theorem d_T_renew_37 : decode c_T_renew 37 = .ok (.iinc 1 1, 3) := by decide +kernel
theorem d_T_renew_40 : decode c_T_renew 40 = .ok (.goto (-29), 3) := by decide +kernel
theorem d_T_renew_43 : decode c_T_renew 43 = .ok (.aload_n 0, 1) := by decide +kernel
theorem d_T_renew_44 : decode c_T_renew 44 = .ok (.getfield 24, 3) := by decide +kernel
theorem d_T_renew_47 : decode c_T_renew 47 = .ok (.ldc 31, 2) := by decide +kernel
theorem d_T_renew_49 : decode c_T_renew 49 = .ok (.if_icmp .gt 7, 3) := by decide +kernel
theorem d_T_renew_52 : decode c_T_renew 52 = .ok (.aload_n 0, 1) := by decide +kernel
theorem d_T_renew_53 : decode c_T_renew 53 = .ok (.invokevirtual 35, 3) := by decide +kernel
theorem d_T_renew_56 : decode c_T_renew 56 = .ok (.return_, 1) := by decide +kernel
theorem d_T_countSharing_0 : decode c_T_countSharing 0 = .ok (.iconst 0, 1) := by decide +kernel
theorem d_T_countSharing_1 : decode c_T_countSharing 1 = .ok (.istore_n 1, 1) := by decide +kernel
theorem d_T_countSharing_2 : decode c_T_countSharing 2 = .ok (.iload_n 1, 1) := by decide +kernel
theorem d_T_countSharing_3 : decode c_T_countSharing 3 = .ok (.bipush 16, 2) := by decide +kernel
theorem d_T_countSharing_5 : decode c_T_countSharing 5 = .ok (.if_icmp .gt 16, 3) := by decide +kernel
theorem d_T_countSharing_8 : decode c_T_countSharing 8 = .ok (.aload_n 0, 1) := by decide +kernel
theorem d_T_countSharing_9 : decode c_T_countSharing 9 = .ok (.getfield 18, 3) := by decide +kernel
theorem d_T_countSharing_12 : decode c_T_countSharing 12 = .ok (.iload_n 1, 1) := by decide +kernel
theorem d_T_countSharing_13 : decode c_T_countSharing 13 = .ok (.iconst 0, 1) := by decide +kernel
theorem d_T_countSharing_14 : decode c_T_countSharing 14 = .ok (.iastore, 1) := by decide +kernel
theorem d_T_countSharing_15 : decode c_T_countSharing 15 = .ok (.iinc 1 1, 3) := by decide +kernel
theorem d_T_countSharing_18 : decode c_T_countSharing 18 = .ok (.goto (-16), 3) := by decide +kernel
theorem d_T_countSharing_21 : decode c_T_countSharing 21 = .ok (.iconst 0, 1) := by decide +kernel
theorem d_T_countSharing_22 : decode c_T_countSharing 22 = .ok (.istore_n 1, 1) := by decide +kernel
theorem d_T_countSharing_23 : decode c_T_countSharing 23 = .ok (.iload_n 1, 1) := by decide +kernel
theorem d_T_countSharing_24 : decode c_T_countSharing 24 = .ok (.bipush 48, 2) := by decide +kernel
theorem d_T_countSharing_26 : decode c_T_countSharing 26 = .ok (.if_icmp .ge 24, 3) := by decide +kernel
theorem d_T_countSharing_29 : decode c_T_countSharing 29 = .ok (.aload_n 0, 1) := by decide +kernel
theorem d_T_countSharing_30 : decode c_T_countSharing 30 = .ok (.getfield 18, 3) := by decide +kernel
theorem d_T_countSharing_33 : decode c_T_countSharing 33 = .ok (.aload_n 0, 1) := by decide +kernel
theorem d_T_countSharing_34 : decode c_T_countSharing 34 = .ok (.getfield 9, 3) := by decide +kernel
theorem d_T_countSharing_37 : decode c_T_countSharing 37 = .ok (.iload_n 1, 1) := by decide +kernel
theorem d_T_countSharing_38 : decode c_T_countSharing 38 = .ok (.iaload, 1) := by decide +kernel
theorem d_T_countSharing_39 : decode c_T_countSharing 39 = .ok (.dup2, 1) := by decide +kernel
theorem d_T_countSharing_40 : decode c_T_countSharing 40 = .ok (.iaload, 1) := by decide +kernel
theorem d_T_countSharing_41 : decode c_T_countSharing 41 = .ok (.iconst 1, 1) := by decide +kernel
theorem d_T_countSharing_42 : decode c_T_countSharing 42 = .ok (.iadd, 1) := by decide +kernel
theorem d_T_countSharing_43 : decode c_T_countSharing 43 = .ok (.iastore, 1) := by decide +kernel
theorem d_T_countSharing_44 : decode c_T_countSharing 44 = .ok (.iinc 1 1, 3) := by decide +kernel
theorem d_T_countSharing_47 : decode c_T_countSharing 47 = .ok (.goto (-24), 3) := by decide +kernel
theorem d_T_countSharing_50 : decode c_T_countSharing 50 = .ok (.return_, 1) := by decide +kernel
theorem d_T_giveCodes_0 : decode c_T_giveCodes 0 = .ok (.aload_n 0, 1) := by decide +kernel
theorem d_T_giveCodes_1 : decode c_T_giveCodes 1 = .ok (.getfield 28, 3) := by decide +kernel
theorem d_T_giveCodes_4 : decode c_T_giveCodes 4 = .ok (.iconst 2, 1) := by decide +kernel
theorem d_T_giveCodes_5 : decode c_T_giveCodes 5 = .ok (.if_icmp .ne 10, 3) := by decide +kernel
theorem d_T_giveCodes_8 : decode c_T_giveCodes 8 = .ok (.aload_n 0, 1) := by decide +kernel
theorem d_T_giveCodes_9 : decode c_T_giveCodes 9 = .ok (.invokevirtual 38, 3) := by decide +kernel
theorem d_T_giveCodes_12 : decode c_T_giveCodes 12 = .ok (.goto 7, 3) := by decide +kernel
theorem d_T_giveCodes_15 : decode c_T_giveCodes 15 = .ok (.aload_n 0, 1) := by decide +kernel
theorem d_T_giveCodes_16 : decode c_T_giveCodes 16 = .ok (.invokevirtual 41, 3) := by decide +kernel
theorem d_T_giveCodes_19 : decode c_T_giveCodes 19 = .ok (.iconst 0, 1) := by decide +kernel
theorem d_T_giveCodes_20 : decode c_T_giveCodes 20 = .ok (.istore_n 1, 1) := by decide +kernel
theorem d_T_giveCodes_21 : decode c_T_giveCodes 21 = .ok (.iload_n 1, 1) := by decide +kernel
theorem d_T_giveCodes_22 : decode c_T_giveCodes 22 = .ok (.bipush 48, 2) := by decide +kernel
theorem d_T_giveCodes_24 : decode c_T_giveCodes 24 = .ok (.if_icmp .ge 34, 3) := by decide +kernel
theorem d_T_giveCodes_27 : decode c_T_giveCodes 27 = .ok (.aload_n 0, 1) := by decide +kernel
theorem d_T_giveCodes_28 : decode c_T_giveCodes 28 = .ok (.getfield 9, 3) := by decide +kernel
theorem d_T_giveCodes_31 : decode c_T_giveCodes 31 = .ok (.iload_n 1, 1) := by decide +kernel
theorem d_T_giveCodes_32 : decode c_T_giveCodes 32 = .ok (.iaload, 1) := by decide +kernel
theorem d_T_giveCodes_33 : decode c_T_giveCodes 33 = .ok (.ifCond .le 19, 3) := by decide +kernel
theorem d_T_giveCodes_36 : decode c_T_giveCodes 36 = .ok (.aload_n 0, 1) := by decide +kernel
theorem d_T_giveCodes_37 : decode c_T_giveCodes 37 = .ok (.getfield 15, 3) := by decide +kernel
theorem d_T_giveCodes_40 : decode c_T_giveCodes 40 = .ok (.iload_n 1, 1) := by decide +kernel
theorem d_T_giveCodes_41 : decode c_T_giveCodes 41 = .ok (.aload_n 0, 1) := by decide +kernel
theorem d_T_giveCodes_42 : decode c_T_giveCodes 42 = .ok (.aload_n 0, 1) := by decide +kernel
theorem d_T_giveCodes_43 : decode c_T_giveCodes 43 = .ok (.getfield 9, 3) := by decide +kernel
theorem d_T_giveCodes_46 : decode c_T_giveCodes 46 = .ok (.iload_n 1, 1) := by decide +kernel
theorem d_T_giveCodes_47 : decode c_T_giveCodes 47 = .ok (.iaload, 1) := by decide +kernel
theorem d_T_giveCodes_48 : decode c_T_giveCodes 48 = .ok (.invokevirtual 44, 3) := by decide +kernel
theorem d_T_giveCodes_51 : decode c_T_giveCodes 51 = .ok (.iastore, 1) := by decide +kernel
theorem d_T_giveCodes_52 : decode c_T_giveCodes 52 = .ok (.iinc 1 1, 3) := by decide +kernel
theorem d_T_giveCodes_55 : decode c_T_giveCodes 55 = .ok (.goto (-34), 3) := by decide +kernel
theorem d_T_giveCodes_58 : decode c_T_giveCodes 58 = .ok (.return_, 1) := by decide +kernel
theorem d_T_takeCode_0 : decode c_T_takeCode 0 = .ok (.aload_n 0, 1) := by decide +kernel
theorem d_T_takeCode_1 : decode c_T_takeCode 1 = .ok (.getfield 21, 3) := by decide +kernel
theorem d_T_takeCode_4 : decode c_T_takeCode 4 = .ok (.iload_n 1, 1) := by decide +kernel
theorem d_T_takeCode_5 : decode c_T_takeCode 5 = .ok (.iaload, 1) := by decide +kernel
theorem d_T_takeCode_6 : decode c_T_takeCode 6 = .ok (.istore_n 2, 1) := by decide +kernel
theorem d_T_takeCode_7 : decode c_T_takeCode 7 = .ok (.aload_n 0, 1) := by decide +kernel
theorem d_T_takeCode_8 : decode c_T_takeCode 8 = .ok (.getfield 21, 3) := by decide +kernel
theorem d_T_takeCode_11 : decode c_T_takeCode 11 = .ok (.iload_n 1, 1) := by decide +kernel
theorem d_T_takeCode_12 : decode c_T_takeCode 12 = .ok (.dup2, 1) := by decide +kernel
theorem d_T_takeCode_13 : decode c_T_takeCode 13 = .ok (.iaload, 1) := by decide +kernel
theorem d_T_takeCode_14 : decode c_T_takeCode 14 = .ok (.iconst 1, 1) := by decide +kernel
theorem d_T_takeCode_15 : decode c_T_takeCode 15 = .ok (.iadd, 1) := by decide +kernel
theorem d_T_takeCode_16 : decode c_T_takeCode 16 = .ok (.iastore, 1) := by decide +kernel
theorem d_T_takeCode_17 : decode c_T_takeCode 17 = .ok (.aload_n 0, 1) := by decide +kernel
theorem d_T_takeCode_18 : decode c_T_takeCode 18 = .ok (.getfield 28, 3) := by decide +kernel
theorem d_T_takeCode_21 : decode c_T_takeCode 21 = .ok (.iconst 1, 1) := by decide +kernel
theorem d_T_takeCode_22 : decode c_T_takeCode 22 = .ok (.if_icmp .ne 13, 3) := by decide +kernel
theorem d_T_takeCode_25 : decode c_T_takeCode 25 = .ok (.iconst 1, 1) := by decide +kernel
theorem d_T_takeCode_26 : decode c_T_takeCode 26 = .ok (.iload_n 1, 1) := by decide +kernel
theorem d_T_takeCode_27 : decode c_T_takeCode 27 = .ok (.ishl, 1) := by decide +kernel
theorem d_T_takeCode_28 : decode c_T_takeCode 28 = .ok (.iconst 1, 1) := by decide +kernel
theorem d_T_takeCode_29 : decode c_T_takeCode 29 = .ok (.isub, 1) := by decide +kernel
theorem d_T_takeCode_30 : decode c_T_takeCode 30 = .ok (.iload_n 2, 1) := by decide +kernel
theorem d_T_takeCode_31 : decode c_T_takeCode 31 = .ok (.isub, 1) := by decide +kernel
theorem d_T_takeCode_32 : decode c_T_takeCode 32 = .ok (.goto 4, 3) := by decide +kernel
theorem d_T_takeCode_35 : decode c_T_takeCode 35 = .ok (.iload_n 2, 1) := by decide +kernel
theorem d_T_takeCode_36 : decode c_T_takeCode 36 = .ok (.ireturn, 1) := by decide +kernel
theorem d_T_startShortestFirst_0 : decode c_T_startShortestFirst 0 = .ok (.iconst 0, 1) := by decide +kernel
theorem d_T_startShortestFirst_1 : decode c_T_startShortestFirst 1 = .ok (.istore_n 1, 1) := by decide +kernel
theorem d_T_startShortestFirst_2 : decode c_T_startShortestFirst 2 = .ok (.iconst 1, 1) := by decide +kernel
theorem d_T_startShortestFirst_3 : decode c_T_startShortestFirst 3 = .ok (.istore_n 2, 1) := by decide +kernel
theorem d_T_startShortestFirst_4 : decode c_T_startShortestFirst 4 = .ok (.iload_n 2, 1) := by decide +kernel
theorem d_T_startShortestFirst_5 : decode c_T_startShortestFirst 5 = .ok (.bipush 16, 2) := by decide +kernel
theorem d_T_startShortestFirst_7 : decode c_T_startShortestFirst 7 = .ok (.if_icmp .gt 29, 3) := by decide +kernel
theorem d_T_startShortestFirst_10 : decode c_T_startShortestFirst 10 = .ok (.iconst 2, 1) := by decide +kernel
theorem d_T_startShortestFirst_11 : decode c_T_startShortestFirst 11 = .ok (.iload_n 1, 1) := by decide +kernel
theorem d_T_startShortestFirst_12 : decode c_T_startShortestFirst 12 = .ok (.imul, 1) := by decide +kernel
theorem d_T_startShortestFirst_13 : decode c_T_startShortestFirst 13 = .ok (.istore_n 1, 1) := by decide +kernel
theorem d_T_startShortestFirst_14 : decode c_T_startShortestFirst 14 = .ok (.aload_n 0, 1) := by decide +kernel
theorem d_T_startShortestFirst_15 : decode c_T_startShortestFirst 15 = .ok (.getfield 21, 3) := by decide +kernel
theorem d_T_startShortestFirst_18 : decode c_T_startShortestFirst 18 = .ok (.iload_n 2, 1) := by decide +kernel
theorem d_T_startShortestFirst_19 : decode c_T_startShortestFirst 19 = .ok (.iload_n 1, 1) := by decide +kernel
theorem d_T_startShortestFirst_20 : decode c_T_startShortestFirst 20 = .ok (.iastore, 1) := by decide +kernel
theorem d_T_startShortestFirst_21 : decode c_T_startShortestFirst 21 = .ok (.iload_n 1, 1) := by decide +kernel
theorem d_T_startShortestFirst_22 : decode c_T_startShortestFirst 22 = .ok (.aload_n 0, 1) := by decide +kernel
theorem d_T_startShortestFirst_23 : decode c_T_startShortestFirst 23 = .ok (.getfield 18, 3) := by decide +kernel
theorem d_T_startShortestFirst_26 : decode c_T_startShortestFirst 26 = .ok (.iload_n 2, 1) := by decide +kernel
theorem d_T_startShortestFirst_27 : decode c_T_startShortestFirst 27 = .ok (.iaload, 1) := by decide +kernel
theorem d_T_startShortestFirst_28 : decode c_T_startShortestFirst 28 = .ok (.iadd, 1) := by decide +kernel
theorem d_T_startShortestFirst_29 : decode c_T_startShortestFirst 29 = .ok (.istore_n 1, 1) := by decide +kernel
theorem d_T_startShortestFirst_30 : decode c_T_startShortestFirst 30 = .ok (.iinc 2 1, 3) := by decide +kernel
theorem d_T_startShortestFirst_33 : decode c_T_startShortestFirst 33 = .ok (.goto (-29), 3) := by decide +kernel
theorem d_T_startShortestFirst_36 : decode c_T_startShortestFirst 36 = .ok (.return_, 1) := by decide +kernel
theorem d_T_startLongestFirst_0 : decode c_T_startLongestFirst 0 = .ok (.iconst 0, 1) := by decide +kernel
theorem d_T_startLongestFirst_1 : decode c_T_startLongestFirst 1 = .ok (.istore_n 1, 1) := by decide +kernel
theorem d_T_startLongestFirst_2 : decode c_T_startLongestFirst 2 = .ok (.bipush 16, 2) := by decide +kernel
theorem d_T_startLongestFirst_4 : decode c_T_startLongestFirst 4 = .ok (.istore_n 2, 1) := by decide +kernel
theorem d_T_startLongestFirst_5 : decode c_T_startLongestFirst 5 = .ok (.iload_n 2, 1) := by decide +kernel
theorem d_T_startLongestFirst_6 : decode c_T_startLongestFirst 6 = .ok (.iconst 1, 1) := by decide +kernel
theorem d_T_startLongestFirst_7 : decode c_T_startLongestFirst 7 = .ok (.if_icmp .lt 31, 3) := by decide +kernel
theorem d_T_startLongestFirst_10 : decode c_T_startLongestFirst 10 = .ok (.iload_n 1, 1) := by decide +kernel
theorem d_T_startLongestFirst_11 : decode c_T_startLongestFirst 11 = .ok (.iconst 1, 1) := by decide +kernel
theorem d_T_startLongestFirst_12 : decode c_T_startLongestFirst 12 = .ok (.iadd, 1) := by decide +kernel
theorem d_T_startLongestFirst_13 : decode c_T_startLongestFirst 13 = .ok (.iconst 2, 1) := by decide +kernel
theorem d_T_startLongestFirst_14 : decode c_T_startLongestFirst 14 = .ok (.idiv, 1) := by decide +kernel
theorem d_T_startLongestFirst_15 : decode c_T_startLongestFirst 15 = .ok (.istore_n 1, 1) := by decide +kernel
theorem d_T_startLongestFirst_16 : decode c_T_startLongestFirst 16 = .ok (.aload_n 0, 1) := by decide +kernel
theorem d_T_startLongestFirst_17 : decode c_T_startLongestFirst 17 = .ok (.getfield 21, 3) := by decide +kernel
theorem d_T_startLongestFirst_20 : decode c_T_startLongestFirst 20 = .ok (.iload_n 2, 1) := by decide +kernel
theorem d_T_startLongestFirst_21 : decode c_T_startLongestFirst 21 = .ok (.iload_n 1, 1) := by decide +kernel
theorem d_T_startLongestFirst_22 : decode c_T_startLongestFirst 22 = .ok (.iastore, 1) := by decide +kernel
theorem d_T_startLongestFirst_23 : decode c_T_startLongestFirst 23 = .ok (.iload_n 1, 1) := by decide +kernel
theorem d_T_startLongestFirst_24 : decode c_T_startLongestFirst 24 = .ok (.aload_n 0, 1) := by decide +kernel
theorem d_T_startLongestFirst_25 : decode c_T_startLongestFirst 25 = .ok (.getfield 18, 3) := by decide +kernel
theorem d_T_startLongestFirst_28 : decode c_T_startLongestFirst 28 = .ok (.iload_n 2, 1) := by decide +kernel
theorem d_T_startLongestFirst_29 : decode c_T_startLongestFirst 29 = .ok (.iaload, 1) := by decide +kernel
theorem d_T_startLongestFirst_30 : decode c_T_startLongestFirst 30 = .ok (.iadd, 1) := by decide +kernel
theorem d_T_startLongestFirst_31 : decode c_T_startLongestFirst 31 = .ok (.istore_n 1, 1) := by decide +kernel
theorem d_T_startLongestFirst_32 : decode c_T_startLongestFirst 32 = .ok (.iinc 2 (-1), 3) := by decide +kernel
theorem d_T_startLongestFirst_35 : decode c_T_startLongestFirst 35 = .ok (.goto (-30), 3) := by decide +kernel
theorem d_T_startLongestFirst_38 : decode c_T_startLongestFirst 38 = .ok (.return_, 1) := by decide +kernel
theorem d_T_symbolBegunBy_0 : decode c_T_symbolBegunBy 0 = .ok (.iconst 0, 1) := by decide +kernel
theorem d_T_symbolBegunBy_1 : decode c_T_symbolBegunBy 1 = .ok (.istore_n 3, 1) := by decide +kernel
theorem d_T_symbolBegunBy_2 : decode c_T_symbolBegunBy 2 = .ok (.iload_n 3, 1) := by decide +kernel
theorem d_T_symbolBegunBy_3 : decode c_T_symbolBegunBy 3 = .ok (.bipush 48, 2) := by decide +kernel
theorem d_T_symbolBegunBy_5 : decode c_T_symbolBegunBy 5 = .ok (.if_icmp .ge 39, 3) := by decide +kernel
theorem d_T_symbolBegunBy_8 : decode c_T_symbolBegunBy 8 = .ok (.aload_n 0, 1) := by decide +kernel
theorem d_T_symbolBegunBy_9 : decode c_T_symbolBegunBy 9 = .ok (.getfield 9, 3) := by decide +kernel
theorem d_T_symbolBegunBy_12 : decode c_T_symbolBegunBy 12 = .ok (.iload_n 3, 1) := by decide +kernel
theorem d_T_symbolBegunBy_13 : decode c_T_symbolBegunBy 13 = .ok (.iaload, 1) := by decide +kernel
theorem d_T_symbolBegunBy_14 : decode c_T_symbolBegunBy 14 = .ok (.iload_n 2, 1) := by decide +kernel
theorem d_T_symbolBegunBy_15 : decode c_T_symbolBegunBy 15 = .ok (.isub, 1) := by decide +kernel
theorem d_T_symbolBegunBy_16 : decode c_T_symbolBegunBy 16 = .ok (.istore 4, 2) := by decide +kernel
theorem d_T_symbolBegunBy_18 : decode c_T_symbolBegunBy 18 = .ok (.iload 4, 2) := by decide +kernel
theorem d_T_symbolBegunBy_20 : decode c_T_symbolBegunBy 20 = .ok (.ifCond .lt 18, 3) := by decide +kernel
theorem d_T_symbolBegunBy_23 : decode c_T_symbolBegunBy 23 = .ok (.aload_n 0, 1) := by decide +kernel
theorem d_T_symbolBegunBy_24 : decode c_T_symbolBegunBy 24 = .ok (.getfield 15, 3) := by decide +kernel
theorem d_T_symbolBegunBy_27 : decode c_T_symbolBegunBy 27 = .ok (.iload_n 3, 1) := by decide +kernel
theorem d_T_symbolBegunBy_28 : decode c_T_symbolBegunBy 28 = .ok (.iaload, 1) := by decide +kernel
theorem d_T_symbolBegunBy_29 : decode c_T_symbolBegunBy 29 = .ok (.iload 4, 2) := by decide +kernel
theorem d_T_symbolBegunBy_31 : decode c_T_symbolBegunBy 31 = .ok (.ishr, 1) := by decide +kernel
theorem d_T_symbolBegunBy_32 : decode c_T_symbolBegunBy 32 = .ok (.iload_n 1, 1) := by decide +kernel
theorem d_T_symbolBegunBy_33 : decode c_T_symbolBegunBy 33 = .ok (.if_icmp .ne 5, 3) := by decide +kernel
theorem d_T_symbolBegunBy_36 : decode c_T_symbolBegunBy 36 = .ok (.iload_n 3, 1) := by decide +kernel
theorem d_T_symbolBegunBy_37 : decode c_T_symbolBegunBy 37 = .ok (.ireturn, 1) := by decide +kernel
theorem d_T_symbolBegunBy_38 : decode c_T_symbolBegunBy 38 = .ok (.iinc 3 1, 3) := by decide +kernel
theorem d_T_symbolBegunBy_41 : decode c_T_symbolBegunBy 41 = .ok (.goto (-39), 3) := by decide +kernel
theorem d_T_symbolBegunBy_44 : decode c_T_symbolBegunBy 44 = .ok (.iconst (-1), 1) := by decide +kernel
theorem d_T_symbolBegunBy_45 : decode c_T_symbolBegunBy 45 = .ok (.ireturn, 1) := by decide +kernel
theorem d_T_endOfLengths_0 : decode c_T_endOfLengths 0 = .ok (.bipush 48, 2) := by decide +kernel
theorem d_T_endOfLengths_2 : decode c_T_endOfLengths 2 = .ok (.istore_n 1, 1) := by decide +kernel
theorem d_T_endOfLengths_3 : decode c_T_endOfLengths 3 = .ok (.iload_n 1, 1) := by decide +kernel
theorem d_T_endOfLengths_4 : decode c_T_endOfLengths 4 = .ok (.ifCond .le 20, 3) := by decide +kernel
theorem d_T_endOfLengths_7 : decode c_T_endOfLengths 7 = .ok (.aload_n 0, 1) := by decide +kernel
theorem d_T_endOfLengths_8 : decode c_T_endOfLengths 8 = .ok (.getfield 9, 3) := by decide +kernel
theorem d_T_endOfLengths_11 : decode c_T_endOfLengths 11 = .ok (.iload_n 1, 1) := by decide +kernel
theorem d_T_endOfLengths_12 : decode c_T_endOfLengths 12 = .ok (.iconst 1, 1) := by decide +kernel
theorem d_T_endOfLengths_13 : decode c_T_endOfLengths 13 = .ok (.isub, 1) := by decide +kernel
theorem d_T_endOfLengths_14 : decode c_T_endOfLengths 14 = .ok (.iaload, 1) := by decide +kernel
theorem d_T_endOfLengths_15 : decode c_T_endOfLengths 15 = .ok (.ifCond .ne 9, 3) := by decide +kernel
theorem d_T_endOfLengths_18 : decode c_T_endOfLengths 18 = .ok (.iinc 1 (-1), 3) := by decide +kernel
theorem d_T_endOfLengths_21 : decode c_T_endOfLengths 21 = .ok (.goto (-18), 3) := by decide +kernel
theorem d_T_endOfLengths_24 : decode c_T_endOfLengths 24 = .ok (.iload_n 1, 1) := by decide +kernel
theorem d_T_endOfLengths_25 : decode c_T_endOfLengths 25 = .ok (.ireturn, 1) := by decide +kernel
theorem d_T_runOf_0 : decode c_T_runOf 0 = .ok (.iload_n 2, 1) := by decide +kernel
theorem d_T_runOf_1 : decode c_T_runOf 1 = .ok (.istore 4, 2) := by decide +kernel
theorem d_T_runOf_3 : decode c_T_runOf 3 = .ok (.iload 4, 2) := by decide +kernel
theorem d_T_runOf_5 : decode c_T_runOf 5 = .ok (.iload_n 3, 1) := by decide +kernel
theorem d_T_runOf_6 : decode c_T_runOf 6 = .ok (.if_icmp .ge 20, 3) := by decide +kernel
theorem d_T_runOf_9 : decode c_T_runOf 9 = .ok (.aload_n 0, 1) := by decide +kernel
theorem d_T_runOf_10 : decode c_T_runOf 10 = .ok (.getfield 9, 3) := by decide +kernel
theorem d_T_runOf_13 : decode c_T_runOf 13 = .ok (.iload 4, 2) := by decide +kernel
theorem d_T_runOf_15 : decode c_T_runOf 15 = .ok (.iaload, 1) := by decide +kernel
theorem d_T_runOf_16 : decode c_T_runOf 16 = .ok (.iload_n 1, 1) := by decide +kernel
theorem d_T_runOf_17 : decode c_T_runOf 17 = .ok (.if_icmp .ne 9, 3) := by decide +kernel
theorem d_T_runOf_20 : decode c_T_runOf 20 = .ok (.iinc 4 1, 3) := by decide +kernel
theorem d_T_runOf_23 : decode c_T_runOf 23 = .ok (.goto (-20), 3) := by decide +kernel
theorem d_T_runOf_26 : decode c_T_runOf 26 = .ok (.iload 4, 2) := by decide +kernel
theorem d_T_runOf_28 : decode c_T_runOf 28 = .ok (.iload_n 2, 1) := by decide +kernel
theorem d_T_runOf_29 : decode c_T_runOf 29 = .ok (.isub, 1) := by decide +kernel
theorem d_T_runOf_30 : decode c_T_runOf 30 = .ok (.ireturn, 1) := by decide +kernel
theorem d_G_init_0 : decode c_G_init 0 = .ok (.aload_n 0, 1) := by decide +kernel
theorem d_G_init_1 : decode c_G_init 1 = .ok (.invokespecial 3, 3) := by decide +kernel
theorem d_G_init_4 : decode c_G_init 4 = .ok (.aload_n 0, 1) := by decide +kernel
theorem d_G_init_5 : decode c_G_init 5 = .ok (.sipush 400, 3) := by decide +kernel
theorem d_G_init_8 : decode c_G_init 8 = .ok (.newarray .int, 2) := by decide +kernel
theorem d_G_init_10 : decode c_G_init 10 = .ok (.putfield 9, 3) := by decide +kernel
theorem d_G_init_13 : decode c_G_init 13 = .ok (.aload_n 0, 1) := by decide +kernel
theorem d_G_init_14 : decode c_G_init 14 = .ok (.iconst 0, 1) := by decide +kernel
theorem d_G_init_15 : decode c_G_init 15 = .ok (.putfield 15, 3) := by decide +kernel
theorem d_G_init_18 : decode c_G_init 18 = .ok (.aload_n 0, 1) := by decide +kernel
theorem d_G_init_19 : decode c_G_init 19 = .ok (.iconst 0, 1) := by decide +kernel
theorem d_G_init_20 : decode c_G_init 20 = .ok (.putfield 19, 3) := by decide +kernel
theorem d_G_init_23 : decode c_G_init 23 = .ok (.return_, 1) := by decide +kernel
theorem d_G_append_0 : decode c_G_append 0 = .ok (.aload_n 0, 1) := by decide +kernel
theorem d_G_append_1 : decode c_G_append 1 = .ok (.getfield 19, 3) := by decide +kernel
theorem d_G_append_4 : decode c_G_append 4 = .ok (.sipush 400, 3) := by decide +kernel
theorem d_G_append_7 : decode c_G_append 7 = .ok (.if_icmp .lt 5, 3) := by decide +kernel
theorem d_G_append_10 : decode c_G_append 10 = .ok (.iconst 0, 1) := by decide +kernel
theorem d_G_append_11 : decode c_G_append 11 = .ok (.ireturn, 1) := by decide +kernel
theorem d_G_append_12 : decode c_G_append 12 = .ok (.aload_n 0, 1) := by decide +kernel
theorem d_G_append_13 : decode c_G_append 13 = .ok (.getfield 9, 3) := by decide +kernel
theorem d_G_append_16 : decode c_G_append 16 = .ok (.aload_n 0, 1) := by decide +kernel
theorem d_G_append_17 : decode c_G_append 17 = .ok (.getfield 15, 3) := by decide +kernel
theorem d_G_append_20 : decode c_G_append 20 = .ok (.aload_n 0, 1) := by decide +kernel
theorem d_G_append_21 : decode c_G_append 21 = .ok (.getfield 19, 3) := by decide +kernel
theorem d_G_append_24 : decode c_G_append 24 = .ok (.iadd, 1) := by decide +kernel
theorem d_G_append_25 : decode c_G_append 25 = .ok (.sipush 400, 3) := by decide +kernel
theorem d_G_append_28 : decode c_G_append 28 = .ok (.irem, 1) := by decide +kernel
theorem d_G_append_29 : decode c_G_append 29 = .ok (.iload_n 1, 1) := by decide +kernel
theorem d_G_append_30 : decode c_G_append 30 = .ok (.iastore, 1) := by decide +kernel
theorem d_G_append_31 : decode c_G_append 31 = .ok (.aload_n 0, 1) := by decide +kernel
theorem d_G_append_32 : decode c_G_append 32 = .ok (.dup, 1) := by decide +kernel
theorem d_G_append_33 : decode c_G_append 33 = .ok (.getfield 19, 3) := by decide +kernel
theorem d_G_append_36 : decode c_G_append 36 = .ok (.iconst 1, 1) := by decide +kernel
theorem d_G_append_37 : decode c_G_append 37 = .ok (.iadd, 1) := by decide +kernel
theorem d_G_append_38 : decode c_G_append 38 = .ok (.putfield 19, 3) := by decide +kernel
theorem d_G_append_41 : decode c_G_append 41 = .ok (.iconst 1, 1) := by decide +kernel
theorem d_G_append_42 : decode c_G_append 42 = .ok (.ireturn, 1) := by decide +kernel
theorem d_G_number_0 : decode c_G_number 0 = .ok (.lconst 0, 1) := by decide +kernel
theorem d_G_number_1 : decode c_G_number 1 = .ok (.lstore_n 3, 1) := by decide +kernel
theorem d_G_number_2 : decode c_G_number 2 = .ok (.iload_n 1, 1) := by decide +kernel
theorem d_G_number_3 : decode c_G_number 3 = .ok (.istore 5, 2) := by decide +kernel
theorem d_G_number_5 : decode c_G_number 5 = .ok (.iload 5, 2) := by decide +kernel
theorem d_G_number_7 : decode c_G_number 7 = .ok (.iload_n 1, 1) := by decide +kernel
theorem d_G_number_8 : decode c_G_number 8 = .ok (.iload_n 2, 1) := by decide +kernel
theorem d_G_number_9 : decode c_G_number 9 = .ok (.iadd, 1) := by decide +kernel
theorem d_G_number_10 : decode c_G_number 10 = .ok (.if_icmp .ge 33, 3) := by decide +kernel
theorem d_G_number_13 : decode c_G_number 13 = .ok (.ldc2_w 22, 3) := by decide +kernel
theorem d_G_number_16 : decode c_G_number 16 = .ok (.lload_n 3, 1) := by decide +kernel
theorem d_G_number_17 : decode c_G_number 17 = .ok (.lmul, 1) := by decide +kernel
theorem d_G_number_18 : decode c_G_number 18 = .ok (.aload_n 0, 1) := by decide +kernel
theorem d_G_number_19 : decode c_G_number 19 = .ok (.getfield 9, 3) := by decide +kernel
theorem d_G_number_22 : decode c_G_number 22 = .ok (.aload_n 0, 1) := by decide +kernel
theorem d_G_number_23 : decode c_G_number 23 = .ok (.getfield 15, 3) := by decide +kernel
theorem d_G_number_26 : decode c_G_number 26 = .ok (.iload 5, 2) := by decide +kernel
theorem d_G_number_28 : decode c_G_number 28 = .ok (.iadd, 1) := by decide +kernel
theorem d_G_number_29 : decode c_G_number 29 = .ok (.sipush 400, 3) := by decide +kernel
theorem d_G_number_32 : decode c_G_number 32 = .ok (.irem, 1) := by decide +kernel
theorem d_G_number_33 : decode c_G_number 33 = .ok (.iaload, 1) := by decide +kernel
theorem d_G_number_34 : decode c_G_number 34 = .ok (.i2l, 1) := by decide +kernel
theorem d_G_number_35 : decode c_G_number 35 = .ok (.ladd, 1) := by decide +kernel
theorem d_G_number_36 : decode c_G_number 36 = .ok (.lstore_n 3, 1) := by decide +kernel
theorem d_G_number_37 : decode c_G_number 37 = .ok (.iinc 5 1, 3) := by decide +kernel
theorem d_G_number_40 : decode c_G_number 40 = .ok (.goto (-35), 3) := by decide +kernel
theorem d_G_number_43 : decode c_G_number 43 = .ok (.lload_n 3, 1) := by decide +kernel
theorem d_G_number_44 : decode c_G_number 44 = .ok (.lreturn, 1) := by decide +kernel
theorem d_G_drop_0 : decode c_G_drop 0 = .ok (.aload_n 0, 1) := by decide +kernel
theorem d_G_drop_1 : decode c_G_drop 1 = .ok (.aload_n 0, 1) := by decide +kernel
theorem d_G_drop_2 : decode c_G_drop 2 = .ok (.getfield 15, 3) := by decide +kernel
theorem d_G_drop_5 : decode c_G_drop 5 = .ok (.iload_n 1, 1) := by decide +kernel
theorem d_G_drop_6 : decode c_G_drop 6 = .ok (.iadd, 1) := by decide +kernel
theorem d_G_drop_7 : decode c_G_drop 7 = .ok (.sipush 400, 3) := by decide +kernel
theorem d_G_drop_10 : decode c_G_drop 10 = .ok (.irem, 1) := by decide +kernel
theorem d_G_drop_11 : decode c_G_drop 11 = .ok (.putfield 15, 3) := by decide +kernel
theorem d_G_drop_14 : decode c_G_drop 14 = .ok (.aload_n 0, 1) := by decide +kernel
theorem d_G_drop_15 : decode c_G_drop 15 = .ok (.dup, 1) := by decide +kernel
theorem d_G_drop_16 : decode c_G_drop 16 = .ok (.getfield 19, 3) := by decide +kernel
theorem d_G_drop_19 : decode c_G_drop 19 = .ok (.iload_n 1, 1) := by decide +kernel
theorem d_G_drop_20 : decode c_G_drop 20 = .ok (.isub, 1) := by decide +kernel
theorem d_G_drop_21 : decode c_G_drop 21 = .ok (.putfield 19, 3) := by decide +kernel
theorem d_G_drop_24 : decode c_G_drop 24 = .ok (.return_, 1) := by decide +kernel
