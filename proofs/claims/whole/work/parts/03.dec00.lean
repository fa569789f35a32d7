theorem dX0_init_0 : decode cX0_init 0 = .ok (.aload_n 0, 1) := by decide +kernel
theorem dX0_init_1 : decode cX0_init 1 = .ok (.invokespecial 3, 3) := by decide +kernel
theorem dX0_init_4 : decode cX0_init 4 = .ok (.aload_n 0, 1) := by decide +kernel
theorem dX0_init_5 : decode cX0_init 5 = .ok (.bipush 24, 2) := by decide +kernel
theorem dX0_init_7 : decode cX0_init 7 = .ok (.newarray .int, 2) := by decide +kernel
theorem dX0_init_9 : decode cX0_init 9 = .ok (.putfield 9, 3) := by decide +kernel
theorem dX0_init_12 : decode cX0_init 12 = .ok (.aload_n 0, 1) := by decide +kernel
theorem dX0_init_13 : decode cX0_init 13 = .ok (.bipush 64, 2) := by decide +kernel
theorem dX0_init_15 : decode cX0_init 15 = .ok (.newarray .int, 2) := by decide +kernel
theorem dX0_init_17 : decode cX0_init 17 = .ok (.putfield 15, 3) := by decide +kernel
theorem dX0_init_20 : decode cX0_init 20 = .ok (.aload_n 0, 1) := by decide +kernel
theorem dX0_init_21 : decode cX0_init 21 = .ok (.iconst 0, 1) := by decide +kernel
theorem dX0_init_22 : decode cX0_init 22 = .ok (.putfield 18, 3) := by decide +kernel
theorem dX0_init_25 : decode cX0_init 25 = .ok (.aload_n 0, 1) := by decide +kernel
theorem dX0_init_26 : decode cX0_init 26 = .ok (.iconst 0, 1) := by decide +kernel
theorem dX0_init_27 : decode cX0_init 27 = .ok (.putfield 22, 3) := by decide +kernel
theorem dX0_init_30 : decode cX0_init 30 = .ok (.aload_n 0, 1) := by decide +kernel
theorem dX0_init_31 : decode cX0_init 31 = .ok (.iconst 0, 1) := by decide +kernel
theorem dX0_init_32 : decode cX0_init 32 = .ok (.putfield 25, 3) := by decide +kernel
theorem dX0_init_35 : decode cX0_init 35 = .ok (.aload_n 0, 1) := by decide +kernel
theorem dX0_init_36 : decode cX0_init 36 = .ok (.iconst (-1), 1) := by decide +kernel
theorem dX0_init_37 : decode cX0_init 37 = .ok (.putfield 28, 3) := by decide +kernel
theorem dX0_init_40 : decode cX0_init 40 = .ok (.return_, 1) := by decide +kernel
theorem dX0_search_0 : decode cX0_search 0 = .ok (.aload_n 0, 1) := by decide +kernel
theorem dX0_search_1 : decode cX0_search 1 = .ok (.getfield 28, 3) := by decide +kernel
theorem dX0_search_4 : decode cX0_search 4 = .ok (.aload_n 1, 1) := by decide +kernel
theorem dX0_search_5 : decode cX0_search 5 = .ok (.getfield 31, 3) := by decide +kernel
theorem dX0_search_8 : decode cX0_search 8 = .ok (.if_icmp .ne 4, 3) := by decide +kernel
theorem dX0_search_11 : decode cX0_search 11 = .ok (.return_, 1) := by decide +kernel
theorem dX0_search_12 : decode cX0_search 12 = .ok (.aload_n 0, 1) := by decide +kernel
theorem dX0_search_13 : decode cX0_search 13 = .ok (.aload_n 1, 1) := by decide +kernel
theorem dX0_search_14 : decode cX0_search 14 = .ok (.getfield 31, 3) := by decide +kernel
theorem dX0_search_17 : decode cX0_search 17 = .ok (.putfield 28, 3) := by decide +kernel
theorem dX0_search_20 : decode cX0_search 20 = .ok (.aload_n 0, 1) := by decide +kernel
theorem dX0_search_21 : decode cX0_search 21 = .ok (.aload_n 1, 1) := by decide +kernel
theorem dX0_search_22 : decode cX0_search 22 = .ok (.iconst 0, 1) := by decide +kernel
theorem dX0_search_23 : decode cX0_search 23 = .ok (.invokevirtual 36, 3) := by decide +kernel
theorem dX0_search_26 : decode cX0_search 26 = .ok (.bipush 24, 2) := by decide +kernel
theorem dX0_search_28 : decode cX0_search 28 = .ok (.invokestatic 40, 3) := by decide +kernel
theorem dX0_search_31 : decode cX0_search 31 = .ok (.putfield 18, 3) := by decide +kernel
theorem dX0_search_34 : decode cX0_search 34 = .ok (.aload_n 0, 1) := by decide +kernel
theorem dX0_search_35 : decode cX0_search 35 = .ok (.iconst 0, 1) := by decide +kernel
theorem dX0_search_36 : decode cX0_search 36 = .ok (.putfield 22, 3) := by decide +kernel
theorem dX0_search_39 : decode cX0_search 39 = .ok (.aload_n 1, 1) := by decide +kernel
theorem dX0_search_40 : decode cX0_search 40 = .ok (.getfield 46, 3) := by decide +kernel
theorem dX0_search_43 : decode cX0_search 43 = .ok (.iconst 0, 1) := by decide +kernel
theorem dX0_search_44 : decode cX0_search 44 = .ok (.aload_n 0, 1) := by decide +kernel
theorem dX0_search_45 : decode cX0_search 45 = .ok (.getfield 15, 3) := by decide +kernel
theorem dX0_search_48 : decode cX0_search 48 = .ok (.iconst 0, 1) := by decide +kernel
theorem dX0_search_49 : decode cX0_search 49 = .ok (.aload_n 0, 1) := by decide +kernel
theorem dX0_search_50 : decode cX0_search 50 = .ok (.getfield 15, 3) := by decide +kernel
theorem dX0_search_53 : decode cX0_search 53 = .ok (.arraylength, 1) := by decide +kernel
theorem dX0_search_54 : decode cX0_search 54 = .ok (.invokestatic 49, 3) := by decide +kernel
theorem dX0_search_57 : decode cX0_search 57 = .ok (.aload_n 0, 1) := by decide +kernel
theorem dX0_search_58 : decode cX0_search 58 = .ok (.aload_n 0, 1) := by decide +kernel
theorem dX0_search_59 : decode cX0_search 59 = .ok (.aload_n 1, 1) := by decide +kernel
theorem dX0_search_60 : decode cX0_search 60 = .ok (.invokevirtual 55, 3) := by decide +kernel
theorem dX0_search_63 : decode cX0_search 63 = .ok (.putfield 25, 3) := by decide +kernel
theorem dX0_search_66 : decode cX0_search 66 = .ok (.return_, 1) := by decide +kernel
theorem dX0_findRow_0 : decode cX0_findRow 0 = .ok (.iconst 0, 1) := by decide +kernel
theorem dX0_findRow_1 : decode cX0_findRow 1 = .ok (.istore_n 2, 1) := by decide +kernel
theorem dX0_findRow_2 : decode cX0_findRow 2 = .ok (.iconst 0, 1) := by decide +kernel
theorem dX0_findRow_3 : decode cX0_findRow 3 = .ok (.istore_n 3, 1) := by decide +kernel
theorem dX0_findRow_4 : decode cX0_findRow 4 = .ok (.iconst 0, 1) := by decide +kernel
theorem dX0_findRow_5 : decode cX0_findRow 5 = .ok (.istore 4, 2) := by decide +kernel
theorem dX0_findRow_7 : decode cX0_findRow 7 = .ok (.iload 4, 2) := by decide +kernel
theorem dX0_findRow_9 : decode cX0_findRow 9 = .ok (.ldc 59, 2) := by decide +kernel
theorem dX0_findRow_11 : decode cX0_findRow 11 = .ok (.if_icmp .gt 113, 3) := by decide +kernel
theorem dX0_findRow_14 : decode cX0_findRow 14 = .ok (.iload_n 2, 1) := by decide +kernel
theorem dX0_findRow_15 : decode cX0_findRow 15 = .ok (.aload_n 0, 1) := by decide +kernel
theorem dX0_findRow_16 : decode cX0_findRow 16 = .ok (.getfield 18, 3) := by decide +kernel
theorem dX0_findRow_19 : decode cX0_findRow 19 = .ok (.if_icmp .ge 105, 3) := by decide +kernel
theorem dX0_findRow_22 : decode cX0_findRow 22 = .ok (.iload_n 3, 1) := by decide +kernel
theorem dX0_findRow_23 : decode cX0_findRow 23 = .ok (.aload_n 1, 1) := by decide +kernel
theorem dX0_findRow_24 : decode cX0_findRow 24 = .ok (.invokevirtual 60, 3) := by decide +kernel
theorem dX0_findRow_27 : decode cX0_findRow 27 = .ok (.if_icmp .lt 36, 3) := by decide +kernel
theorem dX0_findRow_30 : decode cX0_findRow 30 = .ok (.iload_n 2, 1) := by decide +kernel
theorem dX0_findRow_31 : decode cX0_findRow 31 = .ok (.ifCond .ne 5, 3) := by decide +kernel
theorem dX0_findRow_34 : decode cX0_findRow 34 = .ok (.iconst 0, 1) := by decide +kernel
theorem dX0_findRow_35 : decode cX0_findRow 35 = .ok (.ireturn, 1) := by decide +kernel
theorem dX0_findRow_36 : decode cX0_findRow 36 = .ok (.iinc 2 (-1), 3) := by decide +kernel
theorem dX0_findRow_39 : decode cX0_findRow 39 = .ok (.aload_n 0, 1) := by decide +kernel
theorem dX0_findRow_40 : decode cX0_findRow 40 = .ok (.aload_n 1, 1) := by decide +kernel
theorem dX0_findRow_41 : decode cX0_findRow 41 = .ok (.aload_n 0, 1) := by decide +kernel
theorem dX0_findRow_42 : decode cX0_findRow 42 = .ok (.getfield 9, 3) := by decide +kernel
theorem dX0_findRow_45 : decode cX0_findRow 45 = .ok (.iload_n 2, 1) := by decide +kernel
theorem dX0_findRow_46 : decode cX0_findRow 46 = .ok (.iaload, 1) := by decide +kernel
theorem dX0_findRow_47 : decode cX0_findRow 47 = .ok (.iconst 1, 1) := by decide +kernel
theorem dX0_findRow_48 : decode cX0_findRow 48 = .ok (.invokevirtual 64, 3) := by decide +kernel
theorem dX0_findRow_51 : decode cX0_findRow 51 = .ok (.aload_n 0, 1) := by decide +kernel
theorem dX0_findRow_52 : decode cX0_findRow 52 = .ok (.getfield 9, 3) := by decide +kernel
theorem dX0_findRow_55 : decode cX0_findRow 55 = .ok (.iload_n 2, 1) := by decide +kernel
theorem dX0_findRow_56 : decode cX0_findRow 56 = .ok (.iaload, 1) := by decide +kernel
theorem dX0_findRow_57 : decode cX0_findRow 57 = .ok (.iconst 1, 1) := by decide +kernel
theorem dX0_findRow_58 : decode cX0_findRow 58 = .ok (.iadd, 1) := by decide +kernel
theorem dX0_findRow_59 : decode cX0_findRow 59 = .ok (.istore_n 3, 1) := by decide +kernel
theorem dX0_findRow_60 : decode cX0_findRow 60 = .ok (.goto 58, 3) := by decide +kernel
theorem dX0_findRow_63 : decode cX0_findRow 63 = .ok (.aload_n 0, 1) := by decide +kernel
theorem dX0_findRow_64 : decode cX0_findRow 64 = .ok (.getfield 22, 3) := by decide +kernel
theorem dX0_findRow_67 : decode cX0_findRow 67 = .ok (.sipush 20000, 3) := by decide +kernel
theorem dX0_findRow_70 : decode cX0_findRow 70 = .ok (.if_icmp .ne 6, 3) := by decide +kernel
theorem dX0_findRow_73 : decode cX0_findRow 73 = .ok (.bipush (-6), 2) := by decide +kernel
theorem dX0_findRow_75 : decode cX0_findRow 75 = .ok (.ireturn, 1) := by decide +kernel
theorem dX0_findRow_76 : decode cX0_findRow 76 = .ok (.aload_n 0, 1) := by decide +kernel
theorem dX0_findRow_77 : decode cX0_findRow 77 = .ok (.dup, 1) := by decide +kernel
theorem dX0_findRow_78 : decode cX0_findRow 78 = .ok (.getfield 22, 3) := by decide +kernel
theorem dX0_findRow_81 : decode cX0_findRow 81 = .ok (.iconst 1, 1) := by decide +kernel
theorem dX0_findRow_82 : decode cX0_findRow 82 = .ok (.iadd, 1) := by decide +kernel
theorem dX0_findRow_83 : decode cX0_findRow 83 = .ok (.putfield 22, 3) := by decide +kernel
theorem dX0_findRow_86 : decode cX0_findRow 86 = .ok (.aload_n 0, 1) := by decide +kernel
theorem dX0_findRow_87 : decode cX0_findRow 87 = .ok (.aload_n 1, 1) := by decide +kernel
theorem dX0_findRow_88 : decode cX0_findRow 88 = .ok (.iload_n 3, 1) := by decide +kernel
theorem dX0_findRow_89 : decode cX0_findRow 89 = .ok (.invokevirtual 68, 3) := by decide +kernel
theorem dX0_findRow_92 : decode cX0_findRow 92 = .ok (.ifCond .eq 23, 3) := by decide +kernel
theorem dX0_findRow_95 : decode cX0_findRow 95 = .ok (.aload_n 0, 1) := by decide +kernel
theorem dX0_findRow_96 : decode cX0_findRow 96 = .ok (.aload_n 1, 1) := by decide +kernel
theorem dX0_findRow_97 : decode cX0_findRow 97 = .ok (.iload_n 3, 1) := by decide +kernel
theorem dX0_findRow_98 : decode cX0_findRow 98 = .ok (.iconst (-1), 1) := by decide +kernel
theorem dX0_findRow_99 : decode cX0_findRow 99 = .ok (.invokevirtual 64, 3) := by decide +kernel
theorem dX0_findRow_102 : decode cX0_findRow 102 = .ok (.aload_n 0, 1) := by decide +kernel
theorem dX0_findRow_103 : decode cX0_findRow 103 = .ok (.getfield 9, 3) := by decide +kernel
theorem dX0_findRow_106 : decode cX0_findRow 106 = .ok (.iload_n 2, 1) := by decide +kernel
theorem dX0_findRow_107 : decode cX0_findRow 107 = .ok (.iload_n 3, 1) := by decide +kernel
theorem dX0_findRow_108 : decode cX0_findRow 108 = .ok (.iastore, 1) := by decide +kernel
theorem dX0_findRow_109 : decode cX0_findRow 109 = .ok (.iinc 2 1, 3) := by decide +kernel
theorem dX0_findRow_112 : decode cX0_findRow 112 = .ok (.goto 6, 3) := by decide +kernel
theorem dX0_findRow_115 : decode cX0_findRow 115 = .ok (.iinc 3 1, 3) := by decide +kernel
theorem dX0_findRow_118 : decode cX0_findRow 118 = .ok (.iinc 4 1, 3) := by decide +kernel
theorem dX0_findRow_121 : decode cX0_findRow 121 = .ok (.goto (-114), 3) := by decide +kernel
theorem dX0_findRow_124 : decode cX0_findRow 124 = .ok (.iload_n 2, 1) := by decide +kernel
theorem dX0_findRow_125 : decode cX0_findRow 125 = .ok (.aload_n 0, 1) := by decide +kernel
theorem dX0_findRow_126 : decode cX0_findRow 126 = .ok (.getfield 18, 3) := by decide +kernel
theorem dX0_findRow_129 : decode cX0_findRow 129 = .ok (.if_icmp .ne 7, 3) := by decide +kernel
theorem dX0_findRow_132 : decode cX0_findRow 132 = .ok (.iconst 1, 1) := by decide +kernel
theorem dX0_findRow_133 : decode cX0_findRow 133 = .ok (.goto 5, 3) := by decide +kernel
theorem dX0_findRow_136 : decode cX0_findRow 136 = .ok (.bipush (-6), 2) := by decide +kernel
theorem dX0_findRow_138 : decode cX0_findRow 138 = .ok (.ireturn, 1) := by decide +kernel
theorem dX0_fits_0 : decode cX0_fits 0 = .ok (.iconst 0, 1) := by decide +kernel
theorem dX0_fits_1 : decode cX0_fits 1 = .ok (.istore_n 3, 1) := by decide +kernel
theorem dX0_fits_2 : decode cX0_fits 2 = .ok (.iload_n 3, 1) := by decide +kernel
theorem dX0_fits_3 : decode cX0_fits 3 = .ok (.aload_n 1, 1) := by decide +kernel
theorem dX0_fits_4 : decode cX0_fits 4 = .ok (.getfield 72, 3) := by decide +kernel
theorem dX0_fits_7 : decode cX0_fits 7 = .ok (.if_icmp .ge 25, 3) := by decide +kernel
theorem dX0_fits_10 : decode cX0_fits 10 = .ok (.aload_n 0, 1) := by decide +kernel
theorem dX0_fits_11 : decode cX0_fits 11 = .ok (.getfield 15, 3) := by decide +kernel
theorem dX0_fits_14 : decode cX0_fits 14 = .ok (.aload_n 1, 1) := by decide +kernel
theorem dX0_fits_15 : decode cX0_fits 15 = .ok (.iload_n 3, 1) := by decide +kernel
theorem dX0_fits_16 : decode cX0_fits 16 = .ok (.iload_n 2, 1) := by decide +kernel
theorem dX0_fits_17 : decode cX0_fits 17 = .ok (.invokevirtual 75, 3) := by decide +kernel
theorem dX0_fits_20 : decode cX0_fits 20 = .ok (.iaload, 1) := by decide +kernel
theorem dX0_fits_21 : decode cX0_fits 21 = .ok (.ifCond .ne 5, 3) := by decide +kernel
theorem dX0_fits_24 : decode cX0_fits 24 = .ok (.iconst 0, 1) := by decide +kernel
theorem dX0_fits_25 : decode cX0_fits 25 = .ok (.ireturn, 1) := by decide +kernel
theorem dX0_fits_26 : decode cX0_fits 26 = .ok (.iinc 3 1, 3) := by decide +kernel
theorem dX0_fits_29 : decode cX0_fits 29 = .ok (.goto (-27), 3) := by decide +kernel
theorem dX0_fits_32 : decode cX0_fits 32 = .ok (.iconst 1, 1) := by decide +kernel
theorem dX0_fits_33 : decode cX0_fits 33 = .ok (.ireturn, 1) := by decide +kernel
theorem dX0_change_0 : decode cX0_change 0 = .ok (.iconst 0, 1) := by decide +kernel
theorem dX0_change_1 : decode cX0_change 1 = .ok (.istore 4, 2) := by decide +kernel
theorem dX0_change_3 : decode cX0_change 3 = .ok (.iload 4, 2) := by decide +kernel
theorem dX0_change_5 : decode cX0_change 5 = .ok (.aload_n 1, 1) := by decide +kernel
theorem dX0_change_6 : decode cX0_change 6 = .ok (.getfield 72, 3) := by decide +kernel
theorem dX0_change_9 : decode cX0_change 9 = .ok (.if_icmp .ge 25, 3) := by decide +kernel
theorem dX0_change_12 : decode cX0_change 12 = .ok (.aload_n 0, 1) := by decide +kernel
theorem dX0_change_13 : decode cX0_change 13 = .ok (.getfield 15, 3) := by decide +kernel
theorem dX0_change_16 : decode cX0_change 16 = .ok (.aload_n 1, 1) := by decide +kernel
theorem dX0_change_17 : decode cX0_change 17 = .ok (.iload 4, 2) := by decide +kernel
theorem dX0_change_19 : decode cX0_change 19 = .ok (.iload_n 2, 1) := by decide +kernel
theorem dX0_change_20 : decode cX0_change 20 = .ok (.invokevirtual 75, 3) := by decide +kernel
theorem dX0_change_23 : decode cX0_change 23 = .ok (.dup2, 1) := by decide +kernel
theorem dX0_change_24 : decode cX0_change 24 = .ok (.iaload, 1) := by decide +kernel
theorem dX0_change_25 : decode cX0_change 25 = .ok (.iload_n 3, 1) := by decide +kernel
theorem dX0_change_26 : decode cX0_change 26 = .ok (.iadd, 1) := by decide +kernel
theorem dX0_change_27 : decode cX0_change 27 = .ok (.iastore, 1) := by decide +kernel
theorem dX0_change_28 : decode cX0_change 28 = .ok (.iinc 4 1, 3) := by decide +kernel
theorem dX0_change_31 : decode cX0_change 31 = .ok (.goto (-28), 3) := by decide +kernel
theorem dX0_change_34 : decode cX0_change 34 = .ok (.return_, 1) := by decide +kernel
theorem dX1_init_0 : decode cX1_init 0 = .ok (.aload_n 0, 1) := by decide +kernel
theorem dX1_init_1 : decode cX1_init 1 = .ok (.invokespecial 3, 3) := by decide +kernel
theorem dX1_init_4 : decode cX1_init 4 = .ok (.aload_n 0, 1) := by decide +kernel
theorem dX1_init_5 : decode cX1_init 5 = .ok (.iconst 0, 1) := by decide +kernel
theorem dX1_init_6 : decode cX1_init 6 = .ok (.putfield 9, 3) := by decide +kernel
theorem dX1_init_9 : decode cX1_init 9 = .ok (.aload_n 0, 1) := by decide +kernel
theorem dX1_init_10 : decode cX1_init 10 = .ok (.bipush 12, 2) := by decide +kernel
theorem dX1_init_12 : decode cX1_init 12 = .ok (.newarray .int, 2) := by decide +kernel
theorem dX1_init_14 : decode cX1_init 14 = .ok (.putfield 15, 3) := by decide +kernel
theorem dX1_init_17 : decode cX1_init 17 = .ok (.aload_n 0, 1) := by decide +kernel
theorem dX1_init_18 : decode cX1_init 18 = .ok (.bipush 12, 2) := by decide +kernel
theorem dX1_init_20 : decode cX1_init 20 = .ok (.newarray .int, 2) := by decide +kernel
theorem dX1_init_22 : decode cX1_init 22 = .ok (.putfield 19, 3) := by decide +kernel
theorem dX1_init_25 : decode cX1_init 25 = .ok (.aload_n 0, 1) := by decide +kernel
theorem dX1_init_26 : decode cX1_init 26 = .ok (.bipush 12, 2) := by decide +kernel
theorem dX1_init_28 : decode cX1_init 28 = .ok (.newarray .int, 2) := by decide +kernel
theorem dX1_init_30 : decode cX1_init 30 = .ok (.putfield 22, 3) := by decide +kernel
theorem dX1_init_33 : decode cX1_init 33 = .ok (.aload_n 0, 1) := by decide +kernel
theorem dX1_init_34 : decode cX1_init 34 = .ok (.bipush 12, 2) := by decide +kernel
theorem dX1_init_36 : decode cX1_init 36 = .ok (.newarray .int, 2) := by decide +kernel
theorem dX1_init_38 : decode cX1_init 38 = .ok (.putfield 25, 3) := by decide +kernel
theorem dX1_init_41 : decode cX1_init 41 = .ok (.aload_n 0, 1) := by decide +kernel
theorem dX1_init_42 : decode cX1_init 42 = .ok (.sipush 220, 3) := by decide +kernel
theorem dX1_init_45 : decode cX1_init 45 = .ok (.newarray .int, 2) := by decide +kernel
theorem dX1_init_47 : decode cX1_init 47 = .ok (.putfield 28, 3) := by decide +kernel
theorem dX1_init_50 : decode cX1_init 50 = .ok (.aload_n 0, 1) := by decide +kernel
theorem dX1_init_51 : decode cX1_init 51 = .ok (.iconst 0, 1) := by decide +kernel
theorem dX1_init_52 : decode cX1_init 52 = .ok (.putfield 31, 3) := by decide +kernel
theorem dX1_init_55 : decode cX1_init 55 = .ok (.aload_n 0, 1) := by decide +kernel
theorem dX1_init_56 : decode cX1_init 56 = .ok (.iconst 0, 1) := by decide +kernel
theorem dX1_init_57 : decode cX1_init 57 = .ok (.putfield 35, 3) := by decide +kernel
theorem dX1_init_60 : decode cX1_init 60 = .ok (.aload_n 0, 1) := by decide +kernel
theorem dX1_init_61 : decode cX1_init 61 = .ok (.iconst 0, 1) := by decide +kernel
theorem dX1_init_62 : decode cX1_init 62 = .ok (.putfield 38, 3) := by decide +kernel
theorem dX1_init_65 : decode cX1_init 65 = .ok (.aload_n 0, 1) := by decide +kernel
theorem dX1_init_66 : decode cX1_init 66 = .ok (.iconst 0, 1) := by decide +kernel
theorem dX1_init_67 : decode cX1_init 67 = .ok (.putfield 41, 3) := by decide +kernel
theorem dX1_init_70 : decode cX1_init 70 = .ok (.aload_n 0, 1) := by decide +kernel
theorem dX1_init_71 : decode cX1_init 71 = .ok (.bipush (-4), 2) := by decide +kernel
theorem dX1_init_73 : decode cX1_init 73 = .ok (.putfield 44, 3) := by decide +kernel
theorem dX1_init_76 : decode cX1_init 76 = .ok (.aload_n 0, 1) := by decide +kernel
theorem dX1_init_77 : decode cX1_init 77 = .ok (.bipush (-4), 2) := by decide +kernel
theorem dX1_init_79 : decode cX1_init 79 = .ok (.putfield 47, 3) := by decide +kernel
theorem dX1_init_82 : decode cX1_init 82 = .ok (.return_, 1) := by decide +kernel
theorem dX1_hasMultipleOf_0 : decode cX1_hasMultipleOf 0 = .ok (.iconst 0, 1) := by decide +kernel
theorem dX1_hasMultipleOf_1 : decode cX1_hasMultipleOf 1 = .ok (.istore 4, 2) := by decide +kernel
theorem dX1_hasMultipleOf_3 : decode cX1_hasMultipleOf 3 = .ok (.iload 4, 2) := by decide +kernel
theorem dX1_hasMultipleOf_5 : decode cX1_hasMultipleOf 5 = .ok (.aload_n 0, 1) := by decide +kernel
theorem dX1_hasMultipleOf_6 : decode cX1_hasMultipleOf 6 = .ok (.getfield 9, 3) := by decide +kernel
theorem dX1_hasMultipleOf_9 : decode cX1_hasMultipleOf 9 = .ok (.if_icmp .ge 74, 3) := by decide +kernel
theorem dX1_hasMultipleOf_12 : decode cX1_hasMultipleOf 12 = .ok (.aload_n 0, 1) := by decide +kernel
theorem dX1_hasMultipleOf_13 : decode cX1_hasMultipleOf 13 = .ok (.getfield 15, 3) := by decide +kernel
theorem dX1_hasMultipleOf_16 : decode cX1_hasMultipleOf 16 = .ok (.iload 4, 2) := by decide +kernel
theorem dX1_hasMultipleOf_18 : decode cX1_hasMultipleOf 18 = .ok (.iaload, 1) := by decide +kernel
theorem dX1_hasMultipleOf_19 : decode cX1_hasMultipleOf 19 = .ok (.iload_n 2, 1) := by decide +kernel
theorem dX1_hasMultipleOf_20 : decode cX1_hasMultipleOf 20 = .ok (.imul, 1) := by decide +kernel
theorem dX1_hasMultipleOf_21 : decode cX1_hasMultipleOf 21 = .ok (.aload_n 0, 1) := by decide +kernel
theorem dX1_hasMultipleOf_22 : decode cX1_hasMultipleOf 22 = .ok (.getfield 19, 3) := by decide +kernel
theorem dX1_hasMultipleOf_25 : decode cX1_hasMultipleOf 25 = .ok (.iload 4, 2) := by decide +kernel
theorem dX1_hasMultipleOf_27 : decode cX1_hasMultipleOf 27 = .ok (.iaload, 1) := by decide +kernel
theorem dX1_hasMultipleOf_28 : decode cX1_hasMultipleOf 28 = .ok (.iload_n 1, 1) := by decide +kernel
theorem dX1_hasMultipleOf_29 : decode cX1_hasMultipleOf 29 = .ok (.imul, 1) := by decide +kernel
theorem dX1_hasMultipleOf_30 : decode cX1_hasMultipleOf 30 = .ok (.if_icmp .ne 47, 3) := by decide +kernel
theorem dX1_hasMultipleOf_33 : decode cX1_hasMultipleOf 33 = .ok (.aload_n 0, 1) := by decide +kernel
theorem dX1_hasMultipleOf_34 : decode cX1_hasMultipleOf 34 = .ok (.getfield 15, 3) := by decide +kernel
theorem dX1_hasMultipleOf_37 : decode cX1_hasMultipleOf 37 = .ok (.iload 4, 2) := by decide +kernel
theorem dX1_hasMultipleOf_39 : decode cX1_hasMultipleOf 39 = .ok (.iaload, 1) := by decide +kernel
theorem dX1_hasMultipleOf_40 : decode cX1_hasMultipleOf 40 = .ok (.iload_n 3, 1) := by decide +kernel
theorem dX1_hasMultipleOf_41 : decode cX1_hasMultipleOf 41 = .ok (.imul, 1) := by decide +kernel
theorem dX1_hasMultipleOf_42 : decode cX1_hasMultipleOf 42 = .ok (.aload_n 0, 1) := by decide +kernel
theorem dX1_hasMultipleOf_43 : decode cX1_hasMultipleOf 43 = .ok (.getfield 22, 3) := by decide +kernel
theorem dX1_hasMultipleOf_46 : decode cX1_hasMultipleOf 46 = .ok (.iload 4, 2) := by decide +kernel
theorem dX1_hasMultipleOf_48 : decode cX1_hasMultipleOf 48 = .ok (.iaload, 1) := by decide +kernel
theorem dX1_hasMultipleOf_49 : decode cX1_hasMultipleOf 49 = .ok (.iload_n 1, 1) := by decide +kernel
theorem dX1_hasMultipleOf_50 : decode cX1_hasMultipleOf 50 = .ok (.imul, 1) := by decide +kernel
theorem dX1_hasMultipleOf_51 : decode cX1_hasMultipleOf 51 = .ok (.if_icmp .ne 26, 3) := by decide +kernel
theorem dX1_hasMultipleOf_54 : decode cX1_hasMultipleOf 54 = .ok (.aload_n 0, 1) := by decide +kernel
theorem dX1_hasMultipleOf_55 : decode cX1_hasMultipleOf 55 = .ok (.getfield 19, 3) := by decide +kernel
theorem dX1_hasMultipleOf_58 : decode cX1_hasMultipleOf 58 = .ok (.iload 4, 2) := by decide +kernel
theorem dX1_hasMultipleOf_60 : decode cX1_hasMultipleOf 60 = .ok (.iaload, 1) := by decide +kernel
theorem dX1_hasMultipleOf_61 : decode cX1_hasMultipleOf 61 = .ok (.iload_n 3, 1) := by decide +kernel
theorem dX1_hasMultipleOf_62 : decode cX1_hasMultipleOf 62 = .ok (.imul, 1) := by decide +kernel
theorem dX1_hasMultipleOf_63 : decode cX1_hasMultipleOf 63 = .ok (.aload_n 0, 1) := by decide +kernel
theorem dX1_hasMultipleOf_64 : decode cX1_hasMultipleOf 64 = .ok (.getfield 22, 3) := by decide +kernel
theorem dX1_hasMultipleOf_67 : decode cX1_hasMultipleOf 67 = .ok (.iload 4, 2) := by decide +kernel
theorem dX1_hasMultipleOf_69 : decode cX1_hasMultipleOf 69 = .ok (.iaload, 1) := by decide +kernel
theorem dX1_hasMultipleOf_70 : decode cX1_hasMultipleOf 70 = .ok (.iload_n 2, 1) := by decide +kernel
theorem dX1_hasMultipleOf_71 : decode cX1_hasMultipleOf 71 = .ok (.imul, 1) := by decide +kernel
theorem dX1_hasMultipleOf_72 : decode cX1_hasMultipleOf 72 = .ok (.if_icmp .ne 5, 3) := by decide +kernel
theorem dX1_hasMultipleOf_75 : decode cX1_hasMultipleOf 75 = .ok (.iconst 1, 1) := by decide +kernel
theorem dX1_hasMultipleOf_76 : decode cX1_hasMultipleOf 76 = .ok (.ireturn, 1) := by decide +kernel
theorem dX1_hasMultipleOf_77 : decode cX1_hasMultipleOf 77 = .ok (.iinc 4 1, 3) := by decide +kernel
theorem dX1_hasMultipleOf_80 : decode cX1_hasMultipleOf 80 = .ok (.goto (-77), 3) := by decide +kernel
theorem dX1_hasMultipleOf_83 : decode cX1_hasMultipleOf 83 = .ok (.iconst 0, 1) := by decide +kernel
theorem dX1_hasMultipleOf_84 : decode cX1_hasMultipleOf 84 = .ok (.ireturn, 1) := by decide +kernel
theorem dX1_add_0 : decode cX1_add 0 = .ok (.aload_n 0, 1) := by decide +kernel
theorem dX1_add_1 : decode cX1_add 1 = .ok (.getfield 9, 3) := by decide +kernel
theorem dX1_add_4 : decode cX1_add 4 = .ok (.istore 4, 2) := by decide +kernel
theorem dX1_add_6 : decode cX1_add 6 = .ok (.aload_n 0, 1) := by decide +kernel
theorem dX1_add_7 : decode cX1_add 7 = .ok (.getfield 15, 3) := by decide +kernel
theorem dX1_add_10 : decode cX1_add 10 = .ok (.iload 4, 2) := by decide +kernel
theorem dX1_add_12 : decode cX1_add 12 = .ok (.iload_n 1, 1) := by decide +kernel
theorem dX1_add_13 : decode cX1_add 13 = .ok (.iastore, 1) := by decide +kernel
theorem dX1_add_14 : decode cX1_add 14 = .ok (.aload_n 0, 1) := by decide +kernel
theorem dX1_add_15 : decode cX1_add 15 = .ok (.getfield 19, 3) := by decide +kernel
theorem dX1_add_18 : decode cX1_add 18 = .ok (.iload 4, 2) := by decide +kernel
theorem dX1_add_20 : decode cX1_add 20 = .ok (.iload_n 2, 1) := by decide +kernel
theorem dX1_add_21 : decode cX1_add 21 = .ok (.iastore, 1) := by decide +kernel
theorem dX1_add_22 : decode cX1_add 22 = .ok (.aload_n 0, 1) := by decide +kernel
theorem dX1_add_23 : decode cX1_add 23 = .ok (.getfield 22, 3) := by decide +kernel
theorem dX1_add_26 : decode cX1_add 26 = .ok (.iload 4, 2) := by decide +kernel
theorem dX1_add_28 : decode cX1_add 28 = .ok (.iload_n 3, 1) := by decide +kernel
theorem dX1_add_29 : decode cX1_add 29 = .ok (.iastore, 1) := by decide +kernel
theorem dX1_add_30 : decode cX1_add 30 = .ok (.aload_n 0, 1) := by decide +kernel
theorem dX1_add_31 : decode cX1_add 31 = .ok (.getfield 25, 3) := by decide +kernel
theorem dX1_add_34 : decode cX1_add 34 = .ok (.iload 4, 2) := by decide +kernel
theorem dX1_add_36 : decode cX1_add 36 = .ok (.iconst 0, 1) := by decide +kernel
theorem dX1_add_37 : decode cX1_add 37 = .ok (.iastore, 1) := by decide +kernel
theorem dX1_add_38 : decode cX1_add 38 = .ok (.iconst 0, 1) := by decide +kernel
theorem dX1_add_39 : decode cX1_add 39 = .ok (.istore 5, 2) := by decide +kernel
theorem dX1_add_41 : decode cX1_add 41 = .ok (.iload 5, 2) := by decide +kernel
theorem dX1_add_43 : decode cX1_add 43 = .ok (.iload 4, 2) := by decide +kernel
theorem dX1_add_45 : decode cX1_add 45 = .ok (.if_icmp .ge 69, 3) := by decide +kernel
theorem dX1_add_48 : decode cX1_add 48 = .ok (.aload_n 0, 1) := by decide +kernel
theorem dX1_add_49 : decode cX1_add 49 = .ok (.getfield 15, 3) := by decide +kernel
theorem dX1_add_52 : decode cX1_add 52 = .ok (.iload 5, 2) := by decide +kernel
theorem dX1_add_54 : decode cX1_add 54 = .ok (.iaload, 1) := by decide +kernel
theorem dX1_add_55 : decode cX1_add 55 = .ok (.iload_n 1, 1) := by decide +kernel
theorem dX1_add_56 : decode cX1_add 56 = .ok (.imul, 1) := by decide +kernel
theorem dX1_add_57 : decode cX1_add 57 = .ok (.aload_n 0, 1) := by decide +kernel
theorem dX1_add_58 : decode cX1_add 58 = .ok (.getfield 19, 3) := by decide +kernel
theorem dX1_add_61 : decode cX1_add 61 = .ok (.iload 5, 2) := by decide +kernel
theorem dX1_add_63 : decode cX1_add 63 = .ok (.iaload, 1) := by decide +kernel
theorem dX1_add_64 : decode cX1_add 64 = .ok (.iload_n 2, 1) := by decide +kernel
theorem dX1_add_65 : decode cX1_add 65 = .ok (.imul, 1) := by decide +kernel
theorem dX1_add_66 : decode cX1_add 66 = .ok (.iadd, 1) := by decide +kernel
theorem dX1_add_67 : decode cX1_add 67 = .ok (.aload_n 0, 1) := by decide +kernel
theorem dX1_add_68 : decode cX1_add 68 = .ok (.getfield 22, 3) := by decide +kernel
theorem dX1_add_71 : decode cX1_add 71 = .ok (.iload 5, 2) := by decide +kernel
theorem dX1_add_73 : decode cX1_add 73 = .ok (.iaload, 1) := by decide +kernel
theorem dX1_add_74 : decode cX1_add 74 = .ok (.iload_n 3, 1) := by decide +kernel
theorem dX1_add_75 : decode cX1_add 75 = .ok (.imul, 1) := by decide +kernel
theorem dX1_add_76 : decode cX1_add 76 = .ok (.iadd, 1) := by decide +kernel
theorem dX1_add_77 : decode cX1_add 77 = .ok (.ifCond .ne 31, 3) := by decide +kernel
theorem dX1_add_80 : decode cX1_add 80 = .ok (.aload_n 0, 1) := by decide +kernel
theorem dX1_add_81 : decode cX1_add 81 = .ok (.getfield 25, 3) := by decide +kernel
theorem dX1_add_84 : decode cX1_add 84 = .ok (.iload 4, 2) := by decide +kernel
theorem dX1_add_86 : decode cX1_add 86 = .ok (.dup2, 1) := by decide +kernel
theorem dX1_add_87 : decode cX1_add 87 = .ok (.iaload, 1) := by decide +kernel
theorem dX1_add_88 : decode cX1_add 88 = .ok (.iconst 1, 1) := by decide +kernel
theorem dX1_add_89 : decode cX1_add 89 = .ok (.iload 5, 2) := by decide +kernel
theorem dX1_add_91 : decode cX1_add 91 = .ok (.ishl, 1) := by decide +kernel
theorem dX1_add_92 : decode cX1_add 92 = .ok (.ior, 1) := by decide +kernel
theorem dX1_add_93 : decode cX1_add 93 = .ok (.iastore, 1) := by decide +kernel
theorem dX1_add_94 : decode cX1_add 94 = .ok (.aload_n 0, 1) := by decide +kernel
theorem dX1_add_95 : decode cX1_add 95 = .ok (.getfield 25, 3) := by decide +kernel
theorem dX1_add_98 : decode cX1_add 98 = .ok (.iload 5, 2) := by decide +kernel
theorem dX1_add_100 : decode cX1_add 100 = .ok (.dup2, 1) := by decide +kernel
theorem dX1_add_101 : decode cX1_add 101 = .ok (.iaload, 1) := by decide +kernel
theorem dX1_add_102 : decode cX1_add 102 = .ok (.iconst 1, 1) := by decide +kernel
theorem dX1_add_103 : decode cX1_add 103 = .ok (.iload 4, 2) := by decide +kernel
theorem dX1_add_105 : decode cX1_add 105 = .ok (.ishl, 1) := by decide +kernel
theorem dX1_add_106 : decode cX1_add 106 = .ok (.ior, 1) := by decide +kernel
theorem dX1_add_107 : decode cX1_add 107 = .ok (.iastore, 1) := by decide +kernel
theorem dX1_add_108 : decode cX1_add 108 = .ok (.iinc 5 1, 3) := by decide +kernel
theorem dX1_add_111 : decode cX1_add 111 = .ok (.goto (-70), 3) := by decide +kernel
theorem dX1_add_114 : decode cX1_add 114 = .ok (.aload_n 0, 1) := by decide +kernel
theorem dX1_add_115 : decode cX1_add 115 = .ok (.dup, 1) := by decide +kernel
theorem dX1_add_116 : decode cX1_add 116 = .ok (.getfield 9, 3) := by decide +kernel
theorem dX1_add_119 : decode cX1_add 119 = .ok (.iconst 1, 1) := by decide +kernel
theorem dX1_add_120 : decode cX1_add 120 = .ok (.iadd, 1) := by decide +kernel
theorem dX1_add_121 : decode cX1_add 121 = .ok (.putfield 9, 3) := by decide +kernel
theorem dX1_add_124 : decode cX1_add 124 = .ok (.aload_n 0, 1) := by decide +kernel
theorem dX1_add_125 : decode cX1_add 125 = .ok (.iconst 0, 1) := by decide +kernel
theorem dX1_add_126 : decode cX1_add 126 = .ok (.putfield 31, 3) := by decide +kernel
theorem dX1_add_129 : decode cX1_add 129 = .ok (.iload 4, 2) := by decide +kernel
theorem dX1_add_131 : decode cX1_add 131 = .ok (.ireturn, 1) := by decide +kernel
theorem dX1_removeLatest_0 : decode cX1_removeLatest 0 = .ok (.aload_n 0, 1) := by decide +kernel
theorem dX1_removeLatest_1 : decode cX1_removeLatest 1 = .ok (.dup, 1) := by decide +kernel
theorem dX1_removeLatest_2 : decode cX1_removeLatest 2 = .ok (.getfield 9, 3) := by decide +kernel
theorem dX1_removeLatest_5 : decode cX1_removeLatest 5 = .ok (.iconst 1, 1) := by decide +kernel
theorem dX1_removeLatest_6 : decode cX1_removeLatest 6 = .ok (.isub, 1) := by decide +kernel
theorem dX1_removeLatest_7 : decode cX1_removeLatest 7 = .ok (.putfield 9, 3) := by decide +kernel
theorem dX1_removeLatest_10 : decode cX1_removeLatest 10 = .ok (.iconst 0, 1) := by decide +kernel
theorem dX1_removeLatest_11 : decode cX1_removeLatest 11 = .ok (.istore_n 1, 1) := by decide +kernel
theorem dX1_removeLatest_12 : decode cX1_removeLatest 12 = .ok (.iload_n 1, 1) := by decide +kernel
theorem dX1_removeLatest_13 : decode cX1_removeLatest 13 = .ok (.aload_n 0, 1) := by decide +kernel
theorem dX1_removeLatest_14 : decode cX1_removeLatest 14 = .ok (.getfield 9, 3) := by decide +kernel
theorem dX1_removeLatest_17 : decode cX1_removeLatest 17 = .ok (.if_icmp .ge 26, 3) := by decide +kernel
theorem dX1_removeLatest_20 : decode cX1_removeLatest 20 = .ok (.aload_n 0, 1) := by decide +kernel
theorem dX1_removeLatest_21 : decode cX1_removeLatest 21 = .ok (.getfield 25, 3) := by decide +kernel
theorem dX1_removeLatest_24 : decode cX1_removeLatest 24 = .ok (.iload_n 1, 1) := by decide +kernel
theorem dX1_removeLatest_25 : decode cX1_removeLatest 25 = .ok (.dup2, 1) := by decide +kernel
theorem dX1_removeLatest_26 : decode cX1_removeLatest 26 = .ok (.iaload, 1) := by decide +kernel
theorem dX1_removeLatest_27 : decode cX1_removeLatest 27 = .ok (.iconst 1, 1) := by decide +kernel
theorem dX1_removeLatest_28 : decode cX1_removeLatest 28 = .ok (.aload_n 0, 1) := by decide +kernel
theorem dX1_removeLatest_29 : decode cX1_removeLatest 29 = .ok (.getfield 9, 3) := by decide +kernel
theorem dX1_removeLatest_32 : decode cX1_removeLatest 32 = .ok (.ishl, 1) := by decide +kernel
theorem dX1_removeLatest_33 : decode cX1_removeLatest 33 = .ok (.iconst (-1), 1) := by decide +kernel
theorem dX1_removeLatest_34 : decode cX1_removeLatest 34 = .ok (.ixor, 1) := by decide +kernel
theorem dX1_removeLatest_35 : decode cX1_removeLatest 35 = .ok (.iand, 1) := by decide +kernel
theorem dX1_removeLatest_36 : decode cX1_removeLatest 36 = .ok (.iastore, 1) := by decide +kernel
theorem dX1_removeLatest_37 : decode cX1_removeLatest 37 = .ok (.iinc 1 1, 3) := by decide +kernel
theorem dX1_removeLatest_40 : decode cX1_removeLatest 40 = .ok (.goto (-28), 3) := by decide +kernel
theorem dX1_removeLatest_43 : decode cX1_removeLatest 43 = .ok (.aload_n 0, 1) := by decide +kernel
theorem dX1_removeLatest_44 : decode cX1_removeLatest 44 = .ok (.iconst 0, 1) := by decide +kernel
theorem dX1_removeLatest_45 : decode cX1_removeLatest 45 = .ok (.putfield 31, 3) := by decide +kernel
theorem dX1_removeLatest_48 : decode cX1_removeLatest 48 = .ok (.aload_n 0, 1) := by decide +kernel
theorem dX1_removeLatest_49 : decode cX1_removeLatest 49 = .ok (.getfield 9, 3) := by decide +kernel
theorem dX1_removeLatest_52 : decode cX1_removeLatest 52 = .ok (.ireturn, 1) := by decide +kernel
theorem dX1_judge_0 : decode cX1_judge 0 = .ok (.aload_n 0, 1) := by decide +kernel
theorem dX1_judge_1 : decode cX1_judge 1 = .ok (.getfield 31, 3) := by decide +kernel
theorem dX1_judge_4 : decode cX1_judge 4 = .ok (.ifCond .eq 4, 3) := by decide +kernel
theorem dX1_judge_7 : decode cX1_judge 7 = .ok (.return_, 1) := by decide +kernel
theorem dX1_judge_8 : decode cX1_judge 8 = .ok (.aload_n 0, 1) := by decide +kernel
theorem dX1_judge_9 : decode cX1_judge 9 = .ok (.iconst 1, 1) := by decide +kernel
theorem dX1_judge_10 : decode cX1_judge 10 = .ok (.putfield 31, 3) := by decide +kernel
theorem dX1_judge_13 : decode cX1_judge 13 = .ok (.aload_n 0, 1) := by decide +kernel
theorem dX1_judge_14 : decode cX1_judge 14 = .ok (.invokevirtual 50, 3) := by decide +kernel
theorem dX1_judge_17 : decode cX1_judge 17 = .ok (.aload_n 0, 1) := by decide +kernel
theorem dX1_judge_18 : decode cX1_judge 18 = .ok (.iconst 0, 1) := by decide +kernel
theorem dX1_judge_19 : decode cX1_judge 19 = .ok (.putfield 41, 3) := by decide +kernel
theorem dX1_judge_22 : decode cX1_judge 22 = .ok (.aload_n 0, 1) := by decide +kernel
theorem dX1_judge_23 : decode cX1_judge 23 = .ok (.bipush (-4), 2) := by decide +kernel
theorem dX1_judge_25 : decode cX1_judge 25 = .ok (.putfield 44, 3) := by decide +kernel
theorem dX1_judge_28 : decode cX1_judge 28 = .ok (.aload_n 0, 1) := by decide +kernel
theorem dX1_judge_29 : decode cX1_judge 29 = .ok (.bipush (-4), 2) := by decide +kernel
theorem dX1_judge_31 : decode cX1_judge 31 = .ok (.putfield 47, 3) := by decide +kernel
theorem dX1_judge_34 : decode cX1_judge 34 = .ok (.iconst 0, 1) := by decide +kernel
theorem dX1_judge_35 : decode cX1_judge 35 = .ok (.istore_n 1, 1) := by decide +kernel
theorem dX1_judge_36 : decode cX1_judge 36 = .ok (.iload_n 1, 1) := by decide +kernel
theorem dX1_judge_37 : decode cX1_judge 37 = .ok (.iconst 1, 1) := by decide +kernel
theorem dX1_judge_38 : decode cX1_judge 38 = .ok (.aload_n 0, 1) := by decide +kernel
theorem dX1_judge_39 : decode cX1_judge 39 = .ok (.getfield 9, 3) := by decide +kernel
theorem dX1_judge_42 : decode cX1_judge 42 = .ok (.ishl, 1) := by decide +kernel
theorem dX1_judge_43 : decode cX1_judge 43 = .ok (.if_icmp .ge 61, 3) := by decide +kernel
theorem dX1_judge_46 : decode cX1_judge 46 = .ok (.aload_n 0, 1) := by decide +kernel
theorem dX1_judge_47 : decode cX1_judge 47 = .ok (.iload_n 1, 1) := by decide +kernel
theorem dX1_judge_48 : decode cX1_judge 48 = .ok (.invokevirtual 53, 3) := by decide +kernel
theorem dX1_judge_51 : decode cX1_judge 51 = .ok (.ifCond .eq 47, 3) := by decide +kernel
theorem dX1_judge_54 : decode cX1_judge 54 = .ok (.aload_n 0, 1) := by decide +kernel
theorem dX1_judge_55 : decode cX1_judge 55 = .ok (.aload_n 0, 1) := by decide +kernel
theorem dX1_judge_56 : decode cX1_judge 56 = .ok (.getfield 41, 3) := by decide +kernel
theorem dX1_judge_59 : decode cX1_judge 59 = .ok (.ifCond .ne 7, 3) := by decide +kernel
theorem dX1_judge_62 : decode cX1_judge 62 = .ok (.iload_n 1, 1) := by decide +kernel
theorem dX1_judge_63 : decode cX1_judge 63 = .ok (.goto 7, 3) := by decide +kernel
theorem dX1_judge_66 : decode cX1_judge 66 = .ok (.aload_n 0, 1) := by decide +kernel
theorem dX1_judge_67 : decode cX1_judge 67 = .ok (.getfield 44, 3) := by decide +kernel
theorem dX1_judge_70 : decode cX1_judge 70 = .ok (.putfield 44, 3) := by decide +kernel
theorem dX1_judge_73 : decode cX1_judge 73 = .ok (.aload_n 0, 1) := by decide +kernel
theorem dX1_judge_74 : decode cX1_judge 74 = .ok (.aload_n 0, 1) := by decide +kernel
theorem dX1_judge_75 : decode cX1_judge 75 = .ok (.getfield 47, 3) := by decide +kernel
theorem dX1_judge_78 : decode cX1_judge 78 = .ok (.iload_n 1, 1) := by decide +kernel
theorem dX1_judge_79 : decode cX1_judge 79 = .ok (.invokestatic 57, 3) := by decide +kernel
theorem dX1_judge_82 : decode cX1_judge 82 = .ok (.invokestatic 63, 3) := by decide +kernel
theorem dX1_judge_85 : decode cX1_judge 85 = .ok (.putfield 47, 3) := by decide +kernel
theorem dX1_judge_88 : decode cX1_judge 88 = .ok (.aload_n 0, 1) := by decide +kernel
theorem dX1_judge_89 : decode cX1_judge 89 = .ok (.dup, 1) := by decide +kernel
theorem dX1_judge_90 : decode cX1_judge 90 = .ok (.getfield 41, 3) := by decide +kernel
theorem dX1_judge_93 : decode cX1_judge 93 = .ok (.iconst 1, 1) := by decide +kernel
theorem dX1_judge_94 : decode cX1_judge 94 = .ok (.iadd, 1) := by decide +kernel
theorem dX1_judge_95 : decode cX1_judge 95 = .ok (.putfield 41, 3) := by decide +kernel
theorem dX1_judge_98 : decode cX1_judge 98 = .ok (.iinc 1 1, 3) := by decide +kernel
theorem dX1_judge_101 : decode cX1_judge 101 = .ok (.goto (-65), 3) := by decide +kernel
theorem dX1_judge_104 : decode cX1_judge 104 = .ok (.return_, 1) := by decide +kernel
theorem dX1_findPairsAndThrees_0 : decode cX1_findPairsAndThrees 0 = .ok (.aload_n 0, 1) := by decide +kernel
theorem dX1_findPairsAndThrees_1 : decode cX1_findPairsAndThrees 1 = .ok (.iconst 0, 1) := by decide +kernel
theorem dX1_findPairsAndThrees_2 : decode cX1_findPairsAndThrees 2 = .ok (.putfield 35, 3) := by decide +kernel
theorem dX1_findPairsAndThrees_5 : decode cX1_findPairsAndThrees 5 = .ok (.aload_n 0, 1) := by decide +kernel
theorem dX1_findPairsAndThrees_6 : decode cX1_findPairsAndThrees 6 = .ok (.iconst 0, 1) := by decide +kernel
theorem dX1_findPairsAndThrees_7 : decode cX1_findPairsAndThrees 7 = .ok (.putfield 38, 3) := by decide +kernel
theorem dX1_findPairsAndThrees_10 : decode cX1_findPairsAndThrees 10 = .ok (.iconst 0, 1) := by decide +kernel
theorem dX1_findPairsAndThrees_11 : decode cX1_findPairsAndThrees 11 = .ok (.istore_n 1, 1) := by decide +kernel
theorem dX1_findPairsAndThrees_12 : decode cX1_findPairsAndThrees 12 = .ok (.iload_n 1, 1) := by decide +kernel
theorem dX1_findPairsAndThrees_13 : decode cX1_findPairsAndThrees 13 = .ok (.aload_n 0, 1) := by decide +kernel
theorem dX1_findPairsAndThrees_14 : decode cX1_findPairsAndThrees 14 = .ok (.getfield 9, 3) := by decide +kernel
theorem dX1_findPairsAndThrees_17 : decode cX1_findPairsAndThrees 17 = .ok (.if_icmp .ge 57, 3) := by decide +kernel
theorem dX1_findPairsAndThrees_20 : decode cX1_findPairsAndThrees 20 = .ok (.iload_n 1, 1) := by decide +kernel
theorem dX1_findPairsAndThrees_21 : decode cX1_findPairsAndThrees 21 = .ok (.iconst 1, 1) := by decide +kernel
theorem dX1_findPairsAndThrees_22 : decode cX1_findPairsAndThrees 22 = .ok (.iadd, 1) := by decide +kernel
theorem dX1_findPairsAndThrees_23 : decode cX1_findPairsAndThrees 23 = .ok (.istore_n 2, 1) := by decide +kernel
theorem dX1_findPairsAndThrees_24 : decode cX1_findPairsAndThrees 24 = .ok (.iload_n 2, 1) := by decide +kernel
theorem dX1_findPairsAndThrees_25 : decode cX1_findPairsAndThrees 25 = .ok (.aload_n 0, 1) := by decide +kernel
theorem dX1_findPairsAndThrees_26 : decode cX1_findPairsAndThrees 26 = .ok (.getfield 9, 3) := by decide +kernel
theorem dX1_findPairsAndThrees_29 : decode cX1_findPairsAndThrees 29 = .ok (.if_icmp .ge 39, 3) := by decide +kernel
theorem dX1_findPairsAndThrees_32 : decode cX1_findPairsAndThrees 32 = .ok (.aload_n 0, 1) := by decide +kernel
theorem dX1_findPairsAndThrees_33 : decode cX1_findPairsAndThrees 33 = .ok (.getfield 25, 3) := by decide +kernel
theorem dX1_findPairsAndThrees_36 : decode cX1_findPairsAndThrees 36 = .ok (.iload_n 1, 1) := by decide +kernel
theorem dX1_findPairsAndThrees_37 : decode cX1_findPairsAndThrees 37 = .ok (.iaload, 1) := by decide +kernel
theorem dX1_findPairsAndThrees_38 : decode cX1_findPairsAndThrees 38 = .ok (.iload_n 2, 1) := by decide +kernel
theorem dX1_findPairsAndThrees_39 : decode cX1_findPairsAndThrees 39 = .ok (.ishr, 1) := by decide +kernel
theorem dX1_findPairsAndThrees_40 : decode cX1_findPairsAndThrees 40 = .ok (.iconst 1, 1) := by decide +kernel
theorem dX1_findPairsAndThrees_41 : decode cX1_findPairsAndThrees 41 = .ok (.iand, 1) := by decide +kernel
theorem dX1_findPairsAndThrees_42 : decode cX1_findPairsAndThrees 42 = .ok (.iconst 1, 1) := by decide +kernel
theorem dX1_findPairsAndThrees_43 : decode cX1_findPairsAndThrees 43 = .ok (.if_icmp .ne 19, 3) := by decide +kernel
theorem dX1_findPairsAndThrees_46 : decode cX1_findPairsAndThrees 46 = .ok (.aload_n 0, 1) := by decide +kernel
theorem dX1_findPairsAndThrees_47 : decode cX1_findPairsAndThrees 47 = .ok (.dup, 1) := by decide +kernel
theorem dX1_findPairsAndThrees_48 : decode cX1_findPairsAndThrees 48 = .ok (.getfield 35, 3) := by decide +kernel
theorem dX1_findPairsAndThrees_51 : decode cX1_findPairsAndThrees 51 = .ok (.iconst 1, 1) := by decide +kernel
theorem dX1_findPairsAndThrees_52 : decode cX1_findPairsAndThrees 52 = .ok (.iadd, 1) := by decide +kernel
theorem dX1_findPairsAndThrees_53 : decode cX1_findPairsAndThrees 53 = .ok (.putfield 35, 3) := by decide +kernel
theorem dX1_findPairsAndThrees_56 : decode cX1_findPairsAndThrees 56 = .ok (.aload_n 0, 1) := by decide +kernel
theorem dX1_findPairsAndThrees_57 : decode cX1_findPairsAndThrees 57 = .ok (.iload_n 1, 1) := by decide +kernel
theorem dX1_findPairsAndThrees_58 : decode cX1_findPairsAndThrees 58 = .ok (.iload_n 2, 1) := by decide +kernel
theorem dX1_findPairsAndThrees_59 : decode cX1_findPairsAndThrees 59 = .ok (.invokevirtual 69, 3) := by decide +kernel
theorem dX1_findPairsAndThrees_62 : decode cX1_findPairsAndThrees 62 = .ok (.iinc 2 1, 3) := by decide +kernel
theorem dX1_findPairsAndThrees_65 : decode cX1_findPairsAndThrees 65 = .ok (.goto (-41), 3) := by decide +kernel
theorem dX1_findPairsAndThrees_68 : decode cX1_findPairsAndThrees 68 = .ok (.iinc 1 1, 3) := by decide +kernel
theorem dX1_findPairsAndThrees_71 : decode cX1_findPairsAndThrees 71 = .ok (.goto (-59), 3) := by decide +kernel
theorem dX1_findPairsAndThrees_74 : decode cX1_findPairsAndThrees 74 = .ok (.return_, 1) := by decide +kernel
theorem dX1_findThreesOf_0 : decode cX1_findThreesOf 0 = .ok (.aload_n 0, 1) := by decide +kernel
theorem dX1_findThreesOf_1 : decode cX1_findThreesOf 1 = .ok (.getfield 25, 3) := by decide +kernel
theorem dX1_findThreesOf_4 : decode cX1_findThreesOf 4 = .ok (.iload_n 1, 1) := by decide +kernel
theorem dX1_findThreesOf_5 : decode cX1_findThreesOf 5 = .ok (.iaload, 1) := by decide +kernel
theorem dX1_findThreesOf_6 : decode cX1_findThreesOf 6 = .ok (.aload_n 0, 1) := by decide +kernel
theorem dX1_findThreesOf_7 : decode cX1_findThreesOf 7 = .ok (.getfield 25, 3) := by decide +kernel
theorem dX1_findThreesOf_10 : decode cX1_findThreesOf 10 = .ok (.iload_n 2, 1) := by decide +kernel
theorem dX1_findThreesOf_11 : decode cX1_findThreesOf 11 = .ok (.iaload, 1) := by decide +kernel
theorem dX1_findThreesOf_12 : decode cX1_findThreesOf 12 = .ok (.iand, 1) := by decide +kernel
theorem dX1_findThreesOf_13 : decode cX1_findThreesOf 13 = .ok (.istore_n 3, 1) := by decide +kernel
theorem dX1_findThreesOf_14 : decode cX1_findThreesOf 14 = .ok (.iload_n 2, 1) := by decide +kernel
theorem dX1_findThreesOf_15 : decode cX1_findThreesOf 15 = .ok (.iconst 1, 1) := by decide +kernel
theorem dX1_findThreesOf_16 : decode cX1_findThreesOf 16 = .ok (.iadd, 1) := by decide +kernel
theorem dX1_findThreesOf_17 : decode cX1_findThreesOf 17 = .ok (.istore 4, 2) := by decide +kernel
theorem dX1_findThreesOf_19 : decode cX1_findThreesOf 19 = .ok (.iload 4, 2) := by decide +kernel
theorem dX1_findThreesOf_21 : decode cX1_findThreesOf 21 = .ok (.aload_n 0, 1) := by decide +kernel
theorem dX1_findThreesOf_22 : decode cX1_findThreesOf 22 = .ok (.getfield 9, 3) := by decide +kernel
theorem dX1_findThreesOf_25 : decode cX1_findThreesOf 25 = .ok (.if_icmp .ge 60, 3) := by decide +kernel
theorem dX1_findThreesOf_28 : decode cX1_findThreesOf 28 = .ok (.iload_n 3, 1) := by decide +kernel
theorem dX1_findThreesOf_29 : decode cX1_findThreesOf 29 = .ok (.iload 4, 2) := by decide +kernel
theorem dX1_findThreesOf_31 : decode cX1_findThreesOf 31 = .ok (.ishr, 1) := by decide +kernel
theorem dX1_findThreesOf_32 : decode cX1_findThreesOf 32 = .ok (.iconst 1, 1) := by decide +kernel
theorem dX1_findThreesOf_33 : decode cX1_findThreesOf 33 = .ok (.iand, 1) := by decide +kernel
theorem dX1_findThreesOf_34 : decode cX1_findThreesOf 34 = .ok (.iconst 1, 1) := by decide +kernel
theorem dX1_findThreesOf_35 : decode cX1_findThreesOf 35 = .ok (.if_icmp .ne 44, 3) := by decide +kernel
theorem dX1_findThreesOf_38 : decode cX1_findThreesOf 38 = .ok (.aload_n 0, 1) := by decide +kernel
theorem dX1_findThreesOf_39 : decode cX1_findThreesOf 39 = .ok (.getfield 38, 3) := by decide +kernel
theorem dX1_findThreesOf_42 : decode cX1_findThreesOf 42 = .ok (.sipush 220, 3) := by decide +kernel
theorem dX1_findThreesOf_45 : decode cX1_findThreesOf 45 = .ok (.if_icmp .ge 34, 3) := by decide +kernel
theorem dX1_findThreesOf_48 : decode cX1_findThreesOf 48 = .ok (.aload_n 0, 1) := by decide +kernel
theorem dX1_findThreesOf_49 : decode cX1_findThreesOf 49 = .ok (.getfield 28, 3) := by decide +kernel
theorem dX1_findThreesOf_52 : decode cX1_findThreesOf 52 = .ok (.aload_n 0, 1) := by decide +kernel
theorem dX1_findThreesOf_53 : decode cX1_findThreesOf 53 = .ok (.getfield 38, 3) := by decide +kernel
theorem dX1_findThreesOf_56 : decode cX1_findThreesOf 56 = .ok (.iconst 1, 1) := by decide +kernel
theorem dX1_findThreesOf_57 : decode cX1_findThreesOf 57 = .ok (.iload_n 1, 1) := by decide +kernel
theorem dX1_findThreesOf_58 : decode cX1_findThreesOf 58 = .ok (.ishl, 1) := by decide +kernel
theorem dX1_findThreesOf_59 : decode cX1_findThreesOf 59 = .ok (.iconst 1, 1) := by decide +kernel
theorem dX1_findThreesOf_60 : decode cX1_findThreesOf 60 = .ok (.iload_n 2, 1) := by decide +kernel
theorem dX1_findThreesOf_61 : decode cX1_findThreesOf 61 = .ok (.ishl, 1) := by decide +kernel
theorem dX1_findThreesOf_62 : decode cX1_findThreesOf 62 = .ok (.ior, 1) := by decide +kernel
theorem dX1_findThreesOf_63 : decode cX1_findThreesOf 63 = .ok (.iconst 1, 1) := by decide +kernel
theorem dX1_findThreesOf_64 : decode cX1_findThreesOf 64 = .ok (.iload 4, 2) := by decide +kernel
theorem dX1_findThreesOf_66 : decode cX1_findThreesOf 66 = .ok (.ishl, 1) := by decide +kernel
theorem dX1_findThreesOf_67 : decode cX1_findThreesOf 67 = .ok (.ior, 1) := by decide +kernel
theorem dX1_findThreesOf_68 : decode cX1_findThreesOf 68 = .ok (.iastore, 1) := by decide +kernel
theorem dX1_findThreesOf_69 : decode cX1_findThreesOf 69 = .ok (.aload_n 0, 1) := by decide +kernel
theorem dX1_findThreesOf_70 : decode cX1_findThreesOf 70 = .ok (.dup, 1) := by decide +kernel
theorem dX1_findThreesOf_71 : decode cX1_findThreesOf 71 = .ok (.getfield 38, 3) := by decide +kernel
theorem dX1_findThreesOf_74 : decode cX1_findThreesOf 74 = .ok (.iconst 1, 1) := by decide +kernel
theorem dX1_findThreesOf_75 : decode cX1_findThreesOf 75 = .ok (.iadd, 1) := by decide +kernel
theorem dX1_findThreesOf_76 : decode cX1_findThreesOf 76 = .ok (.putfield 38, 3) := by decide +kernel
theorem dX1_findThreesOf_79 : decode cX1_findThreesOf 79 = .ok (.iinc 4 1, 3) := by decide +kernel
theorem dX1_findThreesOf_82 : decode cX1_findThreesOf 82 = .ok (.goto (-63), 3) := by decide +kernel
theorem dX1_findThreesOf_85 : decode cX1_findThreesOf 85 = .ok (.return_, 1) := by decide +kernel
theorem dX1_areColours_0 : decode cX1_areColours 0 = .ok (.iconst 0, 1) := by decide +kernel
theorem dX1_areColours_1 : decode cX1_areColours 1 = .ok (.istore_n 2, 1) := by decide +kernel
theorem dX1_areColours_2 : decode cX1_areColours 2 = .ok (.iload_n 2, 1) := by decide +kernel
theorem dX1_areColours_3 : decode cX1_areColours 3 = .ok (.aload_n 0, 1) := by decide +kernel
theorem dX1_areColours_4 : decode cX1_areColours 4 = .ok (.getfield 38, 3) := by decide +kernel
theorem dX1_areColours_7 : decode cX1_areColours 7 = .ok (.if_icmp .ge 26, 3) := by decide +kernel
theorem dX1_areColours_10 : decode cX1_areColours 10 = .ok (.iload_n 1, 1) := by decide +kernel
theorem dX1_areColours_11 : decode cX1_areColours 11 = .ok (.aload_n 0, 1) := by decide +kernel
theorem dX1_areColours_12 : decode cX1_areColours 12 = .ok (.getfield 28, 3) := by decide +kernel
theorem dX1_areColours_15 : decode cX1_areColours 15 = .ok (.iload_n 2, 1) := by decide +kernel
theorem dX1_areColours_16 : decode cX1_areColours 16 = .ok (.iaload, 1) := by decide +kernel
theorem dX1_areColours_17 : decode cX1_areColours 17 = .ok (.iand, 1) := by decide +kernel
theorem dX1_areColours_18 : decode cX1_areColours 18 = .ok (.invokestatic 57, 3) := by decide +kernel
theorem dX1_areColours_21 : decode cX1_areColours 21 = .ok (.iconst 1, 1) := by decide +kernel
theorem dX1_areColours_22 : decode cX1_areColours 22 = .ok (.if_icmp .eq 5, 3) := by decide +kernel
theorem dX1_areColours_25 : decode cX1_areColours 25 = .ok (.iconst 0, 1) := by decide +kernel
theorem dX1_areColours_26 : decode cX1_areColours 26 = .ok (.ireturn, 1) := by decide +kernel
theorem dX1_areColours_27 : decode cX1_areColours 27 = .ok (.iinc 2 1, 3) := by decide +kernel
theorem dX1_areColours_30 : decode cX1_areColours 30 = .ok (.goto (-28), 3) := by decide +kernel
theorem dX1_areColours_33 : decode cX1_areColours 33 = .ok (.iconst 0, 1) := by decide +kernel
theorem dX1_areColours_34 : decode cX1_areColours 34 = .ok (.istore_n 2, 1) := by decide +kernel
theorem dX1_areColours_35 : decode cX1_areColours 35 = .ok (.iload_n 2, 1) := by decide +kernel
theorem dX1_areColours_36 : decode cX1_areColours 36 = .ok (.aload_n 0, 1) := by decide +kernel
theorem dX1_areColours_37 : decode cX1_areColours 37 = .ok (.getfield 9, 3) := by decide +kernel
theorem dX1_areColours_40 : decode cX1_areColours 40 = .ok (.if_icmp .ge 31, 3) := by decide +kernel
theorem dX1_areColours_43 : decode cX1_areColours 43 = .ok (.iload_n 1, 1) := by decide +kernel
theorem dX1_areColours_44 : decode cX1_areColours 44 = .ok (.iload_n 2, 1) := by decide +kernel
theorem dX1_areColours_45 : decode cX1_areColours 45 = .ok (.ishr, 1) := by decide +kernel
theorem dX1_areColours_46 : decode cX1_areColours 46 = .ok (.iconst 1, 1) := by decide +kernel
theorem dX1_areColours_47 : decode cX1_areColours 47 = .ok (.iand, 1) := by decide +kernel
theorem dX1_areColours_48 : decode cX1_areColours 48 = .ok (.iconst 1, 1) := by decide +kernel
theorem dX1_areColours_49 : decode cX1_areColours 49 = .ok (.if_icmp .ne 16, 3) := by decide +kernel
theorem dX1_areColours_52 : decode cX1_areColours 52 = .ok (.aload_n 0, 1) := by decide +kernel
theorem dX1_areColours_53 : decode cX1_areColours 53 = .ok (.getfield 25, 3) := by decide +kernel
theorem dX1_areColours_56 : decode cX1_areColours 56 = .ok (.iload_n 2, 1) := by decide +kernel
theorem dX1_areColours_57 : decode cX1_areColours 57 = .ok (.iaload, 1) := by decide +kernel
theorem dX1_areColours_58 : decode cX1_areColours 58 = .ok (.iload_n 1, 1) := by decide +kernel
theorem dX1_areColours_59 : decode cX1_areColours 59 = .ok (.iand, 1) := by decide +kernel
theorem dX1_areColours_60 : decode cX1_areColours 60 = .ok (.ifCond .eq 5, 3) := by decide +kernel
theorem dX1_areColours_63 : decode cX1_areColours 63 = .ok (.iconst 0, 1) := by decide +kernel
theorem dX1_areColours_64 : decode cX1_areColours 64 = .ok (.ireturn, 1) := by decide +kernel
theorem dX1_areColours_65 : decode cX1_areColours 65 = .ok (.iinc 2 1, 3) := by decide +kernel
theorem dX1_areColours_68 : decode cX1_areColours 68 = .ok (.goto (-33), 3) := by decide +kernel
theorem dX1_areColours_71 : decode cX1_areColours 71 = .ok (.iconst 1, 1) := by decide +kernel
theorem dX1_areColours_72 : decode cX1_areColours 72 = .ok (.ireturn, 1) := by decide +kernel
