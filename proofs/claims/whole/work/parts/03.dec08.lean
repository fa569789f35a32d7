theorem dX5_part_28 : decode cX5_part 28 = .ok (.aload_n 0, 1) := by decide +kernel
theorem dX5_part_29 : decode cX5_part 29 = .ok (.invokevirtual 137, 3) := by decide +kernel
theorem dX5_part_32 : decode cX5_part 32 = .ok (.istore_n 3, 1) := by decide +kernel
theorem dX5_part_33 : decode cX5_part 33 = .ok (.iload_n 1, 1) := by decide +kernel
theorem dX5_part_34 : decode cX5_part 34 = .ok (.bipush (-4), 2) := by decide +kernel
theorem dX5_part_36 : decode cX5_part 36 = .ok (.if_icmp .ne 8, 3) := by decide +kernel
theorem dX5_part_39 : decode cX5_part 39 = .ok (.aload_n 0, 1) := by decide +kernel
theorem dX5_part_40 : decode cX5_part 40 = .ok (.getfield 123, 3) := by decide +kernel
theorem dX5_part_43 : decode cX5_part 43 = .ok (.ireturn, 1) := by decide +kernel
theorem dX5_part_44 : decode cX5_part 44 = .ok (.iload_n 3, 1) := by decide +kernel
theorem dX5_part_45 : decode cX5_part 45 = .ok (.bipush (-6), 2) := by decide +kernel
theorem dX5_part_47 : decode cX5_part 47 = .ok (.if_icmp .ne 8, 3) := by decide +kernel
theorem dX5_part_50 : decode cX5_part 50 = .ok (.bipush (-6), 2) := by decide +kernel
theorem dX5_part_52 : decode cX5_part 52 = .ok (.goto 23, 3) := by decide +kernel
theorem dX5_part_55 : decode cX5_part 55 = .ok (.iload_n 3, 1) := by decide +kernel
theorem dX5_part_56 : decode cX5_part 56 = .ok (.ifCond .eq 8, 3) := by decide +kernel
theorem dX5_part_59 : decode cX5_part 59 = .ok (.iload_n 1, 1) := by decide +kernel
theorem dX5_part_60 : decode cX5_part 60 = .ok (.iload_n 2, 1) := by decide +kernel
theorem dX5_part_61 : decode cX5_part 61 = .ok (.if_icmp .lt 8, 3) := by decide +kernel
theorem dX5_part_64 : decode cX5_part 64 = .ok (.bipush (-4), 2) := by decide +kernel
theorem dX5_part_66 : decode cX5_part 66 = .ok (.goto 9, 3) := by decide +kernel
theorem dX5_part_69 : decode cX5_part 69 = .ok (.aload_n 0, 1) := by decide +kernel
theorem dX5_part_70 : decode cX5_part 70 = .ok (.getfield 29, 3) := by decide +kernel
theorem dX5_part_73 : decode cX5_part 73 = .ok (.iload_n 1, 1) := by decide +kernel
theorem dX5_part_74 : decode cX5_part 74 = .ok (.iaload, 1) := by decide +kernel
theorem dX5_part_75 : decode cX5_part 75 = .ok (.ireturn, 1) := by decide +kernel
theorem dX5_mix_0 : decode cX5_mix 0 = .ok (.aload_n 0, 1) := by decide +kernel
theorem dX5_mix_1 : decode cX5_mix 1 = .ok (.getfield 7, 3) := by decide +kernel
theorem dX5_mix_4 : decode cX5_mix 4 = .ok (.iconst 4, 1) := by decide +kernel
theorem dX5_mix_5 : decode cX5_mix 5 = .ok (.if_icmp .gt 27, 3) := by decide +kernel
theorem dX5_mix_8 : decode cX5_mix 8 = .ok (.iload_n 1, 1) := by decide +kernel
theorem dX5_mix_9 : decode cX5_mix 9 = .ok (.i2l, 1) := by decide +kernel
theorem dX5_mix_10 : decode cX5_mix 10 = .ok (.lconst 0, 1) := by decide +kernel
theorem dX5_mix_11 : decode cX5_mix 11 = .ok (.ldc2_w 140, 3) := by decide +kernel
theorem dX5_mix_14 : decode cX5_mix 14 = .ok (.invokestatic 59, 3) := by decide +kernel
theorem dX5_mix_17 : decode cX5_mix 17 = .ok (.ifCond .eq 15, 3) := by decide +kernel
theorem dX5_mix_20 : decode cX5_mix 20 = .ok (.iload_n 1, 1) := by decide +kernel
theorem dX5_mix_21 : decode cX5_mix 21 = .ok (.i2l, 1) := by decide +kernel
theorem dX5_mix_22 : decode cX5_mix 22 = .ok (.aload_n 0, 1) := by decide +kernel
theorem dX5_mix_23 : decode cX5_mix 23 = .ok (.invokevirtual 88, 3) := by decide +kernel
theorem dX5_mix_26 : decode cX5_mix 26 = .ok (.lshr, 1) := by decide +kernel
theorem dX5_mix_27 : decode cX5_mix 27 = .ok (.lconst 0, 1) := by decide +kernel
theorem dX5_mix_28 : decode cX5_mix 28 = .ok (.lcmp, 1) := by decide +kernel
theorem dX5_mix_29 : decode cX5_mix 29 = .ok (.ifCond .eq 5, 3) := by decide +kernel
theorem dX5_mix_32 : decode cX5_mix 32 = .ok (.iconst (-1), 1) := by decide +kernel
theorem dX5_mix_33 : decode cX5_mix 33 = .ok (.ireturn, 1) := by decide +kernel
theorem dX5_mix_34 : decode cX5_mix 34 = .ok (.aload_n 0, 1) := by decide +kernel
theorem dX5_mix_35 : decode cX5_mix 35 = .ok (.getfield 56, 3) := by decide +kernel
theorem dX5_mix_38 : decode cX5_mix 38 = .ok (.ifCond .ne 6, 3) := by decide +kernel
theorem dX5_mix_41 : decode cX5_mix 41 = .ok (.bipush (-2), 2) := by decide +kernel
theorem dX5_mix_43 : decode cX5_mix 43 = .ok (.ireturn, 1) := by decide +kernel
theorem dX5_mix_44 : decode cX5_mix 44 = .ok (.iconst 0, 1) := by decide +kernel
theorem dX5_mix_45 : decode cX5_mix 45 = .ok (.istore_n 2, 1) := by decide +kernel
theorem dX5_mix_46 : decode cX5_mix 46 = .ok (.iload_n 2, 1) := by decide +kernel
theorem dX5_mix_47 : decode cX5_mix 47 = .ok (.bipush 64, 2) := by decide +kernel
theorem dX5_mix_49 : decode cX5_mix 49 = .ok (.if_icmp .ge 16, 3) := by decide +kernel
theorem dX5_mix_52 : decode cX5_mix 52 = .ok (.aload_n 0, 1) := by decide +kernel
theorem dX5_mix_53 : decode cX5_mix 53 = .ok (.getfield 20, 3) := by decide +kernel
theorem dX5_mix_56 : decode cX5_mix 56 = .ok (.iload_n 2, 1) := by decide +kernel
theorem dX5_mix_57 : decode cX5_mix 57 = .ok (.iconst 0, 1) := by decide +kernel
theorem dX5_mix_58 : decode cX5_mix 58 = .ok (.iastore, 1) := by decide +kernel
theorem dX5_mix_59 : decode cX5_mix 59 = .ok (.iinc 2 1, 3) := by decide +kernel
theorem dX5_mix_62 : decode cX5_mix 62 = .ok (.goto (-16), 3) := by decide +kernel
theorem dX5_mix_65 : decode cX5_mix 65 = .ok (.iconst 0, 1) := by decide +kernel
theorem dX5_mix_66 : decode cX5_mix 66 = .ok (.istore_n 2, 1) := by decide +kernel
theorem dX5_mix_67 : decode cX5_mix 67 = .ok (.iconst 0, 1) := by decide +kernel
theorem dX5_mix_68 : decode cX5_mix 68 = .ok (.istore_n 3, 1) := by decide +kernel
theorem dX5_mix_69 : decode cX5_mix 69 = .ok (.iload_n 3, 1) := by decide +kernel
theorem dX5_mix_70 : decode cX5_mix 70 = .ok (.aload_n 0, 1) := by decide +kernel
theorem dX5_mix_71 : decode cX5_mix 71 = .ok (.invokevirtual 88, 3) := by decide +kernel
theorem dX5_mix_74 : decode cX5_mix 74 = .ok (.if_icmp .ge 61, 3) := by decide +kernel
theorem dX5_mix_77 : decode cX5_mix 77 = .ok (.iload_n 1, 1) := by decide +kernel
theorem dX5_mix_78 : decode cX5_mix 78 = .ok (.iload_n 3, 1) := by decide +kernel
theorem dX5_mix_79 : decode cX5_mix 79 = .ok (.ishr, 1) := by decide +kernel
theorem dX5_mix_80 : decode cX5_mix 80 = .ok (.iconst 1, 1) := by decide +kernel
theorem dX5_mix_81 : decode cX5_mix 81 = .ok (.iand, 1) := by decide +kernel
theorem dX5_mix_82 : decode cX5_mix 82 = .ok (.iconst 1, 1) := by decide +kernel
theorem dX5_mix_83 : decode cX5_mix 83 = .ok (.if_icmp .ne 46, 3) := by decide +kernel
theorem dX5_mix_86 : decode cX5_mix 86 = .ok (.iinc 2 1, 3) := by decide +kernel
theorem dX5_mix_89 : decode cX5_mix 89 = .ok (.iconst 0, 1) := by decide +kernel
theorem dX5_mix_90 : decode cX5_mix 90 = .ok (.istore 4, 2) := by decide +kernel
theorem dX5_mix_92 : decode cX5_mix 92 = .ok (.iload 4, 2) := by decide +kernel
theorem dX5_mix_94 : decode cX5_mix 94 = .ok (.aload_n 0, 1) := by decide +kernel
theorem dX5_mix_95 : decode cX5_mix 95 = .ok (.getfield 56, 3) := by decide +kernel
theorem dX5_mix_98 : decode cX5_mix 98 = .ok (.if_icmp .ge 31, 3) := by decide +kernel
theorem dX5_mix_101 : decode cX5_mix 101 = .ok (.aload_n 0, 1) := by decide +kernel
theorem dX5_mix_102 : decode cX5_mix 102 = .ok (.getfield 20, 3) := by decide +kernel
theorem dX5_mix_105 : decode cX5_mix 105 = .ok (.bipush 8, 2) := by decide +kernel
theorem dX5_mix_107 : decode cX5_mix 107 = .ok (.iload 4, 2) := by decide +kernel
theorem dX5_mix_109 : decode cX5_mix 109 = .ok (.imul, 1) := by decide +kernel
theorem dX5_mix_110 : decode cX5_mix 110 = .ok (.aload_n 0, 1) := by decide +kernel
theorem dX5_mix_111 : decode cX5_mix 111 = .ok (.iload 4, 2) := by decide +kernel
theorem dX5_mix_113 : decode cX5_mix 113 = .ok (.iload_n 3, 1) := by decide +kernel
theorem dX5_mix_114 : decode cX5_mix 114 = .ok (.invokevirtual 92, 3) := by decide +kernel
theorem dX5_mix_117 : decode cX5_mix 117 = .ok (.iadd, 1) := by decide +kernel
theorem dX5_mix_118 : decode cX5_mix 118 = .ok (.dup2, 1) := by decide +kernel
theorem dX5_mix_119 : decode cX5_mix 119 = .ok (.iaload, 1) := by decide +kernel
theorem dX5_mix_120 : decode cX5_mix 120 = .ok (.iconst 1, 1) := by decide +kernel
theorem dX5_mix_121 : decode cX5_mix 121 = .ok (.iadd, 1) := by decide +kernel
theorem dX5_mix_122 : decode cX5_mix 122 = .ok (.iastore, 1) := by decide +kernel
theorem dX5_mix_123 : decode cX5_mix 123 = .ok (.iinc 4 1, 3) := by decide +kernel
theorem dX5_mix_126 : decode cX5_mix 126 = .ok (.goto (-34), 3) := by decide +kernel
theorem dX5_mix_129 : decode cX5_mix 129 = .ok (.iinc 3 1, 3) := by decide +kernel
theorem dX5_mix_132 : decode cX5_mix 132 = .ok (.goto (-63), 3) := by decide +kernel
theorem dX5_mix_135 : decode cX5_mix 135 = .ok (.iload_n 2, 1) := by decide +kernel
theorem dX5_mix_136 : decode cX5_mix 136 = .ok (.ireturn, 1) := by decide +kernel
theorem dX5_fulfil_0 : decode cX5_fulfil 0 = .ok (.aload_n 0, 1) := by decide +kernel
theorem dX5_fulfil_1 : decode cX5_fulfil 1 = .ok (.getfield 56, 3) := by decide +kernel
theorem dX5_fulfil_4 : decode cX5_fulfil 4 = .ok (.ifCond .ne 6, 3) := by decide +kernel
theorem dX5_fulfil_7 : decode cX5_fulfil 7 = .ok (.bipush (-2), 2) := by decide +kernel
theorem dX5_fulfil_9 : decode cX5_fulfil 9 = .ok (.ireturn, 1) := by decide +kernel
theorem dX5_fulfil_10 : decode cX5_fulfil 10 = .ok (.iconst 0, 1) := by decide +kernel
theorem dX5_fulfil_11 : decode cX5_fulfil 11 = .ok (.istore_n 1, 1) := by decide +kernel
theorem dX5_fulfil_12 : decode cX5_fulfil 12 = .ok (.iconst 0, 1) := by decide +kernel
theorem dX5_fulfil_13 : decode cX5_fulfil 13 = .ok (.istore_n 2, 1) := by decide +kernel
theorem dX5_fulfil_14 : decode cX5_fulfil 14 = .ok (.iload_n 2, 1) := by decide +kernel
theorem dX5_fulfil_15 : decode cX5_fulfil 15 = .ok (.aload_n 0, 1) := by decide +kernel
theorem dX5_fulfil_16 : decode cX5_fulfil 16 = .ok (.invokevirtual 88, 3) := by decide +kernel
theorem dX5_fulfil_19 : decode cX5_fulfil 19 = .ok (.if_icmp .ge 87, 3) := by decide +kernel
theorem dX5_fulfil_22 : decode cX5_fulfil 22 = .ok (.iconst 1, 1) := by decide +kernel
theorem dX5_fulfil_23 : decode cX5_fulfil 23 = .ok (.istore_n 3, 1) := by decide +kernel
theorem dX5_fulfil_24 : decode cX5_fulfil 24 = .ok (.iconst 0, 1) := by decide +kernel
theorem dX5_fulfil_25 : decode cX5_fulfil 25 = .ok (.istore 4, 2) := by decide +kernel
theorem dX5_fulfil_27 : decode cX5_fulfil 27 = .ok (.iload 4, 2) := by decide +kernel
theorem dX5_fulfil_29 : decode cX5_fulfil 29 = .ok (.aload_n 0, 1) := by decide +kernel
theorem dX5_fulfil_30 : decode cX5_fulfil 30 = .ok (.getfield 56, 3) := by decide +kernel
theorem dX5_fulfil_33 : decode cX5_fulfil 33 = .ok (.if_icmp .ge 55, 3) := by decide +kernel
theorem dX5_fulfil_36 : decode cX5_fulfil 36 = .ok (.iload_n 3, 1) := by decide +kernel
theorem dX5_fulfil_37 : decode cX5_fulfil 37 = .ok (.ifCond .eq 43, 3) := by decide +kernel
theorem dX5_fulfil_40 : decode cX5_fulfil 40 = .ok (.aload_n 0, 1) := by decide +kernel
theorem dX5_fulfil_41 : decode cX5_fulfil 41 = .ok (.getfield 17, 3) := by decide +kernel
theorem dX5_fulfil_44 : decode cX5_fulfil 44 = .ok (.iload 4, 2) := by decide +kernel
theorem dX5_fulfil_46 : decode cX5_fulfil 46 = .ok (.iaload, 1) := by decide +kernel
theorem dX5_fulfil_47 : decode cX5_fulfil 47 = .ok (.bipush (-4), 2) := by decide +kernel
theorem dX5_fulfil_49 : decode cX5_fulfil 49 = .ok (.if_icmp .eq 27, 3) := by decide +kernel
theorem dX5_fulfil_52 : decode cX5_fulfil 52 = .ok (.iload_n 2, 1) := by decide +kernel
theorem dX5_fulfil_53 : decode cX5_fulfil 53 = .ok (.aload_n 0, 1) := by decide +kernel
theorem dX5_fulfil_54 : decode cX5_fulfil 54 = .ok (.getfield 13, 3) := by decide +kernel
theorem dX5_fulfil_57 : decode cX5_fulfil 57 = .ok (.iload 4, 2) := by decide +kernel
theorem dX5_fulfil_59 : decode cX5_fulfil 59 = .ok (.iaload, 1) := by decide +kernel
theorem dX5_fulfil_60 : decode cX5_fulfil 60 = .ok (.iand, 1) := by decide +kernel
theorem dX5_fulfil_61 : decode cX5_fulfil 61 = .ok (.invokestatic 67, 3) := by decide +kernel
theorem dX5_fulfil_64 : decode cX5_fulfil 64 = .ok (.iconst 2, 1) := by decide +kernel
theorem dX5_fulfil_65 : decode cX5_fulfil 65 = .ok (.irem, 1) := by decide +kernel
theorem dX5_fulfil_66 : decode cX5_fulfil 66 = .ok (.aload_n 0, 1) := by decide +kernel
theorem dX5_fulfil_67 : decode cX5_fulfil 67 = .ok (.getfield 17, 3) := by decide +kernel
theorem dX5_fulfil_70 : decode cX5_fulfil 70 = .ok (.iload 4, 2) := by decide +kernel
theorem dX5_fulfil_72 : decode cX5_fulfil 72 = .ok (.iaload, 1) := by decide +kernel
theorem dX5_fulfil_73 : decode cX5_fulfil 73 = .ok (.if_icmp .ne 7, 3) := by decide +kernel
theorem dX5_fulfil_76 : decode cX5_fulfil 76 = .ok (.iconst 1, 1) := by decide +kernel
theorem dX5_fulfil_77 : decode cX5_fulfil 77 = .ok (.goto 4, 3) := by decide +kernel
theorem dX5_fulfil_80 : decode cX5_fulfil 80 = .ok (.iconst 0, 1) := by decide +kernel
theorem dX5_fulfil_81 : decode cX5_fulfil 81 = .ok (.istore_n 3, 1) := by decide +kernel
theorem dX5_fulfil_82 : decode cX5_fulfil 82 = .ok (.iinc 4 1, 3) := by decide +kernel
theorem dX5_fulfil_85 : decode cX5_fulfil 85 = .ok (.goto (-58), 3) := by decide +kernel
theorem dX5_fulfil_88 : decode cX5_fulfil 88 = .ok (.iload_n 1, 1) := by decide +kernel
theorem dX5_fulfil_89 : decode cX5_fulfil 89 = .ok (.iload_n 3, 1) := by decide +kernel
theorem dX5_fulfil_90 : decode cX5_fulfil 90 = .ok (.ifCond .eq 7, 3) := by decide +kernel
theorem dX5_fulfil_93 : decode cX5_fulfil 93 = .ok (.iconst 1, 1) := by decide +kernel
theorem dX5_fulfil_94 : decode cX5_fulfil 94 = .ok (.goto 4, 3) := by decide +kernel
theorem dX5_fulfil_97 : decode cX5_fulfil 97 = .ok (.iconst 0, 1) := by decide +kernel
theorem dX5_fulfil_98 : decode cX5_fulfil 98 = .ok (.iadd, 1) := by decide +kernel
theorem dX5_fulfil_99 : decode cX5_fulfil 99 = .ok (.istore_n 1, 1) := by decide +kernel
theorem dX5_fulfil_100 : decode cX5_fulfil 100 = .ok (.iinc 2 1, 3) := by decide +kernel
theorem dX5_fulfil_103 : decode cX5_fulfil 103 = .ok (.goto (-89), 3) := by decide +kernel
theorem dX5_fulfil_106 : decode cX5_fulfil 106 = .ok (.iload_n 1, 1) := by decide +kernel
theorem dX5_fulfil_107 : decode cX5_fulfil 107 = .ok (.ireturn, 1) := by decide +kernel
theorem dX5_isProof_0 : decode cX5_isProof 0 = .ok (.iconst 0, 1) := by decide +kernel
theorem dX5_isProof_1 : decode cX5_isProof 1 = .ok (.istore_n 2, 1) := by decide +kernel
theorem dX5_isProof_2 : decode cX5_isProof 2 = .ok (.iconst 0, 1) := by decide +kernel
theorem dX5_isProof_3 : decode cX5_isProof 3 = .ok (.istore_n 3, 1) := by decide +kernel
theorem dX5_isProof_4 : decode cX5_isProof 4 = .ok (.iload_n 1, 1) := by decide +kernel
theorem dX5_isProof_5 : decode cX5_isProof 5 = .ok (.ifCond .le 7, 3) := by decide +kernel
theorem dX5_isProof_8 : decode cX5_isProof 8 = .ok (.iconst 1, 1) := by decide +kernel
theorem dX5_isProof_9 : decode cX5_isProof 9 = .ok (.goto 4, 3) := by decide +kernel
theorem dX5_isProof_12 : decode cX5_isProof 12 = .ok (.iconst 0, 1) := by decide +kernel
theorem dX5_isProof_13 : decode cX5_isProof 13 = .ok (.istore 4, 2) := by decide +kernel
theorem dX5_isProof_15 : decode cX5_isProof 15 = .ok (.iconst 0, 1) := by decide +kernel
theorem dX5_isProof_16 : decode cX5_isProof 16 = .ok (.istore 5, 2) := by decide +kernel
theorem dX5_isProof_18 : decode cX5_isProof 18 = .ok (.iload 5, 2) := by decide +kernel
theorem dX5_isProof_20 : decode cX5_isProof 20 = .ok (.aload_n 0, 1) := by decide +kernel
theorem dX5_isProof_21 : decode cX5_isProof 21 = .ok (.getfield 56, 3) := by decide +kernel
theorem dX5_isProof_24 : decode cX5_isProof 24 = .ok (.if_icmp .ge 63, 3) := by decide +kernel
theorem dX5_isProof_27 : decode cX5_isProof 27 = .ok (.iload_n 1, 1) := by decide +kernel
theorem dX5_isProof_28 : decode cX5_isProof 28 = .ok (.iload 5, 2) := by decide +kernel
theorem dX5_isProof_30 : decode cX5_isProof 30 = .ok (.ishr, 1) := by decide +kernel
theorem dX5_isProof_31 : decode cX5_isProof 31 = .ok (.iconst 1, 1) := by decide +kernel
theorem dX5_isProof_32 : decode cX5_isProof 32 = .ok (.iand, 1) := by decide +kernel
theorem dX5_isProof_33 : decode cX5_isProof 33 = .ok (.iconst 1, 1) := by decide +kernel
theorem dX5_isProof_34 : decode cX5_isProof 34 = .ok (.if_icmp .ne 47, 3) := by decide +kernel
theorem dX5_isProof_37 : decode cX5_isProof 37 = .ok (.iload 4, 2) := by decide +kernel
theorem dX5_isProof_39 : decode cX5_isProof 39 = .ok (.ifCond .eq 19, 3) := by decide +kernel
theorem dX5_isProof_42 : decode cX5_isProof 42 = .ok (.aload_n 0, 1) := by decide +kernel
theorem dX5_isProof_43 : decode cX5_isProof 43 = .ok (.getfield 17, 3) := by decide +kernel
theorem dX5_isProof_46 : decode cX5_isProof 46 = .ok (.iload 5, 2) := by decide +kernel
theorem dX5_isProof_48 : decode cX5_isProof 48 = .ok (.iaload, 1) := by decide +kernel
theorem dX5_isProof_49 : decode cX5_isProof 49 = .ok (.bipush (-4), 2) := by decide +kernel
theorem dX5_isProof_51 : decode cX5_isProof 51 = .ok (.if_icmp .eq 7, 3) := by decide +kernel
theorem dX5_isProof_54 : decode cX5_isProof 54 = .ok (.iconst 1, 1) := by decide +kernel
theorem dX5_isProof_55 : decode cX5_isProof 55 = .ok (.goto 4, 3) := by decide +kernel
theorem dX5_isProof_58 : decode cX5_isProof 58 = .ok (.iconst 0, 1) := by decide +kernel
theorem dX5_isProof_59 : decode cX5_isProof 59 = .ok (.istore 4, 2) := by decide +kernel
theorem dX5_isProof_61 : decode cX5_isProof 61 = .ok (.iload_n 2, 1) := by decide +kernel
theorem dX5_isProof_62 : decode cX5_isProof 62 = .ok (.aload_n 0, 1) := by decide +kernel
theorem dX5_isProof_63 : decode cX5_isProof 63 = .ok (.getfield 13, 3) := by decide +kernel
theorem dX5_isProof_66 : decode cX5_isProof 66 = .ok (.iload 5, 2) := by decide +kernel
theorem dX5_isProof_68 : decode cX5_isProof 68 = .ok (.iaload, 1) := by decide +kernel
theorem dX5_isProof_69 : decode cX5_isProof 69 = .ok (.ixor, 1) := by decide +kernel
theorem dX5_isProof_70 : decode cX5_isProof 70 = .ok (.istore_n 2, 1) := by decide +kernel
theorem dX5_isProof_71 : decode cX5_isProof 71 = .ok (.iload_n 3, 1) := by decide +kernel
theorem dX5_isProof_72 : decode cX5_isProof 72 = .ok (.aload_n 0, 1) := by decide +kernel
theorem dX5_isProof_73 : decode cX5_isProof 73 = .ok (.getfield 17, 3) := by decide +kernel
theorem dX5_isProof_76 : decode cX5_isProof 76 = .ok (.iload 5, 2) := by decide +kernel
theorem dX5_isProof_78 : decode cX5_isProof 78 = .ok (.iaload, 1) := by decide +kernel
theorem dX5_isProof_79 : decode cX5_isProof 79 = .ok (.iadd, 1) := by decide +kernel
theorem dX5_isProof_80 : decode cX5_isProof 80 = .ok (.istore_n 3, 1) := by decide +kernel
theorem dX5_isProof_81 : decode cX5_isProof 81 = .ok (.iinc 5 1, 3) := by decide +kernel
theorem dX5_isProof_84 : decode cX5_isProof 84 = .ok (.goto (-66), 3) := by decide +kernel
theorem dX5_isProof_87 : decode cX5_isProof 87 = .ok (.iload 4, 2) := by decide +kernel
theorem dX5_isProof_89 : decode cX5_isProof 89 = .ok (.ifCond .eq 18, 3) := by decide +kernel
theorem dX5_isProof_92 : decode cX5_isProof 92 = .ok (.iload_n 2, 1) := by decide +kernel
theorem dX5_isProof_93 : decode cX5_isProof 93 = .ok (.ifCond .ne 14, 3) := by decide +kernel
theorem dX5_isProof_96 : decode cX5_isProof 96 = .ok (.iload_n 3, 1) := by decide +kernel
theorem dX5_isProof_97 : decode cX5_isProof 97 = .ok (.iconst 2, 1) := by decide +kernel
theorem dX5_isProof_98 : decode cX5_isProof 98 = .ok (.irem, 1) := by decide +kernel
theorem dX5_isProof_99 : decode cX5_isProof 99 = .ok (.iconst 1, 1) := by decide +kernel
theorem dX5_isProof_100 : decode cX5_isProof 100 = .ok (.if_icmp .ne 7, 3) := by decide +kernel
theorem dX5_isProof_103 : decode cX5_isProof 103 = .ok (.iconst 1, 1) := by decide +kernel
theorem dX5_isProof_104 : decode cX5_isProof 104 = .ok (.goto 4, 3) := by decide +kernel
theorem dX5_isProof_107 : decode cX5_isProof 107 = .ok (.iconst 0, 1) := by decide +kernel
theorem dX5_isProof_108 : decode cX5_isProof 108 = .ok (.ireturn, 1) := by decide +kernel
theorem dX5_proof_0 : decode cX5_proof 0 = .ok (.aload_n 0, 1) := by decide +kernel
theorem dX5_proof_1 : decode cX5_proof 1 = .ok (.getfield 56, 3) := by decide +kernel
theorem dX5_proof_4 : decode cX5_proof 4 = .ok (.ifCond .ne 6, 3) := by decide +kernel
theorem dX5_proof_7 : decode cX5_proof 7 = .ok (.bipush (-2), 2) := by decide +kernel
theorem dX5_proof_9 : decode cX5_proof 9 = .ok (.ireturn, 1) := by decide +kernel
theorem dX5_proof_10 : decode cX5_proof 10 = .ok (.bipush (-4), 2) := by decide +kernel
theorem dX5_proof_12 : decode cX5_proof 12 = .ok (.istore_n 1, 1) := by decide +kernel
theorem dX5_proof_13 : decode cX5_proof 13 = .ok (.iconst 1, 1) := by decide +kernel
theorem dX5_proof_14 : decode cX5_proof 14 = .ok (.istore_n 2, 1) := by decide +kernel
theorem dX5_proof_15 : decode cX5_proof 15 = .ok (.iload_n 2, 1) := by decide +kernel
theorem dX5_proof_16 : decode cX5_proof 16 = .ok (.iconst 1, 1) := by decide +kernel
theorem dX5_proof_17 : decode cX5_proof 17 = .ok (.aload_n 0, 1) := by decide +kernel
theorem dX5_proof_18 : decode cX5_proof 18 = .ok (.getfield 56, 3) := by decide +kernel
theorem dX5_proof_21 : decode cX5_proof 21 = .ok (.ishl, 1) := by decide +kernel
theorem dX5_proof_22 : decode cX5_proof 22 = .ok (.if_icmp .ge 36, 3) := by decide +kernel
theorem dX5_proof_25 : decode cX5_proof 25 = .ok (.aload_n 0, 1) := by decide +kernel
theorem dX5_proof_26 : decode cX5_proof 26 = .ok (.iload_n 2, 1) := by decide +kernel
theorem dX5_proof_27 : decode cX5_proof 27 = .ok (.invokevirtual 142, 3) := by decide +kernel
theorem dX5_proof_30 : decode cX5_proof 30 = .ok (.ifCond .eq 22, 3) := by decide +kernel
theorem dX5_proof_33 : decode cX5_proof 33 = .ok (.iload_n 1, 1) := by decide +kernel
theorem dX5_proof_34 : decode cX5_proof 34 = .ok (.bipush (-4), 2) := by decide +kernel
theorem dX5_proof_36 : decode cX5_proof 36 = .ok (.if_icmp .eq 14, 3) := by decide +kernel
theorem dX5_proof_39 : decode cX5_proof 39 = .ok (.iload_n 2, 1) := by decide +kernel
theorem dX5_proof_40 : decode cX5_proof 40 = .ok (.invokestatic 67, 3) := by decide +kernel
theorem dX5_proof_43 : decode cX5_proof 43 = .ok (.iload_n 1, 1) := by decide +kernel
theorem dX5_proof_44 : decode cX5_proof 44 = .ok (.invokestatic 67, 3) := by decide +kernel
theorem dX5_proof_47 : decode cX5_proof 47 = .ok (.if_icmp .ge 5, 3) := by decide +kernel
theorem dX5_proof_50 : decode cX5_proof 50 = .ok (.iload_n 2, 1) := by decide +kernel
theorem dX5_proof_51 : decode cX5_proof 51 = .ok (.istore_n 1, 1) := by decide +kernel
theorem dX5_proof_52 : decode cX5_proof 52 = .ok (.iinc 2 1, 3) := by decide +kernel
theorem dX5_proof_55 : decode cX5_proof 55 = .ok (.goto (-40), 3) := by decide +kernel
theorem dX5_proof_58 : decode cX5_proof 58 = .ok (.iload_n 1, 1) := by decide +kernel
theorem dX5_proof_59 : decode cX5_proof 59 = .ok (.ireturn, 1) := by decide +kernel
theorem dX5_ray_0 : decode cX5_ray 0 = .ok (.iload_n 1, 1) := by decide +kernel
theorem dX5_ray_1 : decode cX5_ray 1 = .ok (.i2l, 1) := by decide +kernel
theorem dX5_ray_2 : decode cX5_ray 2 = .ok (.ldc2_w 145, 3) := by decide +kernel
theorem dX5_ray_5 : decode cX5_ray 5 = .ok (.ldc2_w 147, 3) := by decide +kernel
theorem dX5_ray_8 : decode cX5_ray 8 = .ok (.invokestatic 59, 3) := by decide +kernel
theorem dX5_ray_11 : decode cX5_ray 11 = .ok (.ifCond .eq 43, 3) := by decide +kernel
theorem dX5_ray_14 : decode cX5_ray 14 = .ok (.iload_n 2, 1) := by decide +kernel
theorem dX5_ray_15 : decode cX5_ray 15 = .ok (.i2l, 1) := by decide +kernel
theorem dX5_ray_16 : decode cX5_ray 16 = .ok (.ldc2_w 145, 3) := by decide +kernel
theorem dX5_ray_19 : decode cX5_ray 19 = .ok (.ldc2_w 147, 3) := by decide +kernel
theorem dX5_ray_22 : decode cX5_ray 22 = .ok (.invokestatic 59, 3) := by decide +kernel
theorem dX5_ray_25 : decode cX5_ray 25 = .ok (.ifCond .eq 29, 3) := by decide +kernel
theorem dX5_ray_28 : decode cX5_ray 28 = .ok (.iload_n 3, 1) := by decide +kernel
theorem dX5_ray_29 : decode cX5_ray 29 = .ok (.i2l, 1) := by decide +kernel
theorem dX5_ray_30 : decode cX5_ray 30 = .ok (.ldc2_w 145, 3) := by decide +kernel
theorem dX5_ray_33 : decode cX5_ray 33 = .ok (.ldc2_w 147, 3) := by decide +kernel
theorem dX5_ray_36 : decode cX5_ray 36 = .ok (.invokestatic 59, 3) := by decide +kernel
theorem dX5_ray_39 : decode cX5_ray 39 = .ok (.ifCond .eq 15, 3) := by decide +kernel
theorem dX5_ray_42 : decode cX5_ray 42 = .ok (.iload_n 1, 1) := by decide +kernel
theorem dX5_ray_43 : decode cX5_ray 43 = .ok (.ifCond .ne 13, 3) := by decide +kernel
theorem dX5_ray_46 : decode cX5_ray 46 = .ok (.iload_n 2, 1) := by decide +kernel
theorem dX5_ray_47 : decode cX5_ray 47 = .ok (.ifCond .ne 9, 3) := by decide +kernel
theorem dX5_ray_50 : decode cX5_ray 50 = .ok (.iload_n 3, 1) := by decide +kernel
theorem dX5_ray_51 : decode cX5_ray 51 = .ok (.ifCond .ne 5, 3) := by decide +kernel
theorem dX5_ray_54 : decode cX5_ray 54 = .ok (.iconst (-1), 1) := by decide +kernel
theorem dX5_ray_55 : decode cX5_ray 55 = .ok (.ireturn, 1) := by decide +kernel
theorem dX5_ray_56 : decode cX5_ray 56 = .ok (.iconst 0, 1) := by decide +kernel
theorem dX5_ray_57 : decode cX5_ray 57 = .ok (.istore 4, 2) := by decide +kernel
theorem dX5_ray_59 : decode cX5_ray 59 = .ok (.iload 4, 2) := by decide +kernel
theorem dX5_ray_61 : decode cX5_ray 61 = .ok (.aload_n 0, 1) := by decide +kernel
theorem dX5_ray_62 : decode cX5_ray 62 = .ok (.getfield 149, 3) := by decide +kernel
theorem dX5_ray_65 : decode cX5_ray 65 = .ok (.if_icmp .ge 75, 3) := by decide +kernel
theorem dX5_ray_68 : decode cX5_ray 68 = .ok (.iload_n 1, 1) := by decide +kernel
theorem dX5_ray_69 : decode cX5_ray 69 = .ok (.aload_n 0, 1) := by decide +kernel
theorem dX5_ray_70 : decode cX5_ray 70 = .ok (.getfield 35, 3) := by decide +kernel
theorem dX5_ray_73 : decode cX5_ray 73 = .ok (.iload 4, 2) := by decide +kernel
theorem dX5_ray_75 : decode cX5_ray 75 = .ok (.iaload, 1) := by decide +kernel
theorem dX5_ray_76 : decode cX5_ray 76 = .ok (.imul, 1) := by decide +kernel
theorem dX5_ray_77 : decode cX5_ray 77 = .ok (.iload_n 2, 1) := by decide +kernel
theorem dX5_ray_78 : decode cX5_ray 78 = .ok (.aload_n 0, 1) := by decide +kernel
theorem dX5_ray_79 : decode cX5_ray 79 = .ok (.getfield 32, 3) := by decide +kernel
theorem dX5_ray_82 : decode cX5_ray 82 = .ok (.iload 4, 2) := by decide +kernel
theorem dX5_ray_84 : decode cX5_ray 84 = .ok (.iaload, 1) := by decide +kernel
theorem dX5_ray_85 : decode cX5_ray 85 = .ok (.imul, 1) := by decide +kernel
theorem dX5_ray_86 : decode cX5_ray 86 = .ok (.if_icmp .ne 48, 3) := by decide +kernel
theorem dX5_ray_89 : decode cX5_ray 89 = .ok (.iload_n 2, 1) := by decide +kernel
theorem dX5_ray_90 : decode cX5_ray 90 = .ok (.aload_n 0, 1) := by decide +kernel
theorem dX5_ray_91 : decode cX5_ray 91 = .ok (.getfield 38, 3) := by decide +kernel
theorem dX5_ray_94 : decode cX5_ray 94 = .ok (.iload 4, 2) := by decide +kernel
theorem dX5_ray_96 : decode cX5_ray 96 = .ok (.iaload, 1) := by decide +kernel
theorem dX5_ray_97 : decode cX5_ray 97 = .ok (.imul, 1) := by decide +kernel
theorem dX5_ray_98 : decode cX5_ray 98 = .ok (.iload_n 3, 1) := by decide +kernel
theorem dX5_ray_99 : decode cX5_ray 99 = .ok (.aload_n 0, 1) := by decide +kernel
theorem dX5_ray_100 : decode cX5_ray 100 = .ok (.getfield 35, 3) := by decide +kernel
theorem dX5_ray_103 : decode cX5_ray 103 = .ok (.iload 4, 2) := by decide +kernel
theorem dX5_ray_105 : decode cX5_ray 105 = .ok (.iaload, 1) := by decide +kernel
theorem dX5_ray_106 : decode cX5_ray 106 = .ok (.imul, 1) := by decide +kernel
theorem dX5_ray_107 : decode cX5_ray 107 = .ok (.if_icmp .ne 27, 3) := by decide +kernel
theorem dX5_ray_110 : decode cX5_ray 110 = .ok (.iload_n 1, 1) := by decide +kernel
theorem dX5_ray_111 : decode cX5_ray 111 = .ok (.aload_n 0, 1) := by decide +kernel
theorem dX5_ray_112 : decode cX5_ray 112 = .ok (.getfield 38, 3) := by decide +kernel
theorem dX5_ray_115 : decode cX5_ray 115 = .ok (.iload 4, 2) := by decide +kernel
theorem dX5_ray_117 : decode cX5_ray 117 = .ok (.iaload, 1) := by decide +kernel
theorem dX5_ray_118 : decode cX5_ray 118 = .ok (.imul, 1) := by decide +kernel
theorem dX5_ray_119 : decode cX5_ray 119 = .ok (.iload_n 3, 1) := by decide +kernel
theorem dX5_ray_120 : decode cX5_ray 120 = .ok (.aload_n 0, 1) := by decide +kernel
theorem dX5_ray_121 : decode cX5_ray 121 = .ok (.getfield 32, 3) := by decide +kernel
theorem dX5_ray_124 : decode cX5_ray 124 = .ok (.iload 4, 2) := by decide +kernel
theorem dX5_ray_126 : decode cX5_ray 126 = .ok (.iaload, 1) := by decide +kernel
theorem dX5_ray_127 : decode cX5_ray 127 = .ok (.imul, 1) := by decide +kernel
theorem dX5_ray_128 : decode cX5_ray 128 = .ok (.if_icmp .ne 6, 3) := by decide +kernel
theorem dX5_ray_131 : decode cX5_ray 131 = .ok (.bipush (-2), 2) := by decide +kernel
theorem dX5_ray_133 : decode cX5_ray 133 = .ok (.ireturn, 1) := by decide +kernel
theorem dX5_ray_134 : decode cX5_ray 134 = .ok (.iinc 4 1, 3) := by decide +kernel
theorem dX5_ray_137 : decode cX5_ray 137 = .ok (.goto (-78), 3) := by decide +kernel
theorem dX5_ray_140 : decode cX5_ray 140 = .ok (.aload_n 0, 1) := by decide +kernel
theorem dX5_ray_141 : decode cX5_ray 141 = .ok (.getfield 149, 3) := by decide +kernel
theorem dX5_ray_144 : decode cX5_ray 144 = .ok (.bipush 12, 2) := by decide +kernel
theorem dX5_ray_146 : decode cX5_ray 146 = .ok (.if_icmp .ne 6, 3) := by decide +kernel
theorem dX5_ray_149 : decode cX5_ray 149 = .ok (.bipush (-3), 2) := by decide +kernel
theorem dX5_ray_151 : decode cX5_ray 151 = .ok (.ireturn, 1) := by decide +kernel
theorem dX5_ray_152 : decode cX5_ray 152 = .ok (.aload_n 0, 1) := by decide +kernel
theorem dX5_ray_153 : decode cX5_ray 153 = .ok (.getfield 32, 3) := by decide +kernel
theorem dX5_ray_156 : decode cX5_ray 156 = .ok (.aload_n 0, 1) := by decide +kernel
theorem dX5_ray_157 : decode cX5_ray 157 = .ok (.getfield 149, 3) := by decide +kernel
theorem dX5_ray_160 : decode cX5_ray 160 = .ok (.iload_n 1, 1) := by decide +kernel
theorem dX5_ray_161 : decode cX5_ray 161 = .ok (.iastore, 1) := by decide +kernel
theorem dX5_ray_162 : decode cX5_ray 162 = .ok (.aload_n 0, 1) := by decide +kernel
theorem dX5_ray_163 : decode cX5_ray 163 = .ok (.getfield 35, 3) := by decide +kernel
theorem dX5_ray_166 : decode cX5_ray 166 = .ok (.aload_n 0, 1) := by decide +kernel
theorem dX5_ray_167 : decode cX5_ray 167 = .ok (.getfield 149, 3) := by decide +kernel
theorem dX5_ray_170 : decode cX5_ray 170 = .ok (.iload_n 2, 1) := by decide +kernel
theorem dX5_ray_171 : decode cX5_ray 171 = .ok (.iastore, 1) := by decide +kernel
theorem dX5_ray_172 : decode cX5_ray 172 = .ok (.aload_n 0, 1) := by decide +kernel
theorem dX5_ray_173 : decode cX5_ray 173 = .ok (.getfield 38, 3) := by decide +kernel
theorem dX5_ray_176 : decode cX5_ray 176 = .ok (.aload_n 0, 1) := by decide +kernel
theorem dX5_ray_177 : decode cX5_ray 177 = .ok (.getfield 149, 3) := by decide +kernel
theorem dX5_ray_180 : decode cX5_ray 180 = .ok (.iload_n 3, 1) := by decide +kernel
theorem dX5_ray_181 : decode cX5_ray 181 = .ok (.iastore, 1) := by decide +kernel
theorem dX5_ray_182 : decode cX5_ray 182 = .ok (.aload_n 0, 1) := by decide +kernel
theorem dX5_ray_183 : decode cX5_ray 183 = .ok (.dup, 1) := by decide +kernel
theorem dX5_ray_184 : decode cX5_ray 184 = .ok (.getfield 149, 3) := by decide +kernel
theorem dX5_ray_187 : decode cX5_ray 187 = .ok (.iconst 1, 1) := by decide +kernel
theorem dX5_ray_188 : decode cX5_ray 188 = .ok (.iadd, 1) := by decide +kernel
theorem dX5_ray_189 : decode cX5_ray 189 = .ok (.putfield 149, 3) := by decide +kernel
theorem dX5_ray_192 : decode cX5_ray 192 = .ok (.aload_n 0, 1) := by decide +kernel
theorem dX5_ray_193 : decode cX5_ray 193 = .ok (.getfield 149, 3) := by decide +kernel
theorem dX5_ray_196 : decode cX5_ray 196 = .ok (.iconst 1, 1) := by decide +kernel
theorem dX5_ray_197 : decode cX5_ray 197 = .ok (.isub, 1) := by decide +kernel
theorem dX5_ray_198 : decode cX5_ray 198 = .ok (.ireturn, 1) := by decide +kernel
theorem dX5_cut_0 : decode cX5_cut 0 = .ok (.aload_n 0, 1) := by decide +kernel
theorem dX5_cut_1 : decode cX5_cut 1 = .ok (.getfield 149, 3) := by decide +kernel
theorem dX5_cut_4 : decode cX5_cut 4 = .ok (.ifCond .ne 6, 3) := by decide +kernel
theorem dX5_cut_7 : decode cX5_cut 7 = .ok (.bipush (-4), 2) := by decide +kernel
theorem dX5_cut_9 : decode cX5_cut 9 = .ok (.ireturn, 1) := by decide +kernel
theorem dX5_cut_10 : decode cX5_cut 10 = .ok (.aload_n 0, 1) := by decide +kernel
theorem dX5_cut_11 : decode cX5_cut 11 = .ok (.dup, 1) := by decide +kernel
theorem dX5_cut_12 : decode cX5_cut 12 = .ok (.getfield 149, 3) := by decide +kernel
theorem dX5_cut_15 : decode cX5_cut 15 = .ok (.iconst 1, 1) := by decide +kernel
theorem dX5_cut_16 : decode cX5_cut 16 = .ok (.isub, 1) := by decide +kernel
theorem dX5_cut_17 : decode cX5_cut 17 = .ok (.putfield 149, 3) := by decide +kernel
theorem dX5_cut_20 : decode cX5_cut 20 = .ok (.aload_n 0, 1) := by decide +kernel
theorem dX5_cut_21 : decode cX5_cut 21 = .ok (.getfield 149, 3) := by decide +kernel
theorem dX5_cut_24 : decode cX5_cut 24 = .ok (.ireturn, 1) := by decide +kernel
theorem dX5_areSquare_0 : decode cX5_areSquare 0 = .ok (.iload_n 1, 1) := by decide +kernel
theorem dX5_areSquare_1 : decode cX5_areSquare 1 = .ok (.iload_n 2, 1) := by decide +kernel
theorem dX5_areSquare_2 : decode cX5_areSquare 2 = .ok (.if_icmp .eq 51, 3) := by decide +kernel
theorem dX5_areSquare_5 : decode cX5_areSquare 5 = .ok (.aload_n 0, 1) := by decide +kernel
theorem dX5_areSquare_6 : decode cX5_areSquare 6 = .ok (.getfield 32, 3) := by decide +kernel
theorem dX5_areSquare_9 : decode cX5_areSquare 9 = .ok (.iload_n 1, 1) := by decide +kernel
theorem dX5_areSquare_10 : decode cX5_areSquare 10 = .ok (.iaload, 1) := by decide +kernel
theorem dX5_areSquare_11 : decode cX5_areSquare 11 = .ok (.aload_n 0, 1) := by decide +kernel
theorem dX5_areSquare_12 : decode cX5_areSquare 12 = .ok (.getfield 32, 3) := by decide +kernel
theorem dX5_areSquare_15 : decode cX5_areSquare 15 = .ok (.iload_n 2, 1) := by decide +kernel
theorem dX5_areSquare_16 : decode cX5_areSquare 16 = .ok (.iaload, 1) := by decide +kernel
theorem dX5_areSquare_17 : decode cX5_areSquare 17 = .ok (.imul, 1) := by decide +kernel
theorem dX5_areSquare_18 : decode cX5_areSquare 18 = .ok (.aload_n 0, 1) := by decide +kernel
theorem dX5_areSquare_19 : decode cX5_areSquare 19 = .ok (.getfield 35, 3) := by decide +kernel
theorem dX5_areSquare_22 : decode cX5_areSquare 22 = .ok (.iload_n 1, 1) := by decide +kernel
theorem dX5_areSquare_23 : decode cX5_areSquare 23 = .ok (.iaload, 1) := by decide +kernel
theorem dX5_areSquare_24 : decode cX5_areSquare 24 = .ok (.aload_n 0, 1) := by decide +kernel
theorem dX5_areSquare_25 : decode cX5_areSquare 25 = .ok (.getfield 35, 3) := by decide +kernel
theorem dX5_areSquare_28 : decode cX5_areSquare 28 = .ok (.iload_n 2, 1) := by decide +kernel
theorem dX5_areSquare_29 : decode cX5_areSquare 29 = .ok (.iaload, 1) := by decide +kernel
theorem dX5_areSquare_30 : decode cX5_areSquare 30 = .ok (.imul, 1) := by decide +kernel
theorem dX5_areSquare_31 : decode cX5_areSquare 31 = .ok (.iadd, 1) := by decide +kernel
theorem dX5_areSquare_32 : decode cX5_areSquare 32 = .ok (.aload_n 0, 1) := by decide +kernel
theorem dX5_areSquare_33 : decode cX5_areSquare 33 = .ok (.getfield 38, 3) := by decide +kernel
theorem dX5_areSquare_36 : decode cX5_areSquare 36 = .ok (.iload_n 1, 1) := by decide +kernel
theorem dX5_areSquare_37 : decode cX5_areSquare 37 = .ok (.iaload, 1) := by decide +kernel
theorem dX5_areSquare_38 : decode cX5_areSquare 38 = .ok (.aload_n 0, 1) := by decide +kernel
theorem dX5_areSquare_39 : decode cX5_areSquare 39 = .ok (.getfield 38, 3) := by decide +kernel
theorem dX5_areSquare_42 : decode cX5_areSquare 42 = .ok (.iload_n 2, 1) := by decide +kernel
theorem dX5_areSquare_43 : decode cX5_areSquare 43 = .ok (.iaload, 1) := by decide +kernel
theorem dX5_areSquare_44 : decode cX5_areSquare 44 = .ok (.imul, 1) := by decide +kernel
theorem dX5_areSquare_45 : decode cX5_areSquare 45 = .ok (.iadd, 1) := by decide +kernel
theorem dX5_areSquare_46 : decode cX5_areSquare 46 = .ok (.ifCond .ne 7, 3) := by decide +kernel
theorem dX5_areSquare_49 : decode cX5_areSquare 49 = .ok (.iconst 1, 1) := by decide +kernel
theorem dX5_areSquare_50 : decode cX5_areSquare 50 = .ok (.goto 4, 3) := by decide +kernel
theorem dX5_areSquare_53 : decode cX5_areSquare 53 = .ok (.iconst 0, 1) := by decide +kernel
theorem dX5_areSquare_54 : decode cX5_areSquare 54 = .ok (.ireturn, 1) := by decide +kernel
theorem dX5_squareOf_0 : decode cX5_squareOf 0 = .ok (.iconst 0, 1) := by decide +kernel
theorem dX5_squareOf_1 : decode cX5_squareOf 1 = .ok (.istore_n 2, 1) := by decide +kernel
theorem dX5_squareOf_2 : decode cX5_squareOf 2 = .ok (.iconst 0, 1) := by decide +kernel
theorem dX5_squareOf_3 : decode cX5_squareOf 3 = .ok (.istore_n 3, 1) := by decide +kernel
theorem dX5_squareOf_4 : decode cX5_squareOf 4 = .ok (.iload_n 3, 1) := by decide +kernel
theorem dX5_squareOf_5 : decode cX5_squareOf 5 = .ok (.aload_n 0, 1) := by decide +kernel
theorem dX5_squareOf_6 : decode cX5_squareOf 6 = .ok (.getfield 149, 3) := by decide +kernel
theorem dX5_squareOf_9 : decode cX5_squareOf 9 = .ok (.if_icmp .ge 28, 3) := by decide +kernel
theorem dX5_squareOf_12 : decode cX5_squareOf 12 = .ok (.iload_n 2, 1) := by decide +kernel
theorem dX5_squareOf_13 : decode cX5_squareOf 13 = .ok (.aload_n 0, 1) := by decide +kernel
theorem dX5_squareOf_14 : decode cX5_squareOf 14 = .ok (.iload_n 1, 1) := by decide +kernel
theorem dX5_squareOf_15 : decode cX5_squareOf 15 = .ok (.iload_n 3, 1) := by decide +kernel
theorem dX5_squareOf_16 : decode cX5_squareOf 16 = .ok (.invokevirtual 152, 3) := by decide +kernel
theorem dX5_squareOf_19 : decode cX5_squareOf 19 = .ok (.ifCond .eq 9, 3) := by decide +kernel
theorem dX5_squareOf_22 : decode cX5_squareOf 22 = .ok (.iconst 1, 1) := by decide +kernel
theorem dX5_squareOf_23 : decode cX5_squareOf 23 = .ok (.iload_n 3, 1) := by decide +kernel
theorem dX5_squareOf_24 : decode cX5_squareOf 24 = .ok (.ishl, 1) := by decide +kernel
theorem dX5_squareOf_25 : decode cX5_squareOf 25 = .ok (.goto 4, 3) := by decide +kernel
theorem dX5_squareOf_28 : decode cX5_squareOf 28 = .ok (.iconst 0, 1) := by decide +kernel
theorem dX5_squareOf_29 : decode cX5_squareOf 29 = .ok (.ior, 1) := by decide +kernel
theorem dX5_squareOf_30 : decode cX5_squareOf 30 = .ok (.istore_n 2, 1) := by decide +kernel
theorem dX5_squareOf_31 : decode cX5_squareOf 31 = .ok (.iinc 3 1, 3) := by decide +kernel
theorem dX5_squareOf_34 : decode cX5_squareOf 34 = .ok (.goto (-30), 3) := by decide +kernel
theorem dX5_squareOf_37 : decode cX5_squareOf 37 = .ok (.iload_n 2, 1) := by decide +kernel
theorem dX5_squareOf_38 : decode cX5_squareOf 38 = .ok (.ireturn, 1) := by decide +kernel
theorem dX5_square_0 : decode cX5_square 0 = .ok (.iload_n 1, 1) := by decide +kernel
theorem dX5_square_1 : decode cX5_square 1 = .ok (.i2l, 1) := by decide +kernel
theorem dX5_square_2 : decode cX5_square 2 = .ok (.lconst 0, 1) := by decide +kernel
theorem dX5_square_3 : decode cX5_square 3 = .ok (.aload_n 0, 1) := by decide +kernel
theorem dX5_square_4 : decode cX5_square 4 = .ok (.getfield 149, 3) := by decide +kernel
theorem dX5_square_7 : decode cX5_square 7 = .ok (.iconst 1, 1) := by decide +kernel
theorem dX5_square_8 : decode cX5_square 8 = .ok (.isub, 1) := by decide +kernel
theorem dX5_square_9 : decode cX5_square 9 = .ok (.i2l, 1) := by decide +kernel
theorem dX5_square_10 : decode cX5_square 10 = .ok (.invokestatic 59, 3) := by decide +kernel
theorem dX5_square_13 : decode cX5_square 13 = .ok (.ifCond .eq 11, 3) := by decide +kernel
theorem dX5_square_16 : decode cX5_square 16 = .ok (.aload_n 0, 1) := by decide +kernel
theorem dX5_square_17 : decode cX5_square 17 = .ok (.iload_n 1, 1) := by decide +kernel
theorem dX5_square_18 : decode cX5_square 18 = .ok (.invokevirtual 155, 3) := by decide +kernel
theorem dX5_square_21 : decode cX5_square 21 = .ok (.goto 4, 3) := by decide +kernel
theorem dX5_square_24 : decode cX5_square 24 = .ok (.iconst (-1), 1) := by decide +kernel
theorem dX5_square_25 : decode cX5_square 25 = .ok (.ireturn, 1) := by decide +kernel
theorem dX5_findThrees_0 : decode cX5_findThrees 0 = .ok (.iconst 0, 1) := by decide +kernel
theorem dX5_findThrees_1 : decode cX5_findThrees 1 = .ok (.istore_n 1, 1) := by decide +kernel
theorem dX5_findThrees_2 : decode cX5_findThrees 2 = .ok (.aload_n 0, 1) := by decide +kernel
theorem dX5_findThrees_3 : decode cX5_findThrees 3 = .ok (.iconst 0, 1) := by decide +kernel
theorem dX5_findThrees_4 : decode cX5_findThrees 4 = .ok (.putfield 158, 3) := by decide +kernel
theorem dX5_findThrees_7 : decode cX5_findThrees 7 = .ok (.iconst 0, 1) := by decide +kernel
theorem dX5_findThrees_8 : decode cX5_findThrees 8 = .ok (.istore_n 2, 1) := by decide +kernel
theorem dX5_findThrees_9 : decode cX5_findThrees 9 = .ok (.iload_n 2, 1) := by decide +kernel
theorem dX5_findThrees_10 : decode cX5_findThrees 10 = .ok (.aload_n 0, 1) := by decide +kernel
theorem dX5_findThrees_11 : decode cX5_findThrees 11 = .ok (.getfield 149, 3) := by decide +kernel
theorem dX5_findThrees_14 : decode cX5_findThrees 14 = .ok (.if_icmp .ge 20, 3) := by decide +kernel
theorem dX5_findThrees_17 : decode cX5_findThrees 17 = .ok (.aload_n 0, 1) := by decide +kernel
theorem dX5_findThrees_18 : decode cX5_findThrees 18 = .ok (.getfield 41, 3) := by decide +kernel
theorem dX5_findThrees_21 : decode cX5_findThrees 21 = .ok (.iload_n 2, 1) := by decide +kernel
theorem dX5_findThrees_22 : decode cX5_findThrees 22 = .ok (.aload_n 0, 1) := by decide +kernel
theorem dX5_findThrees_23 : decode cX5_findThrees 23 = .ok (.iload_n 2, 1) := by decide +kernel
theorem dX5_findThrees_24 : decode cX5_findThrees 24 = .ok (.invokevirtual 155, 3) := by decide +kernel
theorem dX5_findThrees_27 : decode cX5_findThrees 27 = .ok (.iastore, 1) := by decide +kernel
theorem dX5_findThrees_28 : decode cX5_findThrees 28 = .ok (.iinc 2 1, 3) := by decide +kernel
theorem dX5_findThrees_31 : decode cX5_findThrees 31 = .ok (.goto (-22), 3) := by decide +kernel
theorem dX5_findThrees_34 : decode cX5_findThrees 34 = .ok (.iconst 0, 1) := by decide +kernel
theorem dX5_findThrees_35 : decode cX5_findThrees 35 = .ok (.istore_n 2, 1) := by decide +kernel
theorem dX5_findThrees_36 : decode cX5_findThrees 36 = .ok (.iload_n 2, 1) := by decide +kernel
theorem dX5_findThrees_37 : decode cX5_findThrees 37 = .ok (.aload_n 0, 1) := by decide +kernel
theorem dX5_findThrees_38 : decode cX5_findThrees 38 = .ok (.getfield 149, 3) := by decide +kernel
theorem dX5_findThrees_41 : decode cX5_findThrees 41 = .ok (.if_icmp .ge 115, 3) := by decide +kernel
theorem dX5_findThrees_44 : decode cX5_findThrees 44 = .ok (.iconst 0, 1) := by decide +kernel
theorem dX5_findThrees_45 : decode cX5_findThrees 45 = .ok (.istore_n 3, 1) := by decide +kernel
theorem dX5_findThrees_46 : decode cX5_findThrees 46 = .ok (.iload_n 3, 1) := by decide +kernel
theorem dX5_findThrees_47 : decode cX5_findThrees 47 = .ok (.iload_n 2, 1) := by decide +kernel
theorem dX5_findThrees_48 : decode cX5_findThrees 48 = .ok (.if_icmp .ge 102, 3) := by decide +kernel
theorem dX5_findThrees_51 : decode cX5_findThrees 51 = .ok (.aload_n 0, 1) := by decide +kernel
theorem dX5_findThrees_52 : decode cX5_findThrees 52 = .ok (.getfield 41, 3) := by decide +kernel
theorem dX5_findThrees_55 : decode cX5_findThrees 55 = .ok (.iload_n 2, 1) := by decide +kernel
theorem dX5_findThrees_56 : decode cX5_findThrees 56 = .ok (.iaload, 1) := by decide +kernel
theorem dX5_findThrees_57 : decode cX5_findThrees 57 = .ok (.iload_n 3, 1) := by decide +kernel
theorem dX5_findThrees_58 : decode cX5_findThrees 58 = .ok (.ishr, 1) := by decide +kernel
theorem dX5_findThrees_59 : decode cX5_findThrees 59 = .ok (.iconst 1, 1) := by decide +kernel
theorem dX5_findThrees_60 : decode cX5_findThrees 60 = .ok (.iand, 1) := by decide +kernel
theorem dX5_findThrees_61 : decode cX5_findThrees 61 = .ok (.iconst 1, 1) := by decide +kernel
theorem dX5_findThrees_62 : decode cX5_findThrees 62 = .ok (.if_icmp .ne 82, 3) := by decide +kernel
theorem dX5_findThrees_65 : decode cX5_findThrees 65 = .ok (.iinc 1 1, 3) := by decide +kernel
theorem dX5_findThrees_68 : decode cX5_findThrees 68 = .ok (.iconst 0, 1) := by decide +kernel
theorem dX5_findThrees_69 : decode cX5_findThrees 69 = .ok (.istore 4, 2) := by decide +kernel
theorem dX5_findThrees_71 : decode cX5_findThrees 71 = .ok (.iload 4, 2) := by decide +kernel
theorem dX5_findThrees_73 : decode cX5_findThrees 73 = .ok (.iload_n 3, 1) := by decide +kernel
theorem dX5_findThrees_74 : decode cX5_findThrees 74 = .ok (.if_icmp .ge 70, 3) := by decide +kernel
theorem dX5_findThrees_77 : decode cX5_findThrees 77 = .ok (.aload_n 0, 1) := by decide +kernel
theorem dX5_findThrees_78 : decode cX5_findThrees 78 = .ok (.getfield 41, 3) := by decide +kernel
theorem dX5_findThrees_81 : decode cX5_findThrees 81 = .ok (.iload_n 2, 1) := by decide +kernel
theorem dX5_findThrees_82 : decode cX5_findThrees 82 = .ok (.iaload, 1) := by decide +kernel
theorem dX5_findThrees_83 : decode cX5_findThrees 83 = .ok (.iload 4, 2) := by decide +kernel
theorem dX5_findThrees_85 : decode cX5_findThrees 85 = .ok (.ishr, 1) := by decide +kernel
theorem dX5_findThrees_86 : decode cX5_findThrees 86 = .ok (.iconst 1, 1) := by decide +kernel
theorem dX5_findThrees_87 : decode cX5_findThrees 87 = .ok (.iand, 1) := by decide +kernel
theorem dX5_findThrees_88 : decode cX5_findThrees 88 = .ok (.iconst 1, 1) := by decide +kernel
theorem dX5_findThrees_89 : decode cX5_findThrees 89 = .ok (.if_icmp .ne 49, 3) := by decide +kernel
theorem dX5_findThrees_92 : decode cX5_findThrees 92 = .ok (.aload_n 0, 1) := by decide +kernel
theorem dX5_findThrees_93 : decode cX5_findThrees 93 = .ok (.getfield 41, 3) := by decide +kernel
theorem dX5_findThrees_96 : decode cX5_findThrees 96 = .ok (.iload_n 3, 1) := by decide +kernel
theorem dX5_findThrees_97 : decode cX5_findThrees 97 = .ok (.iaload, 1) := by decide +kernel
theorem dX5_findThrees_98 : decode cX5_findThrees 98 = .ok (.iload 4, 2) := by decide +kernel
theorem dX5_findThrees_100 : decode cX5_findThrees 100 = .ok (.ishr, 1) := by decide +kernel
theorem dX5_findThrees_101 : decode cX5_findThrees 101 = .ok (.iconst 1, 1) := by decide +kernel
theorem dX5_findThrees_102 : decode cX5_findThrees 102 = .ok (.iand, 1) := by decide +kernel
theorem dX5_findThrees_103 : decode cX5_findThrees 103 = .ok (.iconst 1, 1) := by decide +kernel
theorem dX5_findThrees_104 : decode cX5_findThrees 104 = .ok (.if_icmp .ne 34, 3) := by decide +kernel
theorem dX5_findThrees_107 : decode cX5_findThrees 107 = .ok (.aload_n 0, 1) := by decide +kernel
theorem dX5_findThrees_108 : decode cX5_findThrees 108 = .ok (.getfield 44, 3) := by decide +kernel
theorem dX5_findThrees_111 : decode cX5_findThrees 111 = .ok (.aload_n 0, 1) := by decide +kernel
theorem dX5_findThrees_112 : decode cX5_findThrees 112 = .ok (.getfield 158, 3) := by decide +kernel
theorem dX5_findThrees_115 : decode cX5_findThrees 115 = .ok (.iconst 1, 1) := by decide +kernel
theorem dX5_findThrees_116 : decode cX5_findThrees 116 = .ok (.iload_n 2, 1) := by decide +kernel
theorem dX5_findThrees_117 : decode cX5_findThrees 117 = .ok (.ishl, 1) := by decide +kernel
theorem dX5_findThrees_118 : decode cX5_findThrees 118 = .ok (.iconst 1, 1) := by decide +kernel
theorem dX5_findThrees_119 : decode cX5_findThrees 119 = .ok (.iload_n 3, 1) := by decide +kernel
theorem dX5_findThrees_120 : decode cX5_findThrees 120 = .ok (.ishl, 1) := by decide +kernel
theorem dX5_findThrees_121 : decode cX5_findThrees 121 = .ok (.ior, 1) := by decide +kernel
theorem dX5_findThrees_122 : decode cX5_findThrees 122 = .ok (.iconst 1, 1) := by decide +kernel
theorem dX5_findThrees_123 : decode cX5_findThrees 123 = .ok (.iload 4, 2) := by decide +kernel
theorem dX5_findThrees_125 : decode cX5_findThrees 125 = .ok (.ishl, 1) := by decide +kernel
theorem dX5_findThrees_126 : decode cX5_findThrees 126 = .ok (.ior, 1) := by decide +kernel
theorem dX5_findThrees_127 : decode cX5_findThrees 127 = .ok (.iastore, 1) := by decide +kernel
theorem dX5_findThrees_128 : decode cX5_findThrees 128 = .ok (.aload_n 0, 1) := by decide +kernel
theorem dX5_findThrees_129 : decode cX5_findThrees 129 = .ok (.dup, 1) := by decide +kernel
theorem dX5_findThrees_130 : decode cX5_findThrees 130 = .ok (.getfield 158, 3) := by decide +kernel
theorem dX5_findThrees_133 : decode cX5_findThrees 133 = .ok (.iconst 1, 1) := by decide +kernel
theorem dX5_findThrees_134 : decode cX5_findThrees 134 = .ok (.iadd, 1) := by decide +kernel
theorem dX5_findThrees_135 : decode cX5_findThrees 135 = .ok (.putfield 158, 3) := by decide +kernel
theorem dX5_findThrees_138 : decode cX5_findThrees 138 = .ok (.iinc 4 1, 3) := by decide +kernel
theorem dX5_findThrees_141 : decode cX5_findThrees 141 = .ok (.goto (-70), 3) := by decide +kernel
theorem dX5_findThrees_144 : decode cX5_findThrees 144 = .ok (.iinc 3 1, 3) := by decide +kernel
theorem dX5_findThrees_147 : decode cX5_findThrees 147 = .ok (.goto (-101), 3) := by decide +kernel
theorem dX5_findThrees_150 : decode cX5_findThrees 150 = .ok (.iinc 2 1, 3) := by decide +kernel
