theorem dX5_init_0 : decode cX5_init 0 = .ok (.aload_n 0, 1) := by decide +kernel
theorem dX5_init_1 : decode cX5_init 1 = .ok (.invokespecial 1, 3) := by decide +kernel
theorem dX5_init_4 : decode cX5_init 4 = .ok (.aload_n 0, 1) := by decide +kernel
theorem dX5_init_5 : decode cX5_init 5 = .ok (.iconst 4, 1) := by decide +kernel
theorem dX5_init_6 : decode cX5_init 6 = .ok (.putfield 7, 3) := by decide +kernel
theorem dX5_init_9 : decode cX5_init 9 = .ok (.aload_n 0, 1) := by decide +kernel
theorem dX5_init_10 : decode cX5_init 10 = .ok (.bipush 8, 2) := by decide +kernel
theorem dX5_init_12 : decode cX5_init 12 = .ok (.newarray .int, 2) := by decide +kernel
theorem dX5_init_14 : decode cX5_init 14 = .ok (.putfield 13, 3) := by decide +kernel
theorem dX5_init_17 : decode cX5_init 17 = .ok (.aload_n 0, 1) := by decide +kernel
theorem dX5_init_18 : decode cX5_init 18 = .ok (.bipush 8, 2) := by decide +kernel
theorem dX5_init_20 : decode cX5_init 20 = .ok (.newarray .int, 2) := by decide +kernel
theorem dX5_init_22 : decode cX5_init 22 = .ok (.putfield 17, 3) := by decide +kernel
theorem dX5_init_25 : decode cX5_init 25 = .ok (.aload_n 0, 1) := by decide +kernel
theorem dX5_init_26 : decode cX5_init 26 = .ok (.bipush 64, 2) := by decide +kernel
theorem dX5_init_28 : decode cX5_init 28 = .ok (.newarray .int, 2) := by decide +kernel
theorem dX5_init_30 : decode cX5_init 30 = .ok (.putfield 20, 3) := by decide +kernel
theorem dX5_init_33 : decode cX5_init 33 = .ok (.aload_n 0, 1) := by decide +kernel
theorem dX5_init_34 : decode cX5_init 34 = .ok (.bipush 64, 2) := by decide +kernel
theorem dX5_init_36 : decode cX5_init 36 = .ok (.newarray .int, 2) := by decide +kernel
theorem dX5_init_38 : decode cX5_init 38 = .ok (.putfield 23, 3) := by decide +kernel
theorem dX5_init_41 : decode cX5_init 41 = .ok (.aload_n 0, 1) := by decide +kernel
theorem dX5_init_42 : decode cX5_init 42 = .ok (.bipush 64, 2) := by decide +kernel
theorem dX5_init_44 : decode cX5_init 44 = .ok (.newarray .int, 2) := by decide +kernel
theorem dX5_init_46 : decode cX5_init 46 = .ok (.putfield 26, 3) := by decide +kernel
theorem dX5_init_49 : decode cX5_init 49 = .ok (.aload_n 0, 1) := by decide +kernel
theorem dX5_init_50 : decode cX5_init 50 = .ok (.bipush 24, 2) := by decide +kernel
theorem dX5_init_52 : decode cX5_init 52 = .ok (.newarray .int, 2) := by decide +kernel
theorem dX5_init_54 : decode cX5_init 54 = .ok (.putfield 29, 3) := by decide +kernel
theorem dX5_init_57 : decode cX5_init 57 = .ok (.aload_n 0, 1) := by decide +kernel
theorem dX5_init_58 : decode cX5_init 58 = .ok (.bipush 12, 2) := by decide +kernel
theorem dX5_init_60 : decode cX5_init 60 = .ok (.newarray .int, 2) := by decide +kernel
theorem dX5_init_62 : decode cX5_init 62 = .ok (.putfield 32, 3) := by decide +kernel
theorem dX5_init_65 : decode cX5_init 65 = .ok (.aload_n 0, 1) := by decide +kernel
theorem dX5_init_66 : decode cX5_init 66 = .ok (.bipush 12, 2) := by decide +kernel
theorem dX5_init_68 : decode cX5_init 68 = .ok (.newarray .int, 2) := by decide +kernel
theorem dX5_init_70 : decode cX5_init 70 = .ok (.putfield 35, 3) := by decide +kernel
theorem dX5_init_73 : decode cX5_init 73 = .ok (.aload_n 0, 1) := by decide +kernel
theorem dX5_init_74 : decode cX5_init 74 = .ok (.bipush 12, 2) := by decide +kernel
theorem dX5_init_76 : decode cX5_init 76 = .ok (.newarray .int, 2) := by decide +kernel
theorem dX5_init_78 : decode cX5_init 78 = .ok (.putfield 38, 3) := by decide +kernel
theorem dX5_init_81 : decode cX5_init 81 = .ok (.aload_n 0, 1) := by decide +kernel
theorem dX5_init_82 : decode cX5_init 82 = .ok (.bipush 12, 2) := by decide +kernel
theorem dX5_init_84 : decode cX5_init 84 = .ok (.newarray .int, 2) := by decide +kernel
theorem dX5_init_86 : decode cX5_init 86 = .ok (.putfield 41, 3) := by decide +kernel
theorem dX5_init_89 : decode cX5_init 89 = .ok (.aload_n 0, 1) := by decide +kernel
theorem dX5_init_90 : decode cX5_init 90 = .ok (.sipush 220, 3) := by decide +kernel
theorem dX5_init_93 : decode cX5_init 93 = .ok (.newarray .int, 2) := by decide +kernel
theorem dX5_init_95 : decode cX5_init 95 = .ok (.putfield 44, 3) := by decide +kernel
theorem dX5_init_98 : decode cX5_init 98 = .ok (.aload_n 0, 1) := by decide +kernel
theorem dX5_init_99 : decode cX5_init 99 = .ok (.iconst 4, 1) := by decide +kernel
theorem dX5_init_100 : decode cX5_init 100 = .ok (.newarray .int, 2) := by decide +kernel
theorem dX5_init_102 : decode cX5_init 102 = .ok (.putfield 47, 3) := by decide +kernel
theorem dX5_init_105 : decode cX5_init 105 = .ok (.aload_n 0, 1) := by decide +kernel
theorem dX5_init_106 : decode cX5_init 106 = .ok (.iconst 4, 1) := by decide +kernel
theorem dX5_init_107 : decode cX5_init 107 = .ok (.newarray .int, 2) := by decide +kernel
theorem dX5_init_109 : decode cX5_init 109 = .ok (.putfield 50, 3) := by decide +kernel
theorem dX5_init_112 : decode cX5_init 112 = .ok (.aload_n 0, 1) := by decide +kernel
theorem dX5_init_113 : decode cX5_init 113 = .ok (.sipush 256, 3) := by decide +kernel
theorem dX5_init_116 : decode cX5_init 116 = .ok (.newarray .int, 2) := by decide +kernel
theorem dX5_init_118 : decode cX5_init 118 = .ok (.putfield 53, 3) := by decide +kernel
theorem dX5_init_121 : decode cX5_init 121 = .ok (.iconst 0, 1) := by decide +kernel
theorem dX5_init_122 : decode cX5_init 122 = .ok (.istore_n 1, 1) := by decide +kernel
theorem dX5_init_123 : decode cX5_init 123 = .ok (.iload_n 1, 1) := by decide +kernel
theorem dX5_init_124 : decode cX5_init 124 = .ok (.iconst 4, 1) := by decide +kernel
theorem dX5_init_125 : decode cX5_init 125 = .ok (.if_icmp .ge 17, 3) := by decide +kernel
theorem dX5_init_128 : decode cX5_init 128 = .ok (.aload_n 0, 1) := by decide +kernel
theorem dX5_init_129 : decode cX5_init 129 = .ok (.getfield 47, 3) := by decide +kernel
theorem dX5_init_132 : decode cX5_init 132 = .ok (.iload_n 1, 1) := by decide +kernel
theorem dX5_init_133 : decode cX5_init 133 = .ok (.bipush (-4), 2) := by decide +kernel
theorem dX5_init_135 : decode cX5_init 135 = .ok (.iastore, 1) := by decide +kernel
theorem dX5_init_136 : decode cX5_init 136 = .ok (.iinc 1 1, 3) := by decide +kernel
theorem dX5_init_139 : decode cX5_init 139 = .ok (.goto (-16), 3) := by decide +kernel
theorem dX5_init_142 : decode cX5_init 142 = .ok (.return_, 1) := by decide +kernel
theorem dX5_in_0 : decode cX5_in 0 = .ok (.lload_n 0, 1) := by decide +kernel
theorem dX5_in_1 : decode cX5_in 1 = .ok (.lload_n 2, 1) := by decide +kernel
theorem dX5_in_2 : decode cX5_in 2 = .ok (.lcmp, 1) := by decide +kernel
theorem dX5_in_3 : decode cX5_in 3 = .ok (.ifCond .lt 14, 3) := by decide +kernel
theorem dX5_in_6 : decode cX5_in 6 = .ok (.lload_n 0, 1) := by decide +kernel
theorem dX5_in_7 : decode cX5_in 7 = .ok (.lload 4, 2) := by decide +kernel
theorem dX5_in_9 : decode cX5_in 9 = .ok (.lcmp, 1) := by decide +kernel
theorem dX5_in_10 : decode cX5_in 10 = .ok (.ifCond .gt 7, 3) := by decide +kernel
theorem dX5_in_13 : decode cX5_in 13 = .ok (.iconst 1, 1) := by decide +kernel
theorem dX5_in_14 : decode cX5_in 14 = .ok (.goto 4, 3) := by decide +kernel
theorem dX5_in_17 : decode cX5_in 17 = .ok (.iconst 0, 1) := by decide +kernel
theorem dX5_in_18 : decode cX5_in 18 = .ok (.ireturn, 1) := by decide +kernel
theorem dX5_bits_0 : decode cX5_bits 0 = .ok (.iconst 0, 1) := by decide +kernel
theorem dX5_bits_1 : decode cX5_bits 1 = .ok (.istore_n 1, 1) := by decide +kernel
theorem dX5_bits_2 : decode cX5_bits 2 = .ok (.iconst 0, 1) := by decide +kernel
theorem dX5_bits_3 : decode cX5_bits 3 = .ok (.istore_n 2, 1) := by decide +kernel
theorem dX5_bits_4 : decode cX5_bits 4 = .ok (.iload_n 2, 1) := by decide +kernel
theorem dX5_bits_5 : decode cX5_bits 5 = .ok (.bipush 16, 2) := by decide +kernel
theorem dX5_bits_7 : decode cX5_bits 7 = .ok (.if_icmp .ge 17, 3) := by decide +kernel
theorem dX5_bits_10 : decode cX5_bits 10 = .ok (.iload_n 1, 1) := by decide +kernel
theorem dX5_bits_11 : decode cX5_bits 11 = .ok (.iload_n 0, 1) := by decide +kernel
theorem dX5_bits_12 : decode cX5_bits 12 = .ok (.iload_n 2, 1) := by decide +kernel
theorem dX5_bits_13 : decode cX5_bits 13 = .ok (.ishr, 1) := by decide +kernel
theorem dX5_bits_14 : decode cX5_bits 14 = .ok (.iconst 1, 1) := by decide +kernel
theorem dX5_bits_15 : decode cX5_bits 15 = .ok (.iand, 1) := by decide +kernel
theorem dX5_bits_16 : decode cX5_bits 16 = .ok (.iadd, 1) := by decide +kernel
theorem dX5_bits_17 : decode cX5_bits 17 = .ok (.istore_n 1, 1) := by decide +kernel
theorem dX5_bits_18 : decode cX5_bits 18 = .ok (.iinc 2 1, 3) := by decide +kernel
theorem dX5_bits_21 : decode cX5_bits 21 = .ok (.goto (-17), 3) := by decide +kernel
theorem dX5_bits_24 : decode cX5_bits 24 = .ok (.iload_n 1, 1) := by decide +kernel
theorem dX5_bits_25 : decode cX5_bits 25 = .ok (.ireturn, 1) := by decide +kernel
theorem dX5_isSet_0 : decode cX5_isSet 0 = .ok (.iload_n 1, 1) := by decide +kernel
theorem dX5_isSet_1 : decode cX5_isSet 1 = .ok (.i2l, 1) := by decide +kernel
theorem dX5_isSet_2 : decode cX5_isSet 2 = .ok (.lconst 0, 1) := by decide +kernel
theorem dX5_isSet_3 : decode cX5_isSet 3 = .ok (.aload_n 0, 1) := by decide +kernel
theorem dX5_isSet_4 : decode cX5_isSet 4 = .ok (.getfield 56, 3) := by decide +kernel
theorem dX5_isSet_7 : decode cX5_isSet 7 = .ok (.iconst 1, 1) := by decide +kernel
theorem dX5_isSet_8 : decode cX5_isSet 8 = .ok (.isub, 1) := by decide +kernel
theorem dX5_isSet_9 : decode cX5_isSet 9 = .ok (.i2l, 1) := by decide +kernel
theorem dX5_isSet_10 : decode cX5_isSet 10 = .ok (.invokestatic 59, 3) := by decide +kernel
theorem dX5_isSet_13 : decode cX5_isSet 13 = .ok (.ireturn, 1) := by decide +kernel
theorem dX5_isJoint_0 : decode cX5_isJoint 0 = .ok (.aload_n 0, 1) := by decide +kernel
theorem dX5_isJoint_1 : decode cX5_isJoint 1 = .ok (.iload_n 1, 1) := by decide +kernel
theorem dX5_isJoint_2 : decode cX5_isJoint 2 = .ok (.invokevirtual 63, 3) := by decide +kernel
theorem dX5_isJoint_5 : decode cX5_isJoint 5 = .ok (.ifCond .eq 30, 3) := by decide +kernel
theorem dX5_isJoint_8 : decode cX5_isJoint 8 = .ok (.iload_n 2, 1) := by decide +kernel
theorem dX5_isJoint_9 : decode cX5_isJoint 9 = .ok (.i2l, 1) := by decide +kernel
theorem dX5_isJoint_10 : decode cX5_isJoint 10 = .ok (.lconst 0, 1) := by decide +kernel
theorem dX5_isJoint_11 : decode cX5_isJoint 11 = .ok (.iconst 1, 1) := by decide +kernel
theorem dX5_isJoint_12 : decode cX5_isJoint 12 = .ok (.aload_n 0, 1) := by decide +kernel
theorem dX5_isJoint_13 : decode cX5_isJoint 13 = .ok (.getfield 13, 3) := by decide +kernel
theorem dX5_isJoint_16 : decode cX5_isJoint 16 = .ok (.iload_n 1, 1) := by decide +kernel
theorem dX5_isJoint_17 : decode cX5_isJoint 17 = .ok (.iaload, 1) := by decide +kernel
theorem dX5_isJoint_18 : decode cX5_isJoint 18 = .ok (.invokestatic 67, 3) := by decide +kernel
theorem dX5_isJoint_21 : decode cX5_isJoint 21 = .ok (.ishl, 1) := by decide +kernel
theorem dX5_isJoint_22 : decode cX5_isJoint 22 = .ok (.iconst 1, 1) := by decide +kernel
theorem dX5_isJoint_23 : decode cX5_isJoint 23 = .ok (.isub, 1) := by decide +kernel
theorem dX5_isJoint_24 : decode cX5_isJoint 24 = .ok (.i2l, 1) := by decide +kernel
theorem dX5_isJoint_25 : decode cX5_isJoint 25 = .ok (.invokestatic 59, 3) := by decide +kernel
theorem dX5_isJoint_28 : decode cX5_isJoint 28 = .ok (.ifCond .eq 7, 3) := by decide +kernel
theorem dX5_isJoint_31 : decode cX5_isJoint 31 = .ok (.iconst 1, 1) := by decide +kernel
theorem dX5_isJoint_32 : decode cX5_isJoint 32 = .ok (.goto 4, 3) := by decide +kernel
theorem dX5_isJoint_35 : decode cX5_isJoint 35 = .ok (.iconst 0, 1) := by decide +kernel
theorem dX5_isJoint_36 : decode cX5_isJoint 36 = .ok (.ireturn, 1) := by decide +kernel
theorem dX5_hiddenMany_0 : decode cX5_hiddenMany 0 = .ok (.iconst 1, 1) := by decide +kernel
theorem dX5_hiddenMany_1 : decode cX5_hiddenMany 1 = .ok (.aload_n 0, 1) := by decide +kernel
theorem dX5_hiddenMany_2 : decode cX5_hiddenMany 2 = .ok (.getfield 7, 3) := by decide +kernel
theorem dX5_hiddenMany_5 : decode cX5_hiddenMany 5 = .ok (.ishl, 1) := by decide +kernel
theorem dX5_hiddenMany_6 : decode cX5_hiddenMany 6 = .ok (.ireturn, 1) := by decide +kernel
theorem dX5_looks_0 : decode cX5_looks 0 = .ok (.iload_n 1, 1) := by decide +kernel
theorem dX5_looks_1 : decode cX5_looks 1 = .ok (.i2l, 1) := by decide +kernel
theorem dX5_looks_2 : decode cX5_looks 2 = .ok (.lconst 1, 1) := by decide +kernel
theorem dX5_looks_3 : decode cX5_looks 3 = .ok (.ldc2_w 71, 3) := by decide +kernel
theorem dX5_looks_6 : decode cX5_looks 6 = .ok (.invokestatic 59, 3) := by decide +kernel
theorem dX5_looks_9 : decode cX5_looks 9 = .ok (.ifCond .ne 5, 3) := by decide +kernel
theorem dX5_looks_12 : decode cX5_looks 12 = .ok (.iconst (-1), 1) := by decide +kernel
theorem dX5_looks_13 : decode cX5_looks 13 = .ok (.ireturn, 1) := by decide +kernel
theorem dX5_looks_14 : decode cX5_looks 14 = .ok (.aload_n 0, 1) := by decide +kernel
theorem dX5_looks_15 : decode cX5_looks 15 = .ok (.getfield 7, 3) := by decide +kernel
theorem dX5_looks_18 : decode cX5_looks 18 = .ok (.istore_n 2, 1) := by decide +kernel
theorem dX5_looks_19 : decode cX5_looks 19 = .ok (.aload_n 0, 1) := by decide +kernel
theorem dX5_looks_20 : decode cX5_looks 20 = .ok (.iload_n 1, 1) := by decide +kernel
theorem dX5_looks_21 : decode cX5_looks 21 = .ok (.putfield 7, 3) := by decide +kernel
theorem dX5_looks_24 : decode cX5_looks 24 = .ok (.aload_n 0, 1) := by decide +kernel
theorem dX5_looks_25 : decode cX5_looks 25 = .ok (.iconst 0, 1) := by decide +kernel
theorem dX5_looks_26 : decode cX5_looks 26 = .ok (.putfield 56, 3) := by decide +kernel
theorem dX5_looks_29 : decode cX5_looks 29 = .ok (.iload_n 2, 1) := by decide +kernel
theorem dX5_looks_30 : decode cX5_looks 30 = .ok (.ireturn, 1) := by decide +kernel
theorem dX5_put_0 : decode cX5_put 0 = .ok (.iload_n 1, 1) := by decide +kernel
theorem dX5_put_1 : decode cX5_put 1 = .ok (.i2l, 1) := by decide +kernel
theorem dX5_put_2 : decode cX5_put 2 = .ok (.lconst 1, 1) := by decide +kernel
theorem dX5_put_3 : decode cX5_put 3 = .ok (.iconst 1, 1) := by decide +kernel
theorem dX5_put_4 : decode cX5_put 4 = .ok (.aload_n 0, 1) := by decide +kernel
theorem dX5_put_5 : decode cX5_put 5 = .ok (.getfield 7, 3) := by decide +kernel
theorem dX5_put_8 : decode cX5_put 8 = .ok (.ishl, 1) := by decide +kernel
theorem dX5_put_9 : decode cX5_put 9 = .ok (.iconst 1, 1) := by decide +kernel
theorem dX5_put_10 : decode cX5_put 10 = .ok (.isub, 1) := by decide +kernel
theorem dX5_put_11 : decode cX5_put 11 = .ok (.i2l, 1) := by decide +kernel
theorem dX5_put_12 : decode cX5_put 12 = .ok (.invokestatic 59, 3) := by decide +kernel
theorem dX5_put_15 : decode cX5_put 15 = .ok (.ifCond .eq 11, 3) := by decide +kernel
theorem dX5_put_18 : decode cX5_put 18 = .ok (.iload_n 1, 1) := by decide +kernel
theorem dX5_put_19 : decode cX5_put 19 = .ok (.invokestatic 67, 3) := by decide +kernel
theorem dX5_put_22 : decode cX5_put 22 = .ok (.iconst 3, 1) := by decide +kernel
theorem dX5_put_23 : decode cX5_put 23 = .ok (.if_icmp .le 5, 3) := by decide +kernel
theorem dX5_put_26 : decode cX5_put 26 = .ok (.iconst (-1), 1) := by decide +kernel
theorem dX5_put_27 : decode cX5_put 27 = .ok (.ireturn, 1) := by decide +kernel
theorem dX5_put_28 : decode cX5_put 28 = .ok (.iconst 0, 1) := by decide +kernel
theorem dX5_put_29 : decode cX5_put 29 = .ok (.istore_n 2, 1) := by decide +kernel
theorem dX5_put_30 : decode cX5_put 30 = .ok (.iload_n 2, 1) := by decide +kernel
theorem dX5_put_31 : decode cX5_put 31 = .ok (.aload_n 0, 1) := by decide +kernel
theorem dX5_put_32 : decode cX5_put 32 = .ok (.getfield 56, 3) := by decide +kernel
theorem dX5_put_35 : decode cX5_put 35 = .ok (.if_icmp .ge 22, 3) := by decide +kernel
theorem dX5_put_38 : decode cX5_put 38 = .ok (.aload_n 0, 1) := by decide +kernel
theorem dX5_put_39 : decode cX5_put 39 = .ok (.getfield 13, 3) := by decide +kernel
theorem dX5_put_42 : decode cX5_put 42 = .ok (.iload_n 2, 1) := by decide +kernel
theorem dX5_put_43 : decode cX5_put 43 = .ok (.iaload, 1) := by decide +kernel
theorem dX5_put_44 : decode cX5_put 44 = .ok (.iload_n 1, 1) := by decide +kernel
theorem dX5_put_45 : decode cX5_put 45 = .ok (.if_icmp .ne 6, 3) := by decide +kernel
theorem dX5_put_48 : decode cX5_put 48 = .ok (.bipush (-2), 2) := by decide +kernel
theorem dX5_put_50 : decode cX5_put 50 = .ok (.ireturn, 1) := by decide +kernel
theorem dX5_put_51 : decode cX5_put 51 = .ok (.iinc 2 1, 3) := by decide +kernel
theorem dX5_put_54 : decode cX5_put 54 = .ok (.goto (-24), 3) := by decide +kernel
theorem dX5_put_57 : decode cX5_put 57 = .ok (.aload_n 0, 1) := by decide +kernel
theorem dX5_put_58 : decode cX5_put 58 = .ok (.getfield 56, 3) := by decide +kernel
theorem dX5_put_61 : decode cX5_put 61 = .ok (.bipush 8, 2) := by decide +kernel
theorem dX5_put_63 : decode cX5_put 63 = .ok (.if_icmp .ne 6, 3) := by decide +kernel
theorem dX5_put_66 : decode cX5_put 66 = .ok (.bipush (-3), 2) := by decide +kernel
theorem dX5_put_68 : decode cX5_put 68 = .ok (.ireturn, 1) := by decide +kernel
theorem dX5_put_69 : decode cX5_put 69 = .ok (.aload_n 0, 1) := by decide +kernel
theorem dX5_put_70 : decode cX5_put 70 = .ok (.getfield 13, 3) := by decide +kernel
theorem dX5_put_73 : decode cX5_put 73 = .ok (.aload_n 0, 1) := by decide +kernel
theorem dX5_put_74 : decode cX5_put 74 = .ok (.getfield 56, 3) := by decide +kernel
theorem dX5_put_77 : decode cX5_put 77 = .ok (.iload_n 1, 1) := by decide +kernel
theorem dX5_put_78 : decode cX5_put 78 = .ok (.iastore, 1) := by decide +kernel
theorem dX5_put_79 : decode cX5_put 79 = .ok (.aload_n 0, 1) := by decide +kernel
theorem dX5_put_80 : decode cX5_put 80 = .ok (.getfield 17, 3) := by decide +kernel
theorem dX5_put_83 : decode cX5_put 83 = .ok (.aload_n 0, 1) := by decide +kernel
theorem dX5_put_84 : decode cX5_put 84 = .ok (.getfield 56, 3) := by decide +kernel
theorem dX5_put_87 : decode cX5_put 87 = .ok (.bipush (-4), 2) := by decide +kernel
theorem dX5_put_89 : decode cX5_put 89 = .ok (.iastore, 1) := by decide +kernel
theorem dX5_put_90 : decode cX5_put 90 = .ok (.iconst 0, 1) := by decide +kernel
theorem dX5_put_91 : decode cX5_put 91 = .ok (.istore_n 2, 1) := by decide +kernel
theorem dX5_put_92 : decode cX5_put 92 = .ok (.iload_n 2, 1) := by decide +kernel
theorem dX5_put_93 : decode cX5_put 93 = .ok (.bipush 8, 2) := by decide +kernel
theorem dX5_put_95 : decode cX5_put 95 = .ok (.if_icmp .ge 39, 3) := by decide +kernel
theorem dX5_put_98 : decode cX5_put 98 = .ok (.aload_n 0, 1) := by decide +kernel
theorem dX5_put_99 : decode cX5_put 99 = .ok (.getfield 20, 3) := by decide +kernel
theorem dX5_put_102 : decode cX5_put 102 = .ok (.bipush 8, 2) := by decide +kernel
theorem dX5_put_104 : decode cX5_put 104 = .ok (.aload_n 0, 1) := by decide +kernel
theorem dX5_put_105 : decode cX5_put 105 = .ok (.getfield 56, 3) := by decide +kernel
theorem dX5_put_108 : decode cX5_put 108 = .ok (.imul, 1) := by decide +kernel
theorem dX5_put_109 : decode cX5_put 109 = .ok (.iload_n 2, 1) := by decide +kernel
theorem dX5_put_110 : decode cX5_put 110 = .ok (.iadd, 1) := by decide +kernel
theorem dX5_put_111 : decode cX5_put 111 = .ok (.iconst 0, 1) := by decide +kernel
theorem dX5_put_112 : decode cX5_put 112 = .ok (.iastore, 1) := by decide +kernel
theorem dX5_put_113 : decode cX5_put 113 = .ok (.aload_n 0, 1) := by decide +kernel
theorem dX5_put_114 : decode cX5_put 114 = .ok (.getfield 23, 3) := by decide +kernel
theorem dX5_put_117 : decode cX5_put 117 = .ok (.bipush 8, 2) := by decide +kernel
theorem dX5_put_119 : decode cX5_put 119 = .ok (.aload_n 0, 1) := by decide +kernel
theorem dX5_put_120 : decode cX5_put 120 = .ok (.getfield 56, 3) := by decide +kernel
theorem dX5_put_123 : decode cX5_put 123 = .ok (.imul, 1) := by decide +kernel
theorem dX5_put_124 : decode cX5_put 124 = .ok (.iload_n 2, 1) := by decide +kernel
theorem dX5_put_125 : decode cX5_put 125 = .ok (.iadd, 1) := by decide +kernel
theorem dX5_put_126 : decode cX5_put 126 = .ok (.iconst 0, 1) := by decide +kernel
theorem dX5_put_127 : decode cX5_put 127 = .ok (.iastore, 1) := by decide +kernel
theorem dX5_put_128 : decode cX5_put 128 = .ok (.iinc 2 1, 3) := by decide +kernel
theorem dX5_put_131 : decode cX5_put 131 = .ok (.goto (-39), 3) := by decide +kernel
theorem dX5_put_134 : decode cX5_put 134 = .ok (.aload_n 0, 1) := by decide +kernel
theorem dX5_put_135 : decode cX5_put 135 = .ok (.dup, 1) := by decide +kernel
theorem dX5_put_136 : decode cX5_put 136 = .ok (.getfield 56, 3) := by decide +kernel
theorem dX5_put_139 : decode cX5_put 139 = .ok (.iconst 1, 1) := by decide +kernel
theorem dX5_put_140 : decode cX5_put 140 = .ok (.iadd, 1) := by decide +kernel
theorem dX5_put_141 : decode cX5_put 141 = .ok (.putfield 56, 3) := by decide +kernel
theorem dX5_put_144 : decode cX5_put 144 = .ok (.aload_n 0, 1) := by decide +kernel
theorem dX5_put_145 : decode cX5_put 145 = .ok (.getfield 56, 3) := by decide +kernel
theorem dX5_put_148 : decode cX5_put 148 = .ok (.iconst 1, 1) := by decide +kernel
theorem dX5_put_149 : decode cX5_put 149 = .ok (.isub, 1) := by decide +kernel
theorem dX5_put_150 : decode cX5_put 150 = .ok (.ireturn, 1) := by decide +kernel
theorem dX5_drop_0 : decode cX5_drop 0 = .ok (.aload_n 0, 1) := by decide +kernel
theorem dX5_drop_1 : decode cX5_drop 1 = .ok (.getfield 56, 3) := by decide +kernel
theorem dX5_drop_4 : decode cX5_drop 4 = .ok (.ifCond .ne 6, 3) := by decide +kernel
theorem dX5_drop_7 : decode cX5_drop 7 = .ok (.bipush (-4), 2) := by decide +kernel
theorem dX5_drop_9 : decode cX5_drop 9 = .ok (.ireturn, 1) := by decide +kernel
theorem dX5_drop_10 : decode cX5_drop 10 = .ok (.aload_n 0, 1) := by decide +kernel
theorem dX5_drop_11 : decode cX5_drop 11 = .ok (.dup, 1) := by decide +kernel
theorem dX5_drop_12 : decode cX5_drop 12 = .ok (.getfield 56, 3) := by decide +kernel
theorem dX5_drop_15 : decode cX5_drop 15 = .ok (.iconst 1, 1) := by decide +kernel
theorem dX5_drop_16 : decode cX5_drop 16 = .ok (.isub, 1) := by decide +kernel
theorem dX5_drop_17 : decode cX5_drop 17 = .ok (.putfield 56, 3) := by decide +kernel
theorem dX5_drop_20 : decode cX5_drop 20 = .ok (.aload_n 0, 1) := by decide +kernel
theorem dX5_drop_21 : decode cX5_drop 21 = .ok (.getfield 56, 3) := by decide +kernel
theorem dX5_drop_24 : decode cX5_drop 24 = .ok (.ireturn, 1) := by decide +kernel
theorem dX5_sumOf_0 : decode cX5_sumOf 0 = .ok (.iconst 0, 1) := by decide +kernel
theorem dX5_sumOf_1 : decode cX5_sumOf 1 = .ok (.istore_n 2, 1) := by decide +kernel
theorem dX5_sumOf_2 : decode cX5_sumOf 2 = .ok (.iconst 0, 1) := by decide +kernel
theorem dX5_sumOf_3 : decode cX5_sumOf 3 = .ok (.istore_n 3, 1) := by decide +kernel
theorem dX5_sumOf_4 : decode cX5_sumOf 4 = .ok (.iload_n 3, 1) := by decide +kernel
theorem dX5_sumOf_5 : decode cX5_sumOf 5 = .ok (.bipush 8, 2) := by decide +kernel
theorem dX5_sumOf_7 : decode cX5_sumOf 7 = .ok (.if_icmp .ge 23, 3) := by decide +kernel
theorem dX5_sumOf_10 : decode cX5_sumOf 10 = .ok (.iload_n 2, 1) := by decide +kernel
theorem dX5_sumOf_11 : decode cX5_sumOf 11 = .ok (.aload_n 0, 1) := by decide +kernel
theorem dX5_sumOf_12 : decode cX5_sumOf 12 = .ok (.getfield 20, 3) := by decide +kernel
theorem dX5_sumOf_15 : decode cX5_sumOf 15 = .ok (.bipush 8, 2) := by decide +kernel
theorem dX5_sumOf_17 : decode cX5_sumOf 17 = .ok (.iload_n 1, 1) := by decide +kernel
theorem dX5_sumOf_18 : decode cX5_sumOf 18 = .ok (.imul, 1) := by decide +kernel
theorem dX5_sumOf_19 : decode cX5_sumOf 19 = .ok (.iload_n 3, 1) := by decide +kernel
theorem dX5_sumOf_20 : decode cX5_sumOf 20 = .ok (.iadd, 1) := by decide +kernel
theorem dX5_sumOf_21 : decode cX5_sumOf 21 = .ok (.iaload, 1) := by decide +kernel
theorem dX5_sumOf_22 : decode cX5_sumOf 22 = .ok (.iadd, 1) := by decide +kernel
theorem dX5_sumOf_23 : decode cX5_sumOf 23 = .ok (.istore_n 2, 1) := by decide +kernel
theorem dX5_sumOf_24 : decode cX5_sumOf 24 = .ok (.iinc 3 1, 3) := by decide +kernel
theorem dX5_sumOf_27 : decode cX5_sumOf 27 = .ok (.goto (-23), 3) := by decide +kernel
theorem dX5_sumOf_30 : decode cX5_sumOf 30 = .ok (.iload_n 2, 1) := by decide +kernel
theorem dX5_sumOf_31 : decode cX5_sumOf 31 = .ok (.ireturn, 1) := by decide +kernel
theorem dX5_told_0 : decode cX5_told 0 = .ok (.aload_n 0, 1) := by decide +kernel
theorem dX5_told_1 : decode cX5_told 1 = .ok (.iload_n 1, 1) := by decide +kernel
theorem dX5_told_2 : decode cX5_told 2 = .ok (.invokevirtual 63, 3) := by decide +kernel
theorem dX5_told_5 : decode cX5_told 5 = .ok (.ifCond .eq 15, 3) := by decide +kernel
theorem dX5_told_8 : decode cX5_told 8 = .ok (.iload_n 2, 1) := by decide +kernel
theorem dX5_told_9 : decode cX5_told 9 = .ok (.i2l, 1) := by decide +kernel
theorem dX5_told_10 : decode cX5_told 10 = .ok (.lconst 0, 1) := by decide +kernel
theorem dX5_told_11 : decode cX5_told 11 = .ok (.ldc2_w 73, 3) := by decide +kernel
theorem dX5_told_14 : decode cX5_told 14 = .ok (.invokestatic 59, 3) := by decide +kernel
theorem dX5_told_17 : decode cX5_told 17 = .ok (.ifCond .ne 5, 3) := by decide +kernel
theorem dX5_told_20 : decode cX5_told 20 = .ok (.iconst (-1), 1) := by decide +kernel
theorem dX5_told_21 : decode cX5_told 21 = .ok (.ireturn, 1) := by decide +kernel
theorem dX5_told_22 : decode cX5_told 22 = .ok (.iload_n 2, 1) := by decide +kernel
theorem dX5_told_23 : decode cX5_told 23 = .ok (.ifCond .ne 12, 3) := by decide +kernel
theorem dX5_told_26 : decode cX5_told 26 = .ok (.aload_n 0, 1) := by decide +kernel
theorem dX5_told_27 : decode cX5_told 27 = .ok (.getfield 13, 3) := by decide +kernel
theorem dX5_told_30 : decode cX5_told 30 = .ok (.iload_n 1, 1) := by decide +kernel
theorem dX5_told_31 : decode cX5_told 31 = .ok (.iaload, 1) := by decide +kernel
theorem dX5_told_32 : decode cX5_told 32 = .ok (.goto 39, 3) := by decide +kernel
theorem dX5_told_35 : decode cX5_told 35 = .ok (.iload_n 2, 1) := by decide +kernel
theorem dX5_told_36 : decode cX5_told 36 = .ok (.iconst 1, 1) := by decide +kernel
theorem dX5_told_37 : decode cX5_told 37 = .ok (.if_icmp .ne 15, 3) := by decide +kernel
theorem dX5_told_40 : decode cX5_told 40 = .ok (.aload_n 0, 1) := by decide +kernel
theorem dX5_told_41 : decode cX5_told 41 = .ok (.getfield 13, 3) := by decide +kernel
theorem dX5_told_44 : decode cX5_told 44 = .ok (.iload_n 1, 1) := by decide +kernel
theorem dX5_told_45 : decode cX5_told 45 = .ok (.iaload, 1) := by decide +kernel
theorem dX5_told_46 : decode cX5_told 46 = .ok (.invokestatic 67, 3) := by decide +kernel
theorem dX5_told_49 : decode cX5_told 49 = .ok (.goto 22, 3) := by decide +kernel
theorem dX5_told_52 : decode cX5_told 52 = .ok (.iload_n 2, 1) := by decide +kernel
theorem dX5_told_53 : decode cX5_told 53 = .ok (.iconst 2, 1) := by decide +kernel
theorem dX5_told_54 : decode cX5_told 54 = .ok (.if_icmp .ne 11, 3) := by decide +kernel
theorem dX5_told_57 : decode cX5_told 57 = .ok (.aload_n 0, 1) := by decide +kernel
theorem dX5_told_58 : decode cX5_told 58 = .ok (.iload_n 1, 1) := by decide +kernel
theorem dX5_told_59 : decode cX5_told 59 = .ok (.invokevirtual 75, 3) := by decide +kernel
theorem dX5_told_62 : decode cX5_told 62 = .ok (.goto 9, 3) := by decide +kernel
theorem dX5_told_65 : decode cX5_told 65 = .ok (.aload_n 0, 1) := by decide +kernel
theorem dX5_told_66 : decode cX5_told 66 = .ok (.getfield 17, 3) := by decide +kernel
theorem dX5_told_69 : decode cX5_told 69 = .ok (.iload_n 1, 1) := by decide +kernel
theorem dX5_told_70 : decode cX5_told 70 = .ok (.iaload, 1) := by decide +kernel
theorem dX5_told_71 : decode cX5_told 71 = .ok (.ireturn, 1) := by decide +kernel
theorem dX5_weight_0 : decode cX5_weight 0 = .ok (.aload_n 0, 1) := by decide +kernel
theorem dX5_weight_1 : decode cX5_weight 1 = .ok (.iload_n 1, 1) := by decide +kernel
theorem dX5_weight_2 : decode cX5_weight 2 = .ok (.iload_n 2, 1) := by decide +kernel
theorem dX5_weight_3 : decode cX5_weight 3 = .ok (.invokevirtual 78, 3) := by decide +kernel
theorem dX5_weight_6 : decode cX5_weight 6 = .ok (.ifCond .eq 15, 3) := by decide +kernel
theorem dX5_weight_9 : decode cX5_weight 9 = .ok (.iload_n 3, 1) := by decide +kernel
theorem dX5_weight_10 : decode cX5_weight 10 = .ok (.i2l, 1) := by decide +kernel
theorem dX5_weight_11 : decode cX5_weight 11 = .ok (.lconst 0, 1) := by decide +kernel
theorem dX5_weight_12 : decode cX5_weight 12 = .ok (.ldc2_w 82, 3) := by decide +kernel
theorem dX5_weight_15 : decode cX5_weight 15 = .ok (.invokestatic 59, 3) := by decide +kernel
theorem dX5_weight_18 : decode cX5_weight 18 = .ok (.ifCond .ne 5, 3) := by decide +kernel
theorem dX5_weight_21 : decode cX5_weight 21 = .ok (.iconst (-1), 1) := by decide +kernel
theorem dX5_weight_22 : decode cX5_weight 22 = .ok (.ireturn, 1) := by decide +kernel
theorem dX5_weight_23 : decode cX5_weight 23 = .ok (.aload_n 0, 1) := by decide +kernel
theorem dX5_weight_24 : decode cX5_weight 24 = .ok (.getfield 20, 3) := by decide +kernel
theorem dX5_weight_27 : decode cX5_weight 27 = .ok (.bipush 8, 2) := by decide +kernel
theorem dX5_weight_29 : decode cX5_weight 29 = .ok (.iload_n 1, 1) := by decide +kernel
theorem dX5_weight_30 : decode cX5_weight 30 = .ok (.imul, 1) := by decide +kernel
theorem dX5_weight_31 : decode cX5_weight 31 = .ok (.iload_n 2, 1) := by decide +kernel
theorem dX5_weight_32 : decode cX5_weight 32 = .ok (.iadd, 1) := by decide +kernel
theorem dX5_weight_33 : decode cX5_weight 33 = .ok (.iaload, 1) := by decide +kernel
theorem dX5_weight_34 : decode cX5_weight 34 = .ok (.istore 4, 2) := by decide +kernel
theorem dX5_weight_36 : decode cX5_weight 36 = .ok (.aload_n 0, 1) := by decide +kernel
theorem dX5_weight_37 : decode cX5_weight 37 = .ok (.getfield 20, 3) := by decide +kernel
theorem dX5_weight_40 : decode cX5_weight 40 = .ok (.bipush 8, 2) := by decide +kernel
theorem dX5_weight_42 : decode cX5_weight 42 = .ok (.iload_n 1, 1) := by decide +kernel
theorem dX5_weight_43 : decode cX5_weight 43 = .ok (.imul, 1) := by decide +kernel
theorem dX5_weight_44 : decode cX5_weight 44 = .ok (.iload_n 2, 1) := by decide +kernel
theorem dX5_weight_45 : decode cX5_weight 45 = .ok (.iadd, 1) := by decide +kernel
theorem dX5_weight_46 : decode cX5_weight 46 = .ok (.iload_n 3, 1) := by decide +kernel
theorem dX5_weight_47 : decode cX5_weight 47 = .ok (.iastore, 1) := by decide +kernel
theorem dX5_weight_48 : decode cX5_weight 48 = .ok (.iload 4, 2) := by decide +kernel
theorem dX5_weight_50 : decode cX5_weight 50 = .ok (.ireturn, 1) := by decide +kernel
theorem dX5_stake_0 : decode cX5_stake 0 = .ok (.aload_n 0, 1) := by decide +kernel
theorem dX5_stake_1 : decode cX5_stake 1 = .ok (.iload_n 1, 1) := by decide +kernel
theorem dX5_stake_2 : decode cX5_stake 2 = .ok (.iload_n 2, 1) := by decide +kernel
theorem dX5_stake_3 : decode cX5_stake 3 = .ok (.invokevirtual 78, 3) := by decide +kernel
theorem dX5_stake_6 : decode cX5_stake 6 = .ok (.ifCond .eq 17, 3) := by decide +kernel
theorem dX5_stake_9 : decode cX5_stake 9 = .ok (.iload_n 3, 1) := by decide +kernel
theorem dX5_stake_10 : decode cX5_stake 10 = .ok (.i2l, 1) := by decide +kernel
theorem dX5_stake_11 : decode cX5_stake 11 = .ok (.ldc2_w 84, 3) := by decide +kernel
theorem dX5_stake_14 : decode cX5_stake 14 = .ok (.ldc2_w 86, 3) := by decide +kernel
theorem dX5_stake_17 : decode cX5_stake 17 = .ok (.invokestatic 59, 3) := by decide +kernel
theorem dX5_stake_20 : decode cX5_stake 20 = .ok (.ifCond .ne 7, 3) := by decide +kernel
theorem dX5_stake_23 : decode cX5_stake 23 = .ok (.sipush (-1000), 3) := by decide +kernel
theorem dX5_stake_26 : decode cX5_stake 26 = .ok (.ireturn, 1) := by decide +kernel
theorem dX5_stake_27 : decode cX5_stake 27 = .ok (.aload_n 0, 1) := by decide +kernel
theorem dX5_stake_28 : decode cX5_stake 28 = .ok (.getfield 23, 3) := by decide +kernel
theorem dX5_stake_31 : decode cX5_stake 31 = .ok (.bipush 8, 2) := by decide +kernel
theorem dX5_stake_33 : decode cX5_stake 33 = .ok (.iload_n 1, 1) := by decide +kernel
theorem dX5_stake_34 : decode cX5_stake 34 = .ok (.imul, 1) := by decide +kernel
theorem dX5_stake_35 : decode cX5_stake 35 = .ok (.iload_n 2, 1) := by decide +kernel
theorem dX5_stake_36 : decode cX5_stake 36 = .ok (.iadd, 1) := by decide +kernel
theorem dX5_stake_37 : decode cX5_stake 37 = .ok (.iaload, 1) := by decide +kernel
theorem dX5_stake_38 : decode cX5_stake 38 = .ok (.istore 4, 2) := by decide +kernel
theorem dX5_stake_40 : decode cX5_stake 40 = .ok (.aload_n 0, 1) := by decide +kernel
theorem dX5_stake_41 : decode cX5_stake 41 = .ok (.getfield 23, 3) := by decide +kernel
theorem dX5_stake_44 : decode cX5_stake 44 = .ok (.bipush 8, 2) := by decide +kernel
theorem dX5_stake_46 : decode cX5_stake 46 = .ok (.iload_n 1, 1) := by decide +kernel
theorem dX5_stake_47 : decode cX5_stake 47 = .ok (.imul, 1) := by decide +kernel
theorem dX5_stake_48 : decode cX5_stake 48 = .ok (.iload_n 2, 1) := by decide +kernel
theorem dX5_stake_49 : decode cX5_stake 49 = .ok (.iadd, 1) := by decide +kernel
theorem dX5_stake_50 : decode cX5_stake 50 = .ok (.iload_n 3, 1) := by decide +kernel
theorem dX5_stake_51 : decode cX5_stake 51 = .ok (.iastore, 1) := by decide +kernel
theorem dX5_stake_52 : decode cX5_stake 52 = .ok (.iload 4, 2) := by decide +kernel
theorem dX5_stake_54 : decode cX5_stake 54 = .ok (.ireturn, 1) := by decide +kernel
theorem dX5_parity_0 : decode cX5_parity 0 = .ok (.aload_n 0, 1) := by decide +kernel
theorem dX5_parity_1 : decode cX5_parity 1 = .ok (.iload_n 1, 1) := by decide +kernel
theorem dX5_parity_2 : decode cX5_parity 2 = .ok (.invokevirtual 63, 3) := by decide +kernel
theorem dX5_parity_5 : decode cX5_parity 5 = .ok (.ifCond .eq 19, 3) := by decide +kernel
theorem dX5_parity_8 : decode cX5_parity 8 = .ok (.iload_n 2, 1) := by decide +kernel
theorem dX5_parity_9 : decode cX5_parity 9 = .ok (.bipush (-4), 2) := by decide +kernel
theorem dX5_parity_11 : decode cX5_parity 11 = .ok (.if_icmp .eq 15, 3) := by decide +kernel
theorem dX5_parity_14 : decode cX5_parity 14 = .ok (.iload_n 2, 1) := by decide +kernel
theorem dX5_parity_15 : decode cX5_parity 15 = .ok (.i2l, 1) := by decide +kernel
theorem dX5_parity_16 : decode cX5_parity 16 = .ok (.lconst 0, 1) := by decide +kernel
theorem dX5_parity_17 : decode cX5_parity 17 = .ok (.lconst 1, 1) := by decide +kernel
theorem dX5_parity_18 : decode cX5_parity 18 = .ok (.invokestatic 59, 3) := by decide +kernel
theorem dX5_parity_21 : decode cX5_parity 21 = .ok (.ifCond .ne 5, 3) := by decide +kernel
theorem dX5_parity_24 : decode cX5_parity 24 = .ok (.iconst (-1), 1) := by decide +kernel
theorem dX5_parity_25 : decode cX5_parity 25 = .ok (.ireturn, 1) := by decide +kernel
theorem dX5_parity_26 : decode cX5_parity 26 = .ok (.aload_n 0, 1) := by decide +kernel
theorem dX5_parity_27 : decode cX5_parity 27 = .ok (.getfield 17, 3) := by decide +kernel
theorem dX5_parity_30 : decode cX5_parity 30 = .ok (.iload_n 1, 1) := by decide +kernel
theorem dX5_parity_31 : decode cX5_parity 31 = .ok (.iaload, 1) := by decide +kernel
theorem dX5_parity_32 : decode cX5_parity 32 = .ok (.istore_n 3, 1) := by decide +kernel
theorem dX5_parity_33 : decode cX5_parity 33 = .ok (.aload_n 0, 1) := by decide +kernel
theorem dX5_parity_34 : decode cX5_parity 34 = .ok (.getfield 17, 3) := by decide +kernel
theorem dX5_parity_37 : decode cX5_parity 37 = .ok (.iload_n 1, 1) := by decide +kernel
theorem dX5_parity_38 : decode cX5_parity 38 = .ok (.iload_n 2, 1) := by decide +kernel
theorem dX5_parity_39 : decode cX5_parity 39 = .ok (.iastore, 1) := by decide +kernel
theorem dX5_parity_40 : decode cX5_parity 40 = .ok (.iload_n 3, 1) := by decide +kernel
theorem dX5_parity_41 : decode cX5_parity 41 = .ok (.ireturn, 1) := by decide +kernel
theorem dX5_jointOf_0 : decode cX5_jointOf 0 = .ok (.iconst 0, 1) := by decide +kernel
theorem dX5_jointOf_1 : decode cX5_jointOf 1 = .ok (.istore_n 3, 1) := by decide +kernel
theorem dX5_jointOf_2 : decode cX5_jointOf 2 = .ok (.iconst 0, 1) := by decide +kernel
theorem dX5_jointOf_3 : decode cX5_jointOf 3 = .ok (.istore 4, 2) := by decide +kernel
theorem dX5_jointOf_5 : decode cX5_jointOf 5 = .ok (.iconst 0, 1) := by decide +kernel
theorem dX5_jointOf_6 : decode cX5_jointOf 6 = .ok (.istore 5, 2) := by decide +kernel
theorem dX5_jointOf_8 : decode cX5_jointOf 8 = .ok (.iload 5, 2) := by decide +kernel
theorem dX5_jointOf_10 : decode cX5_jointOf 10 = .ok (.aload_n 0, 1) := by decide +kernel
theorem dX5_jointOf_11 : decode cX5_jointOf 11 = .ok (.getfield 7, 3) := by decide +kernel
theorem dX5_jointOf_14 : decode cX5_jointOf 14 = .ok (.if_icmp .ge 39, 3) := by decide +kernel
theorem dX5_jointOf_17 : decode cX5_jointOf 17 = .ok (.aload_n 0, 1) := by decide +kernel
theorem dX5_jointOf_18 : decode cX5_jointOf 18 = .ok (.getfield 13, 3) := by decide +kernel
theorem dX5_jointOf_21 : decode cX5_jointOf 21 = .ok (.iload_n 1, 1) := by decide +kernel
theorem dX5_jointOf_22 : decode cX5_jointOf 22 = .ok (.iaload, 1) := by decide +kernel
theorem dX5_jointOf_23 : decode cX5_jointOf 23 = .ok (.iload 5, 2) := by decide +kernel
theorem dX5_jointOf_25 : decode cX5_jointOf 25 = .ok (.ishr, 1) := by decide +kernel
theorem dX5_jointOf_26 : decode cX5_jointOf 26 = .ok (.iconst 1, 1) := by decide +kernel
theorem dX5_jointOf_27 : decode cX5_jointOf 27 = .ok (.iand, 1) := by decide +kernel
theorem dX5_jointOf_28 : decode cX5_jointOf 28 = .ok (.iconst 1, 1) := by decide +kernel
theorem dX5_jointOf_29 : decode cX5_jointOf 29 = .ok (.if_icmp .ne 18, 3) := by decide +kernel
theorem dX5_jointOf_32 : decode cX5_jointOf 32 = .ok (.iload_n 3, 1) := by decide +kernel
theorem dX5_jointOf_33 : decode cX5_jointOf 33 = .ok (.iload_n 2, 1) := by decide +kernel
theorem dX5_jointOf_34 : decode cX5_jointOf 34 = .ok (.iload 5, 2) := by decide +kernel
theorem dX5_jointOf_36 : decode cX5_jointOf 36 = .ok (.ishr, 1) := by decide +kernel
theorem dX5_jointOf_37 : decode cX5_jointOf 37 = .ok (.iconst 1, 1) := by decide +kernel
theorem dX5_jointOf_38 : decode cX5_jointOf 38 = .ok (.iand, 1) := by decide +kernel
theorem dX5_jointOf_39 : decode cX5_jointOf 39 = .ok (.iload 4, 2) := by decide +kernel
theorem dX5_jointOf_41 : decode cX5_jointOf 41 = .ok (.ishl, 1) := by decide +kernel
theorem dX5_jointOf_42 : decode cX5_jointOf 42 = .ok (.ior, 1) := by decide +kernel
theorem dX5_jointOf_43 : decode cX5_jointOf 43 = .ok (.istore_n 3, 1) := by decide +kernel
theorem dX5_jointOf_44 : decode cX5_jointOf 44 = .ok (.iinc 4 1, 3) := by decide +kernel
theorem dX5_jointOf_47 : decode cX5_jointOf 47 = .ok (.iinc 5 1, 3) := by decide +kernel
theorem dX5_jointOf_50 : decode cX5_jointOf 50 = .ok (.goto (-42), 3) := by decide +kernel
theorem dX5_jointOf_53 : decode cX5_jointOf 53 = .ok (.iload_n 3, 1) := by decide +kernel
theorem dX5_jointOf_54 : decode cX5_jointOf 54 = .ok (.ireturn, 1) := by decide +kernel
theorem dX5_joint_0 : decode cX5_joint 0 = .ok (.aload_n 0, 1) := by decide +kernel
theorem dX5_joint_1 : decode cX5_joint 1 = .ok (.iload_n 1, 1) := by decide +kernel
theorem dX5_joint_2 : decode cX5_joint 2 = .ok (.invokevirtual 63, 3) := by decide +kernel
theorem dX5_joint_5 : decode cX5_joint 5 = .ok (.ifCond .eq 28, 3) := by decide +kernel
theorem dX5_joint_8 : decode cX5_joint 8 = .ok (.iload_n 2, 1) := by decide +kernel
theorem dX5_joint_9 : decode cX5_joint 9 = .ok (.i2l, 1) := by decide +kernel
theorem dX5_joint_10 : decode cX5_joint 10 = .ok (.lconst 0, 1) := by decide +kernel
theorem dX5_joint_11 : decode cX5_joint 11 = .ok (.aload_n 0, 1) := by decide +kernel
theorem dX5_joint_12 : decode cX5_joint 12 = .ok (.invokevirtual 88, 3) := by decide +kernel
theorem dX5_joint_15 : decode cX5_joint 15 = .ok (.iconst 1, 1) := by decide +kernel
theorem dX5_joint_16 : decode cX5_joint 16 = .ok (.isub, 1) := by decide +kernel
theorem dX5_joint_17 : decode cX5_joint 17 = .ok (.i2l, 1) := by decide +kernel
theorem dX5_joint_18 : decode cX5_joint 18 = .ok (.invokestatic 59, 3) := by decide +kernel
theorem dX5_joint_21 : decode cX5_joint 21 = .ok (.ifCond .eq 12, 3) := by decide +kernel
theorem dX5_joint_24 : decode cX5_joint 24 = .ok (.aload_n 0, 1) := by decide +kernel
theorem dX5_joint_25 : decode cX5_joint 25 = .ok (.iload_n 1, 1) := by decide +kernel
theorem dX5_joint_26 : decode cX5_joint 26 = .ok (.iload_n 2, 1) := by decide +kernel
theorem dX5_joint_27 : decode cX5_joint 27 = .ok (.invokevirtual 92, 3) := by decide +kernel
theorem dX5_joint_30 : decode cX5_joint 30 = .ok (.goto 4, 3) := by decide +kernel
theorem dX5_joint_33 : decode cX5_joint 33 = .ok (.iconst (-1), 1) := by decide +kernel
theorem dX5_joint_34 : decode cX5_joint 34 = .ok (.ireturn, 1) := by decide +kernel
theorem dX5_sumBy_0 : decode cX5_sumBy 0 = .ok (.iconst 0, 1) := by decide +kernel
theorem dX5_sumBy_1 : decode cX5_sumBy 1 = .ok (.istore 4, 2) := by decide +kernel
theorem dX5_sumBy_3 : decode cX5_sumBy 3 = .ok (.iconst 0, 1) := by decide +kernel
theorem dX5_sumBy_4 : decode cX5_sumBy 4 = .ok (.istore 5, 2) := by decide +kernel
theorem dX5_sumBy_6 : decode cX5_sumBy 6 = .ok (.iload 5, 2) := by decide +kernel
theorem dX5_sumBy_8 : decode cX5_sumBy 8 = .ok (.iconst 1, 1) := by decide +kernel
theorem dX5_sumBy_9 : decode cX5_sumBy 9 = .ok (.aload_n 0, 1) := by decide +kernel
theorem dX5_sumBy_10 : decode cX5_sumBy 10 = .ok (.getfield 13, 3) := by decide +kernel
theorem dX5_sumBy_13 : decode cX5_sumBy 13 = .ok (.iload_n 1, 1) := by decide +kernel
theorem dX5_sumBy_14 : decode cX5_sumBy 14 = .ok (.iaload, 1) := by decide +kernel
theorem dX5_sumBy_15 : decode cX5_sumBy 15 = .ok (.invokestatic 67, 3) := by decide +kernel
theorem dX5_sumBy_18 : decode cX5_sumBy 18 = .ok (.ishl, 1) := by decide +kernel
theorem dX5_sumBy_19 : decode cX5_sumBy 19 = .ok (.if_icmp .ge 114, 3) := by decide +kernel
theorem dX5_sumBy_22 : decode cX5_sumBy 22 = .ok (.iconst 0, 1) := by decide +kernel
theorem dX5_sumBy_23 : decode cX5_sumBy 23 = .ok (.istore 6, 2) := by decide +kernel
theorem dX5_sumBy_25 : decode cX5_sumBy 25 = .ok (.iconst 1, 1) := by decide +kernel
theorem dX5_sumBy_26 : decode cX5_sumBy 26 = .ok (.istore 7, 2) := by decide +kernel
theorem dX5_sumBy_28 : decode cX5_sumBy 28 = .ok (.iconst 0, 1) := by decide +kernel
theorem dX5_sumBy_29 : decode cX5_sumBy 29 = .ok (.istore 8, 2) := by decide +kernel
theorem dX5_sumBy_31 : decode cX5_sumBy 31 = .ok (.iload 8, 2) := by decide +kernel
theorem dX5_sumBy_33 : decode cX5_sumBy 33 = .ok (.aload_n 0, 1) := by decide +kernel
theorem dX5_sumBy_34 : decode cX5_sumBy 34 = .ok (.getfield 7, 3) := by decide +kernel
theorem dX5_sumBy_37 : decode cX5_sumBy 37 = .ok (.if_icmp .ge 64, 3) := by decide +kernel
theorem dX5_sumBy_40 : decode cX5_sumBy 40 = .ok (.aload_n 0, 1) := by decide +kernel
theorem dX5_sumBy_41 : decode cX5_sumBy 41 = .ok (.getfield 13, 3) := by decide +kernel
theorem dX5_sumBy_44 : decode cX5_sumBy 44 = .ok (.iload_n 1, 1) := by decide +kernel
theorem dX5_sumBy_45 : decode cX5_sumBy 45 = .ok (.iaload, 1) := by decide +kernel
theorem dX5_sumBy_46 : decode cX5_sumBy 46 = .ok (.iload 8, 2) := by decide +kernel
theorem dX5_sumBy_48 : decode cX5_sumBy 48 = .ok (.ishr, 1) := by decide +kernel
theorem dX5_sumBy_49 : decode cX5_sumBy 49 = .ok (.iconst 1, 1) := by decide +kernel
theorem dX5_sumBy_50 : decode cX5_sumBy 50 = .ok (.iand, 1) := by decide +kernel
theorem dX5_sumBy_51 : decode cX5_sumBy 51 = .ok (.iconst 1, 1) := by decide +kernel
theorem dX5_sumBy_52 : decode cX5_sumBy 52 = .ok (.if_icmp .ne 43, 3) := by decide +kernel
theorem dX5_sumBy_55 : decode cX5_sumBy 55 = .ok (.iload 7, 2) := by decide +kernel
theorem dX5_sumBy_57 : decode cX5_sumBy 57 = .ok (.ifCond .eq 32, 3) := by decide +kernel
theorem dX5_sumBy_60 : decode cX5_sumBy 60 = .ok (.iload_n 2, 1) := by decide +kernel
theorem dX5_sumBy_61 : decode cX5_sumBy 61 = .ok (.iload 8, 2) := by decide +kernel
theorem dX5_sumBy_63 : decode cX5_sumBy 63 = .ok (.ishr, 1) := by decide +kernel
theorem dX5_sumBy_64 : decode cX5_sumBy 64 = .ok (.iconst 1, 1) := by decide +kernel
theorem dX5_sumBy_65 : decode cX5_sumBy 65 = .ok (.iand, 1) := by decide +kernel
theorem dX5_sumBy_66 : decode cX5_sumBy 66 = .ok (.ifCond .eq 19, 3) := by decide +kernel
theorem dX5_sumBy_69 : decode cX5_sumBy 69 = .ok (.iload 5, 2) := by decide +kernel
theorem dX5_sumBy_71 : decode cX5_sumBy 71 = .ok (.iload 6, 2) := by decide +kernel
theorem dX5_sumBy_73 : decode cX5_sumBy 73 = .ok (.ishr, 1) := by decide +kernel
theorem dX5_sumBy_74 : decode cX5_sumBy 74 = .ok (.iconst 1, 1) := by decide +kernel
theorem dX5_sumBy_75 : decode cX5_sumBy 75 = .ok (.iand, 1) := by decide +kernel
theorem dX5_sumBy_76 : decode cX5_sumBy 76 = .ok (.iload_n 3, 1) := by decide +kernel
theorem dX5_sumBy_77 : decode cX5_sumBy 77 = .ok (.iload 8, 2) := by decide +kernel
theorem dX5_sumBy_79 : decode cX5_sumBy 79 = .ok (.ishr, 1) := by decide +kernel
theorem dX5_sumBy_80 : decode cX5_sumBy 80 = .ok (.iconst 1, 1) := by decide +kernel
theorem dX5_sumBy_81 : decode cX5_sumBy 81 = .ok (.iand, 1) := by decide +kernel
theorem dX5_sumBy_82 : decode cX5_sumBy 82 = .ok (.if_icmp .ne 7, 3) := by decide +kernel
theorem dX5_sumBy_85 : decode cX5_sumBy 85 = .ok (.iconst 1, 1) := by decide +kernel
theorem dX5_sumBy_86 : decode cX5_sumBy 86 = .ok (.goto 4, 3) := by decide +kernel
theorem dX5_sumBy_89 : decode cX5_sumBy 89 = .ok (.iconst 0, 1) := by decide +kernel
theorem dX5_sumBy_90 : decode cX5_sumBy 90 = .ok (.istore 7, 2) := by decide +kernel
theorem dX5_sumBy_92 : decode cX5_sumBy 92 = .ok (.iinc 6 1, 3) := by decide +kernel
theorem dX5_sumBy_95 : decode cX5_sumBy 95 = .ok (.iinc 8 1, 3) := by decide +kernel
theorem dX5_sumBy_98 : decode cX5_sumBy 98 = .ok (.goto (-67), 3) := by decide +kernel
theorem dX5_sumBy_101 : decode cX5_sumBy 101 = .ok (.iload 4, 2) := by decide +kernel
theorem dX5_sumBy_103 : decode cX5_sumBy 103 = .ok (.iload 7, 2) := by decide +kernel
theorem dX5_sumBy_105 : decode cX5_sumBy 105 = .ok (.ifCond .eq 18, 3) := by decide +kernel
theorem dX5_sumBy_108 : decode cX5_sumBy 108 = .ok (.aload_n 0, 1) := by decide +kernel
theorem dX5_sumBy_109 : decode cX5_sumBy 109 = .ok (.getfield 20, 3) := by decide +kernel
theorem dX5_sumBy_112 : decode cX5_sumBy 112 = .ok (.bipush 8, 2) := by decide +kernel
theorem dX5_sumBy_114 : decode cX5_sumBy 114 = .ok (.iload_n 1, 1) := by decide +kernel
theorem dX5_sumBy_115 : decode cX5_sumBy 115 = .ok (.imul, 1) := by decide +kernel
theorem dX5_sumBy_116 : decode cX5_sumBy 116 = .ok (.iload 5, 2) := by decide +kernel
theorem dX5_sumBy_118 : decode cX5_sumBy 118 = .ok (.iadd, 1) := by decide +kernel
theorem dX5_sumBy_119 : decode cX5_sumBy 119 = .ok (.iaload, 1) := by decide +kernel
theorem dX5_sumBy_120 : decode cX5_sumBy 120 = .ok (.goto 4, 3) := by decide +kernel
theorem dX5_sumBy_123 : decode cX5_sumBy 123 = .ok (.iconst 0, 1) := by decide +kernel
theorem dX5_sumBy_124 : decode cX5_sumBy 124 = .ok (.iadd, 1) := by decide +kernel
theorem dX5_sumBy_125 : decode cX5_sumBy 125 = .ok (.istore 4, 2) := by decide +kernel
theorem dX5_sumBy_127 : decode cX5_sumBy 127 = .ok (.iinc 5 1, 3) := by decide +kernel
theorem dX5_sumBy_130 : decode cX5_sumBy 130 = .ok (.goto (-124), 3) := by decide +kernel
theorem dX5_sumBy_133 : decode cX5_sumBy 133 = .ok (.iload 4, 2) := by decide +kernel
theorem dX5_sumBy_135 : decode cX5_sumBy 135 = .ok (.ireturn, 1) := by decide +kernel
theorem dX5_areUnlike_0 : decode cX5_areUnlike 0 = .ok (.aload_n 0, 1) := by decide +kernel
theorem dX5_areUnlike_1 : decode cX5_areUnlike 1 = .ok (.getfield 13, 3) := by decide +kernel
theorem dX5_areUnlike_4 : decode cX5_areUnlike 4 = .ok (.iload_n 1, 1) := by decide +kernel
theorem dX5_areUnlike_5 : decode cX5_areUnlike 5 = .ok (.iaload, 1) := by decide +kernel
theorem dX5_areUnlike_6 : decode cX5_areUnlike 6 = .ok (.aload_n 0, 1) := by decide +kernel
