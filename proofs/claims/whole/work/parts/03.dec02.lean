theorem dX3_init_0 : decode cX3_init 0 = .ok (.aload_n 0, 1) := by decide +kernel
theorem dX3_init_1 : decode cX3_init 1 = .ok (.invokespecial 3, 3) := by decide +kernel
theorem dX3_init_4 : decode cX3_init 4 = .ok (.aload_n 0, 1) := by decide +kernel
theorem dX3_init_5 : decode cX3_init 5 = .ok (.iconst 4, 1) := by decide +kernel
theorem dX3_init_6 : decode cX3_init 6 = .ok (.putfield 9, 3) := by decide +kernel
theorem dX3_init_9 : decode cX3_init 9 = .ok (.aload_n 0, 1) := by decide +kernel
theorem dX3_init_10 : decode cX3_init 10 = .ok (.iconst 0, 1) := by decide +kernel
theorem dX3_init_11 : decode cX3_init 11 = .ok (.putfield 15, 3) := by decide +kernel
theorem dX3_init_14 : decode cX3_init 14 = .ok (.aload_n 0, 1) := by decide +kernel
theorem dX3_init_15 : decode cX3_init 15 = .ok (.iconst 0, 1) := by decide +kernel
theorem dX3_init_16 : decode cX3_init 16 = .ok (.putfield 18, 3) := by decide +kernel
theorem dX3_init_19 : decode cX3_init 19 = .ok (.aload_n 0, 1) := by decide +kernel
theorem dX3_init_20 : decode cX3_init 20 = .ok (.bipush 8, 2) := by decide +kernel
theorem dX3_init_22 : decode cX3_init 22 = .ok (.newarray .int, 2) := by decide +kernel
theorem dX3_init_24 : decode cX3_init 24 = .ok (.putfield 21, 3) := by decide +kernel
theorem dX3_init_27 : decode cX3_init 27 = .ok (.aload_n 0, 1) := by decide +kernel
theorem dX3_init_28 : decode cX3_init 28 = .ok (.bipush 8, 2) := by decide +kernel
theorem dX3_init_30 : decode cX3_init 30 = .ok (.newarray .int, 2) := by decide +kernel
theorem dX3_init_32 : decode cX3_init 32 = .ok (.putfield 25, 3) := by decide +kernel
theorem dX3_init_35 : decode cX3_init 35 = .ok (.aload_n 0, 1) := by decide +kernel
theorem dX3_init_36 : decode cX3_init 36 = .ok (.bipush 64, 2) := by decide +kernel
theorem dX3_init_38 : decode cX3_init 38 = .ok (.newarray .int, 2) := by decide +kernel
theorem dX3_init_40 : decode cX3_init 40 = .ok (.putfield 28, 3) := by decide +kernel
theorem dX3_init_43 : decode cX3_init 43 = .ok (.aload_n 0, 1) := by decide +kernel
theorem dX3_init_44 : decode cX3_init 44 = .ok (.bipush 64, 2) := by decide +kernel
theorem dX3_init_46 : decode cX3_init 46 = .ok (.newarray .int, 2) := by decide +kernel
theorem dX3_init_48 : decode cX3_init 48 = .ok (.putfield 31, 3) := by decide +kernel
theorem dX3_init_51 : decode cX3_init 51 = .ok (.aload_n 0, 1) := by decide +kernel
theorem dX3_init_52 : decode cX3_init 52 = .ok (.bipush 64, 2) := by decide +kernel
theorem dX3_init_54 : decode cX3_init 54 = .ok (.newarray .int, 2) := by decide +kernel
theorem dX3_init_56 : decode cX3_init 56 = .ok (.putfield 34, 3) := by decide +kernel
theorem dX3_init_59 : decode cX3_init 59 = .ok (.aload_n 0, 1) := by decide +kernel
theorem dX3_init_60 : decode cX3_init 60 = .ok (.sipush 512, 3) := by decide +kernel
theorem dX3_init_63 : decode cX3_init 63 = .ok (.newarray .int, 2) := by decide +kernel
theorem dX3_init_65 : decode cX3_init 65 = .ok (.putfield 37, 3) := by decide +kernel
theorem dX3_init_68 : decode cX3_init 68 = .ok (.aload_n 0, 1) := by decide +kernel
theorem dX3_init_69 : decode cX3_init 69 = .ok (.bipush 64, 2) := by decide +kernel
theorem dX3_init_71 : decode cX3_init 71 = .ok (.newarray .int, 2) := by decide +kernel
theorem dX3_init_73 : decode cX3_init 73 = .ok (.putfield 40, 3) := by decide +kernel
theorem dX3_init_76 : decode cX3_init 76 = .ok (.aload_n 0, 1) := by decide +kernel
theorem dX3_init_77 : decode cX3_init 77 = .ok (.bipush 64, 2) := by decide +kernel
theorem dX3_init_79 : decode cX3_init 79 = .ok (.newarray .boolean, 2) := by decide +kernel
theorem dX3_init_81 : decode cX3_init 81 = .ok (.putfield 43, 3) := by decide +kernel
theorem dX3_init_84 : decode cX3_init 84 = .ok (.return_, 1) := by decide +kernel
theorem dX3_begin_0 : decode cX3_begin 0 = .ok (.aload_n 0, 1) := by decide +kernel
theorem dX3_begin_1 : decode cX3_begin 1 = .ok (.iload_n 1, 1) := by decide +kernel
theorem dX3_begin_2 : decode cX3_begin 2 = .ok (.putfield 9, 3) := by decide +kernel
theorem dX3_begin_5 : decode cX3_begin 5 = .ok (.aload_n 0, 1) := by decide +kernel
theorem dX3_begin_6 : decode cX3_begin 6 = .ok (.iconst 0, 1) := by decide +kernel
theorem dX3_begin_7 : decode cX3_begin 7 = .ok (.putfield 15, 3) := by decide +kernel
theorem dX3_begin_10 : decode cX3_begin 10 = .ok (.aload_n 0, 1) := by decide +kernel
theorem dX3_begin_11 : decode cX3_begin 11 = .ok (.dup, 1) := by decide +kernel
theorem dX3_begin_12 : decode cX3_begin 12 = .ok (.getfield 18, 3) := by decide +kernel
theorem dX3_begin_15 : decode cX3_begin 15 = .ok (.iconst 1, 1) := by decide +kernel
theorem dX3_begin_16 : decode cX3_begin 16 = .ok (.iadd, 1) := by decide +kernel
theorem dX3_begin_17 : decode cX3_begin 17 = .ok (.putfield 18, 3) := by decide +kernel
theorem dX3_begin_20 : decode cX3_begin 20 = .ok (.return_, 1) := by decide +kernel
theorem dX3_hiddenCount_0 : decode cX3_hiddenCount 0 = .ok (.iconst 1, 1) := by decide +kernel
theorem dX3_hiddenCount_1 : decode cX3_hiddenCount 1 = .ok (.aload_n 0, 1) := by decide +kernel
theorem dX3_hiddenCount_2 : decode cX3_hiddenCount 2 = .ok (.getfield 9, 3) := by decide +kernel
theorem dX3_hiddenCount_5 : decode cX3_hiddenCount 5 = .ok (.ishl, 1) := by decide +kernel
theorem dX3_hiddenCount_6 : decode cX3_hiddenCount 6 = .ok (.ireturn, 1) := by decide +kernel
theorem dX3_hasSet_0 : decode cX3_hasSet 0 = .ok (.iload_n 1, 1) := by decide +kernel
theorem dX3_hasSet_1 : decode cX3_hasSet 1 = .ok (.ifCond .lt 15, 3) := by decide +kernel
theorem dX3_hasSet_4 : decode cX3_hasSet 4 = .ok (.iload_n 1, 1) := by decide +kernel
theorem dX3_hasSet_5 : decode cX3_hasSet 5 = .ok (.aload_n 0, 1) := by decide +kernel
theorem dX3_hasSet_6 : decode cX3_hasSet 6 = .ok (.getfield 15, 3) := by decide +kernel
theorem dX3_hasSet_9 : decode cX3_hasSet 9 = .ok (.if_icmp .ge 7, 3) := by decide +kernel
theorem dX3_hasSet_12 : decode cX3_hasSet 12 = .ok (.iconst 1, 1) := by decide +kernel
theorem dX3_hasSet_13 : decode cX3_hasSet 13 = .ok (.goto 4, 3) := by decide +kernel
theorem dX3_hasSet_16 : decode cX3_hasSet 16 = .ok (.iconst 0, 1) := by decide +kernel
theorem dX3_hasSet_17 : decode cX3_hasSet 17 = .ok (.ireturn, 1) := by decide +kernel
theorem dX3_hasJoint_0 : decode cX3_hasJoint 0 = .ok (.aload_n 0, 1) := by decide +kernel
theorem dX3_hasJoint_1 : decode cX3_hasJoint 1 = .ok (.iload_n 1, 1) := by decide +kernel
theorem dX3_hasJoint_2 : decode cX3_hasJoint 2 = .ok (.invokevirtual 47, 3) := by decide +kernel
theorem dX3_hasJoint_5 : decode cX3_hasJoint 5 = .ok (.ifCond .eq 20, 3) := by decide +kernel
theorem dX3_hasJoint_8 : decode cX3_hasJoint 8 = .ok (.iload_n 2, 1) := by decide +kernel
theorem dX3_hasJoint_9 : decode cX3_hasJoint 9 = .ok (.ifCond .lt 16, 3) := by decide +kernel
theorem dX3_hasJoint_12 : decode cX3_hasJoint 12 = .ok (.iload_n 2, 1) := by decide +kernel
theorem dX3_hasJoint_13 : decode cX3_hasJoint 13 = .ok (.aload_n 0, 1) := by decide +kernel
theorem dX3_hasJoint_14 : decode cX3_hasJoint 14 = .ok (.iload_n 1, 1) := by decide +kernel
theorem dX3_hasJoint_15 : decode cX3_hasJoint 15 = .ok (.invokevirtual 51, 3) := by decide +kernel
theorem dX3_hasJoint_18 : decode cX3_hasJoint 18 = .ok (.if_icmp .ge 7, 3) := by decide +kernel
theorem dX3_hasJoint_21 : decode cX3_hasJoint 21 = .ok (.iconst 1, 1) := by decide +kernel
theorem dX3_hasJoint_22 : decode cX3_hasJoint 22 = .ok (.goto 4, 3) := by decide +kernel
theorem dX3_hasJoint_25 : decode cX3_hasJoint 25 = .ok (.iconst 0, 1) := by decide +kernel
theorem dX3_hasJoint_26 : decode cX3_hasJoint 26 = .ok (.ireturn, 1) := by decide +kernel
theorem dX3_jointCount_0 : decode cX3_jointCount 0 = .ok (.iconst 1, 1) := by decide +kernel
theorem dX3_jointCount_1 : decode cX3_jointCount 1 = .ok (.aload_n 0, 1) := by decide +kernel
theorem dX3_jointCount_2 : decode cX3_jointCount 2 = .ok (.getfield 21, 3) := by decide +kernel
theorem dX3_jointCount_5 : decode cX3_jointCount 5 = .ok (.iload_n 1, 1) := by decide +kernel
theorem dX3_jointCount_6 : decode cX3_jointCount 6 = .ok (.iaload, 1) := by decide +kernel
theorem dX3_jointCount_7 : decode cX3_jointCount 7 = .ok (.invokestatic 55, 3) := by decide +kernel
theorem dX3_jointCount_10 : decode cX3_jointCount 10 = .ok (.ishl, 1) := by decide +kernel
theorem dX3_jointCount_11 : decode cX3_jointCount 11 = .ok (.ireturn, 1) := by decide +kernel
theorem dX3_hasSetOf_0 : decode cX3_hasSetOf 0 = .ok (.iconst 0, 1) := by decide +kernel
theorem dX3_hasSetOf_1 : decode cX3_hasSetOf 1 = .ok (.istore_n 2, 1) := by decide +kernel
theorem dX3_hasSetOf_2 : decode cX3_hasSetOf 2 = .ok (.iload_n 2, 1) := by decide +kernel
theorem dX3_hasSetOf_3 : decode cX3_hasSetOf 3 = .ok (.aload_n 0, 1) := by decide +kernel
theorem dX3_hasSetOf_4 : decode cX3_hasSetOf 4 = .ok (.getfield 15, 3) := by decide +kernel
theorem dX3_hasSetOf_7 : decode cX3_hasSetOf 7 = .ok (.if_icmp .ge 21, 3) := by decide +kernel
theorem dX3_hasSetOf_10 : decode cX3_hasSetOf 10 = .ok (.aload_n 0, 1) := by decide +kernel
theorem dX3_hasSetOf_11 : decode cX3_hasSetOf 11 = .ok (.getfield 21, 3) := by decide +kernel
theorem dX3_hasSetOf_14 : decode cX3_hasSetOf 14 = .ok (.iload_n 2, 1) := by decide +kernel
theorem dX3_hasSetOf_15 : decode cX3_hasSetOf 15 = .ok (.iaload, 1) := by decide +kernel
theorem dX3_hasSetOf_16 : decode cX3_hasSetOf 16 = .ok (.iload_n 1, 1) := by decide +kernel
theorem dX3_hasSetOf_17 : decode cX3_hasSetOf 17 = .ok (.if_icmp .ne 5, 3) := by decide +kernel
theorem dX3_hasSetOf_20 : decode cX3_hasSetOf 20 = .ok (.iconst 1, 1) := by decide +kernel
theorem dX3_hasSetOf_21 : decode cX3_hasSetOf 21 = .ok (.ireturn, 1) := by decide +kernel
theorem dX3_hasSetOf_22 : decode cX3_hasSetOf 22 = .ok (.iinc 2 1, 3) := by decide +kernel
theorem dX3_hasSetOf_25 : decode cX3_hasSetOf 25 = .ok (.goto (-23), 3) := by decide +kernel
theorem dX3_hasSetOf_28 : decode cX3_hasSetOf 28 = .ok (.iconst 0, 1) := by decide +kernel
theorem dX3_hasSetOf_29 : decode cX3_hasSetOf 29 = .ok (.ireturn, 1) := by decide +kernel
theorem dX3_add_0 : decode cX3_add 0 = .ok (.aload_n 0, 1) := by decide +kernel
theorem dX3_add_1 : decode cX3_add 1 = .ok (.getfield 15, 3) := by decide +kernel
theorem dX3_add_4 : decode cX3_add 4 = .ok (.istore_n 2, 1) := by decide +kernel
theorem dX3_add_5 : decode cX3_add 5 = .ok (.aload_n 0, 1) := by decide +kernel
theorem dX3_add_6 : decode cX3_add 6 = .ok (.getfield 21, 3) := by decide +kernel
theorem dX3_add_9 : decode cX3_add 9 = .ok (.iload_n 2, 1) := by decide +kernel
theorem dX3_add_10 : decode cX3_add 10 = .ok (.iload_n 1, 1) := by decide +kernel
theorem dX3_add_11 : decode cX3_add 11 = .ok (.iastore, 1) := by decide +kernel
theorem dX3_add_12 : decode cX3_add 12 = .ok (.aload_n 0, 1) := by decide +kernel
theorem dX3_add_13 : decode cX3_add 13 = .ok (.getfield 25, 3) := by decide +kernel
theorem dX3_add_16 : decode cX3_add 16 = .ok (.iload_n 2, 1) := by decide +kernel
theorem dX3_add_17 : decode cX3_add 17 = .ok (.bipush (-4), 2) := by decide +kernel
theorem dX3_add_19 : decode cX3_add 19 = .ok (.iastore, 1) := by decide +kernel
theorem dX3_add_20 : decode cX3_add 20 = .ok (.iconst 0, 1) := by decide +kernel
theorem dX3_add_21 : decode cX3_add 21 = .ok (.istore_n 3, 1) := by decide +kernel
theorem dX3_add_22 : decode cX3_add 22 = .ok (.iload_n 3, 1) := by decide +kernel
theorem dX3_add_23 : decode cX3_add 23 = .ok (.bipush 8, 2) := by decide +kernel
theorem dX3_add_25 : decode cX3_add 25 = .ok (.if_icmp .ge 33, 3) := by decide +kernel
theorem dX3_add_28 : decode cX3_add 28 = .ok (.aload_n 0, 1) := by decide +kernel
theorem dX3_add_29 : decode cX3_add 29 = .ok (.getfield 28, 3) := by decide +kernel
theorem dX3_add_32 : decode cX3_add 32 = .ok (.bipush 8, 2) := by decide +kernel
theorem dX3_add_34 : decode cX3_add 34 = .ok (.iload_n 2, 1) := by decide +kernel
theorem dX3_add_35 : decode cX3_add 35 = .ok (.imul, 1) := by decide +kernel
theorem dX3_add_36 : decode cX3_add 36 = .ok (.iload_n 3, 1) := by decide +kernel
theorem dX3_add_37 : decode cX3_add 37 = .ok (.iadd, 1) := by decide +kernel
theorem dX3_add_38 : decode cX3_add 38 = .ok (.iconst 0, 1) := by decide +kernel
theorem dX3_add_39 : decode cX3_add 39 = .ok (.iastore, 1) := by decide +kernel
theorem dX3_add_40 : decode cX3_add 40 = .ok (.aload_n 0, 1) := by decide +kernel
theorem dX3_add_41 : decode cX3_add 41 = .ok (.getfield 31, 3) := by decide +kernel
theorem dX3_add_44 : decode cX3_add 44 = .ok (.bipush 8, 2) := by decide +kernel
theorem dX3_add_46 : decode cX3_add 46 = .ok (.iload_n 2, 1) := by decide +kernel
theorem dX3_add_47 : decode cX3_add 47 = .ok (.imul, 1) := by decide +kernel
theorem dX3_add_48 : decode cX3_add 48 = .ok (.iload_n 3, 1) := by decide +kernel
theorem dX3_add_49 : decode cX3_add 49 = .ok (.iadd, 1) := by decide +kernel
theorem dX3_add_50 : decode cX3_add 50 = .ok (.iconst 0, 1) := by decide +kernel
theorem dX3_add_51 : decode cX3_add 51 = .ok (.iastore, 1) := by decide +kernel
theorem dX3_add_52 : decode cX3_add 52 = .ok (.iinc 3 1, 3) := by decide +kernel
theorem dX3_add_55 : decode cX3_add 55 = .ok (.goto (-33), 3) := by decide +kernel
theorem dX3_add_58 : decode cX3_add 58 = .ok (.iconst 0, 1) := by decide +kernel
theorem dX3_add_59 : decode cX3_add 59 = .ok (.istore_n 3, 1) := by decide +kernel
theorem dX3_add_60 : decode cX3_add 60 = .ok (.iload_n 3, 1) := by decide +kernel
theorem dX3_add_61 : decode cX3_add 61 = .ok (.aload_n 0, 1) := by decide +kernel
theorem dX3_add_62 : decode cX3_add 62 = .ok (.invokevirtual 60, 3) := by decide +kernel
theorem dX3_add_65 : decode cX3_add 65 = .ok (.if_icmp .ge 44, 3) := by decide +kernel
theorem dX3_add_68 : decode cX3_add 68 = .ok (.bipush 8, 2) := by decide +kernel
theorem dX3_add_70 : decode cX3_add 70 = .ok (.iload_n 2, 1) := by decide +kernel
theorem dX3_add_71 : decode cX3_add 71 = .ok (.imul, 1) := by decide +kernel
theorem dX3_add_72 : decode cX3_add 72 = .ok (.iload_n 1, 1) := by decide +kernel
theorem dX3_add_73 : decode cX3_add 73 = .ok (.iload_n 3, 1) := by decide +kernel
theorem dX3_add_74 : decode cX3_add 74 = .ok (.invokestatic 64, 3) := by decide +kernel
theorem dX3_add_77 : decode cX3_add 77 = .ok (.iadd, 1) := by decide +kernel
theorem dX3_add_78 : decode cX3_add 78 = .ok (.istore 4, 2) := by decide +kernel
theorem dX3_add_80 : decode cX3_add 80 = .ok (.aload_n 0, 1) := by decide +kernel
theorem dX3_add_81 : decode cX3_add 81 = .ok (.getfield 37, 3) := by decide +kernel
theorem dX3_add_84 : decode cX3_add 84 = .ok (.bipush 64, 2) := by decide +kernel
theorem dX3_add_86 : decode cX3_add 86 = .ok (.iload_n 2, 1) := by decide +kernel
theorem dX3_add_87 : decode cX3_add 87 = .ok (.imul, 1) := by decide +kernel
theorem dX3_add_88 : decode cX3_add 88 = .ok (.iload_n 3, 1) := by decide +kernel
theorem dX3_add_89 : decode cX3_add 89 = .ok (.iadd, 1) := by decide +kernel
theorem dX3_add_90 : decode cX3_add 90 = .ok (.iload 4, 2) := by decide +kernel
theorem dX3_add_92 : decode cX3_add 92 = .ok (.iastore, 1) := by decide +kernel
theorem dX3_add_93 : decode cX3_add 93 = .ok (.aload_n 0, 1) := by decide +kernel
theorem dX3_add_94 : decode cX3_add 94 = .ok (.getfield 34, 3) := by decide +kernel
theorem dX3_add_97 : decode cX3_add 97 = .ok (.iload 4, 2) := by decide +kernel
theorem dX3_add_99 : decode cX3_add 99 = .ok (.iload_n 3, 1) := by decide +kernel
theorem dX3_add_100 : decode cX3_add 100 = .ok (.iload_n 1, 1) := by decide +kernel
theorem dX3_add_101 : decode cX3_add 101 = .ok (.iand, 1) := by decide +kernel
theorem dX3_add_102 : decode cX3_add 102 = .ok (.iastore, 1) := by decide +kernel
theorem dX3_add_103 : decode cX3_add 103 = .ok (.iinc 3 1, 3) := by decide +kernel
theorem dX3_add_106 : decode cX3_add 106 = .ok (.goto (-46), 3) := by decide +kernel
theorem dX3_add_109 : decode cX3_add 109 = .ok (.aload_n 0, 1) := by decide +kernel
theorem dX3_add_110 : decode cX3_add 110 = .ok (.dup, 1) := by decide +kernel
theorem dX3_add_111 : decode cX3_add 111 = .ok (.getfield 15, 3) := by decide +kernel
theorem dX3_add_114 : decode cX3_add 114 = .ok (.iconst 1, 1) := by decide +kernel
theorem dX3_add_115 : decode cX3_add 115 = .ok (.iadd, 1) := by decide +kernel
theorem dX3_add_116 : decode cX3_add 116 = .ok (.putfield 15, 3) := by decide +kernel
theorem dX3_add_119 : decode cX3_add 119 = .ok (.aload_n 0, 1) := by decide +kernel
theorem dX3_add_120 : decode cX3_add 120 = .ok (.dup, 1) := by decide +kernel
theorem dX3_add_121 : decode cX3_add 121 = .ok (.getfield 18, 3) := by decide +kernel
theorem dX3_add_124 : decode cX3_add 124 = .ok (.iconst 1, 1) := by decide +kernel
theorem dX3_add_125 : decode cX3_add 125 = .ok (.iadd, 1) := by decide +kernel
theorem dX3_add_126 : decode cX3_add 126 = .ok (.putfield 18, 3) := by decide +kernel
theorem dX3_add_129 : decode cX3_add 129 = .ok (.iload_n 2, 1) := by decide +kernel
theorem dX3_add_130 : decode cX3_add 130 = .ok (.ireturn, 1) := by decide +kernel
theorem dX3_numberOf_0 : decode cX3_numberOf 0 = .ok (.iconst 0, 1) := by decide +kernel
theorem dX3_numberOf_1 : decode cX3_numberOf 1 = .ok (.istore_n 2, 1) := by decide +kernel
theorem dX3_numberOf_2 : decode cX3_numberOf 2 = .ok (.iconst 0, 1) := by decide +kernel
theorem dX3_numberOf_3 : decode cX3_numberOf 3 = .ok (.istore_n 3, 1) := by decide +kernel
theorem dX3_numberOf_4 : decode cX3_numberOf 4 = .ok (.iconst 0, 1) := by decide +kernel
theorem dX3_numberOf_5 : decode cX3_numberOf 5 = .ok (.istore 4, 2) := by decide +kernel
theorem dX3_numberOf_7 : decode cX3_numberOf 7 = .ok (.iload 4, 2) := by decide +kernel
theorem dX3_numberOf_9 : decode cX3_numberOf 9 = .ok (.bipush 6, 2) := by decide +kernel
theorem dX3_numberOf_11 : decode cX3_numberOf 11 = .ok (.if_icmp .ge 33, 3) := by decide +kernel
theorem dX3_numberOf_14 : decode cX3_numberOf 14 = .ok (.iload_n 0, 1) := by decide +kernel
theorem dX3_numberOf_15 : decode cX3_numberOf 15 = .ok (.iload 4, 2) := by decide +kernel
theorem dX3_numberOf_17 : decode cX3_numberOf 17 = .ok (.ishr, 1) := by decide +kernel
theorem dX3_numberOf_18 : decode cX3_numberOf 18 = .ok (.iconst 1, 1) := by decide +kernel
theorem dX3_numberOf_19 : decode cX3_numberOf 19 = .ok (.iand, 1) := by decide +kernel
theorem dX3_numberOf_20 : decode cX3_numberOf 20 = .ok (.iconst 1, 1) := by decide +kernel
theorem dX3_numberOf_21 : decode cX3_numberOf 21 = .ok (.if_icmp .ne 17, 3) := by decide +kernel
theorem dX3_numberOf_24 : decode cX3_numberOf 24 = .ok (.iload_n 2, 1) := by decide +kernel
theorem dX3_numberOf_25 : decode cX3_numberOf 25 = .ok (.iload_n 1, 1) := by decide +kernel
theorem dX3_numberOf_26 : decode cX3_numberOf 26 = .ok (.iload 4, 2) := by decide +kernel
theorem dX3_numberOf_28 : decode cX3_numberOf 28 = .ok (.ishr, 1) := by decide +kernel
theorem dX3_numberOf_29 : decode cX3_numberOf 29 = .ok (.iconst 1, 1) := by decide +kernel
theorem dX3_numberOf_30 : decode cX3_numberOf 30 = .ok (.iand, 1) := by decide +kernel
theorem dX3_numberOf_31 : decode cX3_numberOf 31 = .ok (.iload_n 3, 1) := by decide +kernel
theorem dX3_numberOf_32 : decode cX3_numberOf 32 = .ok (.ishl, 1) := by decide +kernel
theorem dX3_numberOf_33 : decode cX3_numberOf 33 = .ok (.ior, 1) := by decide +kernel
theorem dX3_numberOf_34 : decode cX3_numberOf 34 = .ok (.istore_n 2, 1) := by decide +kernel
theorem dX3_numberOf_35 : decode cX3_numberOf 35 = .ok (.iinc 3 1, 3) := by decide +kernel
theorem dX3_numberOf_38 : decode cX3_numberOf 38 = .ok (.iinc 4 1, 3) := by decide +kernel
theorem dX3_numberOf_41 : decode cX3_numberOf 41 = .ok (.goto (-34), 3) := by decide +kernel
theorem dX3_numberOf_44 : decode cX3_numberOf 44 = .ok (.iload_n 2, 1) := by decide +kernel
theorem dX3_numberOf_45 : decode cX3_numberOf 45 = .ok (.ireturn, 1) := by decide +kernel
theorem dX3_removeLatest_0 : decode cX3_removeLatest 0 = .ok (.aload_n 0, 1) := by decide +kernel
theorem dX3_removeLatest_1 : decode cX3_removeLatest 1 = .ok (.dup, 1) := by decide +kernel
theorem dX3_removeLatest_2 : decode cX3_removeLatest 2 = .ok (.getfield 15, 3) := by decide +kernel
theorem dX3_removeLatest_5 : decode cX3_removeLatest 5 = .ok (.iconst 1, 1) := by decide +kernel
theorem dX3_removeLatest_6 : decode cX3_removeLatest 6 = .ok (.isub, 1) := by decide +kernel
theorem dX3_removeLatest_7 : decode cX3_removeLatest 7 = .ok (.putfield 15, 3) := by decide +kernel
theorem dX3_removeLatest_10 : decode cX3_removeLatest 10 = .ok (.aload_n 0, 1) := by decide +kernel
theorem dX3_removeLatest_11 : decode cX3_removeLatest 11 = .ok (.dup, 1) := by decide +kernel
theorem dX3_removeLatest_12 : decode cX3_removeLatest 12 = .ok (.getfield 18, 3) := by decide +kernel
theorem dX3_removeLatest_15 : decode cX3_removeLatest 15 = .ok (.iconst 1, 1) := by decide +kernel
theorem dX3_removeLatest_16 : decode cX3_removeLatest 16 = .ok (.iadd, 1) := by decide +kernel
theorem dX3_removeLatest_17 : decode cX3_removeLatest 17 = .ok (.putfield 18, 3) := by decide +kernel
theorem dX3_removeLatest_20 : decode cX3_removeLatest 20 = .ok (.aload_n 0, 1) := by decide +kernel
theorem dX3_removeLatest_21 : decode cX3_removeLatest 21 = .ok (.getfield 15, 3) := by decide +kernel
theorem dX3_removeLatest_24 : decode cX3_removeLatest 24 = .ok (.ireturn, 1) := by decide +kernel
theorem dX3_setWeight_0 : decode cX3_setWeight 0 = .ok (.aload_n 0, 1) := by decide +kernel
theorem dX3_setWeight_1 : decode cX3_setWeight 1 = .ok (.getfield 28, 3) := by decide +kernel
theorem dX3_setWeight_4 : decode cX3_setWeight 4 = .ok (.iload_n 1, 1) := by decide +kernel
theorem dX3_setWeight_5 : decode cX3_setWeight 5 = .ok (.iload_n 2, 1) := by decide +kernel
theorem dX3_setWeight_6 : decode cX3_setWeight 6 = .ok (.iastore, 1) := by decide +kernel
theorem dX3_setWeight_7 : decode cX3_setWeight 7 = .ok (.aload_n 0, 1) := by decide +kernel
theorem dX3_setWeight_8 : decode cX3_setWeight 8 = .ok (.dup, 1) := by decide +kernel
theorem dX3_setWeight_9 : decode cX3_setWeight 9 = .ok (.getfield 18, 3) := by decide +kernel
theorem dX3_setWeight_12 : decode cX3_setWeight 12 = .ok (.iconst 1, 1) := by decide +kernel
theorem dX3_setWeight_13 : decode cX3_setWeight 13 = .ok (.iadd, 1) := by decide +kernel
theorem dX3_setWeight_14 : decode cX3_setWeight 14 = .ok (.putfield 18, 3) := by decide +kernel
theorem dX3_setWeight_17 : decode cX3_setWeight 17 = .ok (.return_, 1) := by decide +kernel
theorem dX3_weighBy_0 : decode cX3_weighBy 0 = .ok (.aload_n 0, 1) := by decide +kernel
theorem dX3_weighBy_1 : decode cX3_weighBy 1 = .ok (.getfield 28, 3) := by decide +kernel
theorem dX3_weighBy_4 : decode cX3_weighBy 4 = .ok (.iconst 0, 1) := by decide +kernel
theorem dX3_weighBy_5 : decode cX3_weighBy 5 = .ok (.invokestatic 68, 3) := by decide +kernel
theorem dX3_weighBy_8 : decode cX3_weighBy 8 = .ok (.iconst 0, 1) := by decide +kernel
theorem dX3_weighBy_9 : decode cX3_weighBy 9 = .ok (.istore_n 2, 1) := by decide +kernel
theorem dX3_weighBy_10 : decode cX3_weighBy 10 = .ok (.iload_n 2, 1) := by decide +kernel
theorem dX3_weighBy_11 : decode cX3_weighBy 11 = .ok (.aload_n 0, 1) := by decide +kernel
theorem dX3_weighBy_12 : decode cX3_weighBy 12 = .ok (.invokevirtual 60, 3) := by decide +kernel
theorem dX3_weighBy_15 : decode cX3_weighBy 15 = .ok (.if_icmp .ge 49, 3) := by decide +kernel
theorem dX3_weighBy_18 : decode cX3_weighBy 18 = .ok (.iload_n 1, 1) := by decide +kernel
theorem dX3_weighBy_19 : decode cX3_weighBy 19 = .ok (.iload_n 2, 1) := by decide +kernel
theorem dX3_weighBy_20 : decode cX3_weighBy 20 = .ok (.ishr, 1) := by decide +kernel
theorem dX3_weighBy_21 : decode cX3_weighBy 21 = .ok (.iconst 1, 1) := by decide +kernel
theorem dX3_weighBy_22 : decode cX3_weighBy 22 = .ok (.iand, 1) := by decide +kernel
theorem dX3_weighBy_23 : decode cX3_weighBy 23 = .ok (.iconst 1, 1) := by decide +kernel
theorem dX3_weighBy_24 : decode cX3_weighBy 24 = .ok (.if_icmp .ne 34, 3) := by decide +kernel
theorem dX3_weighBy_27 : decode cX3_weighBy 27 = .ok (.iconst 0, 1) := by decide +kernel
theorem dX3_weighBy_28 : decode cX3_weighBy 28 = .ok (.istore_n 3, 1) := by decide +kernel
theorem dX3_weighBy_29 : decode cX3_weighBy 29 = .ok (.iload_n 3, 1) := by decide +kernel
theorem dX3_weighBy_30 : decode cX3_weighBy 30 = .ok (.aload_n 0, 1) := by decide +kernel
theorem dX3_weighBy_31 : decode cX3_weighBy 31 = .ok (.getfield 15, 3) := by decide +kernel
theorem dX3_weighBy_34 : decode cX3_weighBy 34 = .ok (.if_icmp .ge 24, 3) := by decide +kernel
theorem dX3_weighBy_37 : decode cX3_weighBy 37 = .ok (.aload_n 0, 1) := by decide +kernel
theorem dX3_weighBy_38 : decode cX3_weighBy 38 = .ok (.getfield 28, 3) := by decide +kernel
theorem dX3_weighBy_41 : decode cX3_weighBy 41 = .ok (.aload_n 0, 1) := by decide +kernel
theorem dX3_weighBy_42 : decode cX3_weighBy 42 = .ok (.iload_n 3, 1) := by decide +kernel
theorem dX3_weighBy_43 : decode cX3_weighBy 43 = .ok (.iload_n 2, 1) := by decide +kernel
theorem dX3_weighBy_44 : decode cX3_weighBy 44 = .ok (.invokevirtual 74, 3) := by decide +kernel
theorem dX3_weighBy_47 : decode cX3_weighBy 47 = .ok (.dup2, 1) := by decide +kernel
theorem dX3_weighBy_48 : decode cX3_weighBy 48 = .ok (.iaload, 1) := by decide +kernel
theorem dX3_weighBy_49 : decode cX3_weighBy 49 = .ok (.iconst 1, 1) := by decide +kernel
theorem dX3_weighBy_50 : decode cX3_weighBy 50 = .ok (.iadd, 1) := by decide +kernel
theorem dX3_weighBy_51 : decode cX3_weighBy 51 = .ok (.iastore, 1) := by decide +kernel
theorem dX3_weighBy_52 : decode cX3_weighBy 52 = .ok (.iinc 3 1, 3) := by decide +kernel
theorem dX3_weighBy_55 : decode cX3_weighBy 55 = .ok (.goto (-26), 3) := by decide +kernel
theorem dX3_weighBy_58 : decode cX3_weighBy 58 = .ok (.iinc 2 1, 3) := by decide +kernel
theorem dX3_weighBy_61 : decode cX3_weighBy 61 = .ok (.goto (-51), 3) := by decide +kernel
theorem dX3_weighBy_64 : decode cX3_weighBy 64 = .ok (.aload_n 0, 1) := by decide +kernel
theorem dX3_weighBy_65 : decode cX3_weighBy 65 = .ok (.dup, 1) := by decide +kernel
theorem dX3_weighBy_66 : decode cX3_weighBy 66 = .ok (.getfield 18, 3) := by decide +kernel
theorem dX3_weighBy_69 : decode cX3_weighBy 69 = .ok (.iconst 1, 1) := by decide +kernel
theorem dX3_weighBy_70 : decode cX3_weighBy 70 = .ok (.iadd, 1) := by decide +kernel
theorem dX3_weighBy_71 : decode cX3_weighBy 71 = .ok (.putfield 18, 3) := by decide +kernel
theorem dX3_weighBy_74 : decode cX3_weighBy 74 = .ok (.return_, 1) := by decide +kernel
theorem dX3_placeBy_0 : decode cX3_placeBy 0 = .ok (.aload_n 0, 1) := by decide +kernel
theorem dX3_placeBy_1 : decode cX3_placeBy 1 = .ok (.getfield 37, 3) := by decide +kernel
theorem dX3_placeBy_4 : decode cX3_placeBy 4 = .ok (.bipush 64, 2) := by decide +kernel
theorem dX3_placeBy_6 : decode cX3_placeBy 6 = .ok (.iload_n 1, 1) := by decide +kernel
theorem dX3_placeBy_7 : decode cX3_placeBy 7 = .ok (.imul, 1) := by decide +kernel
theorem dX3_placeBy_8 : decode cX3_placeBy 8 = .ok (.iload_n 2, 1) := by decide +kernel
theorem dX3_placeBy_9 : decode cX3_placeBy 9 = .ok (.iadd, 1) := by decide +kernel
theorem dX3_placeBy_10 : decode cX3_placeBy 10 = .ok (.iaload, 1) := by decide +kernel
theorem dX3_placeBy_11 : decode cX3_placeBy 11 = .ok (.ireturn, 1) := by decide +kernel
theorem dX3_weightSum_0 : decode cX3_weightSum 0 = .ok (.iconst 0, 1) := by decide +kernel
theorem dX3_weightSum_1 : decode cX3_weightSum 1 = .ok (.istore_n 2, 1) := by decide +kernel
theorem dX3_weightSum_2 : decode cX3_weightSum 2 = .ok (.iconst 0, 1) := by decide +kernel
theorem dX3_weightSum_3 : decode cX3_weightSum 3 = .ok (.istore_n 3, 1) := by decide +kernel
theorem dX3_weightSum_4 : decode cX3_weightSum 4 = .ok (.iload_n 3, 1) := by decide +kernel
theorem dX3_weightSum_5 : decode cX3_weightSum 5 = .ok (.aload_n 0, 1) := by decide +kernel
theorem dX3_weightSum_6 : decode cX3_weightSum 6 = .ok (.iload_n 1, 1) := by decide +kernel
theorem dX3_weightSum_7 : decode cX3_weightSum 7 = .ok (.invokevirtual 51, 3) := by decide +kernel
theorem dX3_weightSum_10 : decode cX3_weightSum 10 = .ok (.if_icmp .ge 23, 3) := by decide +kernel
theorem dX3_weightSum_13 : decode cX3_weightSum 13 = .ok (.iload_n 2, 1) := by decide +kernel
theorem dX3_weightSum_14 : decode cX3_weightSum 14 = .ok (.aload_n 0, 1) := by decide +kernel
theorem dX3_weightSum_15 : decode cX3_weightSum 15 = .ok (.getfield 28, 3) := by decide +kernel
theorem dX3_weightSum_18 : decode cX3_weightSum 18 = .ok (.bipush 8, 2) := by decide +kernel
theorem dX3_weightSum_20 : decode cX3_weightSum 20 = .ok (.iload_n 1, 1) := by decide +kernel
theorem dX3_weightSum_21 : decode cX3_weightSum 21 = .ok (.imul, 1) := by decide +kernel
theorem dX3_weightSum_22 : decode cX3_weightSum 22 = .ok (.iload_n 3, 1) := by decide +kernel
theorem dX3_weightSum_23 : decode cX3_weightSum 23 = .ok (.iadd, 1) := by decide +kernel
theorem dX3_weightSum_24 : decode cX3_weightSum 24 = .ok (.iaload, 1) := by decide +kernel
theorem dX3_weightSum_25 : decode cX3_weightSum 25 = .ok (.iadd, 1) := by decide +kernel
theorem dX3_weightSum_26 : decode cX3_weightSum 26 = .ok (.istore_n 2, 1) := by decide +kernel
theorem dX3_weightSum_27 : decode cX3_weightSum 27 = .ok (.iinc 3 1, 3) := by decide +kernel
theorem dX3_weightSum_30 : decode cX3_weightSum 30 = .ok (.goto (-26), 3) := by decide +kernel
theorem dX3_weightSum_33 : decode cX3_weightSum 33 = .ok (.iload_n 2, 1) := by decide +kernel
theorem dX3_weightSum_34 : decode cX3_weightSum 34 = .ok (.ireturn, 1) := by decide +kernel
theorem dX3_weightsAboveZero_0 : decode cX3_weightsAboveZero 0 = .ok (.iconst 0, 1) := by decide +kernel
theorem dX3_weightsAboveZero_1 : decode cX3_weightsAboveZero 1 = .ok (.istore_n 1, 1) := by decide +kernel
theorem dX3_weightsAboveZero_2 : decode cX3_weightsAboveZero 2 = .ok (.iconst 0, 1) := by decide +kernel
theorem dX3_weightsAboveZero_3 : decode cX3_weightsAboveZero 3 = .ok (.istore_n 2, 1) := by decide +kernel
theorem dX3_weightsAboveZero_4 : decode cX3_weightsAboveZero 4 = .ok (.iload_n 2, 1) := by decide +kernel
theorem dX3_weightsAboveZero_5 : decode cX3_weightsAboveZero 5 = .ok (.aload_n 0, 1) := by decide +kernel
theorem dX3_weightsAboveZero_6 : decode cX3_weightsAboveZero 6 = .ok (.getfield 15, 3) := by decide +kernel
theorem dX3_weightsAboveZero_9 : decode cX3_weightsAboveZero 9 = .ok (.if_icmp .ge 43, 3) := by decide +kernel
theorem dX3_weightsAboveZero_12 : decode cX3_weightsAboveZero 12 = .ok (.iconst 0, 1) := by decide +kernel
theorem dX3_weightsAboveZero_13 : decode cX3_weightsAboveZero 13 = .ok (.istore_n 3, 1) := by decide +kernel
theorem dX3_weightsAboveZero_14 : decode cX3_weightsAboveZero 14 = .ok (.iload_n 3, 1) := by decide +kernel
theorem dX3_weightsAboveZero_15 : decode cX3_weightsAboveZero 15 = .ok (.aload_n 0, 1) := by decide +kernel
theorem dX3_weightsAboveZero_16 : decode cX3_weightsAboveZero 16 = .ok (.iload_n 2, 1) := by decide +kernel
theorem dX3_weightsAboveZero_17 : decode cX3_weightsAboveZero 17 = .ok (.invokevirtual 51, 3) := by decide +kernel
theorem dX3_weightsAboveZero_20 : decode cX3_weightsAboveZero 20 = .ok (.if_icmp .ge 26, 3) := by decide +kernel
theorem dX3_weightsAboveZero_23 : decode cX3_weightsAboveZero 23 = .ok (.aload_n 0, 1) := by decide +kernel
theorem dX3_weightsAboveZero_24 : decode cX3_weightsAboveZero 24 = .ok (.getfield 28, 3) := by decide +kernel
theorem dX3_weightsAboveZero_27 : decode cX3_weightsAboveZero 27 = .ok (.bipush 8, 2) := by decide +kernel
theorem dX3_weightsAboveZero_29 : decode cX3_weightsAboveZero 29 = .ok (.iload_n 2, 1) := by decide +kernel
theorem dX3_weightsAboveZero_30 : decode cX3_weightsAboveZero 30 = .ok (.imul, 1) := by decide +kernel
theorem dX3_weightsAboveZero_31 : decode cX3_weightsAboveZero 31 = .ok (.iload_n 3, 1) := by decide +kernel
theorem dX3_weightsAboveZero_32 : decode cX3_weightsAboveZero 32 = .ok (.iadd, 1) := by decide +kernel
theorem dX3_weightsAboveZero_33 : decode cX3_weightsAboveZero 33 = .ok (.iaload, 1) := by decide +kernel
theorem dX3_weightsAboveZero_34 : decode cX3_weightsAboveZero 34 = .ok (.ifCond .le 6, 3) := by decide +kernel
theorem dX3_weightsAboveZero_37 : decode cX3_weightsAboveZero 37 = .ok (.iinc 1 1, 3) := by decide +kernel
theorem dX3_weightsAboveZero_40 : decode cX3_weightsAboveZero 40 = .ok (.iinc 3 1, 3) := by decide +kernel
theorem dX3_weightsAboveZero_43 : decode cX3_weightsAboveZero 43 = .ok (.goto (-29), 3) := by decide +kernel
theorem dX3_weightsAboveZero_46 : decode cX3_weightsAboveZero 46 = .ok (.iinc 2 1, 3) := by decide +kernel
theorem dX3_weightsAboveZero_49 : decode cX3_weightsAboveZero 49 = .ok (.goto (-45), 3) := by decide +kernel
theorem dX3_weightsAboveZero_52 : decode cX3_weightsAboveZero 52 = .ok (.iload_n 1, 1) := by decide +kernel
theorem dX3_weightsAboveZero_53 : decode cX3_weightsAboveZero 53 = .ok (.ireturn, 1) := by decide +kernel
theorem dX3_firstQuarrel_0 : decode cX3_firstQuarrel 0 = .ok (.iconst 0, 1) := by decide +kernel
theorem dX3_firstQuarrel_1 : decode cX3_firstQuarrel 1 = .ok (.istore_n 1, 1) := by decide +kernel
theorem dX3_firstQuarrel_2 : decode cX3_firstQuarrel 2 = .ok (.iload_n 1, 1) := by decide +kernel
theorem dX3_firstQuarrel_3 : decode cX3_firstQuarrel 3 = .ok (.aload_n 0, 1) := by decide +kernel
theorem dX3_firstQuarrel_4 : decode cX3_firstQuarrel 4 = .ok (.getfield 15, 3) := by decide +kernel
theorem dX3_firstQuarrel_7 : decode cX3_firstQuarrel 7 = .ok (.if_icmp .ge 43, 3) := by decide +kernel
theorem dX3_firstQuarrel_10 : decode cX3_firstQuarrel 10 = .ok (.iload_n 1, 1) := by decide +kernel
theorem dX3_firstQuarrel_11 : decode cX3_firstQuarrel 11 = .ok (.iconst 1, 1) := by decide +kernel
theorem dX3_firstQuarrel_12 : decode cX3_firstQuarrel 12 = .ok (.iadd, 1) := by decide +kernel
theorem dX3_firstQuarrel_13 : decode cX3_firstQuarrel 13 = .ok (.istore_n 2, 1) := by decide +kernel
theorem dX3_firstQuarrel_14 : decode cX3_firstQuarrel 14 = .ok (.iload_n 2, 1) := by decide +kernel
theorem dX3_firstQuarrel_15 : decode cX3_firstQuarrel 15 = .ok (.aload_n 0, 1) := by decide +kernel
theorem dX3_firstQuarrel_16 : decode cX3_firstQuarrel 16 = .ok (.getfield 15, 3) := by decide +kernel
theorem dX3_firstQuarrel_19 : decode cX3_firstQuarrel 19 = .ok (.if_icmp .ge 25, 3) := by decide +kernel
theorem dX3_firstQuarrel_22 : decode cX3_firstQuarrel 22 = .ok (.aload_n 0, 1) := by decide +kernel
theorem dX3_firstQuarrel_23 : decode cX3_firstQuarrel 23 = .ok (.iload_n 1, 1) := by decide +kernel
theorem dX3_firstQuarrel_24 : decode cX3_firstQuarrel 24 = .ok (.iload_n 2, 1) := by decide +kernel
theorem dX3_firstQuarrel_25 : decode cX3_firstQuarrel 25 = .ok (.invokevirtual 77, 3) := by decide +kernel
theorem dX3_firstQuarrel_28 : decode cX3_firstQuarrel 28 = .ok (.ifCond .eq 10, 3) := by decide +kernel
theorem dX3_firstQuarrel_31 : decode cX3_firstQuarrel 31 = .ok (.bipush 8, 2) := by decide +kernel
theorem dX3_firstQuarrel_33 : decode cX3_firstQuarrel 33 = .ok (.iload_n 1, 1) := by decide +kernel
theorem dX3_firstQuarrel_34 : decode cX3_firstQuarrel 34 = .ok (.imul, 1) := by decide +kernel
theorem dX3_firstQuarrel_35 : decode cX3_firstQuarrel 35 = .ok (.iload_n 2, 1) := by decide +kernel
theorem dX3_firstQuarrel_36 : decode cX3_firstQuarrel 36 = .ok (.iadd, 1) := by decide +kernel
theorem dX3_firstQuarrel_37 : decode cX3_firstQuarrel 37 = .ok (.ireturn, 1) := by decide +kernel
theorem dX3_firstQuarrel_38 : decode cX3_firstQuarrel 38 = .ok (.iinc 2 1, 3) := by decide +kernel
theorem dX3_firstQuarrel_41 : decode cX3_firstQuarrel 41 = .ok (.goto (-27), 3) := by decide +kernel
theorem dX3_firstQuarrel_44 : decode cX3_firstQuarrel 44 = .ok (.iinc 1 1, 3) := by decide +kernel
theorem dX3_firstQuarrel_47 : decode cX3_firstQuarrel 47 = .ok (.goto (-45), 3) := by decide +kernel
theorem dX3_firstQuarrel_50 : decode cX3_firstQuarrel 50 = .ok (.bipush (-4), 2) := by decide +kernel
theorem dX3_firstQuarrel_52 : decode cX3_firstQuarrel 52 = .ok (.ireturn, 1) := by decide +kernel
theorem dX3_areUnlike_0 : decode cX3_areUnlike 0 = .ok (.aload_n 0, 1) := by decide +kernel
theorem dX3_areUnlike_1 : decode cX3_areUnlike 1 = .ok (.getfield 21, 3) := by decide +kernel
theorem dX3_areUnlike_4 : decode cX3_areUnlike 4 = .ok (.iload_n 1, 1) := by decide +kernel
theorem dX3_areUnlike_5 : decode cX3_areUnlike 5 = .ok (.iaload, 1) := by decide +kernel
theorem dX3_areUnlike_6 : decode cX3_areUnlike 6 = .ok (.aload_n 0, 1) := by decide +kernel
theorem dX3_areUnlike_7 : decode cX3_areUnlike 7 = .ok (.getfield 21, 3) := by decide +kernel
theorem dX3_areUnlike_10 : decode cX3_areUnlike 10 = .ok (.iload_n 2, 1) := by decide +kernel
theorem dX3_areUnlike_11 : decode cX3_areUnlike 11 = .ok (.iaload, 1) := by decide +kernel
theorem dX3_areUnlike_12 : decode cX3_areUnlike 12 = .ok (.iand, 1) := by decide +kernel
theorem dX3_areUnlike_13 : decode cX3_areUnlike 13 = .ok (.istore_n 3, 1) := by decide +kernel
theorem dX3_areUnlike_14 : decode cX3_areUnlike 14 = .ok (.aload_n 0, 1) := by decide +kernel
theorem dX3_areUnlike_15 : decode cX3_areUnlike 15 = .ok (.getfield 40, 3) := by decide +kernel
theorem dX3_areUnlike_18 : decode cX3_areUnlike 18 = .ok (.iconst 0, 1) := by decide +kernel
theorem dX3_areUnlike_19 : decode cX3_areUnlike 19 = .ok (.invokestatic 68, 3) := by decide +kernel
theorem dX3_areUnlike_22 : decode cX3_areUnlike 22 = .ok (.aload_n 0, 1) := by decide +kernel
theorem dX3_areUnlike_23 : decode cX3_areUnlike 23 = .ok (.iload_n 1, 1) := by decide +kernel
theorem dX3_areUnlike_24 : decode cX3_areUnlike 24 = .ok (.iload_n 3, 1) := by decide +kernel
theorem dX3_areUnlike_25 : decode cX3_areUnlike 25 = .ok (.iconst 1, 1) := by decide +kernel
theorem dX3_areUnlike_26 : decode cX3_areUnlike 26 = .ok (.invokevirtual 81, 3) := by decide +kernel
theorem dX3_areUnlike_29 : decode cX3_areUnlike 29 = .ok (.aload_n 0, 1) := by decide +kernel
theorem dX3_areUnlike_30 : decode cX3_areUnlike 30 = .ok (.iload_n 2, 1) := by decide +kernel
theorem dX3_areUnlike_31 : decode cX3_areUnlike 31 = .ok (.iload_n 3, 1) := by decide +kernel
theorem dX3_areUnlike_32 : decode cX3_areUnlike 32 = .ok (.iconst (-1), 1) := by decide +kernel
theorem dX3_areUnlike_33 : decode cX3_areUnlike 33 = .ok (.invokevirtual 81, 3) := by decide +kernel
theorem dX3_areUnlike_36 : decode cX3_areUnlike 36 = .ok (.aload_n 0, 1) := by decide +kernel
theorem dX3_areUnlike_37 : decode cX3_areUnlike 37 = .ok (.getfield 40, 3) := by decide +kernel
theorem dX3_areUnlike_40 : decode cX3_areUnlike 40 = .ok (.astore 4, 2) := by decide +kernel
theorem dX3_areUnlike_42 : decode cX3_areUnlike 42 = .ok (.aload 4, 2) := by decide +kernel
theorem dX3_areUnlike_44 : decode cX3_areUnlike 44 = .ok (.arraylength, 1) := by decide +kernel
theorem dX3_areUnlike_45 : decode cX3_areUnlike 45 = .ok (.istore 5, 2) := by decide +kernel
theorem dX3_areUnlike_47 : decode cX3_areUnlike 47 = .ok (.iconst 0, 1) := by decide +kernel
theorem dX3_areUnlike_48 : decode cX3_areUnlike 48 = .ok (.istore 6, 2) := by decide +kernel
theorem dX3_areUnlike_50 : decode cX3_areUnlike 50 = .ok (.iload 6, 2) := by decide +kernel
theorem dX3_areUnlike_52 : decode cX3_areUnlike 52 = .ok (.iload 5, 2) := by decide +kernel
theorem dX3_areUnlike_54 : decode cX3_areUnlike 54 = .ok (.if_icmp .ge 23, 3) := by decide +kernel
theorem dX3_areUnlike_57 : decode cX3_areUnlike 57 = .ok (.aload 4, 2) := by decide +kernel
theorem dX3_areUnlike_59 : decode cX3_areUnlike 59 = .ok (.iload 6, 2) := by decide +kernel
theorem dX3_areUnlike_61 : decode cX3_areUnlike 61 = .ok (.iaload, 1) := by decide +kernel
theorem dX3_areUnlike_62 : decode cX3_areUnlike 62 = .ok (.istore 7, 2) := by decide +kernel
theorem dX3_areUnlike_64 : decode cX3_areUnlike 64 = .ok (.iload 7, 2) := by decide +kernel
theorem dX3_areUnlike_66 : decode cX3_areUnlike 66 = .ok (.ifCond .eq 5, 3) := by decide +kernel
theorem dX3_areUnlike_69 : decode cX3_areUnlike 69 = .ok (.iconst 1, 1) := by decide +kernel
theorem dX3_areUnlike_70 : decode cX3_areUnlike 70 = .ok (.ireturn, 1) := by decide +kernel
theorem dX3_areUnlike_71 : decode cX3_areUnlike 71 = .ok (.iinc 6 1, 3) := by decide +kernel
theorem dX3_areUnlike_74 : decode cX3_areUnlike 74 = .ok (.goto (-24), 3) := by decide +kernel
theorem dX3_areUnlike_77 : decode cX3_areUnlike 77 = .ok (.iconst 0, 1) := by decide +kernel
theorem dX3_areUnlike_78 : decode cX3_areUnlike 78 = .ok (.ireturn, 1) := by decide +kernel
theorem dX3_addToSums_0 : decode cX3_addToSums 0 = .ok (.iconst 0, 1) := by decide +kernel
theorem dX3_addToSums_1 : decode cX3_addToSums 1 = .ok (.istore 4, 2) := by decide +kernel
theorem dX3_addToSums_3 : decode cX3_addToSums 3 = .ok (.iload 4, 2) := by decide +kernel
theorem dX3_addToSums_5 : decode cX3_addToSums 5 = .ok (.aload_n 0, 1) := by decide +kernel
theorem dX3_addToSums_6 : decode cX3_addToSums 6 = .ok (.iload_n 1, 1) := by decide +kernel
theorem dX3_addToSums_7 : decode cX3_addToSums 7 = .ok (.invokevirtual 51, 3) := by decide +kernel
theorem dX3_addToSums_10 : decode cX3_addToSums 10 = .ok (.if_icmp .ge 44, 3) := by decide +kernel
theorem dX3_addToSums_13 : decode cX3_addToSums 13 = .ok (.bipush 8, 2) := by decide +kernel
theorem dX3_addToSums_15 : decode cX3_addToSums 15 = .ok (.iload_n 1, 1) := by decide +kernel
theorem dX3_addToSums_16 : decode cX3_addToSums 16 = .ok (.imul, 1) := by decide +kernel
theorem dX3_addToSums_17 : decode cX3_addToSums 17 = .ok (.iload 4, 2) := by decide +kernel
theorem dX3_addToSums_19 : decode cX3_addToSums 19 = .ok (.iadd, 1) := by decide +kernel
theorem dX3_addToSums_20 : decode cX3_addToSums 20 = .ok (.istore 5, 2) := by decide +kernel
theorem dX3_addToSums_22 : decode cX3_addToSums 22 = .ok (.aload_n 0, 1) := by decide +kernel
theorem dX3_addToSums_23 : decode cX3_addToSums 23 = .ok (.getfield 40, 3) := by decide +kernel
theorem dX3_addToSums_26 : decode cX3_addToSums 26 = .ok (.aload_n 0, 1) := by decide +kernel
theorem dX3_addToSums_27 : decode cX3_addToSums 27 = .ok (.getfield 34, 3) := by decide +kernel
theorem dX3_addToSums_30 : decode cX3_addToSums 30 = .ok (.iload 5, 2) := by decide +kernel
theorem dX3_addToSums_32 : decode cX3_addToSums 32 = .ok (.iaload, 1) := by decide +kernel
theorem dX3_addToSums_33 : decode cX3_addToSums 33 = .ok (.iload_n 2, 1) := by decide +kernel
theorem dX3_addToSums_34 : decode cX3_addToSums 34 = .ok (.iand, 1) := by decide +kernel
theorem dX3_addToSums_35 : decode cX3_addToSums 35 = .ok (.dup2, 1) := by decide +kernel
theorem dX3_addToSums_36 : decode cX3_addToSums 36 = .ok (.iaload, 1) := by decide +kernel
theorem dX3_addToSums_37 : decode cX3_addToSums 37 = .ok (.iload_n 3, 1) := by decide +kernel
theorem dX3_addToSums_38 : decode cX3_addToSums 38 = .ok (.aload_n 0, 1) := by decide +kernel
theorem dX3_addToSums_39 : decode cX3_addToSums 39 = .ok (.getfield 28, 3) := by decide +kernel
theorem dX3_addToSums_42 : decode cX3_addToSums 42 = .ok (.iload 5, 2) := by decide +kernel
theorem dX3_addToSums_44 : decode cX3_addToSums 44 = .ok (.iaload, 1) := by decide +kernel
theorem dX3_addToSums_45 : decode cX3_addToSums 45 = .ok (.imul, 1) := by decide +kernel
theorem dX3_addToSums_46 : decode cX3_addToSums 46 = .ok (.iadd, 1) := by decide +kernel
theorem dX3_addToSums_47 : decode cX3_addToSums 47 = .ok (.iastore, 1) := by decide +kernel
theorem dX3_addToSums_48 : decode cX3_addToSums 48 = .ok (.iinc 4 1, 3) := by decide +kernel
theorem dX3_addToSums_51 : decode cX3_addToSums 51 = .ok (.goto (-48), 3) := by decide +kernel
theorem dX3_addToSums_54 : decode cX3_addToSums 54 = .ok (.return_, 1) := by decide +kernel
theorem dX3_isPossible_0 : decode cX3_isPossible 0 = .ok (.iconst 0, 1) := by decide +kernel
theorem dX3_isPossible_1 : decode cX3_isPossible 1 = .ok (.istore_n 2, 1) := by decide +kernel
theorem dX3_isPossible_2 : decode cX3_isPossible 2 = .ok (.iload_n 2, 1) := by decide +kernel
theorem dX3_isPossible_3 : decode cX3_isPossible 3 = .ok (.aload_n 0, 1) := by decide +kernel
theorem dX3_isPossible_4 : decode cX3_isPossible 4 = .ok (.getfield 15, 3) := by decide +kernel
theorem dX3_isPossible_7 : decode cX3_isPossible 7 = .ok (.if_icmp .ge 25, 3) := by decide +kernel
theorem dX3_isPossible_10 : decode cX3_isPossible 10 = .ok (.aload_n 0, 1) := by decide +kernel
theorem dX3_isPossible_11 : decode cX3_isPossible 11 = .ok (.getfield 28, 3) := by decide +kernel
theorem dX3_isPossible_14 : decode cX3_isPossible 14 = .ok (.aload_n 0, 1) := by decide +kernel
theorem dX3_isPossible_15 : decode cX3_isPossible 15 = .ok (.iload_n 2, 1) := by decide +kernel
theorem dX3_isPossible_16 : decode cX3_isPossible 16 = .ok (.iload_n 1, 1) := by decide +kernel
theorem dX3_isPossible_17 : decode cX3_isPossible 17 = .ok (.invokevirtual 74, 3) := by decide +kernel
theorem dX3_isPossible_20 : decode cX3_isPossible 20 = .ok (.iaload, 1) := by decide +kernel
theorem dX3_isPossible_21 : decode cX3_isPossible 21 = .ok (.ifCond .ne 5, 3) := by decide +kernel
theorem dX3_isPossible_24 : decode cX3_isPossible 24 = .ok (.iconst 0, 1) := by decide +kernel
theorem dX3_isPossible_25 : decode cX3_isPossible 25 = .ok (.ireturn, 1) := by decide +kernel
theorem dX3_isPossible_26 : decode cX3_isPossible 26 = .ok (.iinc 2 1, 3) := by decide +kernel
theorem dX3_isPossible_29 : decode cX3_isPossible 29 = .ok (.goto (-27), 3) := by decide +kernel
theorem dX3_isPossible_32 : decode cX3_isPossible 32 = .ok (.iconst 1, 1) := by decide +kernel
theorem dX3_isPossible_33 : decode cX3_isPossible 33 = .ok (.ireturn, 1) := by decide +kernel
theorem dX3_findMet_0 : decode cX3_findMet 0 = .ok (.iconst 0, 1) := by decide +kernel
theorem dX3_findMet_1 : decode cX3_findMet 1 = .ok (.istore_n 1, 1) := by decide +kernel
theorem dX3_findMet_2 : decode cX3_findMet 2 = .ok (.iload_n 1, 1) := by decide +kernel
theorem dX3_findMet_3 : decode cX3_findMet 3 = .ok (.bipush 8, 2) := by decide +kernel
theorem dX3_findMet_5 : decode cX3_findMet 5 = .ok (.aload_n 0, 1) := by decide +kernel
theorem dX3_findMet_6 : decode cX3_findMet 6 = .ok (.getfield 15, 3) := by decide +kernel
theorem dX3_findMet_9 : decode cX3_findMet 9 = .ok (.imul, 1) := by decide +kernel
theorem dX3_findMet_10 : decode cX3_findMet 10 = .ok (.if_icmp .ge 16, 3) := by decide +kernel
theorem dX3_findMet_13 : decode cX3_findMet 13 = .ok (.aload_n 0, 1) := by decide +kernel
theorem dX3_findMet_14 : decode cX3_findMet 14 = .ok (.getfield 43, 3) := by decide +kernel
theorem dX3_findMet_17 : decode cX3_findMet 17 = .ok (.iload_n 1, 1) := by decide +kernel
theorem dX3_findMet_18 : decode cX3_findMet 18 = .ok (.iconst 0, 1) := by decide +kernel
theorem dX3_findMet_19 : decode cX3_findMet 19 = .ok (.bastore, 1) := by decide +kernel
theorem dX3_findMet_20 : decode cX3_findMet 20 = .ok (.iinc 1 1, 3) := by decide +kernel
theorem dX3_findMet_23 : decode cX3_findMet 23 = .ok (.goto (-21), 3) := by decide +kernel
theorem dX3_findMet_26 : decode cX3_findMet 26 = .ok (.iconst 0, 1) := by decide +kernel
theorem dX3_findMet_27 : decode cX3_findMet 27 = .ok (.istore_n 1, 1) := by decide +kernel
theorem dX3_findMet_28 : decode cX3_findMet 28 = .ok (.iload_n 1, 1) := by decide +kernel
theorem dX3_findMet_29 : decode cX3_findMet 29 = .ok (.aload_n 0, 1) := by decide +kernel
theorem dX3_findMet_30 : decode cX3_findMet 30 = .ok (.invokevirtual 60, 3) := by decide +kernel
theorem dX3_findMet_33 : decode cX3_findMet 33 = .ok (.if_icmp .ge 45, 3) := by decide +kernel
theorem dX3_findMet_36 : decode cX3_findMet 36 = .ok (.aload_n 0, 1) := by decide +kernel
theorem dX3_findMet_37 : decode cX3_findMet 37 = .ok (.iload_n 1, 1) := by decide +kernel
theorem dX3_findMet_38 : decode cX3_findMet 38 = .ok (.invokevirtual 85, 3) := by decide +kernel
theorem dX3_findMet_41 : decode cX3_findMet 41 = .ok (.ifCond .eq 31, 3) := by decide +kernel
theorem dX3_findMet_44 : decode cX3_findMet 44 = .ok (.iconst 0, 1) := by decide +kernel
theorem dX3_findMet_45 : decode cX3_findMet 45 = .ok (.istore_n 2, 1) := by decide +kernel
theorem dX3_findMet_46 : decode cX3_findMet 46 = .ok (.iload_n 2, 1) := by decide +kernel
theorem dX3_findMet_47 : decode cX3_findMet 47 = .ok (.aload_n 0, 1) := by decide +kernel
theorem dX3_findMet_48 : decode cX3_findMet 48 = .ok (.getfield 15, 3) := by decide +kernel
theorem dX3_findMet_51 : decode cX3_findMet 51 = .ok (.if_icmp .ge 21, 3) := by decide +kernel
theorem dX3_findMet_54 : decode cX3_findMet 54 = .ok (.aload_n 0, 1) := by decide +kernel
theorem dX3_findMet_55 : decode cX3_findMet 55 = .ok (.getfield 43, 3) := by decide +kernel
theorem dX3_findMet_58 : decode cX3_findMet 58 = .ok (.aload_n 0, 1) := by decide +kernel
theorem dX3_findMet_59 : decode cX3_findMet 59 = .ok (.iload_n 2, 1) := by decide +kernel
theorem dX3_findMet_60 : decode cX3_findMet 60 = .ok (.iload_n 1, 1) := by decide +kernel
theorem dX3_findMet_61 : decode cX3_findMet 61 = .ok (.invokevirtual 74, 3) := by decide +kernel
theorem dX3_findMet_64 : decode cX3_findMet 64 = .ok (.iconst 1, 1) := by decide +kernel
theorem dX3_findMet_65 : decode cX3_findMet 65 = .ok (.bastore, 1) := by decide +kernel
theorem dX3_findMet_66 : decode cX3_findMet 66 = .ok (.iinc 2 1, 3) := by decide +kernel
theorem dX3_findMet_69 : decode cX3_findMet 69 = .ok (.goto (-23), 3) := by decide +kernel
theorem dX3_findMet_72 : decode cX3_findMet 72 = .ok (.iinc 1 1, 3) := by decide +kernel
theorem dX3_findMet_75 : decode cX3_findMet 75 = .ok (.goto (-47), 3) := by decide +kernel
theorem dX3_findMet_78 : decode cX3_findMet 78 = .ok (.return_, 1) := by decide +kernel
theorem dX3_stakeSum_0 : decode cX3_stakeSum 0 = .ok (.iconst 0, 1) := by decide +kernel
theorem dX3_stakeSum_1 : decode cX3_stakeSum 1 = .ok (.istore_n 2, 1) := by decide +kernel
theorem dX3_stakeSum_2 : decode cX3_stakeSum 2 = .ok (.iconst 0, 1) := by decide +kernel
theorem dX3_stakeSum_3 : decode cX3_stakeSum 3 = .ok (.istore_n 3, 1) := by decide +kernel
theorem dX3_stakeSum_4 : decode cX3_stakeSum 4 = .ok (.iload_n 3, 1) := by decide +kernel
theorem dX3_stakeSum_5 : decode cX3_stakeSum 5 = .ok (.aload_n 0, 1) := by decide +kernel
theorem dX3_stakeSum_6 : decode cX3_stakeSum 6 = .ok (.getfield 15, 3) := by decide +kernel
theorem dX3_stakeSum_9 : decode cX3_stakeSum 9 = .ok (.if_icmp .ge 23, 3) := by decide +kernel
theorem dX3_stakeSum_12 : decode cX3_stakeSum 12 = .ok (.iload_n 2, 1) := by decide +kernel
theorem dX3_stakeSum_13 : decode cX3_stakeSum 13 = .ok (.aload_n 0, 1) := by decide +kernel
theorem dX3_stakeSum_14 : decode cX3_stakeSum 14 = .ok (.getfield 31, 3) := by decide +kernel
theorem dX3_stakeSum_17 : decode cX3_stakeSum 17 = .ok (.aload_n 0, 1) := by decide +kernel
theorem dX3_stakeSum_18 : decode cX3_stakeSum 18 = .ok (.iload_n 3, 1) := by decide +kernel
theorem dX3_stakeSum_19 : decode cX3_stakeSum 19 = .ok (.iload_n 1, 1) := by decide +kernel
theorem dX3_stakeSum_20 : decode cX3_stakeSum 20 = .ok (.invokevirtual 74, 3) := by decide +kernel
theorem dX3_stakeSum_23 : decode cX3_stakeSum 23 = .ok (.iaload, 1) := by decide +kernel
theorem dX3_stakeSum_24 : decode cX3_stakeSum 24 = .ok (.iadd, 1) := by decide +kernel
theorem dX3_stakeSum_25 : decode cX3_stakeSum 25 = .ok (.istore_n 2, 1) := by decide +kernel
theorem dX3_stakeSum_26 : decode cX3_stakeSum 26 = .ok (.iinc 3 1, 3) := by decide +kernel
theorem dX3_stakeSum_29 : decode cX3_stakeSum 29 = .ok (.goto (-25), 3) := by decide +kernel
