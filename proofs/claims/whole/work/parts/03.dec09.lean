theorem dX5_findThrees_153 : decode cX5_findThrees 153 = .ok (.goto (-117), 3) := by decide +kernel
theorem dX5_findThrees_156 : decode cX5_findThrees 156 = .ok (.iload_n 1, 1) := by decide +kernel
theorem dX5_findThrees_157 : decode cX5_findThrees 157 = .ok (.ireturn, 1) := by decide +kernel
theorem dX5_isColour_0 : decode cX5_isColour 0 = .ok (.iconst 1, 1) := by decide +kernel
theorem dX5_isColour_1 : decode cX5_isColour 1 = .ok (.istore_n 2, 1) := by decide +kernel
theorem dX5_isColour_2 : decode cX5_isColour 2 = .ok (.iconst 0, 1) := by decide +kernel
theorem dX5_isColour_3 : decode cX5_isColour 3 = .ok (.istore_n 3, 1) := by decide +kernel
theorem dX5_isColour_4 : decode cX5_isColour 4 = .ok (.iload_n 3, 1) := by decide +kernel
theorem dX5_isColour_5 : decode cX5_isColour 5 = .ok (.aload_n 0, 1) := by decide +kernel
theorem dX5_isColour_6 : decode cX5_isColour 6 = .ok (.getfield 149, 3) := by decide +kernel
theorem dX5_isColour_9 : decode cX5_isColour 9 = .ok (.if_icmp .ge 38, 3) := by decide +kernel
theorem dX5_isColour_12 : decode cX5_isColour 12 = .ok (.iload_n 2, 1) := by decide +kernel
theorem dX5_isColour_13 : decode cX5_isColour 13 = .ok (.ifCond .eq 34, 3) := by decide +kernel
theorem dX5_isColour_16 : decode cX5_isColour 16 = .ok (.iload_n 1, 1) := by decide +kernel
theorem dX5_isColour_17 : decode cX5_isColour 17 = .ok (.iload_n 3, 1) := by decide +kernel
theorem dX5_isColour_18 : decode cX5_isColour 18 = .ok (.ishr, 1) := by decide +kernel
theorem dX5_isColour_19 : decode cX5_isColour 19 = .ok (.iconst 1, 1) := by decide +kernel
theorem dX5_isColour_20 : decode cX5_isColour 20 = .ok (.iand, 1) := by decide +kernel
theorem dX5_isColour_21 : decode cX5_isColour 21 = .ok (.ifCond .eq 14, 3) := by decide +kernel
theorem dX5_isColour_24 : decode cX5_isColour 24 = .ok (.aload_n 0, 1) := by decide +kernel
theorem dX5_isColour_25 : decode cX5_isColour 25 = .ok (.getfield 41, 3) := by decide +kernel
theorem dX5_isColour_28 : decode cX5_isColour 28 = .ok (.iload_n 3, 1) := by decide +kernel
theorem dX5_isColour_29 : decode cX5_isColour 29 = .ok (.iaload, 1) := by decide +kernel
theorem dX5_isColour_30 : decode cX5_isColour 30 = .ok (.iload_n 1, 1) := by decide +kernel
theorem dX5_isColour_31 : decode cX5_isColour 31 = .ok (.iand, 1) := by decide +kernel
theorem dX5_isColour_32 : decode cX5_isColour 32 = .ok (.ifCond .ne 7, 3) := by decide +kernel
theorem dX5_isColour_35 : decode cX5_isColour 35 = .ok (.iconst 1, 1) := by decide +kernel
theorem dX5_isColour_36 : decode cX5_isColour 36 = .ok (.goto 4, 3) := by decide +kernel
theorem dX5_isColour_39 : decode cX5_isColour 39 = .ok (.iconst 0, 1) := by decide +kernel
theorem dX5_isColour_40 : decode cX5_isColour 40 = .ok (.istore_n 2, 1) := by decide +kernel
theorem dX5_isColour_41 : decode cX5_isColour 41 = .ok (.iinc 3 1, 3) := by decide +kernel
theorem dX5_isColour_44 : decode cX5_isColour 44 = .ok (.goto (-40), 3) := by decide +kernel
theorem dX5_isColour_47 : decode cX5_isColour 47 = .ok (.iconst 0, 1) := by decide +kernel
theorem dX5_isColour_48 : decode cX5_isColour 48 = .ok (.istore_n 3, 1) := by decide +kernel
theorem dX5_isColour_49 : decode cX5_isColour 49 = .ok (.iload_n 3, 1) := by decide +kernel
theorem dX5_isColour_50 : decode cX5_isColour 50 = .ok (.aload_n 0, 1) := by decide +kernel
theorem dX5_isColour_51 : decode cX5_isColour 51 = .ok (.getfield 158, 3) := by decide +kernel
theorem dX5_isColour_54 : decode cX5_isColour 54 = .ok (.if_icmp .ge 34, 3) := by decide +kernel
theorem dX5_isColour_57 : decode cX5_isColour 57 = .ok (.iload_n 2, 1) := by decide +kernel
theorem dX5_isColour_58 : decode cX5_isColour 58 = .ok (.ifCond .eq 30, 3) := by decide +kernel
theorem dX5_isColour_61 : decode cX5_isColour 61 = .ok (.aload_n 0, 1) := by decide +kernel
theorem dX5_isColour_62 : decode cX5_isColour 62 = .ok (.getfield 44, 3) := by decide +kernel
theorem dX5_isColour_65 : decode cX5_isColour 65 = .ok (.iload_n 3, 1) := by decide +kernel
theorem dX5_isColour_66 : decode cX5_isColour 66 = .ok (.iaload, 1) := by decide +kernel
theorem dX5_isColour_67 : decode cX5_isColour 67 = .ok (.iload_n 1, 1) := by decide +kernel
theorem dX5_isColour_68 : decode cX5_isColour 68 = .ok (.iand, 1) := by decide +kernel
theorem dX5_isColour_69 : decode cX5_isColour 69 = .ok (.invokestatic 67, 3) := by decide +kernel
theorem dX5_isColour_72 : decode cX5_isColour 72 = .ok (.iconst 1, 1) := by decide +kernel
theorem dX5_isColour_73 : decode cX5_isColour 73 = .ok (.if_icmp .ne 7, 3) := by decide +kernel
theorem dX5_isColour_76 : decode cX5_isColour 76 = .ok (.iconst 1, 1) := by decide +kernel
theorem dX5_isColour_77 : decode cX5_isColour 77 = .ok (.goto 4, 3) := by decide +kernel
theorem dX5_isColour_80 : decode cX5_isColour 80 = .ok (.iconst 0, 1) := by decide +kernel
theorem dX5_isColour_81 : decode cX5_isColour 81 = .ok (.istore_n 2, 1) := by decide +kernel
theorem dX5_isColour_82 : decode cX5_isColour 82 = .ok (.iinc 3 1, 3) := by decide +kernel
theorem dX5_isColour_85 : decode cX5_isColour 85 = .ok (.goto (-36), 3) := by decide +kernel
theorem dX5_isColour_88 : decode cX5_isColour 88 = .ok (.iload_n 2, 1) := by decide +kernel
theorem dX5_isColour_89 : decode cX5_isColour 89 = .ok (.ireturn, 1) := by decide +kernel
theorem dX5_colours_0 : decode cX5_colours 0 = .ok (.iload_n 1, 1) := by decide +kernel
theorem dX5_colours_1 : decode cX5_colours 1 = .ok (.i2l, 1) := by decide +kernel
theorem dX5_colours_2 : decode cX5_colours 2 = .ok (.lconst 0, 1) := by decide +kernel
theorem dX5_colours_3 : decode cX5_colours 3 = .ok (.ldc2_w 161, 3) := by decide +kernel
theorem dX5_colours_6 : decode cX5_colours 6 = .ok (.invokestatic 59, 3) := by decide +kernel
theorem dX5_colours_9 : decode cX5_colours 9 = .ok (.ifCond .ne 5, 3) := by decide +kernel
theorem dX5_colours_12 : decode cX5_colours 12 = .ok (.iconst (-1), 1) := by decide +kernel
theorem dX5_colours_13 : decode cX5_colours 13 = .ok (.ireturn, 1) := by decide +kernel
theorem dX5_colours_14 : decode cX5_colours 14 = .ok (.aload_n 0, 1) := by decide +kernel
theorem dX5_colours_15 : decode cX5_colours 15 = .ok (.invokevirtual 163, 3) := by decide +kernel
theorem dX5_colours_18 : decode cX5_colours 18 = .ok (.istore_n 2, 1) := by decide +kernel
theorem dX5_colours_19 : decode cX5_colours 19 = .ok (.iconst 0, 1) := by decide +kernel
theorem dX5_colours_20 : decode cX5_colours 20 = .ok (.istore_n 3, 1) := by decide +kernel
theorem dX5_colours_21 : decode cX5_colours 21 = .ok (.bipush (-4), 2) := by decide +kernel
theorem dX5_colours_23 : decode cX5_colours 23 = .ok (.istore 4, 2) := by decide +kernel
theorem dX5_colours_25 : decode cX5_colours 25 = .ok (.iconst 0, 1) := by decide +kernel
theorem dX5_colours_26 : decode cX5_colours 26 = .ok (.istore 5, 2) := by decide +kernel
theorem dX5_colours_28 : decode cX5_colours 28 = .ok (.iconst 0, 1) := by decide +kernel
theorem dX5_colours_29 : decode cX5_colours 29 = .ok (.istore 6, 2) := by decide +kernel
theorem dX5_colours_31 : decode cX5_colours 31 = .ok (.iload 6, 2) := by decide +kernel
theorem dX5_colours_33 : decode cX5_colours 33 = .ok (.iconst 1, 1) := by decide +kernel
theorem dX5_colours_34 : decode cX5_colours 34 = .ok (.aload_n 0, 1) := by decide +kernel
theorem dX5_colours_35 : decode cX5_colours 35 = .ok (.getfield 149, 3) := by decide +kernel
theorem dX5_colours_38 : decode cX5_colours 38 = .ok (.ishl, 1) := by decide +kernel
theorem dX5_colours_39 : decode cX5_colours 39 = .ok (.if_icmp .ge 64, 3) := by decide +kernel
theorem dX5_colours_42 : decode cX5_colours 42 = .ok (.iload_n 1, 1) := by decide +kernel
theorem dX5_colours_43 : decode cX5_colours 43 = .ok (.iconst 1, 1) := by decide +kernel
theorem dX5_colours_44 : decode cX5_colours 44 = .ok (.if_icmp .le 59, 3) := by decide +kernel
theorem dX5_colours_47 : decode cX5_colours 47 = .ok (.aload_n 0, 1) := by decide +kernel
theorem dX5_colours_48 : decode cX5_colours 48 = .ok (.iload 6, 2) := by decide +kernel
theorem dX5_colours_50 : decode cX5_colours 50 = .ok (.invokevirtual 166, 3) := by decide +kernel
theorem dX5_colours_53 : decode cX5_colours 53 = .ok (.ifCond .eq 44, 3) := by decide +kernel
theorem dX5_colours_56 : decode cX5_colours 56 = .ok (.iinc 3 1, 3) := by decide +kernel
theorem dX5_colours_59 : decode cX5_colours 59 = .ok (.iload 4, 2) := by decide +kernel
theorem dX5_colours_61 : decode cX5_colours 61 = .ok (.bipush (-4), 2) := by decide +kernel
theorem dX5_colours_63 : decode cX5_colours 63 = .ok (.if_icmp .ne 8, 3) := by decide +kernel
theorem dX5_colours_66 : decode cX5_colours 66 = .ok (.iload 6, 2) := by decide +kernel
theorem dX5_colours_68 : decode cX5_colours 68 = .ok (.goto 5, 3) := by decide +kernel
theorem dX5_colours_71 : decode cX5_colours 71 = .ok (.iload 4, 2) := by decide +kernel
theorem dX5_colours_73 : decode cX5_colours 73 = .ok (.istore 4, 2) := by decide +kernel
theorem dX5_colours_75 : decode cX5_colours 75 = .ok (.iload 6, 2) := by decide +kernel
theorem dX5_colours_77 : decode cX5_colours 77 = .ok (.invokestatic 67, 3) := by decide +kernel
theorem dX5_colours_80 : decode cX5_colours 80 = .ok (.iload 5, 2) := by decide +kernel
theorem dX5_colours_82 : decode cX5_colours 82 = .ok (.if_icmp .le 11, 3) := by decide +kernel
theorem dX5_colours_85 : decode cX5_colours 85 = .ok (.iload 6, 2) := by decide +kernel
theorem dX5_colours_87 : decode cX5_colours 87 = .ok (.invokestatic 67, 3) := by decide +kernel
theorem dX5_colours_90 : decode cX5_colours 90 = .ok (.goto 5, 3) := by decide +kernel
theorem dX5_colours_93 : decode cX5_colours 93 = .ok (.iload 5, 2) := by decide +kernel
theorem dX5_colours_95 : decode cX5_colours 95 = .ok (.istore 5, 2) := by decide +kernel
theorem dX5_colours_97 : decode cX5_colours 97 = .ok (.iinc 6 1, 3) := by decide +kernel
theorem dX5_colours_100 : decode cX5_colours 100 = .ok (.goto (-69), 3) := by decide +kernel
theorem dX5_colours_103 : decode cX5_colours 103 = .ok (.iload_n 1, 1) := by decide +kernel
theorem dX5_colours_104 : decode cX5_colours 104 = .ok (.ifCond .ne 7, 3) := by decide +kernel
theorem dX5_colours_107 : decode cX5_colours 107 = .ok (.iload_n 2, 1) := by decide +kernel
theorem dX5_colours_108 : decode cX5_colours 108 = .ok (.goto 36, 3) := by decide +kernel
theorem dX5_colours_111 : decode cX5_colours 111 = .ok (.iload_n 1, 1) := by decide +kernel
theorem dX5_colours_112 : decode cX5_colours 112 = .ok (.iconst 1, 1) := by decide +kernel
theorem dX5_colours_113 : decode cX5_colours 113 = .ok (.if_icmp .ne 10, 3) := by decide +kernel
theorem dX5_colours_116 : decode cX5_colours 116 = .ok (.aload_n 0, 1) := by decide +kernel
theorem dX5_colours_117 : decode cX5_colours 117 = .ok (.getfield 158, 3) := by decide +kernel
theorem dX5_colours_120 : decode cX5_colours 120 = .ok (.goto 24, 3) := by decide +kernel
theorem dX5_colours_123 : decode cX5_colours 123 = .ok (.iload_n 1, 1) := by decide +kernel
theorem dX5_colours_124 : decode cX5_colours 124 = .ok (.iconst 2, 1) := by decide +kernel
theorem dX5_colours_125 : decode cX5_colours 125 = .ok (.if_icmp .ne 7, 3) := by decide +kernel
theorem dX5_colours_128 : decode cX5_colours 128 = .ok (.iload_n 3, 1) := by decide +kernel
theorem dX5_colours_129 : decode cX5_colours 129 = .ok (.goto 15, 3) := by decide +kernel
theorem dX5_colours_132 : decode cX5_colours 132 = .ok (.iload_n 1, 1) := by decide +kernel
theorem dX5_colours_133 : decode cX5_colours 133 = .ok (.iconst 3, 1) := by decide +kernel
theorem dX5_colours_134 : decode cX5_colours 134 = .ok (.if_icmp .ne 8, 3) := by decide +kernel
theorem dX5_colours_137 : decode cX5_colours 137 = .ok (.iload 4, 2) := by decide +kernel
theorem dX5_colours_139 : decode cX5_colours 139 = .ok (.goto 5, 3) := by decide +kernel
theorem dX5_colours_142 : decode cX5_colours 142 = .ok (.iload 5, 2) := by decide +kernel
theorem dX5_colours_144 : decode cX5_colours 144 = .ok (.ireturn, 1) := by decide +kernel
theorem dX5_isSheet_0 : decode cX5_isSheet 0 = .ok (.iload_n 0, 1) := by decide +kernel
theorem dX5_isSheet_1 : decode cX5_isSheet 1 = .ok (.i2l, 1) := by decide +kernel
theorem dX5_isSheet_2 : decode cX5_isSheet 2 = .ok (.lconst 0, 1) := by decide +kernel
theorem dX5_isSheet_3 : decode cX5_isSheet 3 = .ok (.ldc2_w 73, 3) := by decide +kernel
theorem dX5_isSheet_6 : decode cX5_isSheet 6 = .ok (.invokestatic 59, 3) := by decide +kernel
theorem dX5_isSheet_9 : decode cX5_isSheet 9 = .ok (.ifCond .eq 19, 3) := by decide +kernel
theorem dX5_isSheet_12 : decode cX5_isSheet 12 = .ok (.iload_n 1, 1) := by decide +kernel
theorem dX5_isSheet_13 : decode cX5_isSheet 13 = .ok (.i2l, 1) := by decide +kernel
theorem dX5_isSheet_14 : decode cX5_isSheet 14 = .ok (.lconst 0, 1) := by decide +kernel
theorem dX5_isSheet_15 : decode cX5_isSheet 15 = .ok (.ldc2_w 169, 3) := by decide +kernel
theorem dX5_isSheet_18 : decode cX5_isSheet 18 = .ok (.invokestatic 59, 3) := by decide +kernel
theorem dX5_isSheet_21 : decode cX5_isSheet 21 = .ok (.ifCond .eq 7, 3) := by decide +kernel
theorem dX5_isSheet_24 : decode cX5_isSheet 24 = .ok (.iconst 1, 1) := by decide +kernel
theorem dX5_isSheet_25 : decode cX5_isSheet 25 = .ok (.goto 4, 3) := by decide +kernel
theorem dX5_isSheet_28 : decode cX5_isSheet 28 = .ok (.iconst 0, 1) := by decide +kernel
theorem dX5_isSheet_29 : decode cX5_isSheet 29 = .ok (.ireturn, 1) := by decide +kernel
theorem dX5_sheet_0 : decode cX5_sheet 0 = .ok (.iload_n 1, 1) := by decide +kernel
theorem dX5_sheet_1 : decode cX5_sheet 1 = .ok (.iload_n 2, 1) := by decide +kernel
theorem dX5_sheet_2 : decode cX5_sheet 2 = .ok (.invokestatic 171, 3) := by decide +kernel
theorem dX5_sheet_5 : decode cX5_sheet 5 = .ok (.ifCond .eq 9, 3) := by decide +kernel
theorem dX5_sheet_8 : decode cX5_sheet 8 = .ok (.iload_n 3, 1) := by decide +kernel
theorem dX5_sheet_9 : decode cX5_sheet 9 = .ok (.bipush 64, 2) := by decide +kernel
theorem dX5_sheet_11 : decode cX5_sheet 11 = .ok (.if_icmp .le 5, 3) := by decide +kernel
theorem dX5_sheet_14 : decode cX5_sheet 14 = .ok (.iconst (-1), 1) := by decide +kernel
theorem dX5_sheet_15 : decode cX5_sheet 15 = .ok (.ireturn, 1) := by decide +kernel
theorem dX5_sheet_16 : decode cX5_sheet 16 = .ok (.iload_n 3, 1) := by decide +kernel
theorem dX5_sheet_17 : decode cX5_sheet 17 = .ok (.ifCond .ge 6, 3) := by decide +kernel
theorem dX5_sheet_20 : decode cX5_sheet 20 = .ok (.bipush (-14), 2) := by decide +kernel
theorem dX5_sheet_22 : decode cX5_sheet 22 = .ok (.ireturn, 1) := by decide +kernel
theorem dX5_sheet_23 : decode cX5_sheet 23 = .ok (.aload_n 0, 1) := by decide +kernel
theorem dX5_sheet_24 : decode cX5_sheet 24 = .ok (.getfield 47, 3) := by decide +kernel
theorem dX5_sheet_27 : decode cX5_sheet 27 = .ok (.iload_n 1, 1) := by decide +kernel
theorem dX5_sheet_28 : decode cX5_sheet 28 = .ok (.iload_n 2, 1) := by decide +kernel
theorem dX5_sheet_29 : decode cX5_sheet 29 = .ok (.iastore, 1) := by decide +kernel
theorem dX5_sheet_30 : decode cX5_sheet 30 = .ok (.aload_n 0, 1) := by decide +kernel
theorem dX5_sheet_31 : decode cX5_sheet 31 = .ok (.getfield 50, 3) := by decide +kernel
theorem dX5_sheet_34 : decode cX5_sheet 34 = .ok (.iload_n 1, 1) := by decide +kernel
theorem dX5_sheet_35 : decode cX5_sheet 35 = .ok (.iload_n 3, 1) := by decide +kernel
theorem dX5_sheet_36 : decode cX5_sheet 36 = .ok (.iastore, 1) := by decide +kernel
theorem dX5_sheet_37 : decode cX5_sheet 37 = .ok (.iconst 0, 1) := by decide +kernel
theorem dX5_sheet_38 : decode cX5_sheet 38 = .ok (.istore 4, 2) := by decide +kernel
theorem dX5_sheet_40 : decode cX5_sheet 40 = .ok (.iload 4, 2) := by decide +kernel
theorem dX5_sheet_42 : decode cX5_sheet 42 = .ok (.bipush 64, 2) := by decide +kernel
theorem dX5_sheet_44 : decode cX5_sheet 44 = .ok (.if_icmp .ge 22, 3) := by decide +kernel
theorem dX5_sheet_47 : decode cX5_sheet 47 = .ok (.aload_n 0, 1) := by decide +kernel
theorem dX5_sheet_48 : decode cX5_sheet 48 = .ok (.getfield 53, 3) := by decide +kernel
theorem dX5_sheet_51 : decode cX5_sheet 51 = .ok (.bipush 64, 2) := by decide +kernel
theorem dX5_sheet_53 : decode cX5_sheet 53 = .ok (.iload_n 1, 1) := by decide +kernel
theorem dX5_sheet_54 : decode cX5_sheet 54 = .ok (.imul, 1) := by decide +kernel
theorem dX5_sheet_55 : decode cX5_sheet 55 = .ok (.iload 4, 2) := by decide +kernel
theorem dX5_sheet_57 : decode cX5_sheet 57 = .ok (.iadd, 1) := by decide +kernel
theorem dX5_sheet_58 : decode cX5_sheet 58 = .ok (.iconst 0, 1) := by decide +kernel
theorem dX5_sheet_59 : decode cX5_sheet 59 = .ok (.iastore, 1) := by decide +kernel
theorem dX5_sheet_60 : decode cX5_sheet 60 = .ok (.iinc 4 1, 3) := by decide +kernel
theorem dX5_sheet_63 : decode cX5_sheet 63 = .ok (.goto (-23), 3) := by decide +kernel
theorem dX5_sheet_66 : decode cX5_sheet 66 = .ok (.iconst 1, 1) := by decide +kernel
theorem dX5_sheet_67 : decode cX5_sheet 67 = .ok (.ireturn, 1) := by decide +kernel
theorem dX5_lay_0 : decode cX5_lay 0 = .ok (.iload_n 1, 1) := by decide +kernel
theorem dX5_lay_1 : decode cX5_lay 1 = .ok (.iconst 0, 1) := by decide +kernel
theorem dX5_lay_2 : decode cX5_lay 2 = .ok (.invokestatic 171, 3) := by decide +kernel
theorem dX5_lay_5 : decode cX5_lay 5 = .ok (.ifCond .ne 5, 3) := by decide +kernel
theorem dX5_lay_8 : decode cX5_lay 8 = .ok (.iconst (-1), 1) := by decide +kernel
theorem dX5_lay_9 : decode cX5_lay 9 = .ok (.ireturn, 1) := by decide +kernel
theorem dX5_lay_10 : decode cX5_lay 10 = .ok (.aload_n 0, 1) := by decide +kernel
theorem dX5_lay_11 : decode cX5_lay 11 = .ok (.getfield 47, 3) := by decide +kernel
theorem dX5_lay_14 : decode cX5_lay 14 = .ok (.iload_n 1, 1) := by decide +kernel
theorem dX5_lay_15 : decode cX5_lay 15 = .ok (.iaload, 1) := by decide +kernel
theorem dX5_lay_16 : decode cX5_lay 16 = .ok (.bipush (-4), 2) := by decide +kernel
theorem dX5_lay_18 : decode cX5_lay 18 = .ok (.if_icmp .ne 6, 3) := by decide +kernel
theorem dX5_lay_21 : decode cX5_lay 21 = .ok (.bipush (-11), 2) := by decide +kernel
theorem dX5_lay_23 : decode cX5_lay 23 = .ok (.ireturn, 1) := by decide +kernel
theorem dX5_lay_24 : decode cX5_lay 24 = .ok (.iload_n 2, 1) := by decide +kernel
theorem dX5_lay_25 : decode cX5_lay 25 = .ok (.i2l, 1) := by decide +kernel
theorem dX5_lay_26 : decode cX5_lay 26 = .ok (.lconst 0, 1) := by decide +kernel
theorem dX5_lay_27 : decode cX5_lay 27 = .ok (.aload_n 0, 1) := by decide +kernel
theorem dX5_lay_28 : decode cX5_lay 28 = .ok (.getfield 50, 3) := by decide +kernel
theorem dX5_lay_31 : decode cX5_lay 31 = .ok (.iload_n 1, 1) := by decide +kernel
theorem dX5_lay_32 : decode cX5_lay 32 = .ok (.iaload, 1) := by decide +kernel
theorem dX5_lay_33 : decode cX5_lay 33 = .ok (.iconst 1, 1) := by decide +kernel
theorem dX5_lay_34 : decode cX5_lay 34 = .ok (.isub, 1) := by decide +kernel
theorem dX5_lay_35 : decode cX5_lay 35 = .ok (.i2l, 1) := by decide +kernel
theorem dX5_lay_36 : decode cX5_lay 36 = .ok (.invokestatic 59, 3) := by decide +kernel
theorem dX5_lay_39 : decode cX5_lay 39 = .ok (.ifCond .ne 6, 3) := by decide +kernel
theorem dX5_lay_42 : decode cX5_lay 42 = .ok (.bipush (-12), 2) := by decide +kernel
theorem dX5_lay_44 : decode cX5_lay 44 = .ok (.ireturn, 1) := by decide +kernel
theorem dX5_lay_45 : decode cX5_lay 45 = .ok (.aload_n 0, 1) := by decide +kernel
theorem dX5_lay_46 : decode cX5_lay 46 = .ok (.getfield 53, 3) := by decide +kernel
theorem dX5_lay_49 : decode cX5_lay 49 = .ok (.bipush 64, 2) := by decide +kernel
theorem dX5_lay_51 : decode cX5_lay 51 = .ok (.iload_n 1, 1) := by decide +kernel
theorem dX5_lay_52 : decode cX5_lay 52 = .ok (.imul, 1) := by decide +kernel
theorem dX5_lay_53 : decode cX5_lay 53 = .ok (.iload_n 2, 1) := by decide +kernel
theorem dX5_lay_54 : decode cX5_lay 54 = .ok (.iadd, 1) := by decide +kernel
theorem dX5_lay_55 : decode cX5_lay 55 = .ok (.aload_n 0, 1) := by decide +kernel
theorem dX5_lay_56 : decode cX5_lay 56 = .ok (.getfield 47, 3) := by decide +kernel
theorem dX5_lay_59 : decode cX5_lay 59 = .ok (.iload_n 1, 1) := by decide +kernel
theorem dX5_lay_60 : decode cX5_lay 60 = .ok (.iaload, 1) := by decide +kernel
theorem dX5_lay_61 : decode cX5_lay 61 = .ok (.ifCond .ne 8, 3) := by decide +kernel
theorem dX5_lay_64 : decode cX5_lay 64 = .ok (.iload_n 3, 1) := by decide +kernel
theorem dX5_lay_65 : decode cX5_lay 65 = .ok (.i2b, 1) := by decide +kernel
theorem dX5_lay_66 : decode cX5_lay 66 = .ok (.goto 19, 3) := by decide +kernel
theorem dX5_lay_69 : decode cX5_lay 69 = .ok (.aload_n 0, 1) := by decide +kernel
theorem dX5_lay_70 : decode cX5_lay 70 = .ok (.getfield 47, 3) := by decide +kernel
theorem dX5_lay_73 : decode cX5_lay 73 = .ok (.iload_n 1, 1) := by decide +kernel
theorem dX5_lay_74 : decode cX5_lay 74 = .ok (.iaload, 1) := by decide +kernel
theorem dX5_lay_75 : decode cX5_lay 75 = .ok (.iconst 1, 1) := by decide +kernel
theorem dX5_lay_76 : decode cX5_lay 76 = .ok (.if_icmp .ne 8, 3) := by decide +kernel
theorem dX5_lay_79 : decode cX5_lay 79 = .ok (.iload_n 3, 1) := by decide +kernel
theorem dX5_lay_80 : decode cX5_lay 80 = .ok (.i2s, 1) := by decide +kernel
theorem dX5_lay_81 : decode cX5_lay 81 = .ok (.goto 4, 3) := by decide +kernel
theorem dX5_lay_84 : decode cX5_lay 84 = .ok (.iload_n 3, 1) := by decide +kernel
theorem dX5_lay_85 : decode cX5_lay 85 = .ok (.iastore, 1) := by decide +kernel
theorem dX5_lay_86 : decode cX5_lay 86 = .ok (.iconst 1, 1) := by decide +kernel
theorem dX5_lay_87 : decode cX5_lay 87 = .ok (.ireturn, 1) := by decide +kernel
theorem dX5_draw_0 : decode cX5_draw 0 = .ok (.aload_n 0, 1) := by decide +kernel
theorem dX5_draw_1 : decode cX5_draw 1 = .ok (.iload_n 1, 1) := by decide +kernel
theorem dX5_draw_2 : decode cX5_draw 2 = .ok (.invokevirtual 63, 3) := by decide +kernel
theorem dX5_draw_5 : decode cX5_draw 5 = .ok (.ifCond .eq 22, 3) := by decide +kernel
theorem dX5_draw_8 : decode cX5_draw 8 = .ok (.iload_n 2, 1) := by decide +kernel
theorem dX5_draw_9 : decode cX5_draw 9 = .ok (.i2l, 1) := by decide +kernel
theorem dX5_draw_10 : decode cX5_draw 10 = .ok (.lconst 0, 1) := by decide +kernel
theorem dX5_draw_11 : decode cX5_draw 11 = .ok (.lconst 1, 1) := by decide +kernel
theorem dX5_draw_12 : decode cX5_draw 12 = .ok (.invokestatic 59, 3) := by decide +kernel
theorem dX5_draw_15 : decode cX5_draw 15 = .ok (.ifCond .eq 12, 3) := by decide +kernel
theorem dX5_draw_18 : decode cX5_draw 18 = .ok (.iload_n 3, 1) := by decide +kernel
theorem dX5_draw_19 : decode cX5_draw 19 = .ok (.iload 4, 2) := by decide +kernel
theorem dX5_draw_21 : decode cX5_draw 21 = .ok (.invokestatic 171, 3) := by decide +kernel
theorem dX5_draw_24 : decode cX5_draw 24 = .ok (.ifCond .ne 5, 3) := by decide +kernel
theorem dX5_draw_27 : decode cX5_draw 27 = .ok (.iconst (-1), 1) := by decide +kernel
theorem dX5_draw_28 : decode cX5_draw 28 = .ok (.ireturn, 1) := by decide +kernel
theorem dX5_draw_29 : decode cX5_draw 29 = .ok (.aload_n 0, 1) := by decide +kernel
theorem dX5_draw_30 : decode cX5_draw 30 = .ok (.getfield 47, 3) := by decide +kernel
theorem dX5_draw_33 : decode cX5_draw 33 = .ok (.iload_n 3, 1) := by decide +kernel
theorem dX5_draw_34 : decode cX5_draw 34 = .ok (.iaload, 1) := by decide +kernel
theorem dX5_draw_35 : decode cX5_draw 35 = .ok (.iload 4, 2) := by decide +kernel
theorem dX5_draw_37 : decode cX5_draw 37 = .ok (.if_icmp .eq 22, 3) := by decide +kernel
theorem dX5_draw_40 : decode cX5_draw 40 = .ok (.aload_n 0, 1) := by decide +kernel
theorem dX5_draw_41 : decode cX5_draw 41 = .ok (.getfield 47, 3) := by decide +kernel
theorem dX5_draw_44 : decode cX5_draw 44 = .ok (.iload_n 3, 1) := by decide +kernel
theorem dX5_draw_45 : decode cX5_draw 45 = .ok (.iaload, 1) := by decide +kernel
theorem dX5_draw_46 : decode cX5_draw 46 = .ok (.bipush (-4), 2) := by decide +kernel
theorem dX5_draw_48 : decode cX5_draw 48 = .ok (.if_icmp .ne 8, 3) := by decide +kernel
theorem dX5_draw_51 : decode cX5_draw 51 = .ok (.bipush (-11), 2) := by decide +kernel
theorem dX5_draw_53 : decode cX5_draw 53 = .ok (.goto 5, 3) := by decide +kernel
theorem dX5_draw_56 : decode cX5_draw 56 = .ok (.bipush (-13), 2) := by decide +kernel
theorem dX5_draw_58 : decode cX5_draw 58 = .ok (.ireturn, 1) := by decide +kernel
theorem dX5_draw_59 : decode cX5_draw 59 = .ok (.iconst 1, 1) := by decide +kernel
theorem dX5_draw_60 : decode cX5_draw 60 = .ok (.aload_n 0, 1) := by decide +kernel
theorem dX5_draw_61 : decode cX5_draw 61 = .ok (.getfield 13, 3) := by decide +kernel
theorem dX5_draw_64 : decode cX5_draw 64 = .ok (.iload_n 1, 1) := by decide +kernel
theorem dX5_draw_65 : decode cX5_draw 65 = .ok (.iaload, 1) := by decide +kernel
theorem dX5_draw_66 : decode cX5_draw 66 = .ok (.invokestatic 67, 3) := by decide +kernel
theorem dX5_draw_69 : decode cX5_draw 69 = .ok (.ishl, 1) := by decide +kernel
theorem dX5_draw_70 : decode cX5_draw 70 = .ok (.istore 6, 2) := by decide +kernel
theorem dX5_draw_72 : decode cX5_draw 72 = .ok (.iconst 0, 1) := by decide +kernel
theorem dX5_draw_73 : decode cX5_draw 73 = .ok (.istore 7, 2) := by decide +kernel
theorem dX5_draw_75 : decode cX5_draw 75 = .ok (.iload 7, 2) := by decide +kernel
theorem dX5_draw_77 : decode cX5_draw 77 = .ok (.iload 6, 2) := by decide +kernel
theorem dX5_draw_79 : decode cX5_draw 79 = .ok (.if_icmp .ge 91, 3) := by decide +kernel
theorem dX5_draw_82 : decode cX5_draw 82 = .ok (.iload 5, 2) := by decide +kernel
theorem dX5_draw_84 : decode cX5_draw 84 = .ok (.i2l, 1) := by decide +kernel
theorem dX5_draw_85 : decode cX5_draw 85 = .ok (.iload 7, 2) := by decide +kernel
theorem dX5_draw_87 : decode cX5_draw 87 = .ok (.i2l, 1) := by decide +kernel
theorem dX5_draw_88 : decode cX5_draw 88 = .ok (.ladd, 1) := by decide +kernel
theorem dX5_draw_89 : decode cX5_draw 89 = .ok (.lstore 8, 2) := by decide +kernel
theorem dX5_draw_91 : decode cX5_draw 91 = .ok (.lload 8, 2) := by decide +kernel
theorem dX5_draw_93 : decode cX5_draw 93 = .ok (.lconst 0, 1) := by decide +kernel
theorem dX5_draw_94 : decode cX5_draw 94 = .ok (.lcmp, 1) := by decide +kernel
theorem dX5_draw_95 : decode cX5_draw 95 = .ok (.ifCond .lt 16, 3) := by decide +kernel
theorem dX5_draw_98 : decode cX5_draw 98 = .ok (.lload 8, 2) := by decide +kernel
theorem dX5_draw_100 : decode cX5_draw 100 = .ok (.aload_n 0, 1) := by decide +kernel
theorem dX5_draw_101 : decode cX5_draw 101 = .ok (.getfield 50, 3) := by decide +kernel
theorem dX5_draw_104 : decode cX5_draw 104 = .ok (.iload_n 3, 1) := by decide +kernel
theorem dX5_draw_105 : decode cX5_draw 105 = .ok (.iaload, 1) := by decide +kernel
theorem dX5_draw_106 : decode cX5_draw 106 = .ok (.i2l, 1) := by decide +kernel
theorem dX5_draw_107 : decode cX5_draw 107 = .ok (.lcmp, 1) := by decide +kernel
theorem dX5_draw_108 : decode cX5_draw 108 = .ok (.ifCond .lt 6, 3) := by decide +kernel
theorem dX5_draw_111 : decode cX5_draw 111 = .ok (.bipush (-12), 2) := by decide +kernel
theorem dX5_draw_113 : decode cX5_draw 113 = .ok (.ireturn, 1) := by decide +kernel
theorem dX5_draw_114 : decode cX5_draw 114 = .ok (.aload_n 0, 1) := by decide +kernel
theorem dX5_draw_115 : decode cX5_draw 115 = .ok (.getfield 53, 3) := by decide +kernel
theorem dX5_draw_118 : decode cX5_draw 118 = .ok (.bipush 64, 2) := by decide +kernel
theorem dX5_draw_120 : decode cX5_draw 120 = .ok (.iload_n 3, 1) := by decide +kernel
theorem dX5_draw_121 : decode cX5_draw 121 = .ok (.imul, 1) := by decide +kernel
theorem dX5_draw_122 : decode cX5_draw 122 = .ok (.lload 8, 2) := by decide +kernel
theorem dX5_draw_124 : decode cX5_draw 124 = .ok (.l2i, 1) := by decide +kernel
theorem dX5_draw_125 : decode cX5_draw 125 = .ok (.iadd, 1) := by decide +kernel
theorem dX5_draw_126 : decode cX5_draw 126 = .ok (.iaload, 1) := by decide +kernel
theorem dX5_draw_127 : decode cX5_draw 127 = .ok (.i2l, 1) := by decide +kernel
theorem dX5_draw_128 : decode cX5_draw 128 = .ok (.iload_n 2, 1) := by decide +kernel
theorem dX5_draw_129 : decode cX5_draw 129 = .ok (.ifCond .ne 7, 3) := by decide +kernel
theorem dX5_draw_132 : decode cX5_draw 132 = .ok (.lconst 0, 1) := by decide +kernel
theorem dX5_draw_133 : decode cX5_draw 133 = .ok (.goto 6, 3) := by decide +kernel
theorem dX5_draw_136 : decode cX5_draw 136 = .ok (.ldc2_w 84, 3) := by decide +kernel
theorem dX5_draw_139 : decode cX5_draw 139 = .ok (.iload_n 2, 1) := by decide +kernel
theorem dX5_draw_140 : decode cX5_draw 140 = .ok (.ifCond .ne 9, 3) := by decide +kernel
theorem dX5_draw_143 : decode cX5_draw 143 = .ok (.ldc2_w 82, 3) := by decide +kernel
theorem dX5_draw_146 : decode cX5_draw 146 = .ok (.goto 6, 3) := by decide +kernel
theorem dX5_draw_149 : decode cX5_draw 149 = .ok (.ldc2_w 86, 3) := by decide +kernel
theorem dX5_draw_152 : decode cX5_draw 152 = .ok (.invokestatic 59, 3) := by decide +kernel
theorem dX5_draw_155 : decode cX5_draw 155 = .ok (.ifCond .ne 9, 3) := by decide +kernel
theorem dX5_draw_158 : decode cX5_draw 158 = .ok (.bipush (-20), 2) := by decide +kernel
theorem dX5_draw_160 : decode cX5_draw 160 = .ok (.iload 7, 2) := by decide +kernel
theorem dX5_draw_162 : decode cX5_draw 162 = .ok (.isub, 1) := by decide +kernel
theorem dX5_draw_163 : decode cX5_draw 163 = .ok (.ireturn, 1) := by decide +kernel
theorem dX5_draw_164 : decode cX5_draw 164 = .ok (.iinc 7 1, 3) := by decide +kernel
theorem dX5_draw_167 : decode cX5_draw 167 = .ok (.goto (-92), 3) := by decide +kernel
theorem dX5_draw_170 : decode cX5_draw 170 = .ok (.iconst 0, 1) := by decide +kernel
theorem dX5_draw_171 : decode cX5_draw 171 = .ok (.istore 7, 2) := by decide +kernel
theorem dX5_draw_173 : decode cX5_draw 173 = .ok (.iload 7, 2) := by decide +kernel
theorem dX5_draw_175 : decode cX5_draw 175 = .ok (.iload 6, 2) := by decide +kernel
theorem dX5_draw_177 : decode cX5_draw 177 = .ok (.if_icmp .ge 61, 3) := by decide +kernel
theorem dX5_draw_180 : decode cX5_draw 180 = .ok (.aload_n 0, 1) := by decide +kernel
theorem dX5_draw_181 : decode cX5_draw 181 = .ok (.getfield 53, 3) := by decide +kernel
theorem dX5_draw_184 : decode cX5_draw 184 = .ok (.bipush 64, 2) := by decide +kernel
theorem dX5_draw_186 : decode cX5_draw 186 = .ok (.iload_n 3, 1) := by decide +kernel
theorem dX5_draw_187 : decode cX5_draw 187 = .ok (.imul, 1) := by decide +kernel
theorem dX5_draw_188 : decode cX5_draw 188 = .ok (.iload 5, 2) := by decide +kernel
theorem dX5_draw_190 : decode cX5_draw 190 = .ok (.iadd, 1) := by decide +kernel
theorem dX5_draw_191 : decode cX5_draw 191 = .ok (.iload 7, 2) := by decide +kernel
theorem dX5_draw_193 : decode cX5_draw 193 = .ok (.iadd, 1) := by decide +kernel
theorem dX5_draw_194 : decode cX5_draw 194 = .ok (.iaload, 1) := by decide +kernel
theorem dX5_draw_195 : decode cX5_draw 195 = .ok (.istore 8, 2) := by decide +kernel
theorem dX5_draw_197 : decode cX5_draw 197 = .ok (.iload_n 2, 1) := by decide +kernel
theorem dX5_draw_198 : decode cX5_draw 198 = .ok (.ifCond .ne 20, 3) := by decide +kernel
theorem dX5_draw_201 : decode cX5_draw 201 = .ok (.aload_n 0, 1) := by decide +kernel
theorem dX5_draw_202 : decode cX5_draw 202 = .ok (.getfield 20, 3) := by decide +kernel
theorem dX5_draw_205 : decode cX5_draw 205 = .ok (.bipush 8, 2) := by decide +kernel
theorem dX5_draw_207 : decode cX5_draw 207 = .ok (.iload_n 1, 1) := by decide +kernel
theorem dX5_draw_208 : decode cX5_draw 208 = .ok (.imul, 1) := by decide +kernel
theorem dX5_draw_209 : decode cX5_draw 209 = .ok (.iload 7, 2) := by decide +kernel
theorem dX5_draw_211 : decode cX5_draw 211 = .ok (.iadd, 1) := by decide +kernel
theorem dX5_draw_212 : decode cX5_draw 212 = .ok (.iload 8, 2) := by decide +kernel
theorem dX5_draw_214 : decode cX5_draw 214 = .ok (.iastore, 1) := by decide +kernel
theorem dX5_draw_215 : decode cX5_draw 215 = .ok (.goto 17, 3) := by decide +kernel
theorem dX5_draw_218 : decode cX5_draw 218 = .ok (.aload_n 0, 1) := by decide +kernel
theorem dX5_draw_219 : decode cX5_draw 219 = .ok (.getfield 23, 3) := by decide +kernel
theorem dX5_draw_222 : decode cX5_draw 222 = .ok (.bipush 8, 2) := by decide +kernel
theorem dX5_draw_224 : decode cX5_draw 224 = .ok (.iload_n 1, 1) := by decide +kernel
theorem dX5_draw_225 : decode cX5_draw 225 = .ok (.imul, 1) := by decide +kernel
theorem dX5_draw_226 : decode cX5_draw 226 = .ok (.iload 7, 2) := by decide +kernel
theorem dX5_draw_228 : decode cX5_draw 228 = .ok (.iadd, 1) := by decide +kernel
theorem dX5_draw_229 : decode cX5_draw 229 = .ok (.iload 8, 2) := by decide +kernel
theorem dX5_draw_231 : decode cX5_draw 231 = .ok (.iastore, 1) := by decide +kernel
theorem dX5_draw_232 : decode cX5_draw 232 = .ok (.iinc 7 1, 3) := by decide +kernel
theorem dX5_draw_235 : decode cX5_draw 235 = .ok (.goto (-62), 3) := by decide +kernel
theorem dX5_draw_238 : decode cX5_draw 238 = .ok (.iconst 1, 1) := by decide +kernel
theorem dX5_draw_239 : decode cX5_draw 239 = .ok (.ireturn, 1) := by decide +kernel
theorem dX5_count_0 : decode cX5_count 0 = .ok (.iconst 0, 1) := by decide +kernel
theorem dX5_count_1 : decode cX5_count 1 = .ok (.istore_n 2, 1) := by decide +kernel
theorem dX5_count_2 : decode cX5_count 2 = .ok (.iconst 0, 1) := by decide +kernel
theorem dX5_count_3 : decode cX5_count 3 = .ok (.istore_n 3, 1) := by decide +kernel
theorem dX5_count_4 : decode cX5_count 4 = .ok (.iload_n 3, 1) := by decide +kernel
theorem dX5_count_5 : decode cX5_count 5 = .ok (.bipush 8, 2) := by decide +kernel
theorem dX5_count_7 : decode cX5_count 7 = .ok (.aload_n 0, 1) := by decide +kernel
theorem dX5_count_8 : decode cX5_count 8 = .ok (.getfield 56, 3) := by decide +kernel
theorem dX5_count_11 : decode cX5_count 11 = .ok (.imul, 1) := by decide +kernel
theorem dX5_count_12 : decode cX5_count 12 = .ok (.if_icmp .ge 26, 3) := by decide +kernel
theorem dX5_count_15 : decode cX5_count 15 = .ok (.iload_n 2, 1) := by decide +kernel
theorem dX5_count_16 : decode cX5_count 16 = .ok (.aload_n 0, 1) := by decide +kernel
theorem dX5_count_17 : decode cX5_count 17 = .ok (.getfield 20, 3) := by decide +kernel
theorem dX5_count_20 : decode cX5_count 20 = .ok (.iload_n 3, 1) := by decide +kernel
theorem dX5_count_21 : decode cX5_count 21 = .ok (.iaload, 1) := by decide +kernel
theorem dX5_count_22 : decode cX5_count 22 = .ok (.ifCond .le 7, 3) := by decide +kernel
theorem dX5_count_25 : decode cX5_count 25 = .ok (.iconst 1, 1) := by decide +kernel
theorem dX5_count_26 : decode cX5_count 26 = .ok (.goto 4, 3) := by decide +kernel
theorem dX5_count_29 : decode cX5_count 29 = .ok (.iconst 0, 1) := by decide +kernel
theorem dX5_count_30 : decode cX5_count 30 = .ok (.iadd, 1) := by decide +kernel
theorem dX5_count_31 : decode cX5_count 31 = .ok (.istore_n 2, 1) := by decide +kernel
theorem dX5_count_32 : decode cX5_count 32 = .ok (.iinc 3 1, 3) := by decide +kernel
theorem dX5_count_35 : decode cX5_count 35 = .ok (.goto (-31), 3) := by decide +kernel
theorem dX5_count_38 : decode cX5_count 38 = .ok (.iload_n 1, 1) := by decide +kernel
theorem dX5_count_39 : decode cX5_count 39 = .ok (.ifCond .ne 10, 3) := by decide +kernel
theorem dX5_count_42 : decode cX5_count 42 = .ok (.aload_n 0, 1) := by decide +kernel
theorem dX5_count_43 : decode cX5_count 43 = .ok (.getfield 7, 3) := by decide +kernel
theorem dX5_count_46 : decode cX5_count 46 = .ok (.goto 67, 3) := by decide +kernel
theorem dX5_count_49 : decode cX5_count 49 = .ok (.iload_n 1, 1) := by decide +kernel
theorem dX5_count_50 : decode cX5_count 50 = .ok (.iconst 1, 1) := by decide +kernel
theorem dX5_count_51 : decode cX5_count 51 = .ok (.if_icmp .ne 10, 3) := by decide +kernel
theorem dX5_count_54 : decode cX5_count 54 = .ok (.aload_n 0, 1) := by decide +kernel
theorem dX5_count_55 : decode cX5_count 55 = .ok (.getfield 56, 3) := by decide +kernel
theorem dX5_count_58 : decode cX5_count 58 = .ok (.goto 55, 3) := by decide +kernel
theorem dX5_count_61 : decode cX5_count 61 = .ok (.iload_n 1, 1) := by decide +kernel
theorem dX5_count_62 : decode cX5_count 62 = .ok (.iconst 2, 1) := by decide +kernel
theorem dX5_count_63 : decode cX5_count 63 = .ok (.if_icmp .ne 10, 3) := by decide +kernel
theorem dX5_count_66 : decode cX5_count 66 = .ok (.aload_n 0, 1) := by decide +kernel
theorem dX5_count_67 : decode cX5_count 67 = .ok (.getfield 149, 3) := by decide +kernel
theorem dX5_count_70 : decode cX5_count 70 = .ok (.goto 43, 3) := by decide +kernel
theorem dX5_count_73 : decode cX5_count 73 = .ok (.iload_n 1, 1) := by decide +kernel
theorem dX5_count_74 : decode cX5_count 74 = .ok (.iconst 3, 1) := by decide +kernel
theorem dX5_count_75 : decode cX5_count 75 = .ok (.if_icmp .ne 7, 3) := by decide +kernel
theorem dX5_count_78 : decode cX5_count 78 = .ok (.iload_n 2, 1) := by decide +kernel
theorem dX5_count_79 : decode cX5_count 79 = .ok (.goto 34, 3) := by decide +kernel
theorem dX5_count_82 : decode cX5_count 82 = .ok (.iload_n 1, 1) := by decide +kernel
theorem dX5_count_83 : decode cX5_count 83 = .ok (.iconst 4, 1) := by decide +kernel
theorem dX5_count_84 : decode cX5_count 84 = .ok (.if_icmp .ne 28, 3) := by decide +kernel
theorem dX5_count_87 : decode cX5_count 87 = .ok (.aload_n 0, 1) := by decide +kernel
theorem dX5_count_88 : decode cX5_count 88 = .ok (.getfield 47, 3) := by decide +kernel
theorem dX5_count_91 : decode cX5_count 91 = .ok (.iconst 0, 1) := by decide +kernel
theorem dX5_count_92 : decode cX5_count 92 = .ok (.iaload, 1) := by decide +kernel
theorem dX5_count_93 : decode cX5_count 93 = .ok (.bipush (-4), 2) := by decide +kernel
theorem dX5_count_95 : decode cX5_count 95 = .ok (.if_icmp .ne 8, 3) := by decide +kernel
theorem dX5_count_98 : decode cX5_count 98 = .ok (.bipush (-4), 2) := by decide +kernel
theorem dX5_count_100 : decode cX5_count 100 = .ok (.goto 13, 3) := by decide +kernel
theorem dX5_count_103 : decode cX5_count 103 = .ok (.aload_n 0, 1) := by decide +kernel
theorem dX5_count_104 : decode cX5_count 104 = .ok (.getfield 50, 3) := by decide +kernel
theorem dX5_count_107 : decode cX5_count 107 = .ok (.iconst 0, 1) := by decide +kernel
theorem dX5_count_108 : decode cX5_count 108 = .ok (.iaload, 1) := by decide +kernel
theorem dX5_count_109 : decode cX5_count 109 = .ok (.goto 4, 3) := by decide +kernel
theorem dX5_count_112 : decode cX5_count 112 = .ok (.iconst (-1), 1) := by decide +kernel
theorem dX5_count_113 : decode cX5_count 113 = .ok (.ireturn, 1) := by decide +kernel
theorem dJ6_bitCount_0f7a4_0 : decode cJ6_bitCount_0f7a4 0 = .ok (.iload_n 0, 1) := by decide +kernel
theorem dJ6_bitCount_0f7a4_1 : decode cJ6_bitCount_0f7a4 1 = .ok (.iload_n 0, 1) := by decide +kernel
theorem dJ6_bitCount_0f7a4_2 : decode cJ6_bitCount_0f7a4 2 = .ok (.iconst 1, 1) := by decide +kernel
theorem dJ6_bitCount_0f7a4_3 : decode cJ6_bitCount_0f7a4 3 = .ok (.iushr, 1) := by decide +kernel
theorem dJ6_bitCount_0f7a4_4 : decode cJ6_bitCount_0f7a4 4 = .ok (.ldc_w 265, 3) := by decide +kernel
theorem dJ6_bitCount_0f7a4_7 : decode cJ6_bitCount_0f7a4 7 = .ok (.iand, 1) := by decide +kernel
theorem dJ6_bitCount_0f7a4_8 : decode cJ6_bitCount_0f7a4 8 = .ok (.isub, 1) := by decide +kernel
theorem dJ6_bitCount_0f7a4_9 : decode cJ6_bitCount_0f7a4 9 = .ok (.istore_n 0, 1) := by decide +kernel
theorem dJ6_bitCount_0f7a4_10 : decode cJ6_bitCount_0f7a4 10 = .ok (.iload_n 0, 1) := by decide +kernel
theorem dJ6_bitCount_0f7a4_11 : decode cJ6_bitCount_0f7a4 11 = .ok (.ldc_w 266, 3) := by decide +kernel
theorem dJ6_bitCount_0f7a4_14 : decode cJ6_bitCount_0f7a4 14 = .ok (.iand, 1) := by decide +kernel
theorem dJ6_bitCount_0f7a4_15 : decode cJ6_bitCount_0f7a4 15 = .ok (.iload_n 0, 1) := by decide +kernel
theorem dJ6_bitCount_0f7a4_16 : decode cJ6_bitCount_0f7a4 16 = .ok (.iconst 2, 1) := by decide +kernel
theorem dJ6_bitCount_0f7a4_17 : decode cJ6_bitCount_0f7a4 17 = .ok (.iushr, 1) := by decide +kernel
theorem dJ6_bitCount_0f7a4_18 : decode cJ6_bitCount_0f7a4 18 = .ok (.ldc_w 266, 3) := by decide +kernel
theorem dJ6_bitCount_0f7a4_21 : decode cJ6_bitCount_0f7a4 21 = .ok (.iand, 1) := by decide +kernel
theorem dJ6_bitCount_0f7a4_22 : decode cJ6_bitCount_0f7a4 22 = .ok (.iadd, 1) := by decide +kernel
theorem dJ6_bitCount_0f7a4_23 : decode cJ6_bitCount_0f7a4 23 = .ok (.istore_n 0, 1) := by decide +kernel
theorem dJ6_bitCount_0f7a4_24 : decode cJ6_bitCount_0f7a4 24 = .ok (.iload_n 0, 1) := by decide +kernel
theorem dJ6_bitCount_0f7a4_25 : decode cJ6_bitCount_0f7a4 25 = .ok (.iload_n 0, 1) := by decide +kernel
theorem dJ6_bitCount_0f7a4_26 : decode cJ6_bitCount_0f7a4 26 = .ok (.iconst 4, 1) := by decide +kernel
theorem dJ6_bitCount_0f7a4_27 : decode cJ6_bitCount_0f7a4 27 = .ok (.iushr, 1) := by decide +kernel
theorem dJ6_bitCount_0f7a4_28 : decode cJ6_bitCount_0f7a4 28 = .ok (.iadd, 1) := by decide +kernel
theorem dJ6_bitCount_0f7a4_29 : decode cJ6_bitCount_0f7a4 29 = .ok (.ldc_w 267, 3) := by decide +kernel
theorem dJ6_bitCount_0f7a4_32 : decode cJ6_bitCount_0f7a4 32 = .ok (.iand, 1) := by decide +kernel
theorem dJ6_bitCount_0f7a4_33 : decode cJ6_bitCount_0f7a4 33 = .ok (.istore_n 0, 1) := by decide +kernel
theorem dJ6_bitCount_0f7a4_34 : decode cJ6_bitCount_0f7a4 34 = .ok (.iload_n 0, 1) := by decide +kernel
theorem dJ6_bitCount_0f7a4_35 : decode cJ6_bitCount_0f7a4 35 = .ok (.iload_n 0, 1) := by decide +kernel
theorem dJ6_bitCount_0f7a4_36 : decode cJ6_bitCount_0f7a4 36 = .ok (.bipush 8, 2) := by decide +kernel
theorem dJ6_bitCount_0f7a4_38 : decode cJ6_bitCount_0f7a4 38 = .ok (.iushr, 1) := by decide +kernel
theorem dJ6_bitCount_0f7a4_39 : decode cJ6_bitCount_0f7a4 39 = .ok (.iadd, 1) := by decide +kernel
theorem dJ6_bitCount_0f7a4_40 : decode cJ6_bitCount_0f7a4 40 = .ok (.istore_n 0, 1) := by decide +kernel
theorem dJ6_bitCount_0f7a4_41 : decode cJ6_bitCount_0f7a4 41 = .ok (.iload_n 0, 1) := by decide +kernel
theorem dJ6_bitCount_0f7a4_42 : decode cJ6_bitCount_0f7a4 42 = .ok (.iload_n 0, 1) := by decide +kernel
theorem dJ6_bitCount_0f7a4_43 : decode cJ6_bitCount_0f7a4 43 = .ok (.bipush 16, 2) := by decide +kernel
theorem dJ6_bitCount_0f7a4_45 : decode cJ6_bitCount_0f7a4 45 = .ok (.iushr, 1) := by decide +kernel
theorem dJ6_bitCount_0f7a4_46 : decode cJ6_bitCount_0f7a4 46 = .ok (.iadd, 1) := by decide +kernel
theorem dJ6_bitCount_0f7a4_47 : decode cJ6_bitCount_0f7a4 47 = .ok (.istore_n 0, 1) := by decide +kernel
theorem dJ6_bitCount_0f7a4_48 : decode cJ6_bitCount_0f7a4 48 = .ok (.iload_n 0, 1) := by decide +kernel
theorem dJ6_bitCount_0f7a4_49 : decode cJ6_bitCount_0f7a4 49 = .ok (.bipush 63, 2) := by decide +kernel
theorem dJ6_bitCount_0f7a4_51 : decode cJ6_bitCount_0f7a4 51 = .ok (.iand, 1) := by decide +kernel
theorem dJ6_bitCount_0f7a4_52 : decode cJ6_bitCount_0f7a4 52 = .ok (.ireturn, 1) := by decide +kernel
theorem dJ7_fill_53178_0 : decode cJ7_fill_53178 0 = .ok (.iconst 0, 1) := by decide +kernel
theorem dJ7_fill_53178_1 : decode cJ7_fill_53178 1 = .ok (.istore_n 2, 1) := by decide +kernel
theorem dJ7_fill_53178_2 : decode cJ7_fill_53178 2 = .ok (.aload_n 0, 1) := by decide +kernel
theorem dJ7_fill_53178_3 : decode cJ7_fill_53178 3 = .ok (.arraylength, 1) := by decide +kernel
theorem dJ7_fill_53178_4 : decode cJ7_fill_53178 4 = .ok (.istore_n 3, 1) := by decide +kernel
theorem dJ7_fill_53178_5 : decode cJ7_fill_53178 5 = .ok (.iload_n 2, 1) := by decide +kernel
theorem dJ7_fill_53178_6 : decode cJ7_fill_53178 6 = .ok (.iload_n 3, 1) := by decide +kernel
theorem dJ7_fill_53178_7 : decode cJ7_fill_53178 7 = .ok (.if_icmp .ge 13, 3) := by decide +kernel
theorem dJ7_fill_53178_10 : decode cJ7_fill_53178 10 = .ok (.aload_n 0, 1) := by decide +kernel
theorem dJ7_fill_53178_11 : decode cJ7_fill_53178 11 = .ok (.iload_n 2, 1) := by decide +kernel
theorem dJ7_fill_53178_12 : decode cJ7_fill_53178 12 = .ok (.iload_n 1, 1) := by decide +kernel
theorem dJ7_fill_53178_13 : decode cJ7_fill_53178 13 = .ok (.iastore, 1) := by decide +kernel
theorem dJ7_fill_53178_14 : decode cJ7_fill_53178 14 = .ok (.iinc 2 1, 3) := by decide +kernel
theorem dJ7_fill_53178_17 : decode cJ7_fill_53178 17 = .ok (.goto (-12), 3) := by decide +kernel
theorem dJ7_fill_53178_20 : decode cJ7_fill_53178 20 = .ok (.return_, 1) := by decide +kernel
theorem dJ9_max_7cf53_0 : decode cJ9_max_7cf53 0 = .ok (.iload_n 0, 1) := by decide +kernel
theorem dJ9_max_7cf53_1 : decode cJ9_max_7cf53 1 = .ok (.iload_n 1, 1) := by decide +kernel
theorem dJ9_max_7cf53_2 : decode cJ9_max_7cf53 2 = .ok (.if_icmp .lt 7, 3) := by decide +kernel
theorem dJ9_max_7cf53_5 : decode cJ9_max_7cf53 5 = .ok (.iload_n 0, 1) := by decide +kernel
theorem dJ9_max_7cf53_6 : decode cJ9_max_7cf53 6 = .ok (.goto 4, 3) := by decide +kernel
theorem dJ9_max_7cf53_9 : decode cJ9_max_7cf53 9 = .ok (.iload_n 1, 1) := by decide +kernel
theorem dJ9_max_7cf53_10 : decode cJ9_max_7cf53 10 = .ok (.ireturn, 1) := by decide +kernel
theorem dJ9_min_7cf53_0 : decode cJ9_min_7cf53 0 = .ok (.iload_n 0, 1) := by decide +kernel
theorem dJ9_min_7cf53_1 : decode cJ9_min_7cf53 1 = .ok (.iload_n 1, 1) := by decide +kernel
theorem dJ9_min_7cf53_2 : decode cJ9_min_7cf53 2 = .ok (.if_icmp .gt 7, 3) := by decide +kernel
theorem dJ9_min_7cf53_5 : decode cJ9_min_7cf53 5 = .ok (.iload_n 0, 1) := by decide +kernel
theorem dJ9_min_7cf53_6 : decode cJ9_min_7cf53 6 = .ok (.goto 4, 3) := by decide +kernel
theorem dJ9_min_7cf53_9 : decode cJ9_min_7cf53 9 = .ok (.iload_n 1, 1) := by decide +kernel
theorem dJ9_min_7cf53_10 : decode cJ9_min_7cf53 10 = .ok (.ireturn, 1) := by decide +kernel
