theorem dX5_areUnlike_7 : decode cX5_areUnlike 7 = .ok (.getfield 13, 3) := by decide +kernel
theorem dX5_areUnlike_10 : decode cX5_areUnlike 10 = .ok (.iload_n 2, 1) := by decide +kernel
theorem dX5_areUnlike_11 : decode cX5_areUnlike 11 = .ok (.iaload, 1) := by decide +kernel
theorem dX5_areUnlike_12 : decode cX5_areUnlike 12 = .ok (.iand, 1) := by decide +kernel
theorem dX5_areUnlike_13 : decode cX5_areUnlike 13 = .ok (.istore_n 3, 1) := by decide +kernel
theorem dX5_areUnlike_14 : decode cX5_areUnlike 14 = .ok (.iconst 0, 1) := by decide +kernel
theorem dX5_areUnlike_15 : decode cX5_areUnlike 15 = .ok (.istore 4, 2) := by decide +kernel
theorem dX5_areUnlike_17 : decode cX5_areUnlike 17 = .ok (.iconst 0, 1) := by decide +kernel
theorem dX5_areUnlike_18 : decode cX5_areUnlike 18 = .ok (.istore 5, 2) := by decide +kernel
theorem dX5_areUnlike_20 : decode cX5_areUnlike 20 = .ok (.iload 5, 2) := by decide +kernel
theorem dX5_areUnlike_22 : decode cX5_areUnlike 22 = .ok (.aload_n 0, 1) := by decide +kernel
theorem dX5_areUnlike_23 : decode cX5_areUnlike 23 = .ok (.invokevirtual 88, 3) := by decide +kernel
theorem dX5_areUnlike_26 : decode cX5_areUnlike 26 = .ok (.if_icmp .ge 49, 3) := by decide +kernel
theorem dX5_areUnlike_29 : decode cX5_areUnlike 29 = .ok (.iload 4, 2) := by decide +kernel
theorem dX5_areUnlike_31 : decode cX5_areUnlike 31 = .ok (.ifCond .ne 44, 3) := by decide +kernel
theorem dX5_areUnlike_34 : decode cX5_areUnlike 34 = .ok (.iload 5, 2) := by decide +kernel
theorem dX5_areUnlike_36 : decode cX5_areUnlike 36 = .ok (.iload_n 3, 1) := by decide +kernel
theorem dX5_areUnlike_37 : decode cX5_areUnlike 37 = .ok (.iconst (-1), 1) := by decide +kernel
theorem dX5_areUnlike_38 : decode cX5_areUnlike 38 = .ok (.ixor, 1) := by decide +kernel
theorem dX5_areUnlike_39 : decode cX5_areUnlike 39 = .ok (.iand, 1) := by decide +kernel
theorem dX5_areUnlike_40 : decode cX5_areUnlike 40 = .ok (.ifCond .ne 26, 3) := by decide +kernel
theorem dX5_areUnlike_43 : decode cX5_areUnlike 43 = .ok (.aload_n 0, 1) := by decide +kernel
theorem dX5_areUnlike_44 : decode cX5_areUnlike 44 = .ok (.iload_n 1, 1) := by decide +kernel
theorem dX5_areUnlike_45 : decode cX5_areUnlike 45 = .ok (.iload_n 3, 1) := by decide +kernel
theorem dX5_areUnlike_46 : decode cX5_areUnlike 46 = .ok (.iload 5, 2) := by decide +kernel
theorem dX5_areUnlike_48 : decode cX5_areUnlike 48 = .ok (.invokevirtual 96, 3) := by decide +kernel
theorem dX5_areUnlike_51 : decode cX5_areUnlike 51 = .ok (.aload_n 0, 1) := by decide +kernel
theorem dX5_areUnlike_52 : decode cX5_areUnlike 52 = .ok (.iload_n 2, 1) := by decide +kernel
theorem dX5_areUnlike_53 : decode cX5_areUnlike 53 = .ok (.iload_n 3, 1) := by decide +kernel
theorem dX5_areUnlike_54 : decode cX5_areUnlike 54 = .ok (.iload 5, 2) := by decide +kernel
theorem dX5_areUnlike_56 : decode cX5_areUnlike 56 = .ok (.invokevirtual 96, 3) := by decide +kernel
theorem dX5_areUnlike_59 : decode cX5_areUnlike 59 = .ok (.if_icmp .eq 7, 3) := by decide +kernel
theorem dX5_areUnlike_62 : decode cX5_areUnlike 62 = .ok (.iconst 1, 1) := by decide +kernel
theorem dX5_areUnlike_63 : decode cX5_areUnlike 63 = .ok (.goto 4, 3) := by decide +kernel
theorem dX5_areUnlike_66 : decode cX5_areUnlike 66 = .ok (.iconst 0, 1) := by decide +kernel
theorem dX5_areUnlike_67 : decode cX5_areUnlike 67 = .ok (.istore 4, 2) := by decide +kernel
theorem dX5_areUnlike_69 : decode cX5_areUnlike 69 = .ok (.iinc 5 1, 3) := by decide +kernel
theorem dX5_areUnlike_72 : decode cX5_areUnlike 72 = .ok (.goto (-52), 3) := by decide +kernel
theorem dX5_areUnlike_75 : decode cX5_areUnlike 75 = .ok (.iload 4, 2) := by decide +kernel
theorem dX5_areUnlike_77 : decode cX5_areUnlike 77 = .ok (.ireturn, 1) := by decide +kernel
theorem dX5_findQuarrel_0 : decode cX5_findQuarrel 0 = .ok (.iconst 0, 1) := by decide +kernel
theorem dX5_findQuarrel_1 : decode cX5_findQuarrel 1 = .ok (.istore_n 1, 1) := by decide +kernel
theorem dX5_findQuarrel_2 : decode cX5_findQuarrel 2 = .ok (.iload_n 1, 1) := by decide +kernel
theorem dX5_findQuarrel_3 : decode cX5_findQuarrel 3 = .ok (.aload_n 0, 1) := by decide +kernel
theorem dX5_findQuarrel_4 : decode cX5_findQuarrel 4 = .ok (.getfield 56, 3) := by decide +kernel
theorem dX5_findQuarrel_7 : decode cX5_findQuarrel 7 = .ok (.if_icmp .ge 43, 3) := by decide +kernel
theorem dX5_findQuarrel_10 : decode cX5_findQuarrel 10 = .ok (.iload_n 1, 1) := by decide +kernel
theorem dX5_findQuarrel_11 : decode cX5_findQuarrel 11 = .ok (.iconst 1, 1) := by decide +kernel
theorem dX5_findQuarrel_12 : decode cX5_findQuarrel 12 = .ok (.iadd, 1) := by decide +kernel
theorem dX5_findQuarrel_13 : decode cX5_findQuarrel 13 = .ok (.istore_n 2, 1) := by decide +kernel
theorem dX5_findQuarrel_14 : decode cX5_findQuarrel 14 = .ok (.iload_n 2, 1) := by decide +kernel
theorem dX5_findQuarrel_15 : decode cX5_findQuarrel 15 = .ok (.aload_n 0, 1) := by decide +kernel
theorem dX5_findQuarrel_16 : decode cX5_findQuarrel 16 = .ok (.getfield 56, 3) := by decide +kernel
theorem dX5_findQuarrel_19 : decode cX5_findQuarrel 19 = .ok (.if_icmp .ge 25, 3) := by decide +kernel
theorem dX5_findQuarrel_22 : decode cX5_findQuarrel 22 = .ok (.aload_n 0, 1) := by decide +kernel
theorem dX5_findQuarrel_23 : decode cX5_findQuarrel 23 = .ok (.iload_n 1, 1) := by decide +kernel
theorem dX5_findQuarrel_24 : decode cX5_findQuarrel 24 = .ok (.iload_n 2, 1) := by decide +kernel
theorem dX5_findQuarrel_25 : decode cX5_findQuarrel 25 = .ok (.invokevirtual 100, 3) := by decide +kernel
theorem dX5_findQuarrel_28 : decode cX5_findQuarrel 28 = .ok (.ifCond .eq 10, 3) := by decide +kernel
theorem dX5_findQuarrel_31 : decode cX5_findQuarrel 31 = .ok (.bipush 8, 2) := by decide +kernel
theorem dX5_findQuarrel_33 : decode cX5_findQuarrel 33 = .ok (.iload_n 1, 1) := by decide +kernel
theorem dX5_findQuarrel_34 : decode cX5_findQuarrel 34 = .ok (.imul, 1) := by decide +kernel
theorem dX5_findQuarrel_35 : decode cX5_findQuarrel 35 = .ok (.iload_n 2, 1) := by decide +kernel
theorem dX5_findQuarrel_36 : decode cX5_findQuarrel 36 = .ok (.iadd, 1) := by decide +kernel
theorem dX5_findQuarrel_37 : decode cX5_findQuarrel 37 = .ok (.ireturn, 1) := by decide +kernel
theorem dX5_findQuarrel_38 : decode cX5_findQuarrel 38 = .ok (.iinc 2 1, 3) := by decide +kernel
theorem dX5_findQuarrel_41 : decode cX5_findQuarrel 41 = .ok (.goto (-27), 3) := by decide +kernel
theorem dX5_findQuarrel_44 : decode cX5_findQuarrel 44 = .ok (.iinc 1 1, 3) := by decide +kernel
theorem dX5_findQuarrel_47 : decode cX5_findQuarrel 47 = .ok (.goto (-45), 3) := by decide +kernel
theorem dX5_findQuarrel_50 : decode cX5_findQuarrel 50 = .ok (.bipush (-4), 2) := by decide +kernel
theorem dX5_findQuarrel_52 : decode cX5_findQuarrel 52 = .ok (.ireturn, 1) := by decide +kernel
theorem dX5_agrees_0 : decode cX5_agrees 0 = .ok (.aload_n 0, 1) := by decide +kernel
theorem dX5_agrees_1 : decode cX5_agrees 1 = .ok (.getfield 56, 3) := by decide +kernel
theorem dX5_agrees_4 : decode cX5_agrees 4 = .ok (.ifCond .ne 8, 3) := by decide +kernel
theorem dX5_agrees_7 : decode cX5_agrees 7 = .ok (.bipush (-2), 2) := by decide +kernel
theorem dX5_agrees_9 : decode cX5_agrees 9 = .ok (.goto 17, 3) := by decide +kernel
theorem dX5_agrees_12 : decode cX5_agrees 12 = .ok (.aload_n 0, 1) := by decide +kernel
theorem dX5_agrees_13 : decode cX5_agrees 13 = .ok (.invokevirtual 103, 3) := by decide +kernel
theorem dX5_agrees_16 : decode cX5_agrees 16 = .ok (.bipush (-4), 2) := by decide +kernel
theorem dX5_agrees_18 : decode cX5_agrees 18 = .ok (.if_icmp .ne 7, 3) := by decide +kernel
theorem dX5_agrees_21 : decode cX5_agrees 21 = .ok (.iconst 1, 1) := by decide +kernel
theorem dX5_agrees_22 : decode cX5_agrees 22 = .ok (.goto 4, 3) := by decide +kernel
theorem dX5_agrees_25 : decode cX5_agrees 25 = .ok (.iconst 0, 1) := by decide +kernel
theorem dX5_agrees_26 : decode cX5_agrees 26 = .ok (.ireturn, 1) := by decide +kernel
theorem dX5_quarrel_0 : decode cX5_quarrel 0 = .ok (.aload_n 0, 1) := by decide +kernel
theorem dX5_quarrel_1 : decode cX5_quarrel 1 = .ok (.getfield 56, 3) := by decide +kernel
theorem dX5_quarrel_4 : decode cX5_quarrel 4 = .ok (.ifCond .ne 8, 3) := by decide +kernel
theorem dX5_quarrel_7 : decode cX5_quarrel 7 = .ok (.bipush (-2), 2) := by decide +kernel
theorem dX5_quarrel_9 : decode cX5_quarrel 9 = .ok (.goto 7, 3) := by decide +kernel
theorem dX5_quarrel_12 : decode cX5_quarrel 12 = .ok (.aload_n 0, 1) := by decide +kernel
theorem dX5_quarrel_13 : decode cX5_quarrel 13 = .ok (.invokevirtual 103, 3) := by decide +kernel
theorem dX5_quarrel_16 : decode cX5_quarrel 16 = .ok (.ireturn, 1) := by decide +kernel
theorem dX5_isPossible_0 : decode cX5_isPossible 0 = .ok (.iconst 1, 1) := by decide +kernel
theorem dX5_isPossible_1 : decode cX5_isPossible 1 = .ok (.istore_n 2, 1) := by decide +kernel
theorem dX5_isPossible_2 : decode cX5_isPossible 2 = .ok (.iconst 0, 1) := by decide +kernel
theorem dX5_isPossible_3 : decode cX5_isPossible 3 = .ok (.istore_n 3, 1) := by decide +kernel
theorem dX5_isPossible_4 : decode cX5_isPossible 4 = .ok (.iload_n 3, 1) := by decide +kernel
theorem dX5_isPossible_5 : decode cX5_isPossible 5 = .ok (.aload_n 0, 1) := by decide +kernel
theorem dX5_isPossible_6 : decode cX5_isPossible 6 = .ok (.getfield 56, 3) := by decide +kernel
theorem dX5_isPossible_9 : decode cX5_isPossible 9 = .ok (.if_icmp .ge 38, 3) := by decide +kernel
theorem dX5_isPossible_12 : decode cX5_isPossible 12 = .ok (.iload_n 2, 1) := by decide +kernel
theorem dX5_isPossible_13 : decode cX5_isPossible 13 = .ok (.ifCond .eq 26, 3) := by decide +kernel
theorem dX5_isPossible_16 : decode cX5_isPossible 16 = .ok (.aload_n 0, 1) := by decide +kernel
theorem dX5_isPossible_17 : decode cX5_isPossible 17 = .ok (.getfield 20, 3) := by decide +kernel
theorem dX5_isPossible_20 : decode cX5_isPossible 20 = .ok (.bipush 8, 2) := by decide +kernel
theorem dX5_isPossible_22 : decode cX5_isPossible 22 = .ok (.iload_n 3, 1) := by decide +kernel
theorem dX5_isPossible_23 : decode cX5_isPossible 23 = .ok (.imul, 1) := by decide +kernel
theorem dX5_isPossible_24 : decode cX5_isPossible 24 = .ok (.aload_n 0, 1) := by decide +kernel
theorem dX5_isPossible_25 : decode cX5_isPossible 25 = .ok (.iload_n 3, 1) := by decide +kernel
theorem dX5_isPossible_26 : decode cX5_isPossible 26 = .ok (.iload_n 1, 1) := by decide +kernel
theorem dX5_isPossible_27 : decode cX5_isPossible 27 = .ok (.invokevirtual 92, 3) := by decide +kernel
theorem dX5_isPossible_30 : decode cX5_isPossible 30 = .ok (.iadd, 1) := by decide +kernel
theorem dX5_isPossible_31 : decode cX5_isPossible 31 = .ok (.iaload, 1) := by decide +kernel
theorem dX5_isPossible_32 : decode cX5_isPossible 32 = .ok (.ifCond .le 7, 3) := by decide +kernel
theorem dX5_isPossible_35 : decode cX5_isPossible 35 = .ok (.iconst 1, 1) := by decide +kernel
theorem dX5_isPossible_36 : decode cX5_isPossible 36 = .ok (.goto 4, 3) := by decide +kernel
theorem dX5_isPossible_39 : decode cX5_isPossible 39 = .ok (.iconst 0, 1) := by decide +kernel
theorem dX5_isPossible_40 : decode cX5_isPossible 40 = .ok (.istore_n 2, 1) := by decide +kernel
theorem dX5_isPossible_41 : decode cX5_isPossible 41 = .ok (.iinc 3 1, 3) := by decide +kernel
theorem dX5_isPossible_44 : decode cX5_isPossible 44 = .ok (.goto (-40), 3) := by decide +kernel
theorem dX5_isPossible_47 : decode cX5_isPossible 47 = .ok (.iload_n 2, 1) := by decide +kernel
theorem dX5_isPossible_48 : decode cX5_isPossible 48 = .ok (.ireturn, 1) := by decide +kernel
theorem dX5_possible_0 : decode cX5_possible 0 = .ok (.iload_n 1, 1) := by decide +kernel
theorem dX5_possible_1 : decode cX5_possible 1 = .ok (.i2l, 1) := by decide +kernel
theorem dX5_possible_2 : decode cX5_possible 2 = .ok (.lconst 0, 1) := by decide +kernel
theorem dX5_possible_3 : decode cX5_possible 3 = .ok (.lconst 1, 1) := by decide +kernel
theorem dX5_possible_4 : decode cX5_possible 4 = .ok (.invokestatic 59, 3) := by decide +kernel
theorem dX5_possible_7 : decode cX5_possible 7 = .ok (.ifCond .ne 5, 3) := by decide +kernel
theorem dX5_possible_10 : decode cX5_possible 10 = .ok (.iconst (-1), 1) := by decide +kernel
theorem dX5_possible_11 : decode cX5_possible 11 = .ok (.ireturn, 1) := by decide +kernel
theorem dX5_possible_12 : decode cX5_possible 12 = .ok (.aload_n 0, 1) := by decide +kernel
theorem dX5_possible_13 : decode cX5_possible 13 = .ok (.getfield 56, 3) := by decide +kernel
theorem dX5_possible_16 : decode cX5_possible 16 = .ok (.ifCond .ne 6, 3) := by decide +kernel
theorem dX5_possible_19 : decode cX5_possible 19 = .ok (.bipush (-2), 2) := by decide +kernel
theorem dX5_possible_21 : decode cX5_possible 21 = .ok (.ireturn, 1) := by decide +kernel
theorem dX5_possible_22 : decode cX5_possible 22 = .ok (.iconst 0, 1) := by decide +kernel
theorem dX5_possible_23 : decode cX5_possible 23 = .ok (.istore_n 2, 1) := by decide +kernel
theorem dX5_possible_24 : decode cX5_possible 24 = .ok (.bipush (-4), 2) := by decide +kernel
theorem dX5_possible_26 : decode cX5_possible 26 = .ok (.istore_n 3, 1) := by decide +kernel
theorem dX5_possible_27 : decode cX5_possible 27 = .ok (.iconst 0, 1) := by decide +kernel
theorem dX5_possible_28 : decode cX5_possible 28 = .ok (.istore 4, 2) := by decide +kernel
theorem dX5_possible_30 : decode cX5_possible 30 = .ok (.iload 4, 2) := by decide +kernel
theorem dX5_possible_32 : decode cX5_possible 32 = .ok (.aload_n 0, 1) := by decide +kernel
theorem dX5_possible_33 : decode cX5_possible 33 = .ok (.invokevirtual 88, 3) := by decide +kernel
theorem dX5_possible_36 : decode cX5_possible 36 = .ok (.if_icmp .ge 34, 3) := by decide +kernel
theorem dX5_possible_39 : decode cX5_possible 39 = .ok (.aload_n 0, 1) := by decide +kernel
theorem dX5_possible_40 : decode cX5_possible 40 = .ok (.iload 4, 2) := by decide +kernel
theorem dX5_possible_42 : decode cX5_possible 42 = .ok (.invokevirtual 106, 3) := by decide +kernel
theorem dX5_possible_45 : decode cX5_possible 45 = .ok (.ifCond .eq 19, 3) := by decide +kernel
theorem dX5_possible_48 : decode cX5_possible 48 = .ok (.iinc 2 1, 3) := by decide +kernel
theorem dX5_possible_51 : decode cX5_possible 51 = .ok (.iload_n 3, 1) := by decide +kernel
theorem dX5_possible_52 : decode cX5_possible 52 = .ok (.bipush (-4), 2) := by decide +kernel
theorem dX5_possible_54 : decode cX5_possible 54 = .ok (.if_icmp .ne 8, 3) := by decide +kernel
theorem dX5_possible_57 : decode cX5_possible 57 = .ok (.iload 4, 2) := by decide +kernel
theorem dX5_possible_59 : decode cX5_possible 59 = .ok (.goto 4, 3) := by decide +kernel
theorem dX5_possible_62 : decode cX5_possible 62 = .ok (.iload_n 3, 1) := by decide +kernel
theorem dX5_possible_63 : decode cX5_possible 63 = .ok (.istore_n 3, 1) := by decide +kernel
theorem dX5_possible_64 : decode cX5_possible 64 = .ok (.iinc 4 1, 3) := by decide +kernel
theorem dX5_possible_67 : decode cX5_possible 67 = .ok (.goto (-37), 3) := by decide +kernel
theorem dX5_possible_70 : decode cX5_possible 70 = .ok (.iload_n 1, 1) := by decide +kernel
theorem dX5_possible_71 : decode cX5_possible 71 = .ok (.ifCond .ne 7, 3) := by decide +kernel
theorem dX5_possible_74 : decode cX5_possible 74 = .ok (.iload_n 2, 1) := by decide +kernel
theorem dX5_possible_75 : decode cX5_possible 75 = .ok (.goto 4, 3) := by decide +kernel
theorem dX5_possible_78 : decode cX5_possible 78 = .ok (.iload_n 3, 1) := by decide +kernel
theorem dX5_possible_79 : decode cX5_possible 79 = .ok (.ireturn, 1) := by decide +kernel
theorem dX5_isLost_0 : decode cX5_isLost 0 = .ok (.aload_n 0, 1) := by decide +kernel
theorem dX5_isLost_1 : decode cX5_isLost 1 = .ok (.getfield 20, 3) := by decide +kernel
theorem dX5_isLost_4 : decode cX5_isLost 4 = .ok (.bipush 8, 2) := by decide +kernel
theorem dX5_isLost_6 : decode cX5_isLost 6 = .ok (.iload_n 1, 1) := by decide +kernel
theorem dX5_isLost_7 : decode cX5_isLost 7 = .ok (.imul, 1) := by decide +kernel
theorem dX5_isLost_8 : decode cX5_isLost 8 = .ok (.iload_n 2, 1) := by decide +kernel
theorem dX5_isLost_9 : decode cX5_isLost 9 = .ok (.iadd, 1) := by decide +kernel
theorem dX5_isLost_10 : decode cX5_isLost 10 = .ok (.iaload, 1) := by decide +kernel
theorem dX5_isLost_11 : decode cX5_isLost 11 = .ok (.ifCond .le 7, 3) := by decide +kernel
theorem dX5_isLost_14 : decode cX5_isLost 14 = .ok (.iconst 1, 1) := by decide +kernel
theorem dX5_isLost_15 : decode cX5_isLost 15 = .ok (.goto 4, 3) := by decide +kernel
theorem dX5_isLost_18 : decode cX5_isLost 18 = .ok (.iconst 0, 1) := by decide +kernel
theorem dX5_isLost_19 : decode cX5_isLost 19 = .ok (.istore_n 3, 1) := by decide +kernel
theorem dX5_isLost_20 : decode cX5_isLost 20 = .ok (.iconst 0, 1) := by decide +kernel
theorem dX5_isLost_21 : decode cX5_isLost 21 = .ok (.istore 4, 2) := by decide +kernel
theorem dX5_isLost_23 : decode cX5_isLost 23 = .ok (.iload 4, 2) := by decide +kernel
theorem dX5_isLost_25 : decode cX5_isLost 25 = .ok (.aload_n 0, 1) := by decide +kernel
theorem dX5_isLost_26 : decode cX5_isLost 26 = .ok (.invokevirtual 88, 3) := by decide +kernel
theorem dX5_isLost_29 : decode cX5_isLost 29 = .ok (.if_icmp .ge 39, 3) := by decide +kernel
theorem dX5_isLost_32 : decode cX5_isLost 32 = .ok (.iload_n 3, 1) := by decide +kernel
theorem dX5_isLost_33 : decode cX5_isLost 33 = .ok (.ifCond .eq 35, 3) := by decide +kernel
theorem dX5_isLost_36 : decode cX5_isLost 36 = .ok (.aload_n 0, 1) := by decide +kernel
theorem dX5_isLost_37 : decode cX5_isLost 37 = .ok (.iload_n 1, 1) := by decide +kernel
theorem dX5_isLost_38 : decode cX5_isLost 38 = .ok (.iload 4, 2) := by decide +kernel
theorem dX5_isLost_40 : decode cX5_isLost 40 = .ok (.invokevirtual 92, 3) := by decide +kernel
theorem dX5_isLost_43 : decode cX5_isLost 43 = .ok (.iload_n 2, 1) := by decide +kernel
theorem dX5_isLost_44 : decode cX5_isLost 44 = .ok (.if_icmp .ne 12, 3) := by decide +kernel
theorem dX5_isLost_47 : decode cX5_isLost 47 = .ok (.aload_n 0, 1) := by decide +kernel
theorem dX5_isLost_48 : decode cX5_isLost 48 = .ok (.iload 4, 2) := by decide +kernel
theorem dX5_isLost_50 : decode cX5_isLost 50 = .ok (.invokevirtual 106, 3) := by decide +kernel
theorem dX5_isLost_53 : decode cX5_isLost 53 = .ok (.ifCond .ne 7, 3) := by decide +kernel
theorem dX5_isLost_56 : decode cX5_isLost 56 = .ok (.iconst 1, 1) := by decide +kernel
theorem dX5_isLost_57 : decode cX5_isLost 57 = .ok (.goto 4, 3) := by decide +kernel
theorem dX5_isLost_60 : decode cX5_isLost 60 = .ok (.iconst 0, 1) := by decide +kernel
theorem dX5_isLost_61 : decode cX5_isLost 61 = .ok (.istore_n 3, 1) := by decide +kernel
theorem dX5_isLost_62 : decode cX5_isLost 62 = .ok (.iinc 4 1, 3) := by decide +kernel
theorem dX5_isLost_65 : decode cX5_isLost 65 = .ok (.goto (-42), 3) := by decide +kernel
theorem dX5_isLost_68 : decode cX5_isLost 68 = .ok (.iload_n 3, 1) := by decide +kernel
theorem dX5_isLost_69 : decode cX5_isLost 69 = .ok (.ireturn, 1) := by decide +kernel
theorem dX5_lost_0 : decode cX5_lost 0 = .ok (.iload_n 1, 1) := by decide +kernel
theorem dX5_lost_1 : decode cX5_lost 1 = .ok (.i2l, 1) := by decide +kernel
theorem dX5_lost_2 : decode cX5_lost 2 = .ok (.lconst 0, 1) := by decide +kernel
theorem dX5_lost_3 : decode cX5_lost 3 = .ok (.lconst 1, 1) := by decide +kernel
theorem dX5_lost_4 : decode cX5_lost 4 = .ok (.invokestatic 59, 3) := by decide +kernel
theorem dX5_lost_7 : decode cX5_lost 7 = .ok (.ifCond .ne 5, 3) := by decide +kernel
theorem dX5_lost_10 : decode cX5_lost 10 = .ok (.iconst (-1), 1) := by decide +kernel
theorem dX5_lost_11 : decode cX5_lost 11 = .ok (.ireturn, 1) := by decide +kernel
theorem dX5_lost_12 : decode cX5_lost 12 = .ok (.aload_n 0, 1) := by decide +kernel
theorem dX5_lost_13 : decode cX5_lost 13 = .ok (.getfield 56, 3) := by decide +kernel
theorem dX5_lost_16 : decode cX5_lost 16 = .ok (.ifCond .ne 6, 3) := by decide +kernel
theorem dX5_lost_19 : decode cX5_lost 19 = .ok (.bipush (-2), 2) := by decide +kernel
theorem dX5_lost_21 : decode cX5_lost 21 = .ok (.ireturn, 1) := by decide +kernel
theorem dX5_lost_22 : decode cX5_lost 22 = .ok (.iconst 0, 1) := by decide +kernel
theorem dX5_lost_23 : decode cX5_lost 23 = .ok (.istore_n 2, 1) := by decide +kernel
theorem dX5_lost_24 : decode cX5_lost 24 = .ok (.bipush (-4), 2) := by decide +kernel
theorem dX5_lost_26 : decode cX5_lost 26 = .ok (.istore_n 3, 1) := by decide +kernel
theorem dX5_lost_27 : decode cX5_lost 27 = .ok (.iconst 0, 1) := by decide +kernel
theorem dX5_lost_28 : decode cX5_lost 28 = .ok (.istore 4, 2) := by decide +kernel
theorem dX5_lost_30 : decode cX5_lost 30 = .ok (.iload 4, 2) := by decide +kernel
theorem dX5_lost_32 : decode cX5_lost 32 = .ok (.bipush 8, 2) := by decide +kernel
theorem dX5_lost_34 : decode cX5_lost 34 = .ok (.aload_n 0, 1) := by decide +kernel
theorem dX5_lost_35 : decode cX5_lost 35 = .ok (.getfield 56, 3) := by decide +kernel
theorem dX5_lost_38 : decode cX5_lost 38 = .ok (.imul, 1) := by decide +kernel
theorem dX5_lost_39 : decode cX5_lost 39 = .ok (.if_icmp .ge 42, 3) := by decide +kernel
theorem dX5_lost_42 : decode cX5_lost 42 = .ok (.aload_n 0, 1) := by decide +kernel
theorem dX5_lost_43 : decode cX5_lost 43 = .ok (.iload 4, 2) := by decide +kernel
theorem dX5_lost_45 : decode cX5_lost 45 = .ok (.bipush 8, 2) := by decide +kernel
theorem dX5_lost_47 : decode cX5_lost 47 = .ok (.idiv, 1) := by decide +kernel
theorem dX5_lost_48 : decode cX5_lost 48 = .ok (.iload 4, 2) := by decide +kernel
theorem dX5_lost_50 : decode cX5_lost 50 = .ok (.bipush 8, 2) := by decide +kernel
theorem dX5_lost_52 : decode cX5_lost 52 = .ok (.irem, 1) := by decide +kernel
theorem dX5_lost_53 : decode cX5_lost 53 = .ok (.invokevirtual 109, 3) := by decide +kernel
theorem dX5_lost_56 : decode cX5_lost 56 = .ok (.ifCond .eq 19, 3) := by decide +kernel
theorem dX5_lost_59 : decode cX5_lost 59 = .ok (.iinc 2 1, 3) := by decide +kernel
theorem dX5_lost_62 : decode cX5_lost 62 = .ok (.iload_n 3, 1) := by decide +kernel
theorem dX5_lost_63 : decode cX5_lost 63 = .ok (.bipush (-4), 2) := by decide +kernel
theorem dX5_lost_65 : decode cX5_lost 65 = .ok (.if_icmp .ne 8, 3) := by decide +kernel
theorem dX5_lost_68 : decode cX5_lost 68 = .ok (.iload 4, 2) := by decide +kernel
theorem dX5_lost_70 : decode cX5_lost 70 = .ok (.goto 4, 3) := by decide +kernel
theorem dX5_lost_73 : decode cX5_lost 73 = .ok (.iload_n 3, 1) := by decide +kernel
theorem dX5_lost_74 : decode cX5_lost 74 = .ok (.istore_n 3, 1) := by decide +kernel
theorem dX5_lost_75 : decode cX5_lost 75 = .ok (.iinc 4 1, 3) := by decide +kernel
theorem dX5_lost_78 : decode cX5_lost 78 = .ok (.goto (-48), 3) := by decide +kernel
theorem dX5_lost_81 : decode cX5_lost 81 = .ok (.iload_n 1, 1) := by decide +kernel
theorem dX5_lost_82 : decode cX5_lost 82 = .ok (.ifCond .ne 7, 3) := by decide +kernel
theorem dX5_lost_85 : decode cX5_lost 85 = .ok (.iload_n 2, 1) := by decide +kernel
theorem dX5_lost_86 : decode cX5_lost 86 = .ok (.goto 4, 3) := by decide +kernel
theorem dX5_lost_89 : decode cX5_lost 89 = .ok (.iload_n 3, 1) := by decide +kernel
theorem dX5_lost_90 : decode cX5_lost 90 = .ok (.ireturn, 1) := by decide +kernel
theorem dX5_stakeOf_0 : decode cX5_stakeOf 0 = .ok (.iconst 0, 1) := by decide +kernel
theorem dX5_stakeOf_1 : decode cX5_stakeOf 1 = .ok (.istore_n 2, 1) := by decide +kernel
theorem dX5_stakeOf_2 : decode cX5_stakeOf 2 = .ok (.iconst 0, 1) := by decide +kernel
theorem dX5_stakeOf_3 : decode cX5_stakeOf 3 = .ok (.istore_n 3, 1) := by decide +kernel
theorem dX5_stakeOf_4 : decode cX5_stakeOf 4 = .ok (.iload_n 3, 1) := by decide +kernel
theorem dX5_stakeOf_5 : decode cX5_stakeOf 5 = .ok (.aload_n 0, 1) := by decide +kernel
theorem dX5_stakeOf_6 : decode cX5_stakeOf 6 = .ok (.getfield 56, 3) := by decide +kernel
theorem dX5_stakeOf_9 : decode cX5_stakeOf 9 = .ok (.if_icmp .ge 28, 3) := by decide +kernel
theorem dX5_stakeOf_12 : decode cX5_stakeOf 12 = .ok (.iload_n 2, 1) := by decide +kernel
theorem dX5_stakeOf_13 : decode cX5_stakeOf 13 = .ok (.aload_n 0, 1) := by decide +kernel
theorem dX5_stakeOf_14 : decode cX5_stakeOf 14 = .ok (.getfield 23, 3) := by decide +kernel
theorem dX5_stakeOf_17 : decode cX5_stakeOf 17 = .ok (.bipush 8, 2) := by decide +kernel
theorem dX5_stakeOf_19 : decode cX5_stakeOf 19 = .ok (.iload_n 3, 1) := by decide +kernel
theorem dX5_stakeOf_20 : decode cX5_stakeOf 20 = .ok (.imul, 1) := by decide +kernel
theorem dX5_stakeOf_21 : decode cX5_stakeOf 21 = .ok (.aload_n 0, 1) := by decide +kernel
theorem dX5_stakeOf_22 : decode cX5_stakeOf 22 = .ok (.iload_n 3, 1) := by decide +kernel
theorem dX5_stakeOf_23 : decode cX5_stakeOf 23 = .ok (.iload_n 1, 1) := by decide +kernel
theorem dX5_stakeOf_24 : decode cX5_stakeOf 24 = .ok (.invokevirtual 92, 3) := by decide +kernel
theorem dX5_stakeOf_27 : decode cX5_stakeOf 27 = .ok (.iadd, 1) := by decide +kernel
theorem dX5_stakeOf_28 : decode cX5_stakeOf 28 = .ok (.iaload, 1) := by decide +kernel
theorem dX5_stakeOf_29 : decode cX5_stakeOf 29 = .ok (.iadd, 1) := by decide +kernel
theorem dX5_stakeOf_30 : decode cX5_stakeOf 30 = .ok (.istore_n 2, 1) := by decide +kernel
theorem dX5_stakeOf_31 : decode cX5_stakeOf 31 = .ok (.iinc 3 1, 3) := by decide +kernel
theorem dX5_stakeOf_34 : decode cX5_stakeOf 34 = .ok (.goto (-30), 3) := by decide +kernel
theorem dX5_stakeOf_37 : decode cX5_stakeOf 37 = .ok (.iload_n 2, 1) := by decide +kernel
theorem dX5_stakeOf_38 : decode cX5_stakeOf 38 = .ok (.ireturn, 1) := by decide +kernel
theorem dX5_bestOf_0 : decode cX5_bestOf 0 = .ok (.iconst 0, 1) := by decide +kernel
theorem dX5_bestOf_1 : decode cX5_bestOf 1 = .ok (.istore_n 1, 1) := by decide +kernel
theorem dX5_bestOf_2 : decode cX5_bestOf 2 = .ok (.iconst 1, 1) := by decide +kernel
theorem dX5_bestOf_3 : decode cX5_bestOf 3 = .ok (.istore_n 2, 1) := by decide +kernel
theorem dX5_bestOf_4 : decode cX5_bestOf 4 = .ok (.iload_n 2, 1) := by decide +kernel
theorem dX5_bestOf_5 : decode cX5_bestOf 5 = .ok (.aload_n 0, 1) := by decide +kernel
theorem dX5_bestOf_6 : decode cX5_bestOf 6 = .ok (.invokevirtual 88, 3) := by decide +kernel
theorem dX5_bestOf_9 : decode cX5_bestOf 9 = .ok (.if_icmp .ge 28, 3) := by decide +kernel
theorem dX5_bestOf_12 : decode cX5_bestOf 12 = .ok (.aload_n 0, 1) := by decide +kernel
theorem dX5_bestOf_13 : decode cX5_bestOf 13 = .ok (.iload_n 2, 1) := by decide +kernel
theorem dX5_bestOf_14 : decode cX5_bestOf 14 = .ok (.invokevirtual 112, 3) := by decide +kernel
theorem dX5_bestOf_17 : decode cX5_bestOf 17 = .ok (.aload_n 0, 1) := by decide +kernel
theorem dX5_bestOf_18 : decode cX5_bestOf 18 = .ok (.iload_n 1, 1) := by decide +kernel
theorem dX5_bestOf_19 : decode cX5_bestOf 19 = .ok (.invokevirtual 112, 3) := by decide +kernel
theorem dX5_bestOf_22 : decode cX5_bestOf 22 = .ok (.if_icmp .le 7, 3) := by decide +kernel
theorem dX5_bestOf_25 : decode cX5_bestOf 25 = .ok (.iload_n 2, 1) := by decide +kernel
theorem dX5_bestOf_26 : decode cX5_bestOf 26 = .ok (.goto 4, 3) := by decide +kernel
theorem dX5_bestOf_29 : decode cX5_bestOf 29 = .ok (.iload_n 1, 1) := by decide +kernel
theorem dX5_bestOf_30 : decode cX5_bestOf 30 = .ok (.istore_n 1, 1) := by decide +kernel
theorem dX5_bestOf_31 : decode cX5_bestOf 31 = .ok (.iinc 2 1, 3) := by decide +kernel
theorem dX5_bestOf_34 : decode cX5_bestOf 34 = .ok (.goto (-30), 3) := by decide +kernel
theorem dX5_bestOf_37 : decode cX5_bestOf 37 = .ok (.iload_n 1, 1) := by decide +kernel
theorem dX5_bestOf_38 : decode cX5_bestOf 38 = .ok (.ireturn, 1) := by decide +kernel
theorem dX5_bound_0 : decode cX5_bound 0 = .ok (.aload_n 0, 1) := by decide +kernel
theorem dX5_bound_1 : decode cX5_bound 1 = .ok (.getfield 56, 3) := by decide +kernel
theorem dX5_bound_4 : decode cX5_bound 4 = .ok (.ifCond .ne 8, 3) := by decide +kernel
theorem dX5_bound_7 : decode cX5_bound 7 = .ok (.bipush (-2), 2) := by decide +kernel
theorem dX5_bound_9 : decode cX5_bound 9 = .ok (.goto 11, 3) := by decide +kernel
theorem dX5_bound_12 : decode cX5_bound 12 = .ok (.aload_n 0, 1) := by decide +kernel
theorem dX5_bound_13 : decode cX5_bound 13 = .ok (.aload_n 0, 1) := by decide +kernel
theorem dX5_bound_14 : decode cX5_bound 14 = .ok (.invokevirtual 115, 3) := by decide +kernel
theorem dX5_bound_17 : decode cX5_bound 17 = .ok (.invokevirtual 112, 3) := by decide +kernel
theorem dX5_bound_20 : decode cX5_bound 20 = .ok (.ireturn, 1) := by decide +kernel
theorem dX5_best_0 : decode cX5_best 0 = .ok (.aload_n 0, 1) := by decide +kernel
theorem dX5_best_1 : decode cX5_best 1 = .ok (.getfield 56, 3) := by decide +kernel
theorem dX5_best_4 : decode cX5_best 4 = .ok (.ifCond .ne 8, 3) := by decide +kernel
theorem dX5_best_7 : decode cX5_best 7 = .ok (.bipush (-2), 2) := by decide +kernel
theorem dX5_best_9 : decode cX5_best 9 = .ok (.goto 7, 3) := by decide +kernel
theorem dX5_best_12 : decode cX5_best 12 = .ok (.aload_n 0, 1) := by decide +kernel
theorem dX5_best_13 : decode cX5_best 13 = .ok (.invokevirtual 115, 3) := by decide +kernel
theorem dX5_best_16 : decode cX5_best 16 = .ok (.ireturn, 1) := by decide +kernel
theorem dX5_worthOf_0 : decode cX5_worthOf 0 = .ok (.iconst 0, 1) := by decide +kernel
theorem dX5_worthOf_1 : decode cX5_worthOf 1 = .ok (.istore_n 1, 1) := by decide +kernel
theorem dX5_worthOf_2 : decode cX5_worthOf 2 = .ok (.iconst 0, 1) := by decide +kernel
theorem dX5_worthOf_3 : decode cX5_worthOf 3 = .ok (.istore_n 2, 1) := by decide +kernel
theorem dX5_worthOf_4 : decode cX5_worthOf 4 = .ok (.iload_n 2, 1) := by decide +kernel
theorem dX5_worthOf_5 : decode cX5_worthOf 5 = .ok (.bipush 8, 2) := by decide +kernel
theorem dX5_worthOf_7 : decode cX5_worthOf 7 = .ok (.aload_n 0, 1) := by decide +kernel
theorem dX5_worthOf_8 : decode cX5_worthOf 8 = .ok (.getfield 56, 3) := by decide +kernel
theorem dX5_worthOf_11 : decode cX5_worthOf 11 = .ok (.imul, 1) := by decide +kernel
theorem dX5_worthOf_12 : decode cX5_worthOf 12 = .ok (.if_icmp .ge 25, 3) := by decide +kernel
theorem dX5_worthOf_15 : decode cX5_worthOf 15 = .ok (.iload_n 1, 1) := by decide +kernel
theorem dX5_worthOf_16 : decode cX5_worthOf 16 = .ok (.aload_n 0, 1) := by decide +kernel
theorem dX5_worthOf_17 : decode cX5_worthOf 17 = .ok (.getfield 23, 3) := by decide +kernel
theorem dX5_worthOf_20 : decode cX5_worthOf 20 = .ok (.iload_n 2, 1) := by decide +kernel
theorem dX5_worthOf_21 : decode cX5_worthOf 21 = .ok (.iaload, 1) := by decide +kernel
theorem dX5_worthOf_22 : decode cX5_worthOf 22 = .ok (.aload_n 0, 1) := by decide +kernel
theorem dX5_worthOf_23 : decode cX5_worthOf 23 = .ok (.getfield 20, 3) := by decide +kernel
theorem dX5_worthOf_26 : decode cX5_worthOf 26 = .ok (.iload_n 2, 1) := by decide +kernel
theorem dX5_worthOf_27 : decode cX5_worthOf 27 = .ok (.iaload, 1) := by decide +kernel
theorem dX5_worthOf_28 : decode cX5_worthOf 28 = .ok (.imul, 1) := by decide +kernel
theorem dX5_worthOf_29 : decode cX5_worthOf 29 = .ok (.iadd, 1) := by decide +kernel
theorem dX5_worthOf_30 : decode cX5_worthOf 30 = .ok (.istore_n 1, 1) := by decide +kernel
theorem dX5_worthOf_31 : decode cX5_worthOf 31 = .ok (.iinc 2 1, 3) := by decide +kernel
theorem dX5_worthOf_34 : decode cX5_worthOf 34 = .ok (.goto (-30), 3) := by decide +kernel
theorem dX5_worthOf_37 : decode cX5_worthOf 37 = .ok (.iload_n 1, 1) := by decide +kernel
theorem dX5_worthOf_38 : decode cX5_worthOf 38 = .ok (.ireturn, 1) := by decide +kernel
theorem dX5_worth_0 : decode cX5_worth 0 = .ok (.aload_n 0, 1) := by decide +kernel
theorem dX5_worth_1 : decode cX5_worth 1 = .ok (.getfield 56, 3) := by decide +kernel
theorem dX5_worth_4 : decode cX5_worth 4 = .ok (.ifCond .ne 8, 3) := by decide +kernel
theorem dX5_worth_7 : decode cX5_worth 7 = .ok (.bipush (-2), 2) := by decide +kernel
theorem dX5_worth_9 : decode cX5_worth 9 = .ok (.goto 7, 3) := by decide +kernel
theorem dX5_worth_12 : decode cX5_worth 12 = .ok (.aload_n 0, 1) := by decide +kernel
theorem dX5_worth_13 : decode cX5_worth 13 = .ok (.invokevirtual 118, 3) := by decide +kernel
theorem dX5_worth_16 : decode cX5_worth 16 = .ok (.ireturn, 1) := by decide +kernel
theorem dX5_beyond_0 : decode cX5_beyond 0 = .ok (.aload_n 0, 1) := by decide +kernel
theorem dX5_beyond_1 : decode cX5_beyond 1 = .ok (.getfield 56, 3) := by decide +kernel
theorem dX5_beyond_4 : decode cX5_beyond 4 = .ok (.ifCond .ne 8, 3) := by decide +kernel
theorem dX5_beyond_7 : decode cX5_beyond 7 = .ok (.bipush (-2), 2) := by decide +kernel
theorem dX5_beyond_9 : decode cX5_beyond 9 = .ok (.goto 38, 3) := by decide +kernel
theorem dX5_beyond_12 : decode cX5_beyond 12 = .ok (.aload_n 0, 1) := by decide +kernel
theorem dX5_beyond_13 : decode cX5_beyond 13 = .ok (.invokevirtual 103, 3) := by decide +kernel
theorem dX5_beyond_16 : decode cX5_beyond 16 = .ok (.bipush (-4), 2) := by decide +kernel
theorem dX5_beyond_18 : decode cX5_beyond 18 = .ok (.if_icmp .ne 28, 3) := by decide +kernel
theorem dX5_beyond_21 : decode cX5_beyond 21 = .ok (.aload_n 0, 1) := by decide +kernel
theorem dX5_beyond_22 : decode cX5_beyond 22 = .ok (.invokevirtual 118, 3) := by decide +kernel
theorem dX5_beyond_25 : decode cX5_beyond 25 = .ok (.aload_n 0, 1) := by decide +kernel
theorem dX5_beyond_26 : decode cX5_beyond 26 = .ok (.aload_n 0, 1) := by decide +kernel
theorem dX5_beyond_27 : decode cX5_beyond 27 = .ok (.invokevirtual 115, 3) := by decide +kernel
theorem dX5_beyond_30 : decode cX5_beyond 30 = .ok (.invokevirtual 112, 3) := by decide +kernel
theorem dX5_beyond_33 : decode cX5_beyond 33 = .ok (.aload_n 0, 1) := by decide +kernel
theorem dX5_beyond_34 : decode cX5_beyond 34 = .ok (.iconst 0, 1) := by decide +kernel
theorem dX5_beyond_35 : decode cX5_beyond 35 = .ok (.invokevirtual 75, 3) := by decide +kernel
theorem dX5_beyond_38 : decode cX5_beyond 38 = .ok (.imul, 1) := by decide +kernel
theorem dX5_beyond_39 : decode cX5_beyond 39 = .ok (.if_icmp .le 7, 3) := by decide +kernel
theorem dX5_beyond_42 : decode cX5_beyond 42 = .ok (.iconst 1, 1) := by decide +kernel
theorem dX5_beyond_43 : decode cX5_beyond 43 = .ok (.goto 4, 3) := by decide +kernel
theorem dX5_beyond_46 : decode cX5_beyond 46 = .ok (.iconst 0, 1) := by decide +kernel
theorem dX5_beyond_47 : decode cX5_beyond 47 = .ok (.ireturn, 1) := by decide +kernel
theorem dX5_isPartable_0 : decode cX5_isPartable 0 = .ok (.aload_n 0, 1) := by decide +kernel
theorem dX5_isPartable_1 : decode cX5_isPartable 1 = .ok (.getfield 56, 3) := by decide +kernel
theorem dX5_isPartable_4 : decode cX5_isPartable 4 = .ok (.ifCond .le 32, 3) := by decide +kernel
theorem dX5_isPartable_7 : decode cX5_isPartable 7 = .ok (.aload_n 0, 1) := by decide +kernel
theorem dX5_isPartable_8 : decode cX5_isPartable 8 = .ok (.invokevirtual 103, 3) := by decide +kernel
theorem dX5_isPartable_11 : decode cX5_isPartable 11 = .ok (.bipush (-4), 2) := by decide +kernel
theorem dX5_isPartable_13 : decode cX5_isPartable 13 = .ok (.if_icmp .ne 23, 3) := by decide +kernel
theorem dX5_isPartable_16 : decode cX5_isPartable 16 = .ok (.aload_n 0, 1) := by decide +kernel
theorem dX5_isPartable_17 : decode cX5_isPartable 17 = .ok (.iconst 0, 1) := by decide +kernel
theorem dX5_isPartable_18 : decode cX5_isPartable 18 = .ok (.invokevirtual 75, 3) := by decide +kernel
theorem dX5_isPartable_21 : decode cX5_isPartable 21 = .ok (.i2l, 1) := by decide +kernel
theorem dX5_isPartable_22 : decode cX5_isPartable 22 = .ok (.lconst 1, 1) := by decide +kernel
theorem dX5_isPartable_23 : decode cX5_isPartable 23 = .ok (.ldc2_w 121, 3) := by decide +kernel
theorem dX5_isPartable_26 : decode cX5_isPartable 26 = .ok (.invokestatic 59, 3) := by decide +kernel
theorem dX5_isPartable_29 : decode cX5_isPartable 29 = .ok (.ifCond .eq 7, 3) := by decide +kernel
theorem dX5_isPartable_32 : decode cX5_isPartable 32 = .ok (.iconst 1, 1) := by decide +kernel
theorem dX5_isPartable_33 : decode cX5_isPartable 33 = .ok (.goto 4, 3) := by decide +kernel
theorem dX5_isPartable_36 : decode cX5_isPartable 36 = .ok (.iconst 0, 1) := by decide +kernel
theorem dX5_isPartable_37 : decode cX5_isPartable 37 = .ok (.ireturn, 1) := by decide +kernel
theorem dX5_canStand_0 : decode cX5_canStand 0 = .ok (.iconst 1, 1) := by decide +kernel
theorem dX5_canStand_1 : decode cX5_canStand 1 = .ok (.istore_n 2, 1) := by decide +kernel
theorem dX5_canStand_2 : decode cX5_canStand 2 = .ok (.iconst 0, 1) := by decide +kernel
theorem dX5_canStand_3 : decode cX5_canStand 3 = .ok (.istore_n 3, 1) := by decide +kernel
theorem dX5_canStand_4 : decode cX5_canStand 4 = .ok (.iload_n 3, 1) := by decide +kernel
theorem dX5_canStand_5 : decode cX5_canStand 5 = .ok (.aload_n 0, 1) := by decide +kernel
theorem dX5_canStand_6 : decode cX5_canStand 6 = .ok (.getfield 56, 3) := by decide +kernel
theorem dX5_canStand_9 : decode cX5_canStand 9 = .ok (.if_icmp .ge 38, 3) := by decide +kernel
theorem dX5_canStand_12 : decode cX5_canStand 12 = .ok (.iload_n 2, 1) := by decide +kernel
theorem dX5_canStand_13 : decode cX5_canStand 13 = .ok (.ifCond .eq 26, 3) := by decide +kernel
theorem dX5_canStand_16 : decode cX5_canStand 16 = .ok (.aload_n 0, 1) := by decide +kernel
theorem dX5_canStand_17 : decode cX5_canStand 17 = .ok (.getfield 26, 3) := by decide +kernel
theorem dX5_canStand_20 : decode cX5_canStand 20 = .ok (.bipush 8, 2) := by decide +kernel
theorem dX5_canStand_22 : decode cX5_canStand 22 = .ok (.iload_n 3, 1) := by decide +kernel
theorem dX5_canStand_23 : decode cX5_canStand 23 = .ok (.imul, 1) := by decide +kernel
theorem dX5_canStand_24 : decode cX5_canStand 24 = .ok (.aload_n 0, 1) := by decide +kernel
theorem dX5_canStand_25 : decode cX5_canStand 25 = .ok (.iload_n 3, 1) := by decide +kernel
theorem dX5_canStand_26 : decode cX5_canStand 26 = .ok (.iload_n 1, 1) := by decide +kernel
theorem dX5_canStand_27 : decode cX5_canStand 27 = .ok (.invokevirtual 92, 3) := by decide +kernel
theorem dX5_canStand_30 : decode cX5_canStand 30 = .ok (.iadd, 1) := by decide +kernel
theorem dX5_canStand_31 : decode cX5_canStand 31 = .ok (.iaload, 1) := by decide +kernel
theorem dX5_canStand_32 : decode cX5_canStand 32 = .ok (.ifCond .le 7, 3) := by decide +kernel
theorem dX5_canStand_35 : decode cX5_canStand 35 = .ok (.iconst 1, 1) := by decide +kernel
theorem dX5_canStand_36 : decode cX5_canStand 36 = .ok (.goto 4, 3) := by decide +kernel
theorem dX5_canStand_39 : decode cX5_canStand 39 = .ok (.iconst 0, 1) := by decide +kernel
theorem dX5_canStand_40 : decode cX5_canStand 40 = .ok (.istore_n 2, 1) := by decide +kernel
theorem dX5_canStand_41 : decode cX5_canStand 41 = .ok (.iinc 3 1, 3) := by decide +kernel
theorem dX5_canStand_44 : decode cX5_canStand 44 = .ok (.goto (-40), 3) := by decide +kernel
theorem dX5_canStand_47 : decode cX5_canStand 47 = .ok (.iload_n 2, 1) := by decide +kernel
theorem dX5_canStand_48 : decode cX5_canStand 48 = .ok (.ireturn, 1) := by decide +kernel
theorem dX5_stands_0 : decode cX5_stands 0 = .ok (.iconst 0, 1) := by decide +kernel
theorem dX5_stands_1 : decode cX5_stands 1 = .ok (.istore_n 3, 1) := by decide +kernel
theorem dX5_stands_2 : decode cX5_stands 2 = .ok (.iload_n 3, 1) := by decide +kernel
theorem dX5_stands_3 : decode cX5_stands 3 = .ok (.aload_n 0, 1) := by decide +kernel
theorem dX5_stands_4 : decode cX5_stands 4 = .ok (.getfield 56, 3) := by decide +kernel
theorem dX5_stands_7 : decode cX5_stands 7 = .ok (.if_icmp .ge 29, 3) := by decide +kernel
theorem dX5_stands_10 : decode cX5_stands 10 = .ok (.aload_n 0, 1) := by decide +kernel
theorem dX5_stands_11 : decode cX5_stands 11 = .ok (.getfield 26, 3) := by decide +kernel
theorem dX5_stands_14 : decode cX5_stands 14 = .ok (.bipush 8, 2) := by decide +kernel
theorem dX5_stands_16 : decode cX5_stands 16 = .ok (.iload_n 3, 1) := by decide +kernel
theorem dX5_stands_17 : decode cX5_stands 17 = .ok (.imul, 1) := by decide +kernel
theorem dX5_stands_18 : decode cX5_stands 18 = .ok (.aload_n 0, 1) := by decide +kernel
theorem dX5_stands_19 : decode cX5_stands 19 = .ok (.iload_n 3, 1) := by decide +kernel
theorem dX5_stands_20 : decode cX5_stands 20 = .ok (.iload_n 1, 1) := by decide +kernel
theorem dX5_stands_21 : decode cX5_stands 21 = .ok (.invokevirtual 92, 3) := by decide +kernel
theorem dX5_stands_24 : decode cX5_stands 24 = .ok (.iadd, 1) := by decide +kernel
theorem dX5_stands_25 : decode cX5_stands 25 = .ok (.dup2, 1) := by decide +kernel
theorem dX5_stands_26 : decode cX5_stands 26 = .ok (.iaload, 1) := by decide +kernel
theorem dX5_stands_27 : decode cX5_stands 27 = .ok (.iload_n 2, 1) := by decide +kernel
theorem dX5_stands_28 : decode cX5_stands 28 = .ok (.iadd, 1) := by decide +kernel
theorem dX5_stands_29 : decode cX5_stands 29 = .ok (.iastore, 1) := by decide +kernel
theorem dX5_stands_30 : decode cX5_stands 30 = .ok (.iinc 3 1, 3) := by decide +kernel
theorem dX5_stands_33 : decode cX5_stands 33 = .ok (.goto (-31), 3) := by decide +kernel
theorem dX5_stands_36 : decode cX5_stands 36 = .ok (.return_, 1) := by decide +kernel
theorem dX5_search_0 : decode cX5_search 0 = .ok (.iconst 0, 1) := by decide +kernel
theorem dX5_search_1 : decode cX5_search 1 = .ok (.istore_n 1, 1) := by decide +kernel
theorem dX5_search_2 : decode cX5_search 2 = .ok (.iload_n 1, 1) := by decide +kernel
theorem dX5_search_3 : decode cX5_search 3 = .ok (.bipush 64, 2) := by decide +kernel
theorem dX5_search_5 : decode cX5_search 5 = .ok (.if_icmp .ge 21, 3) := by decide +kernel
theorem dX5_search_8 : decode cX5_search 8 = .ok (.aload_n 0, 1) := by decide +kernel
theorem dX5_search_9 : decode cX5_search 9 = .ok (.getfield 26, 3) := by decide +kernel
theorem dX5_search_12 : decode cX5_search 12 = .ok (.iload_n 1, 1) := by decide +kernel
theorem dX5_search_13 : decode cX5_search 13 = .ok (.aload_n 0, 1) := by decide +kernel
theorem dX5_search_14 : decode cX5_search 14 = .ok (.getfield 20, 3) := by decide +kernel
theorem dX5_search_17 : decode cX5_search 17 = .ok (.iload_n 1, 1) := by decide +kernel
theorem dX5_search_18 : decode cX5_search 18 = .ok (.iaload, 1) := by decide +kernel
theorem dX5_search_19 : decode cX5_search 19 = .ok (.iastore, 1) := by decide +kernel
theorem dX5_search_20 : decode cX5_search 20 = .ok (.iinc 1 1, 3) := by decide +kernel
theorem dX5_search_23 : decode cX5_search 23 = .ok (.goto (-21), 3) := by decide +kernel
theorem dX5_search_26 : decode cX5_search 26 = .ok (.aload_n 0, 1) := by decide +kernel
theorem dX5_search_27 : decode cX5_search 27 = .ok (.iconst 0, 1) := by decide +kernel
theorem dX5_search_28 : decode cX5_search 28 = .ok (.putfield 123, 3) := by decide +kernel
theorem dX5_search_31 : decode cX5_search 31 = .ok (.aload_n 0, 1) := by decide +kernel
theorem dX5_search_32 : decode cX5_search 32 = .ok (.iconst 0, 1) := by decide +kernel
theorem dX5_search_33 : decode cX5_search 33 = .ok (.invokevirtual 75, 3) := by decide +kernel
theorem dX5_search_36 : decode cX5_search 36 = .ok (.istore_n 1, 1) := by decide +kernel
theorem dX5_search_37 : decode cX5_search 37 = .ok (.iconst 0, 1) := by decide +kernel
theorem dX5_search_38 : decode cX5_search 38 = .ok (.istore_n 2, 1) := by decide +kernel
theorem dX5_search_39 : decode cX5_search 39 = .ok (.iconst 0, 1) := by decide +kernel
theorem dX5_search_40 : decode cX5_search 40 = .ok (.istore_n 3, 1) := by decide +kernel
theorem dX5_search_41 : decode cX5_search 41 = .ok (.iload_n 2, 1) := by decide +kernel
theorem dX5_search_42 : decode cX5_search 42 = .ok (.iload_n 1, 1) := by decide +kernel
theorem dX5_search_43 : decode cX5_search 43 = .ok (.if_icmp .ge 99, 3) := by decide +kernel
theorem dX5_search_46 : decode cX5_search 46 = .ok (.iload_n 3, 1) := by decide +kernel
theorem dX5_search_47 : decode cX5_search 47 = .ok (.aload_n 0, 1) := by decide +kernel
theorem dX5_search_48 : decode cX5_search 48 = .ok (.invokevirtual 88, 3) := by decide +kernel
theorem dX5_search_51 : decode cX5_search 51 = .ok (.if_icmp .ne 35, 3) := by decide +kernel
theorem dX5_search_54 : decode cX5_search 54 = .ok (.iload_n 2, 1) := by decide +kernel
theorem dX5_search_55 : decode cX5_search 55 = .ok (.ifCond .ne 5, 3) := by decide +kernel
theorem dX5_search_58 : decode cX5_search 58 = .ok (.iconst 0, 1) := by decide +kernel
theorem dX5_search_59 : decode cX5_search 59 = .ok (.ireturn, 1) := by decide +kernel
theorem dX5_search_60 : decode cX5_search 60 = .ok (.iinc 2 (-1), 3) := by decide +kernel
theorem dX5_search_63 : decode cX5_search 63 = .ok (.aload_n 0, 1) := by decide +kernel
theorem dX5_search_64 : decode cX5_search 64 = .ok (.aload_n 0, 1) := by decide +kernel
theorem dX5_search_65 : decode cX5_search 65 = .ok (.getfield 29, 3) := by decide +kernel
theorem dX5_search_68 : decode cX5_search 68 = .ok (.iload_n 2, 1) := by decide +kernel
theorem dX5_search_69 : decode cX5_search 69 = .ok (.iaload, 1) := by decide +kernel
theorem dX5_search_70 : decode cX5_search 70 = .ok (.iconst 1, 1) := by decide +kernel
theorem dX5_search_71 : decode cX5_search 71 = .ok (.invokevirtual 126, 3) := by decide +kernel
theorem dX5_search_74 : decode cX5_search 74 = .ok (.aload_n 0, 1) := by decide +kernel
theorem dX5_search_75 : decode cX5_search 75 = .ok (.getfield 29, 3) := by decide +kernel
theorem dX5_search_78 : decode cX5_search 78 = .ok (.iload_n 2, 1) := by decide +kernel
theorem dX5_search_79 : decode cX5_search 79 = .ok (.iaload, 1) := by decide +kernel
theorem dX5_search_80 : decode cX5_search 80 = .ok (.iconst 1, 1) := by decide +kernel
theorem dX5_search_81 : decode cX5_search 81 = .ok (.iadd, 1) := by decide +kernel
theorem dX5_search_82 : decode cX5_search 82 = .ok (.istore_n 3, 1) := by decide +kernel
theorem dX5_search_83 : decode cX5_search 83 = .ok (.goto (-42), 3) := by decide +kernel
theorem dX5_search_86 : decode cX5_search 86 = .ok (.aload_n 0, 1) := by decide +kernel
theorem dX5_search_87 : decode cX5_search 87 = .ok (.getfield 123, 3) := by decide +kernel
theorem dX5_search_90 : decode cX5_search 90 = .ok (.sipush 20000, 3) := by decide +kernel
theorem dX5_search_93 : decode cX5_search 93 = .ok (.if_icmp .ne 6, 3) := by decide +kernel
theorem dX5_search_96 : decode cX5_search 96 = .ok (.bipush (-6), 2) := by decide +kernel
theorem dX5_search_98 : decode cX5_search 98 = .ok (.ireturn, 1) := by decide +kernel
theorem dX5_search_99 : decode cX5_search 99 = .ok (.aload_n 0, 1) := by decide +kernel
theorem dX5_search_100 : decode cX5_search 100 = .ok (.dup, 1) := by decide +kernel
theorem dX5_search_101 : decode cX5_search 101 = .ok (.getfield 123, 3) := by decide +kernel
theorem dX5_search_104 : decode cX5_search 104 = .ok (.iconst 1, 1) := by decide +kernel
theorem dX5_search_105 : decode cX5_search 105 = .ok (.iadd, 1) := by decide +kernel
theorem dX5_search_106 : decode cX5_search 106 = .ok (.putfield 123, 3) := by decide +kernel
theorem dX5_search_109 : decode cX5_search 109 = .ok (.aload_n 0, 1) := by decide +kernel
theorem dX5_search_110 : decode cX5_search 110 = .ok (.iload_n 3, 1) := by decide +kernel
theorem dX5_search_111 : decode cX5_search 111 = .ok (.invokevirtual 130, 3) := by decide +kernel
theorem dX5_search_114 : decode cX5_search 114 = .ok (.ifCond .eq 22, 3) := by decide +kernel
theorem dX5_search_117 : decode cX5_search 117 = .ok (.aload_n 0, 1) := by decide +kernel
theorem dX5_search_118 : decode cX5_search 118 = .ok (.iload_n 3, 1) := by decide +kernel
theorem dX5_search_119 : decode cX5_search 119 = .ok (.iconst (-1), 1) := by decide +kernel
theorem dX5_search_120 : decode cX5_search 120 = .ok (.invokevirtual 126, 3) := by decide +kernel
theorem dX5_search_123 : decode cX5_search 123 = .ok (.aload_n 0, 1) := by decide +kernel
theorem dX5_search_124 : decode cX5_search 124 = .ok (.getfield 29, 3) := by decide +kernel
theorem dX5_search_127 : decode cX5_search 127 = .ok (.iload_n 2, 1) := by decide +kernel
theorem dX5_search_128 : decode cX5_search 128 = .ok (.iload_n 3, 1) := by decide +kernel
theorem dX5_search_129 : decode cX5_search 129 = .ok (.iastore, 1) := by decide +kernel
theorem dX5_search_130 : decode cX5_search 130 = .ok (.iinc 2 1, 3) := by decide +kernel
theorem dX5_search_133 : decode cX5_search 133 = .ok (.goto (-92), 3) := by decide +kernel
theorem dX5_search_136 : decode cX5_search 136 = .ok (.iinc 3 1, 3) := by decide +kernel
theorem dX5_search_139 : decode cX5_search 139 = .ok (.goto (-98), 3) := by decide +kernel
theorem dX5_search_142 : decode cX5_search 142 = .ok (.iconst 1, 1) := by decide +kernel
theorem dX5_search_143 : decode cX5_search 143 = .ok (.ireturn, 1) := by decide +kernel
theorem dX5_parted_0 : decode cX5_parted 0 = .ok (.aload_n 0, 1) := by decide +kernel
theorem dX5_parted_1 : decode cX5_parted 1 = .ok (.invokevirtual 133, 3) := by decide +kernel
theorem dX5_parted_4 : decode cX5_parted 4 = .ok (.ifCond .eq 10, 3) := by decide +kernel
theorem dX5_parted_7 : decode cX5_parted 7 = .ok (.aload_n 0, 1) := by decide +kernel
theorem dX5_parted_8 : decode cX5_parted 8 = .ok (.invokevirtual 137, 3) := by decide +kernel
theorem dX5_parted_11 : decode cX5_parted 11 = .ok (.goto 5, 3) := by decide +kernel
theorem dX5_parted_14 : decode cX5_parted 14 = .ok (.bipush (-2), 2) := by decide +kernel
theorem dX5_parted_16 : decode cX5_parted 16 = .ok (.ireturn, 1) := by decide +kernel
theorem dX5_part_0 : decode cX5_part 0 = .ok (.iload_n 1, 1) := by decide +kernel
theorem dX5_part_1 : decode cX5_part 1 = .ok (.ifCond .ge 11, 3) := by decide +kernel
theorem dX5_part_4 : decode cX5_part 4 = .ok (.iload_n 1, 1) := by decide +kernel
theorem dX5_part_5 : decode cX5_part 5 = .ok (.bipush (-4), 2) := by decide +kernel
theorem dX5_part_7 : decode cX5_part 7 = .ok (.if_icmp .eq 5, 3) := by decide +kernel
theorem dX5_part_10 : decode cX5_part 10 = .ok (.iconst (-1), 1) := by decide +kernel
theorem dX5_part_11 : decode cX5_part 11 = .ok (.ireturn, 1) := by decide +kernel
theorem dX5_part_12 : decode cX5_part 12 = .ok (.aload_n 0, 1) := by decide +kernel
theorem dX5_part_13 : decode cX5_part 13 = .ok (.invokevirtual 133, 3) := by decide +kernel
theorem dX5_part_16 : decode cX5_part 16 = .ok (.ifCond .ne 6, 3) := by decide +kernel
theorem dX5_part_19 : decode cX5_part 19 = .ok (.bipush (-2), 2) := by decide +kernel
theorem dX5_part_21 : decode cX5_part 21 = .ok (.ireturn, 1) := by decide +kernel
theorem dX5_part_22 : decode cX5_part 22 = .ok (.aload_n 0, 1) := by decide +kernel
theorem dX5_part_23 : decode cX5_part 23 = .ok (.iconst 0, 1) := by decide +kernel
theorem dX5_part_24 : decode cX5_part 24 = .ok (.invokevirtual 75, 3) := by decide +kernel
theorem dX5_part_27 : decode cX5_part 27 = .ok (.istore_n 2, 1) := by decide +kernel
