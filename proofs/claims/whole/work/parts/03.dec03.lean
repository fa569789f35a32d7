theorem dX3_stakeSum_32 : decode cX3_stakeSum 32 = .ok (.iload_n 2, 1) := by decide +kernel
theorem dX3_stakeSum_33 : decode cX3_stakeSum 33 = .ok (.ireturn, 1) := by decide +kernel
theorem dX3_bestHidden_0 : decode cX3_bestHidden 0 = .ok (.iconst 0, 1) := by decide +kernel
theorem dX3_bestHidden_1 : decode cX3_bestHidden 1 = .ok (.istore_n 1, 1) := by decide +kernel
theorem dX3_bestHidden_2 : decode cX3_bestHidden 2 = .ok (.aload_n 0, 1) := by decide +kernel
theorem dX3_bestHidden_3 : decode cX3_bestHidden 3 = .ok (.iconst 0, 1) := by decide +kernel
theorem dX3_bestHidden_4 : decode cX3_bestHidden 4 = .ok (.invokevirtual 88, 3) := by decide +kernel
theorem dX3_bestHidden_7 : decode cX3_bestHidden 7 = .ok (.istore_n 2, 1) := by decide +kernel
theorem dX3_bestHidden_8 : decode cX3_bestHidden 8 = .ok (.iconst 1, 1) := by decide +kernel
theorem dX3_bestHidden_9 : decode cX3_bestHidden 9 = .ok (.istore_n 3, 1) := by decide +kernel
theorem dX3_bestHidden_10 : decode cX3_bestHidden 10 = .ok (.iload_n 3, 1) := by decide +kernel
theorem dX3_bestHidden_11 : decode cX3_bestHidden 11 = .ok (.aload_n 0, 1) := by decide +kernel
theorem dX3_bestHidden_12 : decode cX3_bestHidden 12 = .ok (.invokevirtual 60, 3) := by decide +kernel
theorem dX3_bestHidden_15 : decode cX3_bestHidden 15 = .ok (.if_icmp .ge 27, 3) := by decide +kernel
theorem dX3_bestHidden_18 : decode cX3_bestHidden 18 = .ok (.aload_n 0, 1) := by decide +kernel
theorem dX3_bestHidden_19 : decode cX3_bestHidden 19 = .ok (.iload_n 3, 1) := by decide +kernel
theorem dX3_bestHidden_20 : decode cX3_bestHidden 20 = .ok (.invokevirtual 88, 3) := by decide +kernel
theorem dX3_bestHidden_23 : decode cX3_bestHidden 23 = .ok (.istore 4, 2) := by decide +kernel
theorem dX3_bestHidden_25 : decode cX3_bestHidden 25 = .ok (.iload 4, 2) := by decide +kernel
theorem dX3_bestHidden_27 : decode cX3_bestHidden 27 = .ok (.iload_n 2, 1) := by decide +kernel
theorem dX3_bestHidden_28 : decode cX3_bestHidden 28 = .ok (.if_icmp .le 8, 3) := by decide +kernel
theorem dX3_bestHidden_31 : decode cX3_bestHidden 31 = .ok (.iload_n 3, 1) := by decide +kernel
theorem dX3_bestHidden_32 : decode cX3_bestHidden 32 = .ok (.istore_n 1, 1) := by decide +kernel
theorem dX3_bestHidden_33 : decode cX3_bestHidden 33 = .ok (.iload 4, 2) := by decide +kernel
theorem dX3_bestHidden_35 : decode cX3_bestHidden 35 = .ok (.istore_n 2, 1) := by decide +kernel
theorem dX3_bestHidden_36 : decode cX3_bestHidden 36 = .ok (.iinc 3 1, 3) := by decide +kernel
theorem dX3_bestHidden_39 : decode cX3_bestHidden 39 = .ok (.goto (-29), 3) := by decide +kernel
theorem dX3_bestHidden_42 : decode cX3_bestHidden 42 = .ok (.iload_n 1, 1) := by decide +kernel
theorem dX3_bestHidden_43 : decode cX3_bestHidden 43 = .ok (.ireturn, 1) := by decide +kernel
theorem dX3_stakesTimesWeights_0 : decode cX3_stakesTimesWeights 0 = .ok (.iconst 0, 1) := by decide +kernel
theorem dX3_stakesTimesWeights_1 : decode cX3_stakesTimesWeights 1 = .ok (.istore_n 1, 1) := by decide +kernel
theorem dX3_stakesTimesWeights_2 : decode cX3_stakesTimesWeights 2 = .ok (.iconst 0, 1) := by decide +kernel
theorem dX3_stakesTimesWeights_3 : decode cX3_stakesTimesWeights 3 = .ok (.istore_n 2, 1) := by decide +kernel
theorem dX3_stakesTimesWeights_4 : decode cX3_stakesTimesWeights 4 = .ok (.iload_n 2, 1) := by decide +kernel
theorem dX3_stakesTimesWeights_5 : decode cX3_stakesTimesWeights 5 = .ok (.bipush 8, 2) := by decide +kernel
theorem dX3_stakesTimesWeights_7 : decode cX3_stakesTimesWeights 7 = .ok (.aload_n 0, 1) := by decide +kernel
theorem dX3_stakesTimesWeights_8 : decode cX3_stakesTimesWeights 8 = .ok (.getfield 15, 3) := by decide +kernel
theorem dX3_stakesTimesWeights_11 : decode cX3_stakesTimesWeights 11 = .ok (.imul, 1) := by decide +kernel
theorem dX3_stakesTimesWeights_12 : decode cX3_stakesTimesWeights 12 = .ok (.if_icmp .ge 25, 3) := by decide +kernel
theorem dX3_stakesTimesWeights_15 : decode cX3_stakesTimesWeights 15 = .ok (.iload_n 1, 1) := by decide +kernel
theorem dX3_stakesTimesWeights_16 : decode cX3_stakesTimesWeights 16 = .ok (.aload_n 0, 1) := by decide +kernel
theorem dX3_stakesTimesWeights_17 : decode cX3_stakesTimesWeights 17 = .ok (.getfield 31, 3) := by decide +kernel
theorem dX3_stakesTimesWeights_20 : decode cX3_stakesTimesWeights 20 = .ok (.iload_n 2, 1) := by decide +kernel
theorem dX3_stakesTimesWeights_21 : decode cX3_stakesTimesWeights 21 = .ok (.iaload, 1) := by decide +kernel
theorem dX3_stakesTimesWeights_22 : decode cX3_stakesTimesWeights 22 = .ok (.aload_n 0, 1) := by decide +kernel
theorem dX3_stakesTimesWeights_23 : decode cX3_stakesTimesWeights 23 = .ok (.getfield 28, 3) := by decide +kernel
theorem dX3_stakesTimesWeights_26 : decode cX3_stakesTimesWeights 26 = .ok (.iload_n 2, 1) := by decide +kernel
theorem dX3_stakesTimesWeights_27 : decode cX3_stakesTimesWeights 27 = .ok (.iaload, 1) := by decide +kernel
theorem dX3_stakesTimesWeights_28 : decode cX3_stakesTimesWeights 28 = .ok (.imul, 1) := by decide +kernel
theorem dX3_stakesTimesWeights_29 : decode cX3_stakesTimesWeights 29 = .ok (.iadd, 1) := by decide +kernel
theorem dX3_stakesTimesWeights_30 : decode cX3_stakesTimesWeights 30 = .ok (.istore_n 1, 1) := by decide +kernel
theorem dX3_stakesTimesWeights_31 : decode cX3_stakesTimesWeights 31 = .ok (.iinc 2 1, 3) := by decide +kernel
theorem dX3_stakesTimesWeights_34 : decode cX3_stakesTimesWeights 34 = .ok (.goto (-30), 3) := by decide +kernel
theorem dX3_stakesTimesWeights_37 : decode cX3_stakesTimesWeights 37 = .ok (.iload_n 1, 1) := by decide +kernel
theorem dX3_stakesTimesWeights_38 : decode cX3_stakesTimesWeights 38 = .ok (.ireturn, 1) := by decide +kernel
theorem dX3_isFulfilledBy_0 : decode cX3_isFulfilledBy 0 = .ok (.iconst 0, 1) := by decide +kernel
theorem dX3_isFulfilledBy_1 : decode cX3_isFulfilledBy 1 = .ok (.istore_n 2, 1) := by decide +kernel
theorem dX3_isFulfilledBy_2 : decode cX3_isFulfilledBy 2 = .ok (.iload_n 2, 1) := by decide +kernel
theorem dX3_isFulfilledBy_3 : decode cX3_isFulfilledBy 3 = .ok (.aload_n 0, 1) := by decide +kernel
theorem dX3_isFulfilledBy_4 : decode cX3_isFulfilledBy 4 = .ok (.getfield 15, 3) := by decide +kernel
theorem dX3_isFulfilledBy_7 : decode cX3_isFulfilledBy 7 = .ok (.if_icmp .ge 44, 3) := by decide +kernel
theorem dX3_isFulfilledBy_10 : decode cX3_isFulfilledBy 10 = .ok (.aload_n 0, 1) := by decide +kernel
theorem dX3_isFulfilledBy_11 : decode cX3_isFulfilledBy 11 = .ok (.getfield 25, 3) := by decide +kernel
theorem dX3_isFulfilledBy_14 : decode cX3_isFulfilledBy 14 = .ok (.iload_n 2, 1) := by decide +kernel
theorem dX3_isFulfilledBy_15 : decode cX3_isFulfilledBy 15 = .ok (.iaload, 1) := by decide +kernel
theorem dX3_isFulfilledBy_16 : decode cX3_isFulfilledBy 16 = .ok (.bipush (-4), 2) := by decide +kernel
theorem dX3_isFulfilledBy_18 : decode cX3_isFulfilledBy 18 = .ok (.if_icmp .eq 27, 3) := by decide +kernel
theorem dX3_isFulfilledBy_21 : decode cX3_isFulfilledBy 21 = .ok (.iload_n 1, 1) := by decide +kernel
theorem dX3_isFulfilledBy_22 : decode cX3_isFulfilledBy 22 = .ok (.aload_n 0, 1) := by decide +kernel
theorem dX3_isFulfilledBy_23 : decode cX3_isFulfilledBy 23 = .ok (.getfield 21, 3) := by decide +kernel
theorem dX3_isFulfilledBy_26 : decode cX3_isFulfilledBy 26 = .ok (.iload_n 2, 1) := by decide +kernel
theorem dX3_isFulfilledBy_27 : decode cX3_isFulfilledBy 27 = .ok (.iaload, 1) := by decide +kernel
theorem dX3_isFulfilledBy_28 : decode cX3_isFulfilledBy 28 = .ok (.iand, 1) := by decide +kernel
theorem dX3_isFulfilledBy_29 : decode cX3_isFulfilledBy 29 = .ok (.invokestatic 55, 3) := by decide +kernel
theorem dX3_isFulfilledBy_32 : decode cX3_isFulfilledBy 32 = .ok (.iconst 1, 1) := by decide +kernel
theorem dX3_isFulfilledBy_33 : decode cX3_isFulfilledBy 33 = .ok (.iand, 1) := by decide +kernel
theorem dX3_isFulfilledBy_34 : decode cX3_isFulfilledBy 34 = .ok (.aload_n 0, 1) := by decide +kernel
theorem dX3_isFulfilledBy_35 : decode cX3_isFulfilledBy 35 = .ok (.getfield 25, 3) := by decide +kernel
theorem dX3_isFulfilledBy_38 : decode cX3_isFulfilledBy 38 = .ok (.iload_n 2, 1) := by decide +kernel
theorem dX3_isFulfilledBy_39 : decode cX3_isFulfilledBy 39 = .ok (.iaload, 1) := by decide +kernel
theorem dX3_isFulfilledBy_40 : decode cX3_isFulfilledBy 40 = .ok (.if_icmp .eq 5, 3) := by decide +kernel
theorem dX3_isFulfilledBy_43 : decode cX3_isFulfilledBy 43 = .ok (.iconst 0, 1) := by decide +kernel
theorem dX3_isFulfilledBy_44 : decode cX3_isFulfilledBy 44 = .ok (.ireturn, 1) := by decide +kernel
theorem dX3_isFulfilledBy_45 : decode cX3_isFulfilledBy 45 = .ok (.iinc 2 1, 3) := by decide +kernel
theorem dX3_isFulfilledBy_48 : decode cX3_isFulfilledBy 48 = .ok (.goto (-46), 3) := by decide +kernel
theorem dX3_isFulfilledBy_51 : decode cX3_isFulfilledBy 51 = .ok (.iconst 1, 1) := by decide +kernel
theorem dX3_isFulfilledBy_52 : decode cX3_isFulfilledBy 52 = .ok (.ireturn, 1) := by decide +kernel
theorem dX3_isProof_0 : decode cX3_isProof 0 = .ok (.iconst 0, 1) := by decide +kernel
theorem dX3_isProof_1 : decode cX3_isProof 1 = .ok (.istore_n 2, 1) := by decide +kernel
theorem dX3_isProof_2 : decode cX3_isProof 2 = .ok (.iconst 0, 1) := by decide +kernel
theorem dX3_isProof_3 : decode cX3_isProof 3 = .ok (.istore_n 3, 1) := by decide +kernel
theorem dX3_isProof_4 : decode cX3_isProof 4 = .ok (.iconst 0, 1) := by decide +kernel
theorem dX3_isProof_5 : decode cX3_isProof 5 = .ok (.istore 4, 2) := by decide +kernel
theorem dX3_isProof_7 : decode cX3_isProof 7 = .ok (.iload 4, 2) := by decide +kernel
theorem dX3_isProof_9 : decode cX3_isProof 9 = .ok (.aload_n 0, 1) := by decide +kernel
theorem dX3_isProof_10 : decode cX3_isProof 10 = .ok (.getfield 15, 3) := by decide +kernel
theorem dX3_isProof_13 : decode cX3_isProof 13 = .ok (.if_icmp .ge 53, 3) := by decide +kernel
theorem dX3_isProof_16 : decode cX3_isProof 16 = .ok (.iload_n 1, 1) := by decide +kernel
theorem dX3_isProof_17 : decode cX3_isProof 17 = .ok (.iload 4, 2) := by decide +kernel
theorem dX3_isProof_19 : decode cX3_isProof 19 = .ok (.ishr, 1) := by decide +kernel
theorem dX3_isProof_20 : decode cX3_isProof 20 = .ok (.iconst 1, 1) := by decide +kernel
theorem dX3_isProof_21 : decode cX3_isProof 21 = .ok (.iand, 1) := by decide +kernel
theorem dX3_isProof_22 : decode cX3_isProof 22 = .ok (.iconst 1, 1) := by decide +kernel
theorem dX3_isProof_23 : decode cX3_isProof 23 = .ok (.if_icmp .ne 37, 3) := by decide +kernel
theorem dX3_isProof_26 : decode cX3_isProof 26 = .ok (.aload_n 0, 1) := by decide +kernel
theorem dX3_isProof_27 : decode cX3_isProof 27 = .ok (.getfield 25, 3) := by decide +kernel
theorem dX3_isProof_30 : decode cX3_isProof 30 = .ok (.iload 4, 2) := by decide +kernel
theorem dX3_isProof_32 : decode cX3_isProof 32 = .ok (.iaload, 1) := by decide +kernel
theorem dX3_isProof_33 : decode cX3_isProof 33 = .ok (.bipush (-4), 2) := by decide +kernel
theorem dX3_isProof_35 : decode cX3_isProof 35 = .ok (.if_icmp .ne 5, 3) := by decide +kernel
theorem dX3_isProof_38 : decode cX3_isProof 38 = .ok (.iconst 0, 1) := by decide +kernel
theorem dX3_isProof_39 : decode cX3_isProof 39 = .ok (.ireturn, 1) := by decide +kernel
theorem dX3_isProof_40 : decode cX3_isProof 40 = .ok (.iload_n 2, 1) := by decide +kernel
theorem dX3_isProof_41 : decode cX3_isProof 41 = .ok (.aload_n 0, 1) := by decide +kernel
theorem dX3_isProof_42 : decode cX3_isProof 42 = .ok (.getfield 21, 3) := by decide +kernel
theorem dX3_isProof_45 : decode cX3_isProof 45 = .ok (.iload 4, 2) := by decide +kernel
theorem dX3_isProof_47 : decode cX3_isProof 47 = .ok (.iaload, 1) := by decide +kernel
theorem dX3_isProof_48 : decode cX3_isProof 48 = .ok (.ixor, 1) := by decide +kernel
theorem dX3_isProof_49 : decode cX3_isProof 49 = .ok (.istore_n 2, 1) := by decide +kernel
theorem dX3_isProof_50 : decode cX3_isProof 50 = .ok (.iload_n 3, 1) := by decide +kernel
theorem dX3_isProof_51 : decode cX3_isProof 51 = .ok (.aload_n 0, 1) := by decide +kernel
theorem dX3_isProof_52 : decode cX3_isProof 52 = .ok (.getfield 25, 3) := by decide +kernel
theorem dX3_isProof_55 : decode cX3_isProof 55 = .ok (.iload 4, 2) := by decide +kernel
theorem dX3_isProof_57 : decode cX3_isProof 57 = .ok (.iaload, 1) := by decide +kernel
theorem dX3_isProof_58 : decode cX3_isProof 58 = .ok (.iadd, 1) := by decide +kernel
theorem dX3_isProof_59 : decode cX3_isProof 59 = .ok (.istore_n 3, 1) := by decide +kernel
theorem dX3_isProof_60 : decode cX3_isProof 60 = .ok (.iinc 4 1, 3) := by decide +kernel
theorem dX3_isProof_63 : decode cX3_isProof 63 = .ok (.goto (-56), 3) := by decide +kernel
theorem dX3_isProof_66 : decode cX3_isProof 66 = .ok (.iload_n 2, 1) := by decide +kernel
theorem dX3_isProof_67 : decode cX3_isProof 67 = .ok (.ifCond .ne 14, 3) := by decide +kernel
theorem dX3_isProof_70 : decode cX3_isProof 70 = .ok (.iload_n 3, 1) := by decide +kernel
theorem dX3_isProof_71 : decode cX3_isProof 71 = .ok (.iconst 1, 1) := by decide +kernel
theorem dX3_isProof_72 : decode cX3_isProof 72 = .ok (.iand, 1) := by decide +kernel
theorem dX3_isProof_73 : decode cX3_isProof 73 = .ok (.iconst 1, 1) := by decide +kernel
theorem dX3_isProof_74 : decode cX3_isProof 74 = .ok (.if_icmp .ne 7, 3) := by decide +kernel
theorem dX3_isProof_77 : decode cX3_isProof 77 = .ok (.iconst 1, 1) := by decide +kernel
theorem dX3_isProof_78 : decode cX3_isProof 78 = .ok (.goto 4, 3) := by decide +kernel
theorem dX3_isProof_81 : decode cX3_isProof 81 = .ok (.iconst 0, 1) := by decide +kernel
theorem dX3_isProof_82 : decode cX3_isProof 82 = .ok (.ireturn, 1) := by decide +kernel
