theorem dX4_init_0 : decode cX4_init 0 = .ok (.aload_n 0, 1) := by decide +kernel
theorem dX4_init_1 : decode cX4_init 1 = .ok (.invokespecial 1, 3) := by decide +kernel
theorem dX4_init_4 : decode cX4_init 4 = .ok (.aload_n 0, 1) := by decide +kernel
theorem dX4_init_5 : decode cX4_init 5 = .ok (.new 7, 3) := by decide +kernel
theorem dX4_init_8 : decode cX4_init 8 = .ok (.dup, 1) := by decide +kernel
theorem dX4_init_9 : decode cX4_init 9 = .ok (.invokespecial 9, 3) := by decide +kernel
theorem dX4_init_12 : decode cX4_init 12 = .ok (.putfield 10, 3) := by decide +kernel
theorem dX4_init_15 : decode cX4_init 15 = .ok (.aload_n 0, 1) := by decide +kernel
theorem dX4_init_16 : decode cX4_init 16 = .ok (.new 16, 3) := by decide +kernel
theorem dX4_init_19 : decode cX4_init 19 = .ok (.dup, 1) := by decide +kernel
theorem dX4_init_20 : decode cX4_init 20 = .ok (.invokespecial 18, 3) := by decide +kernel
theorem dX4_init_23 : decode cX4_init 23 = .ok (.putfield 19, 3) := by decide +kernel
theorem dX4_init_26 : decode cX4_init 26 = .ok (.aload_n 0, 1) := by decide +kernel
theorem dX4_init_27 : decode cX4_init 27 = .ok (.new 23, 3) := by decide +kernel
theorem dX4_init_30 : decode cX4_init 30 = .ok (.dup, 1) := by decide +kernel
theorem dX4_init_31 : decode cX4_init 31 = .ok (.invokespecial 25, 3) := by decide +kernel
theorem dX4_init_34 : decode cX4_init 34 = .ok (.putfield 26, 3) := by decide +kernel
theorem dX4_init_37 : decode cX4_init 37 = .ok (.aload_n 0, 1) := by decide +kernel
theorem dX4_init_38 : decode cX4_init 38 = .ok (.iconst 4, 1) := by decide +kernel
theorem dX4_init_39 : decode cX4_init 39 = .ok (.anewarray 30, 3) := by decide +kernel
theorem dX4_init_42 : decode cX4_init 42 = .ok (.putfield 32, 3) := by decide +kernel
theorem dX4_init_45 : decode cX4_init 45 = .ok (.iconst 0, 1) := by decide +kernel
theorem dX4_init_46 : decode cX4_init 46 = .ok (.istore_n 1, 1) := by decide +kernel
theorem dX4_init_47 : decode cX4_init 47 = .ok (.iload_n 1, 1) := by decide +kernel
theorem dX4_init_48 : decode cX4_init 48 = .ok (.iconst 4, 1) := by decide +kernel
theorem dX4_init_49 : decode cX4_init 49 = .ok (.if_icmp .ge 22, 3) := by decide +kernel
theorem dX4_init_52 : decode cX4_init 52 = .ok (.aload_n 0, 1) := by decide +kernel
theorem dX4_init_53 : decode cX4_init 53 = .ok (.getfield 32, 3) := by decide +kernel
theorem dX4_init_56 : decode cX4_init 56 = .ok (.iload_n 1, 1) := by decide +kernel
theorem dX4_init_57 : decode cX4_init 57 = .ok (.new 30, 3) := by decide +kernel
theorem dX4_init_60 : decode cX4_init 60 = .ok (.dup, 1) := by decide +kernel
theorem dX4_init_61 : decode cX4_init 61 = .ok (.invokespecial 36, 3) := by decide +kernel
theorem dX4_init_64 : decode cX4_init 64 = .ok (.aastore, 1) := by decide +kernel
theorem dX4_init_65 : decode cX4_init 65 = .ok (.iinc 1 1, 3) := by decide +kernel
theorem dX4_init_68 : decode cX4_init 68 = .ok (.goto (-21), 3) := by decide +kernel
theorem dX4_init_71 : decode cX4_init 71 = .ok (.return_, 1) := by decide +kernel
theorem dX4_looks_0 : decode cX4_looks 0 = .ok (.iload_n 1, 1) := by decide +kernel
theorem dX4_looks_1 : decode cX4_looks 1 = .ok (.iconst 1, 1) := by decide +kernel
theorem dX4_looks_2 : decode cX4_looks 2 = .ok (.if_icmp .lt 9, 3) := by decide +kernel
theorem dX4_looks_5 : decode cX4_looks 5 = .ok (.iload_n 1, 1) := by decide +kernel
theorem dX4_looks_6 : decode cX4_looks 6 = .ok (.bipush 6, 2) := by decide +kernel
theorem dX4_looks_8 : decode cX4_looks 8 = .ok (.if_icmp .le 5, 3) := by decide +kernel
theorem dX4_looks_11 : decode cX4_looks 11 = .ok (.iconst (-1), 1) := by decide +kernel
theorem dX4_looks_12 : decode cX4_looks 12 = .ok (.ireturn, 1) := by decide +kernel
theorem dX4_looks_13 : decode cX4_looks 13 = .ok (.aload_n 0, 1) := by decide +kernel
theorem dX4_looks_14 : decode cX4_looks 14 = .ok (.getfield 10, 3) := by decide +kernel
theorem dX4_looks_17 : decode cX4_looks 17 = .ok (.getfield 37, 3) := by decide +kernel
theorem dX4_looks_20 : decode cX4_looks 20 = .ok (.istore_n 2, 1) := by decide +kernel
theorem dX4_looks_21 : decode cX4_looks 21 = .ok (.aload_n 0, 1) := by decide +kernel
theorem dX4_looks_22 : decode cX4_looks 22 = .ok (.getfield 10, 3) := by decide +kernel
theorem dX4_looks_25 : decode cX4_looks 25 = .ok (.iload_n 1, 1) := by decide +kernel
theorem dX4_looks_26 : decode cX4_looks 26 = .ok (.invokevirtual 41, 3) := by decide +kernel
theorem dX4_looks_29 : decode cX4_looks 29 = .ok (.iload_n 2, 1) := by decide +kernel
theorem dX4_looks_30 : decode cX4_looks 30 = .ok (.ireturn, 1) := by decide +kernel
theorem dX4_put_0 : decode cX4_put 0 = .ok (.iload_n 1, 1) := by decide +kernel
theorem dX4_put_1 : decode cX4_put 1 = .ok (.iconst 1, 1) := by decide +kernel
theorem dX4_put_2 : decode cX4_put 2 = .ok (.if_icmp .lt 22, 3) := by decide +kernel
theorem dX4_put_5 : decode cX4_put 5 = .ok (.iload_n 1, 1) := by decide +kernel
theorem dX4_put_6 : decode cX4_put 6 = .ok (.aload_n 0, 1) := by decide +kernel
theorem dX4_put_7 : decode cX4_put 7 = .ok (.getfield 10, 3) := by decide +kernel
theorem dX4_put_10 : decode cX4_put 10 = .ok (.invokevirtual 45, 3) := by decide +kernel
theorem dX4_put_13 : decode cX4_put 13 = .ok (.if_icmp .ge 11, 3) := by decide +kernel
theorem dX4_put_16 : decode cX4_put 16 = .ok (.iload_n 1, 1) := by decide +kernel
theorem dX4_put_17 : decode cX4_put 17 = .ok (.invokestatic 49, 3) := by decide +kernel
theorem dX4_put_20 : decode cX4_put 20 = .ok (.iconst 3, 1) := by decide +kernel
theorem dX4_put_21 : decode cX4_put 21 = .ok (.if_icmp .le 5, 3) := by decide +kernel
theorem dX4_put_24 : decode cX4_put 24 = .ok (.iconst (-1), 1) := by decide +kernel
theorem dX4_put_25 : decode cX4_put 25 = .ok (.ireturn, 1) := by decide +kernel
theorem dX4_put_26 : decode cX4_put 26 = .ok (.aload_n 0, 1) := by decide +kernel
theorem dX4_put_27 : decode cX4_put 27 = .ok (.getfield 10, 3) := by decide +kernel
theorem dX4_put_30 : decode cX4_put 30 = .ok (.iload_n 1, 1) := by decide +kernel
theorem dX4_put_31 : decode cX4_put 31 = .ok (.invokevirtual 55, 3) := by decide +kernel
theorem dX4_put_34 : decode cX4_put 34 = .ok (.ifCond .eq 6, 3) := by decide +kernel
theorem dX4_put_37 : decode cX4_put 37 = .ok (.bipush (-2), 2) := by decide +kernel
theorem dX4_put_39 : decode cX4_put 39 = .ok (.ireturn, 1) := by decide +kernel
theorem dX4_put_40 : decode cX4_put 40 = .ok (.aload_n 0, 1) := by decide +kernel
theorem dX4_put_41 : decode cX4_put 41 = .ok (.getfield 10, 3) := by decide +kernel
theorem dX4_put_44 : decode cX4_put 44 = .ok (.getfield 59, 3) := by decide +kernel
theorem dX4_put_47 : decode cX4_put 47 = .ok (.bipush 8, 2) := by decide +kernel
theorem dX4_put_49 : decode cX4_put 49 = .ok (.if_icmp .lt 8, 3) := by decide +kernel
theorem dX4_put_52 : decode cX4_put 52 = .ok (.bipush (-3), 2) := by decide +kernel
theorem dX4_put_54 : decode cX4_put 54 = .ok (.goto 11, 3) := by decide +kernel
theorem dX4_put_57 : decode cX4_put 57 = .ok (.aload_n 0, 1) := by decide +kernel
theorem dX4_put_58 : decode cX4_put 58 = .ok (.getfield 10, 3) := by decide +kernel
theorem dX4_put_61 : decode cX4_put 61 = .ok (.iload_n 1, 1) := by decide +kernel
theorem dX4_put_62 : decode cX4_put 62 = .ok (.invokevirtual 62, 3) := by decide +kernel
theorem dX4_put_65 : decode cX4_put 65 = .ok (.ireturn, 1) := by decide +kernel
theorem dX4_drop_0 : decode cX4_drop 0 = .ok (.aload_n 0, 1) := by decide +kernel
theorem dX4_drop_1 : decode cX4_drop 1 = .ok (.getfield 10, 3) := by decide +kernel
theorem dX4_drop_4 : decode cX4_drop 4 = .ok (.getfield 59, 3) := by decide +kernel
theorem dX4_drop_7 : decode cX4_drop 7 = .ok (.ifCond .ne 8, 3) := by decide +kernel
theorem dX4_drop_10 : decode cX4_drop 10 = .ok (.bipush (-4), 2) := by decide +kernel
theorem dX4_drop_12 : decode cX4_drop 12 = .ok (.goto 10, 3) := by decide +kernel
theorem dX4_drop_15 : decode cX4_drop 15 = .ok (.aload_n 0, 1) := by decide +kernel
theorem dX4_drop_16 : decode cX4_drop 16 = .ok (.getfield 10, 3) := by decide +kernel
theorem dX4_drop_19 : decode cX4_drop 19 = .ok (.invokevirtual 65, 3) := by decide +kernel
theorem dX4_drop_22 : decode cX4_drop 22 = .ok (.ireturn, 1) := by decide +kernel
theorem dX4_told_0 : decode cX4_told 0 = .ok (.aload_n 0, 1) := by decide +kernel
theorem dX4_told_1 : decode cX4_told 1 = .ok (.getfield 10, 3) := by decide +kernel
theorem dX4_told_4 : decode cX4_told 4 = .ok (.iload_n 1, 1) := by decide +kernel
theorem dX4_told_5 : decode cX4_told 5 = .ok (.invokevirtual 68, 3) := by decide +kernel
theorem dX4_told_8 : decode cX4_told 8 = .ok (.ifCond .ne 5, 3) := by decide +kernel
theorem dX4_told_11 : decode cX4_told 11 = .ok (.iconst (-1), 1) := by decide +kernel
theorem dX4_told_12 : decode cX4_told 12 = .ok (.ireturn, 1) := by decide +kernel
theorem dX4_told_13 : decode cX4_told 13 = .ok (.iload_n 2, 1) := by decide +kernel
theorem dX4_told_14 : decode cX4_told 14 = .ok (.tableswitch 72 0 3 #[30, 40, 53, 62], 30) := by decide +kernel
theorem dX4_told_44 : decode cX4_told 44 = .ok (.aload_n 0, 1) := by decide +kernel
theorem dX4_told_45 : decode cX4_told 45 = .ok (.getfield 10, 3) := by decide +kernel
theorem dX4_told_48 : decode cX4_told 48 = .ok (.getfield 71, 3) := by decide +kernel
theorem dX4_told_51 : decode cX4_told 51 = .ok (.iload_n 1, 1) := by decide +kernel
theorem dX4_told_52 : decode cX4_told 52 = .ok (.iaload, 1) := by decide +kernel
theorem dX4_told_53 : decode cX4_told 53 = .ok (.ireturn, 1) := by decide +kernel
theorem dX4_told_54 : decode cX4_told 54 = .ok (.aload_n 0, 1) := by decide +kernel
theorem dX4_told_55 : decode cX4_told 55 = .ok (.getfield 10, 3) := by decide +kernel
theorem dX4_told_58 : decode cX4_told 58 = .ok (.getfield 71, 3) := by decide +kernel
theorem dX4_told_61 : decode cX4_told 61 = .ok (.iload_n 1, 1) := by decide +kernel
theorem dX4_told_62 : decode cX4_told 62 = .ok (.iaload, 1) := by decide +kernel
theorem dX4_told_63 : decode cX4_told 63 = .ok (.invokestatic 49, 3) := by decide +kernel
theorem dX4_told_66 : decode cX4_told 66 = .ok (.ireturn, 1) := by decide +kernel
theorem dX4_told_67 : decode cX4_told 67 = .ok (.aload_n 0, 1) := by decide +kernel
theorem dX4_told_68 : decode cX4_told 68 = .ok (.getfield 10, 3) := by decide +kernel
theorem dX4_told_71 : decode cX4_told 71 = .ok (.iload_n 1, 1) := by decide +kernel
theorem dX4_told_72 : decode cX4_told 72 = .ok (.invokevirtual 75, 3) := by decide +kernel
theorem dX4_told_75 : decode cX4_told 75 = .ok (.ireturn, 1) := by decide +kernel
theorem dX4_told_76 : decode cX4_told 76 = .ok (.aload_n 0, 1) := by decide +kernel
theorem dX4_told_77 : decode cX4_told 77 = .ok (.getfield 10, 3) := by decide +kernel
theorem dX4_told_80 : decode cX4_told 80 = .ok (.getfield 78, 3) := by decide +kernel
theorem dX4_told_83 : decode cX4_told 83 = .ok (.iload_n 1, 1) := by decide +kernel
theorem dX4_told_84 : decode cX4_told 84 = .ok (.iaload, 1) := by decide +kernel
theorem dX4_told_85 : decode cX4_told 85 = .ok (.ireturn, 1) := by decide +kernel
theorem dX4_told_86 : decode cX4_told 86 = .ok (.iconst (-1), 1) := by decide +kernel
theorem dX4_told_87 : decode cX4_told 87 = .ok (.ireturn, 1) := by decide +kernel
theorem dX4_weight_0 : decode cX4_weight 0 = .ok (.aload_n 0, 1) := by decide +kernel
theorem dX4_weight_1 : decode cX4_weight 1 = .ok (.getfield 10, 3) := by decide +kernel
theorem dX4_weight_4 : decode cX4_weight 4 = .ok (.iload_n 1, 1) := by decide +kernel
theorem dX4_weight_5 : decode cX4_weight 5 = .ok (.iload_n 2, 1) := by decide +kernel
theorem dX4_weight_6 : decode cX4_weight 6 = .ok (.invokevirtual 81, 3) := by decide +kernel
theorem dX4_weight_9 : decode cX4_weight 9 = .ok (.ifCond .eq 10, 3) := by decide +kernel
theorem dX4_weight_12 : decode cX4_weight 12 = .ok (.iload_n 3, 1) := by decide +kernel
theorem dX4_weight_13 : decode cX4_weight 13 = .ok (.invokestatic 85, 3) := by decide +kernel
theorem dX4_weight_16 : decode cX4_weight 16 = .ok (.ifCond .ne 5, 3) := by decide +kernel
theorem dX4_weight_19 : decode cX4_weight 19 = .ok (.iconst (-1), 1) := by decide +kernel
theorem dX4_weight_20 : decode cX4_weight 20 = .ok (.ireturn, 1) := by decide +kernel
theorem dX4_weight_21 : decode cX4_weight 21 = .ok (.bipush 8, 2) := by decide +kernel
theorem dX4_weight_23 : decode cX4_weight 23 = .ok (.iload_n 1, 1) := by decide +kernel
theorem dX4_weight_24 : decode cX4_weight 24 = .ok (.imul, 1) := by decide +kernel
theorem dX4_weight_25 : decode cX4_weight 25 = .ok (.iload_n 2, 1) := by decide +kernel
theorem dX4_weight_26 : decode cX4_weight 26 = .ok (.iadd, 1) := by decide +kernel
theorem dX4_weight_27 : decode cX4_weight 27 = .ok (.istore 4, 2) := by decide +kernel
theorem dX4_weight_29 : decode cX4_weight 29 = .ok (.aload_n 0, 1) := by decide +kernel
theorem dX4_weight_30 : decode cX4_weight 30 = .ok (.getfield 10, 3) := by decide +kernel
theorem dX4_weight_33 : decode cX4_weight 33 = .ok (.getfield 88, 3) := by decide +kernel
theorem dX4_weight_36 : decode cX4_weight 36 = .ok (.iload 4, 2) := by decide +kernel
theorem dX4_weight_38 : decode cX4_weight 38 = .ok (.iaload, 1) := by decide +kernel
theorem dX4_weight_39 : decode cX4_weight 39 = .ok (.istore 5, 2) := by decide +kernel
theorem dX4_weight_41 : decode cX4_weight 41 = .ok (.aload_n 0, 1) := by decide +kernel
theorem dX4_weight_42 : decode cX4_weight 42 = .ok (.getfield 10, 3) := by decide +kernel
theorem dX4_weight_45 : decode cX4_weight 45 = .ok (.iload 4, 2) := by decide +kernel
theorem dX4_weight_47 : decode cX4_weight 47 = .ok (.iload_n 3, 1) := by decide +kernel
theorem dX4_weight_48 : decode cX4_weight 48 = .ok (.invokevirtual 91, 3) := by decide +kernel
theorem dX4_weight_51 : decode cX4_weight 51 = .ok (.iload 5, 2) := by decide +kernel
theorem dX4_weight_53 : decode cX4_weight 53 = .ok (.ireturn, 1) := by decide +kernel
theorem dX4_stake_0 : decode cX4_stake 0 = .ok (.aload_n 0, 1) := by decide +kernel
theorem dX4_stake_1 : decode cX4_stake 1 = .ok (.getfield 10, 3) := by decide +kernel
theorem dX4_stake_4 : decode cX4_stake 4 = .ok (.iload_n 1, 1) := by decide +kernel
theorem dX4_stake_5 : decode cX4_stake 5 = .ok (.iload_n 2, 1) := by decide +kernel
theorem dX4_stake_6 : decode cX4_stake 6 = .ok (.invokevirtual 81, 3) := by decide +kernel
theorem dX4_stake_9 : decode cX4_stake 9 = .ok (.ifCond .eq 10, 3) := by decide +kernel
theorem dX4_stake_12 : decode cX4_stake 12 = .ok (.iload_n 3, 1) := by decide +kernel
theorem dX4_stake_13 : decode cX4_stake 13 = .ok (.invokestatic 95, 3) := by decide +kernel
theorem dX4_stake_16 : decode cX4_stake 16 = .ok (.ifCond .ne 7, 3) := by decide +kernel
theorem dX4_stake_19 : decode cX4_stake 19 = .ok (.sipush (-1000), 3) := by decide +kernel
theorem dX4_stake_22 : decode cX4_stake 22 = .ok (.ireturn, 1) := by decide +kernel
theorem dX4_stake_23 : decode cX4_stake 23 = .ok (.bipush 8, 2) := by decide +kernel
theorem dX4_stake_25 : decode cX4_stake 25 = .ok (.iload_n 1, 1) := by decide +kernel
theorem dX4_stake_26 : decode cX4_stake 26 = .ok (.imul, 1) := by decide +kernel
theorem dX4_stake_27 : decode cX4_stake 27 = .ok (.iload_n 2, 1) := by decide +kernel
theorem dX4_stake_28 : decode cX4_stake 28 = .ok (.iadd, 1) := by decide +kernel
theorem dX4_stake_29 : decode cX4_stake 29 = .ok (.istore 4, 2) := by decide +kernel
theorem dX4_stake_31 : decode cX4_stake 31 = .ok (.aload_n 0, 1) := by decide +kernel
theorem dX4_stake_32 : decode cX4_stake 32 = .ok (.getfield 10, 3) := by decide +kernel
theorem dX4_stake_35 : decode cX4_stake 35 = .ok (.getfield 98, 3) := by decide +kernel
theorem dX4_stake_38 : decode cX4_stake 38 = .ok (.iload 4, 2) := by decide +kernel
theorem dX4_stake_40 : decode cX4_stake 40 = .ok (.iaload, 1) := by decide +kernel
theorem dX4_stake_41 : decode cX4_stake 41 = .ok (.istore 5, 2) := by decide +kernel
theorem dX4_stake_43 : decode cX4_stake 43 = .ok (.aload_n 0, 1) := by decide +kernel
theorem dX4_stake_44 : decode cX4_stake 44 = .ok (.getfield 10, 3) := by decide +kernel
theorem dX4_stake_47 : decode cX4_stake 47 = .ok (.getfield 98, 3) := by decide +kernel
theorem dX4_stake_50 : decode cX4_stake 50 = .ok (.iload 4, 2) := by decide +kernel
theorem dX4_stake_52 : decode cX4_stake 52 = .ok (.iload_n 3, 1) := by decide +kernel
theorem dX4_stake_53 : decode cX4_stake 53 = .ok (.iastore, 1) := by decide +kernel
theorem dX4_stake_54 : decode cX4_stake 54 = .ok (.iload 5, 2) := by decide +kernel
theorem dX4_stake_56 : decode cX4_stake 56 = .ok (.ireturn, 1) := by decide +kernel
theorem dX4_parity_0 : decode cX4_parity 0 = .ok (.aload_n 0, 1) := by decide +kernel
theorem dX4_parity_1 : decode cX4_parity 1 = .ok (.getfield 10, 3) := by decide +kernel
theorem dX4_parity_4 : decode cX4_parity 4 = .ok (.iload_n 1, 1) := by decide +kernel
theorem dX4_parity_5 : decode cX4_parity 5 = .ok (.invokevirtual 68, 3) := by decide +kernel
theorem dX4_parity_8 : decode cX4_parity 8 = .ok (.ifCond .eq 18, 3) := by decide +kernel
theorem dX4_parity_11 : decode cX4_parity 11 = .ok (.iload_n 2, 1) := by decide +kernel
theorem dX4_parity_12 : decode cX4_parity 12 = .ok (.ifCond .eq 16, 3) := by decide +kernel
theorem dX4_parity_15 : decode cX4_parity 15 = .ok (.iload_n 2, 1) := by decide +kernel
theorem dX4_parity_16 : decode cX4_parity 16 = .ok (.iconst 1, 1) := by decide +kernel
theorem dX4_parity_17 : decode cX4_parity 17 = .ok (.if_icmp .eq 11, 3) := by decide +kernel
theorem dX4_parity_20 : decode cX4_parity 20 = .ok (.iload_n 2, 1) := by decide +kernel
theorem dX4_parity_21 : decode cX4_parity 21 = .ok (.bipush (-4), 2) := by decide +kernel
theorem dX4_parity_23 : decode cX4_parity 23 = .ok (.if_icmp .eq 5, 3) := by decide +kernel
theorem dX4_parity_26 : decode cX4_parity 26 = .ok (.iconst (-1), 1) := by decide +kernel
theorem dX4_parity_27 : decode cX4_parity 27 = .ok (.ireturn, 1) := by decide +kernel
theorem dX4_parity_28 : decode cX4_parity 28 = .ok (.aload_n 0, 1) := by decide +kernel
theorem dX4_parity_29 : decode cX4_parity 29 = .ok (.getfield 10, 3) := by decide +kernel
theorem dX4_parity_32 : decode cX4_parity 32 = .ok (.getfield 78, 3) := by decide +kernel
theorem dX4_parity_35 : decode cX4_parity 35 = .ok (.iload_n 1, 1) := by decide +kernel
theorem dX4_parity_36 : decode cX4_parity 36 = .ok (.iaload, 1) := by decide +kernel
theorem dX4_parity_37 : decode cX4_parity 37 = .ok (.istore_n 3, 1) := by decide +kernel
theorem dX4_parity_38 : decode cX4_parity 38 = .ok (.aload_n 0, 1) := by decide +kernel
theorem dX4_parity_39 : decode cX4_parity 39 = .ok (.getfield 10, 3) := by decide +kernel
theorem dX4_parity_42 : decode cX4_parity 42 = .ok (.getfield 78, 3) := by decide +kernel
theorem dX4_parity_45 : decode cX4_parity 45 = .ok (.iload_n 1, 1) := by decide +kernel
theorem dX4_parity_46 : decode cX4_parity 46 = .ok (.iload_n 2, 1) := by decide +kernel
theorem dX4_parity_47 : decode cX4_parity 47 = .ok (.iastore, 1) := by decide +kernel
theorem dX4_parity_48 : decode cX4_parity 48 = .ok (.iload_n 3, 1) := by decide +kernel
theorem dX4_parity_49 : decode cX4_parity 49 = .ok (.ireturn, 1) := by decide +kernel
theorem dX4_joint_0 : decode cX4_joint 0 = .ok (.aload_n 0, 1) := by decide +kernel
theorem dX4_joint_1 : decode cX4_joint 1 = .ok (.getfield 10, 3) := by decide +kernel
theorem dX4_joint_4 : decode cX4_joint 4 = .ok (.iload_n 1, 1) := by decide +kernel
theorem dX4_joint_5 : decode cX4_joint 5 = .ok (.invokevirtual 68, 3) := by decide +kernel
theorem dX4_joint_8 : decode cX4_joint 8 = .ok (.ifCond .eq 18, 3) := by decide +kernel
theorem dX4_joint_11 : decode cX4_joint 11 = .ok (.iload_n 2, 1) := by decide +kernel
theorem dX4_joint_12 : decode cX4_joint 12 = .ok (.ifCond .lt 14, 3) := by decide +kernel
theorem dX4_joint_15 : decode cX4_joint 15 = .ok (.iload_n 2, 1) := by decide +kernel
theorem dX4_joint_16 : decode cX4_joint 16 = .ok (.aload_n 0, 1) := by decide +kernel
theorem dX4_joint_17 : decode cX4_joint 17 = .ok (.getfield 10, 3) := by decide +kernel
theorem dX4_joint_20 : decode cX4_joint 20 = .ok (.invokevirtual 45, 3) := by decide +kernel
theorem dX4_joint_23 : decode cX4_joint 23 = .ok (.if_icmp .lt 5, 3) := by decide +kernel
theorem dX4_joint_26 : decode cX4_joint 26 = .ok (.iconst (-1), 1) := by decide +kernel
theorem dX4_joint_27 : decode cX4_joint 27 = .ok (.ireturn, 1) := by decide +kernel
theorem dX4_joint_28 : decode cX4_joint 28 = .ok (.aload_n 0, 1) := by decide +kernel
theorem dX4_joint_29 : decode cX4_joint 29 = .ok (.getfield 10, 3) := by decide +kernel
theorem dX4_joint_32 : decode cX4_joint 32 = .ok (.iload_n 1, 1) := by decide +kernel
theorem dX4_joint_33 : decode cX4_joint 33 = .ok (.iload_n 2, 1) := by decide +kernel
theorem dX4_joint_34 : decode cX4_joint 34 = .ok (.invokevirtual 101, 3) := by decide +kernel
theorem dX4_joint_37 : decode cX4_joint 37 = .ok (.bipush 8, 2) := by decide +kernel
theorem dX4_joint_39 : decode cX4_joint 39 = .ok (.iload_n 1, 1) := by decide +kernel
theorem dX4_joint_40 : decode cX4_joint 40 = .ok (.imul, 1) := by decide +kernel
theorem dX4_joint_41 : decode cX4_joint 41 = .ok (.isub, 1) := by decide +kernel
theorem dX4_joint_42 : decode cX4_joint 42 = .ok (.ireturn, 1) := by decide +kernel
theorem dX4_isWeight_0 : decode cX4_isWeight 0 = .ok (.iload_n 0, 1) := by decide +kernel
theorem dX4_isWeight_1 : decode cX4_isWeight 1 = .ok (.ifCond .lt 14, 3) := by decide +kernel
theorem dX4_isWeight_4 : decode cX4_isWeight 4 = .ok (.iload_n 0, 1) := by decide +kernel
theorem dX4_isWeight_5 : decode cX4_isWeight 5 = .ok (.sipush 1000, 3) := by decide +kernel
theorem dX4_isWeight_8 : decode cX4_isWeight 8 = .ok (.if_icmp .gt 7, 3) := by decide +kernel
theorem dX4_isWeight_11 : decode cX4_isWeight 11 = .ok (.iconst 1, 1) := by decide +kernel
theorem dX4_isWeight_12 : decode cX4_isWeight 12 = .ok (.goto 4, 3) := by decide +kernel
theorem dX4_isWeight_15 : decode cX4_isWeight 15 = .ok (.iconst 0, 1) := by decide +kernel
theorem dX4_isWeight_16 : decode cX4_isWeight 16 = .ok (.ireturn, 1) := by decide +kernel
theorem dX4_isStake_0 : decode cX4_isStake 0 = .ok (.iload_n 0, 1) := by decide +kernel
theorem dX4_isStake_1 : decode cX4_isStake 1 = .ok (.bipush (-100), 2) := by decide +kernel
theorem dX4_isStake_3 : decode cX4_isStake 3 = .ok (.if_icmp .lt 13, 3) := by decide +kernel
theorem dX4_isStake_6 : decode cX4_isStake 6 = .ok (.iload_n 0, 1) := by decide +kernel
theorem dX4_isStake_7 : decode cX4_isStake 7 = .ok (.bipush 100, 2) := by decide +kernel
theorem dX4_isStake_9 : decode cX4_isStake 9 = .ok (.if_icmp .gt 7, 3) := by decide +kernel
theorem dX4_isStake_12 : decode cX4_isStake 12 = .ok (.iconst 1, 1) := by decide +kernel
theorem dX4_isStake_13 : decode cX4_isStake 13 = .ok (.goto 4, 3) := by decide +kernel
theorem dX4_isStake_16 : decode cX4_isStake 16 = .ok (.iconst 0, 1) := by decide +kernel
theorem dX4_isStake_17 : decode cX4_isStake 17 = .ok (.ireturn, 1) := by decide +kernel
theorem dX4_agrees_0 : decode cX4_agrees 0 = .ok (.aload_n 0, 1) := by decide +kernel
theorem dX4_agrees_1 : decode cX4_agrees 1 = .ok (.getfield 10, 3) := by decide +kernel
theorem dX4_agrees_4 : decode cX4_agrees 4 = .ok (.getfield 59, 3) := by decide +kernel
theorem dX4_agrees_7 : decode cX4_agrees 7 = .ok (.ifCond .ne 6, 3) := by decide +kernel
theorem dX4_agrees_10 : decode cX4_agrees 10 = .ok (.bipush (-2), 2) := by decide +kernel
theorem dX4_agrees_12 : decode cX4_agrees 12 = .ok (.ireturn, 1) := by decide +kernel
theorem dX4_agrees_13 : decode cX4_agrees 13 = .ok (.aload_n 0, 1) := by decide +kernel
theorem dX4_agrees_14 : decode cX4_agrees 14 = .ok (.getfield 10, 3) := by decide +kernel
theorem dX4_agrees_17 : decode cX4_agrees 17 = .ok (.invokevirtual 105, 3) := by decide +kernel
theorem dX4_agrees_20 : decode cX4_agrees 20 = .ok (.bipush (-4), 2) := by decide +kernel
theorem dX4_agrees_22 : decode cX4_agrees 22 = .ok (.if_icmp .ne 7, 3) := by decide +kernel
theorem dX4_agrees_25 : decode cX4_agrees 25 = .ok (.iconst 1, 1) := by decide +kernel
theorem dX4_agrees_26 : decode cX4_agrees 26 = .ok (.goto 4, 3) := by decide +kernel
theorem dX4_agrees_29 : decode cX4_agrees 29 = .ok (.iconst 0, 1) := by decide +kernel
theorem dX4_agrees_30 : decode cX4_agrees 30 = .ok (.ireturn, 1) := by decide +kernel
theorem dX4_quarrel_0 : decode cX4_quarrel 0 = .ok (.aload_n 0, 1) := by decide +kernel
theorem dX4_quarrel_1 : decode cX4_quarrel 1 = .ok (.getfield 10, 3) := by decide +kernel
theorem dX4_quarrel_4 : decode cX4_quarrel 4 = .ok (.getfield 59, 3) := by decide +kernel
theorem dX4_quarrel_7 : decode cX4_quarrel 7 = .ok (.ifCond .ne 8, 3) := by decide +kernel
theorem dX4_quarrel_10 : decode cX4_quarrel 10 = .ok (.bipush (-2), 2) := by decide +kernel
theorem dX4_quarrel_12 : decode cX4_quarrel 12 = .ok (.goto 10, 3) := by decide +kernel
theorem dX4_quarrel_15 : decode cX4_quarrel 15 = .ok (.aload_n 0, 1) := by decide +kernel
theorem dX4_quarrel_16 : decode cX4_quarrel 16 = .ok (.getfield 10, 3) := by decide +kernel
theorem dX4_quarrel_19 : decode cX4_quarrel 19 = .ok (.invokevirtual 105, 3) := by decide +kernel
theorem dX4_quarrel_22 : decode cX4_quarrel 22 = .ok (.ireturn, 1) := by decide +kernel
theorem dX4_possible_0 : decode cX4_possible 0 = .ok (.iload_n 1, 1) := by decide +kernel
theorem dX4_possible_1 : decode cX4_possible 1 = .ok (.ifCond .eq 10, 3) := by decide +kernel
theorem dX4_possible_4 : decode cX4_possible 4 = .ok (.iload_n 1, 1) := by decide +kernel
theorem dX4_possible_5 : decode cX4_possible 5 = .ok (.iconst 1, 1) := by decide +kernel
theorem dX4_possible_6 : decode cX4_possible 6 = .ok (.if_icmp .eq 5, 3) := by decide +kernel
theorem dX4_possible_9 : decode cX4_possible 9 = .ok (.iconst (-1), 1) := by decide +kernel
theorem dX4_possible_10 : decode cX4_possible 10 = .ok (.ireturn, 1) := by decide +kernel
theorem dX4_possible_11 : decode cX4_possible 11 = .ok (.aload_n 0, 1) := by decide +kernel
theorem dX4_possible_12 : decode cX4_possible 12 = .ok (.getfield 10, 3) := by decide +kernel
theorem dX4_possible_15 : decode cX4_possible 15 = .ok (.getfield 59, 3) := by decide +kernel
theorem dX4_possible_18 : decode cX4_possible 18 = .ok (.ifCond .ne 6, 3) := by decide +kernel
theorem dX4_possible_21 : decode cX4_possible 21 = .ok (.bipush (-2), 2) := by decide +kernel
theorem dX4_possible_23 : decode cX4_possible 23 = .ok (.ireturn, 1) := by decide +kernel
theorem dX4_possible_24 : decode cX4_possible 24 = .ok (.iconst 0, 1) := by decide +kernel
theorem dX4_possible_25 : decode cX4_possible 25 = .ok (.istore_n 2, 1) := by decide +kernel
theorem dX4_possible_26 : decode cX4_possible 26 = .ok (.bipush (-4), 2) := by decide +kernel
theorem dX4_possible_28 : decode cX4_possible 28 = .ok (.istore_n 3, 1) := by decide +kernel
theorem dX4_possible_29 : decode cX4_possible 29 = .ok (.aload_n 0, 1) := by decide +kernel
theorem dX4_possible_30 : decode cX4_possible 30 = .ok (.getfield 10, 3) := by decide +kernel
theorem dX4_possible_33 : decode cX4_possible 33 = .ok (.invokevirtual 45, 3) := by decide +kernel
theorem dX4_possible_36 : decode cX4_possible 36 = .ok (.iconst 1, 1) := by decide +kernel
theorem dX4_possible_37 : decode cX4_possible 37 = .ok (.isub, 1) := by decide +kernel
theorem dX4_possible_38 : decode cX4_possible 38 = .ok (.istore 4, 2) := by decide +kernel
theorem dX4_possible_40 : decode cX4_possible 40 = .ok (.iload 4, 2) := by decide +kernel
theorem dX4_possible_42 : decode cX4_possible 42 = .ok (.ifCond .lt 27, 3) := by decide +kernel
theorem dX4_possible_45 : decode cX4_possible 45 = .ok (.aload_n 0, 1) := by decide +kernel
theorem dX4_possible_46 : decode cX4_possible 46 = .ok (.getfield 10, 3) := by decide +kernel
theorem dX4_possible_49 : decode cX4_possible 49 = .ok (.iload 4, 2) := by decide +kernel
theorem dX4_possible_51 : decode cX4_possible 51 = .ok (.invokevirtual 108, 3) := by decide +kernel
theorem dX4_possible_54 : decode cX4_possible 54 = .ok (.ifCond .eq 9, 3) := by decide +kernel
theorem dX4_possible_57 : decode cX4_possible 57 = .ok (.iinc 2 1, 3) := by decide +kernel
theorem dX4_possible_60 : decode cX4_possible 60 = .ok (.iload 4, 2) := by decide +kernel
theorem dX4_possible_62 : decode cX4_possible 62 = .ok (.istore_n 3, 1) := by decide +kernel
theorem dX4_possible_63 : decode cX4_possible 63 = .ok (.iinc 4 (-1), 3) := by decide +kernel
theorem dX4_possible_66 : decode cX4_possible 66 = .ok (.goto (-26), 3) := by decide +kernel
theorem dX4_possible_69 : decode cX4_possible 69 = .ok (.iload_n 1, 1) := by decide +kernel
theorem dX4_possible_70 : decode cX4_possible 70 = .ok (.ifCond .ne 7, 3) := by decide +kernel
theorem dX4_possible_73 : decode cX4_possible 73 = .ok (.iload_n 2, 1) := by decide +kernel
theorem dX4_possible_74 : decode cX4_possible 74 = .ok (.goto 4, 3) := by decide +kernel
theorem dX4_possible_77 : decode cX4_possible 77 = .ok (.iload_n 3, 1) := by decide +kernel
theorem dX4_possible_78 : decode cX4_possible 78 = .ok (.ireturn, 1) := by decide +kernel
theorem dX4_lost_0 : decode cX4_lost 0 = .ok (.iload_n 1, 1) := by decide +kernel
theorem dX4_lost_1 : decode cX4_lost 1 = .ok (.ifCond .eq 10, 3) := by decide +kernel
theorem dX4_lost_4 : decode cX4_lost 4 = .ok (.iload_n 1, 1) := by decide +kernel
theorem dX4_lost_5 : decode cX4_lost 5 = .ok (.iconst 1, 1) := by decide +kernel
theorem dX4_lost_6 : decode cX4_lost 6 = .ok (.if_icmp .eq 5, 3) := by decide +kernel
theorem dX4_lost_9 : decode cX4_lost 9 = .ok (.iconst (-1), 1) := by decide +kernel
theorem dX4_lost_10 : decode cX4_lost 10 = .ok (.ireturn, 1) := by decide +kernel
theorem dX4_lost_11 : decode cX4_lost 11 = .ok (.aload_n 0, 1) := by decide +kernel
theorem dX4_lost_12 : decode cX4_lost 12 = .ok (.getfield 10, 3) := by decide +kernel
theorem dX4_lost_15 : decode cX4_lost 15 = .ok (.getfield 59, 3) := by decide +kernel
theorem dX4_lost_18 : decode cX4_lost 18 = .ok (.ifCond .ne 6, 3) := by decide +kernel
theorem dX4_lost_21 : decode cX4_lost 21 = .ok (.bipush (-2), 2) := by decide +kernel
theorem dX4_lost_23 : decode cX4_lost 23 = .ok (.ireturn, 1) := by decide +kernel
theorem dX4_lost_24 : decode cX4_lost 24 = .ok (.aload_n 0, 1) := by decide +kernel
theorem dX4_lost_25 : decode cX4_lost 25 = .ok (.getfield 10, 3) := by decide +kernel
theorem dX4_lost_28 : decode cX4_lost 28 = .ok (.invokevirtual 111, 3) := by decide +kernel
theorem dX4_lost_31 : decode cX4_lost 31 = .ok (.iconst 0, 1) := by decide +kernel
theorem dX4_lost_32 : decode cX4_lost 32 = .ok (.istore_n 2, 1) := by decide +kernel
theorem dX4_lost_33 : decode cX4_lost 33 = .ok (.bipush (-4), 2) := by decide +kernel
theorem dX4_lost_35 : decode cX4_lost 35 = .ok (.istore_n 3, 1) := by decide +kernel
theorem dX4_lost_36 : decode cX4_lost 36 = .ok (.bipush 8, 2) := by decide +kernel
theorem dX4_lost_38 : decode cX4_lost 38 = .ok (.aload_n 0, 1) := by decide +kernel
theorem dX4_lost_39 : decode cX4_lost 39 = .ok (.getfield 10, 3) := by decide +kernel
theorem dX4_lost_42 : decode cX4_lost 42 = .ok (.getfield 59, 3) := by decide +kernel
theorem dX4_lost_45 : decode cX4_lost 45 = .ok (.imul, 1) := by decide +kernel
theorem dX4_lost_46 : decode cX4_lost 46 = .ok (.iconst 1, 1) := by decide +kernel
theorem dX4_lost_47 : decode cX4_lost 47 = .ok (.isub, 1) := by decide +kernel
theorem dX4_lost_48 : decode cX4_lost 48 = .ok (.istore 4, 2) := by decide +kernel
theorem dX4_lost_50 : decode cX4_lost 50 = .ok (.iload 4, 2) := by decide +kernel
theorem dX4_lost_52 : decode cX4_lost 52 = .ok (.ifCond .lt 41, 3) := by decide +kernel
theorem dX4_lost_55 : decode cX4_lost 55 = .ok (.aload_n 0, 1) := by decide +kernel
theorem dX4_lost_56 : decode cX4_lost 56 = .ok (.getfield 10, 3) := by decide +kernel
theorem dX4_lost_59 : decode cX4_lost 59 = .ok (.getfield 88, 3) := by decide +kernel
theorem dX4_lost_62 : decode cX4_lost 62 = .ok (.iload 4, 2) := by decide +kernel
theorem dX4_lost_64 : decode cX4_lost 64 = .ok (.iaload, 1) := by decide +kernel
theorem dX4_lost_65 : decode cX4_lost 65 = .ok (.ifCond .le 22, 3) := by decide +kernel
theorem dX4_lost_68 : decode cX4_lost 68 = .ok (.aload_n 0, 1) := by decide +kernel
theorem dX4_lost_69 : decode cX4_lost 69 = .ok (.getfield 10, 3) := by decide +kernel
theorem dX4_lost_72 : decode cX4_lost 72 = .ok (.getfield 114, 3) := by decide +kernel
theorem dX4_lost_75 : decode cX4_lost 75 = .ok (.iload 4, 2) := by decide +kernel
theorem dX4_lost_77 : decode cX4_lost 77 = .ok (.baload, 1) := by decide +kernel
theorem dX4_lost_78 : decode cX4_lost 78 = .ok (.ifCond .ne 9, 3) := by decide +kernel
theorem dX4_lost_81 : decode cX4_lost 81 = .ok (.iinc 2 1, 3) := by decide +kernel
theorem dX4_lost_84 : decode cX4_lost 84 = .ok (.iload 4, 2) := by decide +kernel
theorem dX4_lost_86 : decode cX4_lost 86 = .ok (.istore_n 3, 1) := by decide +kernel
theorem dX4_lost_87 : decode cX4_lost 87 = .ok (.iinc 4 (-1), 3) := by decide +kernel
theorem dX4_lost_90 : decode cX4_lost 90 = .ok (.goto (-40), 3) := by decide +kernel
theorem dX4_lost_93 : decode cX4_lost 93 = .ok (.iload_n 1, 1) := by decide +kernel
theorem dX4_lost_94 : decode cX4_lost 94 = .ok (.ifCond .ne 7, 3) := by decide +kernel
theorem dX4_lost_97 : decode cX4_lost 97 = .ok (.iload_n 2, 1) := by decide +kernel
theorem dX4_lost_98 : decode cX4_lost 98 = .ok (.goto 4, 3) := by decide +kernel
theorem dX4_lost_101 : decode cX4_lost 101 = .ok (.iload_n 3, 1) := by decide +kernel
theorem dX4_lost_102 : decode cX4_lost 102 = .ok (.ireturn, 1) := by decide +kernel
theorem dX4_bound_0 : decode cX4_bound 0 = .ok (.aload_n 0, 1) := by decide +kernel
theorem dX4_bound_1 : decode cX4_bound 1 = .ok (.getfield 10, 3) := by decide +kernel
theorem dX4_bound_4 : decode cX4_bound 4 = .ok (.getfield 59, 3) := by decide +kernel
theorem dX4_bound_7 : decode cX4_bound 7 = .ok (.ifCond .ne 8, 3) := by decide +kernel
theorem dX4_bound_10 : decode cX4_bound 10 = .ok (.bipush (-2), 2) := by decide +kernel
theorem dX4_bound_12 : decode cX4_bound 12 = .ok (.goto 17, 3) := by decide +kernel
theorem dX4_bound_15 : decode cX4_bound 15 = .ok (.aload_n 0, 1) := by decide +kernel
theorem dX4_bound_16 : decode cX4_bound 16 = .ok (.getfield 10, 3) := by decide +kernel
theorem dX4_bound_19 : decode cX4_bound 19 = .ok (.aload_n 0, 1) := by decide +kernel
theorem dX4_bound_20 : decode cX4_bound 20 = .ok (.getfield 10, 3) := by decide +kernel
theorem dX4_bound_23 : decode cX4_bound 23 = .ok (.invokevirtual 118, 3) := by decide +kernel
theorem dX4_bound_26 : decode cX4_bound 26 = .ok (.invokevirtual 121, 3) := by decide +kernel
theorem dX4_bound_29 : decode cX4_bound 29 = .ok (.ireturn, 1) := by decide +kernel
theorem dX4_best_0 : decode cX4_best 0 = .ok (.aload_n 0, 1) := by decide +kernel
theorem dX4_best_1 : decode cX4_best 1 = .ok (.getfield 10, 3) := by decide +kernel
theorem dX4_best_4 : decode cX4_best 4 = .ok (.getfield 59, 3) := by decide +kernel
theorem dX4_best_7 : decode cX4_best 7 = .ok (.ifCond .ne 8, 3) := by decide +kernel
theorem dX4_best_10 : decode cX4_best 10 = .ok (.bipush (-2), 2) := by decide +kernel
theorem dX4_best_12 : decode cX4_best 12 = .ok (.goto 10, 3) := by decide +kernel
theorem dX4_best_15 : decode cX4_best 15 = .ok (.aload_n 0, 1) := by decide +kernel
theorem dX4_best_16 : decode cX4_best 16 = .ok (.getfield 10, 3) := by decide +kernel
theorem dX4_best_19 : decode cX4_best 19 = .ok (.invokevirtual 118, 3) := by decide +kernel
theorem dX4_best_22 : decode cX4_best 22 = .ok (.ireturn, 1) := by decide +kernel
theorem dX4_worth_0 : decode cX4_worth 0 = .ok (.aload_n 0, 1) := by decide +kernel
theorem dX4_worth_1 : decode cX4_worth 1 = .ok (.getfield 10, 3) := by decide +kernel
theorem dX4_worth_4 : decode cX4_worth 4 = .ok (.getfield 59, 3) := by decide +kernel
theorem dX4_worth_7 : decode cX4_worth 7 = .ok (.ifCond .ne 8, 3) := by decide +kernel
theorem dX4_worth_10 : decode cX4_worth 10 = .ok (.bipush (-2), 2) := by decide +kernel
theorem dX4_worth_12 : decode cX4_worth 12 = .ok (.goto 10, 3) := by decide +kernel
theorem dX4_worth_15 : decode cX4_worth 15 = .ok (.aload_n 0, 1) := by decide +kernel
theorem dX4_worth_16 : decode cX4_worth 16 = .ok (.getfield 10, 3) := by decide +kernel
theorem dX4_worth_19 : decode cX4_worth 19 = .ok (.invokevirtual 124, 3) := by decide +kernel
theorem dX4_worth_22 : decode cX4_worth 22 = .ok (.ireturn, 1) := by decide +kernel
theorem dX4_beyond_0 : decode cX4_beyond 0 = .ok (.aload_n 0, 1) := by decide +kernel
theorem dX4_beyond_1 : decode cX4_beyond 1 = .ok (.getfield 10, 3) := by decide +kernel
theorem dX4_beyond_4 : decode cX4_beyond 4 = .ok (.getfield 59, 3) := by decide +kernel
theorem dX4_beyond_7 : decode cX4_beyond 7 = .ok (.ifCond .ne 6, 3) := by decide +kernel
theorem dX4_beyond_10 : decode cX4_beyond 10 = .ok (.bipush (-2), 2) := by decide +kernel
theorem dX4_beyond_12 : decode cX4_beyond 12 = .ok (.ireturn, 1) := by decide +kernel
theorem dX4_beyond_13 : decode cX4_beyond 13 = .ok (.aload_n 0, 1) := by decide +kernel
theorem dX4_beyond_14 : decode cX4_beyond 14 = .ok (.getfield 10, 3) := by decide +kernel
theorem dX4_beyond_17 : decode cX4_beyond 17 = .ok (.invokevirtual 105, 3) := by decide +kernel
theorem dX4_beyond_20 : decode cX4_beyond 20 = .ok (.bipush (-4), 2) := by decide +kernel
theorem dX4_beyond_22 : decode cX4_beyond 22 = .ok (.if_icmp .eq 5, 3) := by decide +kernel
theorem dX4_beyond_25 : decode cX4_beyond 25 = .ok (.iconst 0, 1) := by decide +kernel
theorem dX4_beyond_26 : decode cX4_beyond 26 = .ok (.ireturn, 1) := by decide +kernel
theorem dX4_beyond_27 : decode cX4_beyond 27 = .ok (.aload_n 0, 1) := by decide +kernel
theorem dX4_beyond_28 : decode cX4_beyond 28 = .ok (.getfield 10, 3) := by decide +kernel
theorem dX4_beyond_31 : decode cX4_beyond 31 = .ok (.aload_n 0, 1) := by decide +kernel
theorem dX4_beyond_32 : decode cX4_beyond 32 = .ok (.getfield 10, 3) := by decide +kernel
theorem dX4_beyond_35 : decode cX4_beyond 35 = .ok (.invokevirtual 118, 3) := by decide +kernel
theorem dX4_beyond_38 : decode cX4_beyond 38 = .ok (.invokevirtual 121, 3) := by decide +kernel
theorem dX4_beyond_41 : decode cX4_beyond 41 = .ok (.aload_n 0, 1) := by decide +kernel
theorem dX4_beyond_42 : decode cX4_beyond 42 = .ok (.getfield 10, 3) := by decide +kernel
theorem dX4_beyond_45 : decode cX4_beyond 45 = .ok (.iconst 0, 1) := by decide +kernel
theorem dX4_beyond_46 : decode cX4_beyond 46 = .ok (.invokevirtual 75, 3) := by decide +kernel
theorem dX4_beyond_49 : decode cX4_beyond 49 = .ok (.imul, 1) := by decide +kernel
theorem dX4_beyond_50 : decode cX4_beyond 50 = .ok (.istore_n 1, 1) := by decide +kernel
theorem dX4_beyond_51 : decode cX4_beyond 51 = .ok (.aload_n 0, 1) := by decide +kernel
theorem dX4_beyond_52 : decode cX4_beyond 52 = .ok (.getfield 10, 3) := by decide +kernel
theorem dX4_beyond_55 : decode cX4_beyond 55 = .ok (.invokevirtual 124, 3) := by decide +kernel
theorem dX4_beyond_58 : decode cX4_beyond 58 = .ok (.iload_n 1, 1) := by decide +kernel
theorem dX4_beyond_59 : decode cX4_beyond 59 = .ok (.if_icmp .le 7, 3) := by decide +kernel
theorem dX4_beyond_62 : decode cX4_beyond 62 = .ok (.iconst 1, 1) := by decide +kernel
theorem dX4_beyond_63 : decode cX4_beyond 63 = .ok (.goto 4, 3) := by decide +kernel
theorem dX4_beyond_66 : decode cX4_beyond 66 = .ok (.iconst 0, 1) := by decide +kernel
theorem dX4_beyond_67 : decode cX4_beyond 67 = .ok (.ireturn, 1) := by decide +kernel
theorem dX4_parted_0 : decode cX4_parted 0 = .ok (.aload_n 0, 1) := by decide +kernel
theorem dX4_parted_1 : decode cX4_parted 1 = .ok (.invokevirtual 127, 3) := by decide +kernel
theorem dX4_parted_4 : decode cX4_parted 4 = .ok (.ifCond .ne 6, 3) := by decide +kernel
theorem dX4_parted_7 : decode cX4_parted 7 = .ok (.bipush (-2), 2) := by decide +kernel
theorem dX4_parted_9 : decode cX4_parted 9 = .ok (.ireturn, 1) := by decide +kernel
theorem dX4_parted_10 : decode cX4_parted 10 = .ok (.aload_n 0, 1) := by decide +kernel
theorem dX4_parted_11 : decode cX4_parted 11 = .ok (.getfield 19, 3) := by decide +kernel
theorem dX4_parted_14 : decode cX4_parted 14 = .ok (.aload_n 0, 1) := by decide +kernel
theorem dX4_parted_15 : decode cX4_parted 15 = .ok (.getfield 10, 3) := by decide +kernel
theorem dX4_parted_18 : decode cX4_parted 18 = .ok (.invokevirtual 131, 3) := by decide +kernel
theorem dX4_parted_21 : decode cX4_parted 21 = .ok (.aload_n 0, 1) := by decide +kernel
theorem dX4_parted_22 : decode cX4_parted 22 = .ok (.getfield 19, 3) := by decide +kernel
theorem dX4_parted_25 : decode cX4_parted 25 = .ok (.getfield 135, 3) := by decide +kernel
theorem dX4_parted_28 : decode cX4_parted 28 = .ok (.ireturn, 1) := by decide +kernel
theorem dX4_part_0 : decode cX4_part 0 = .ok (.iload_n 1, 1) := by decide +kernel
theorem dX4_part_1 : decode cX4_part 1 = .ok (.ifCond .ge 11, 3) := by decide +kernel
theorem dX4_part_4 : decode cX4_part 4 = .ok (.iload_n 1, 1) := by decide +kernel
theorem dX4_part_5 : decode cX4_part 5 = .ok (.bipush (-4), 2) := by decide +kernel
theorem dX4_part_7 : decode cX4_part 7 = .ok (.if_icmp .eq 5, 3) := by decide +kernel
theorem dX4_part_10 : decode cX4_part 10 = .ok (.iconst (-1), 1) := by decide +kernel
theorem dX4_part_11 : decode cX4_part 11 = .ok (.ireturn, 1) := by decide +kernel
theorem dX4_part_12 : decode cX4_part 12 = .ok (.aload_n 0, 1) := by decide +kernel
theorem dX4_part_13 : decode cX4_part 13 = .ok (.invokevirtual 127, 3) := by decide +kernel
theorem dX4_part_16 : decode cX4_part 16 = .ok (.ifCond .ne 6, 3) := by decide +kernel
theorem dX4_part_19 : decode cX4_part 19 = .ok (.bipush (-2), 2) := by decide +kernel
theorem dX4_part_21 : decode cX4_part 21 = .ok (.ireturn, 1) := by decide +kernel
theorem dX4_part_22 : decode cX4_part 22 = .ok (.aload_n 0, 1) := by decide +kernel
theorem dX4_part_23 : decode cX4_part 23 = .ok (.getfield 19, 3) := by decide +kernel
theorem dX4_part_26 : decode cX4_part 26 = .ok (.aload_n 0, 1) := by decide +kernel
theorem dX4_part_27 : decode cX4_part 27 = .ok (.getfield 10, 3) := by decide +kernel
theorem dX4_part_30 : decode cX4_part 30 = .ok (.invokevirtual 131, 3) := by decide +kernel
theorem dX4_part_33 : decode cX4_part 33 = .ok (.iload_n 1, 1) := by decide +kernel
theorem dX4_part_34 : decode cX4_part 34 = .ok (.bipush (-4), 2) := by decide +kernel
theorem dX4_part_36 : decode cX4_part 36 = .ok (.if_icmp .ne 11, 3) := by decide +kernel
theorem dX4_part_39 : decode cX4_part 39 = .ok (.aload_n 0, 1) := by decide +kernel
theorem dX4_part_40 : decode cX4_part 40 = .ok (.getfield 19, 3) := by decide +kernel
theorem dX4_part_43 : decode cX4_part 43 = .ok (.getfield 138, 3) := by decide +kernel
theorem dX4_part_46 : decode cX4_part 46 = .ok (.ireturn, 1) := by decide +kernel
theorem dX4_part_47 : decode cX4_part 47 = .ok (.aload_n 0, 1) := by decide +kernel
theorem dX4_part_48 : decode cX4_part 48 = .ok (.getfield 19, 3) := by decide +kernel
theorem dX4_part_51 : decode cX4_part 51 = .ok (.getfield 135, 3) := by decide +kernel
theorem dX4_part_54 : decode cX4_part 54 = .ok (.bipush (-6), 2) := by decide +kernel
theorem dX4_part_56 : decode cX4_part 56 = .ok (.if_icmp .ne 6, 3) := by decide +kernel
theorem dX4_part_59 : decode cX4_part 59 = .ok (.bipush (-6), 2) := by decide +kernel
theorem dX4_part_61 : decode cX4_part 61 = .ok (.ireturn, 1) := by decide +kernel
theorem dX4_part_62 : decode cX4_part 62 = .ok (.aload_n 0, 1) := by decide +kernel
theorem dX4_part_63 : decode cX4_part 63 = .ok (.getfield 19, 3) := by decide +kernel
theorem dX4_part_66 : decode cX4_part 66 = .ok (.getfield 135, 3) := by decide +kernel
theorem dX4_part_69 : decode cX4_part 69 = .ok (.iconst 1, 1) := by decide +kernel
theorem dX4_part_70 : decode cX4_part 70 = .ok (.if_icmp .ne 26, 3) := by decide +kernel
theorem dX4_part_73 : decode cX4_part 73 = .ok (.iload_n 1, 1) := by decide +kernel
theorem dX4_part_74 : decode cX4_part 74 = .ok (.aload_n 0, 1) := by decide +kernel
theorem dX4_part_75 : decode cX4_part 75 = .ok (.getfield 19, 3) := by decide +kernel
theorem dX4_part_78 : decode cX4_part 78 = .ok (.getfield 141, 3) := by decide +kernel
theorem dX4_part_81 : decode cX4_part 81 = .ok (.if_icmp .ge 15, 3) := by decide +kernel
theorem dX4_part_84 : decode cX4_part 84 = .ok (.aload_n 0, 1) := by decide +kernel
theorem dX4_part_85 : decode cX4_part 85 = .ok (.getfield 19, 3) := by decide +kernel
theorem dX4_part_88 : decode cX4_part 88 = .ok (.getfield 144, 3) := by decide +kernel
theorem dX4_part_91 : decode cX4_part 91 = .ok (.iload_n 1, 1) := by decide +kernel
theorem dX4_part_92 : decode cX4_part 92 = .ok (.iaload, 1) := by decide +kernel
theorem dX4_part_93 : decode cX4_part 93 = .ok (.goto 5, 3) := by decide +kernel
theorem dX4_part_96 : decode cX4_part 96 = .ok (.bipush (-4), 2) := by decide +kernel
theorem dX4_part_98 : decode cX4_part 98 = .ok (.ireturn, 1) := by decide +kernel
theorem dX4_canBeSearched_0 : decode cX4_canBeSearched 0 = .ok (.aload_n 0, 1) := by decide +kernel
theorem dX4_canBeSearched_1 : decode cX4_canBeSearched 1 = .ok (.getfield 10, 3) := by decide +kernel
theorem dX4_canBeSearched_4 : decode cX4_canBeSearched 4 = .ok (.getfield 59, 3) := by decide +kernel
theorem dX4_canBeSearched_7 : decode cX4_canBeSearched 7 = .ok (.ifCond .eq 15, 3) := by decide +kernel
theorem dX4_canBeSearched_10 : decode cX4_canBeSearched 10 = .ok (.aload_n 0, 1) := by decide +kernel
theorem dX4_canBeSearched_11 : decode cX4_canBeSearched 11 = .ok (.getfield 10, 3) := by decide +kernel
theorem dX4_canBeSearched_14 : decode cX4_canBeSearched 14 = .ok (.invokevirtual 105, 3) := by decide +kernel
theorem dX4_canBeSearched_17 : decode cX4_canBeSearched 17 = .ok (.bipush (-4), 2) := by decide +kernel
theorem dX4_canBeSearched_19 : decode cX4_canBeSearched 19 = .ok (.if_icmp .eq 5, 3) := by decide +kernel
theorem dX4_canBeSearched_22 : decode cX4_canBeSearched 22 = .ok (.iconst 0, 1) := by decide +kernel
theorem dX4_canBeSearched_23 : decode cX4_canBeSearched 23 = .ok (.ireturn, 1) := by decide +kernel
theorem dX4_canBeSearched_24 : decode cX4_canBeSearched 24 = .ok (.aload_n 0, 1) := by decide +kernel
theorem dX4_canBeSearched_25 : decode cX4_canBeSearched 25 = .ok (.getfield 10, 3) := by decide +kernel
theorem dX4_canBeSearched_28 : decode cX4_canBeSearched 28 = .ok (.iconst 0, 1) := by decide +kernel
theorem dX4_canBeSearched_29 : decode cX4_canBeSearched 29 = .ok (.invokevirtual 75, 3) := by decide +kernel
theorem dX4_canBeSearched_32 : decode cX4_canBeSearched 32 = .ok (.istore_n 1, 1) := by decide +kernel
theorem dX4_canBeSearched_33 : decode cX4_canBeSearched 33 = .ok (.iload_n 1, 1) := by decide +kernel
theorem dX4_canBeSearched_34 : decode cX4_canBeSearched 34 = .ok (.iconst 1, 1) := by decide +kernel
theorem dX4_canBeSearched_35 : decode cX4_canBeSearched 35 = .ok (.if_icmp .lt 13, 3) := by decide +kernel
theorem dX4_canBeSearched_38 : decode cX4_canBeSearched 38 = .ok (.iload_n 1, 1) := by decide +kernel
theorem dX4_canBeSearched_39 : decode cX4_canBeSearched 39 = .ok (.bipush 24, 2) := by decide +kernel
theorem dX4_canBeSearched_41 : decode cX4_canBeSearched 41 = .ok (.if_icmp .gt 7, 3) := by decide +kernel
theorem dX4_canBeSearched_44 : decode cX4_canBeSearched 44 = .ok (.iconst 1, 1) := by decide +kernel
theorem dX4_canBeSearched_45 : decode cX4_canBeSearched 45 = .ok (.goto 4, 3) := by decide +kernel
theorem dX4_canBeSearched_48 : decode cX4_canBeSearched 48 = .ok (.iconst 0, 1) := by decide +kernel
theorem dX4_canBeSearched_49 : decode cX4_canBeSearched 49 = .ok (.ireturn, 1) := by decide +kernel
theorem dX4_mix_0 : decode cX4_mix 0 = .ok (.aload_n 0, 1) := by decide +kernel
theorem dX4_mix_1 : decode cX4_mix 1 = .ok (.getfield 10, 3) := by decide +kernel
theorem dX4_mix_4 : decode cX4_mix 4 = .ok (.getfield 37, 3) := by decide +kernel
theorem dX4_mix_7 : decode cX4_mix 7 = .ok (.iconst 4, 1) := by decide +kernel
theorem dX4_mix_8 : decode cX4_mix 8 = .ok (.if_icmp .le 5, 3) := by decide +kernel
theorem dX4_mix_11 : decode cX4_mix 11 = .ok (.iconst (-1), 1) := by decide +kernel
theorem dX4_mix_12 : decode cX4_mix 12 = .ok (.ireturn, 1) := by decide +kernel
theorem dX4_mix_13 : decode cX4_mix 13 = .ok (.iconst 1, 1) := by decide +kernel
theorem dX4_mix_14 : decode cX4_mix 14 = .ok (.aload_n 0, 1) := by decide +kernel
theorem dX4_mix_15 : decode cX4_mix 15 = .ok (.getfield 10, 3) := by decide +kernel
theorem dX4_mix_18 : decode cX4_mix 18 = .ok (.invokevirtual 45, 3) := by decide +kernel
theorem dX4_mix_21 : decode cX4_mix 21 = .ok (.ishl, 1) := by decide +kernel
theorem dX4_mix_22 : decode cX4_mix 22 = .ok (.iconst 1, 1) := by decide +kernel
theorem dX4_mix_23 : decode cX4_mix 23 = .ok (.isub, 1) := by decide +kernel
theorem dX4_mix_24 : decode cX4_mix 24 = .ok (.istore_n 2, 1) := by decide +kernel
theorem dX4_mix_25 : decode cX4_mix 25 = .ok (.iload_n 1, 1) := by decide +kernel
theorem dX4_mix_26 : decode cX4_mix 26 = .ok (.ifCond .lt 8, 3) := by decide +kernel
theorem dX4_mix_29 : decode cX4_mix 29 = .ok (.iload_n 1, 1) := by decide +kernel
theorem dX4_mix_30 : decode cX4_mix 30 = .ok (.iload_n 2, 1) := by decide +kernel
theorem dX4_mix_31 : decode cX4_mix 31 = .ok (.if_icmp .le 5, 3) := by decide +kernel
