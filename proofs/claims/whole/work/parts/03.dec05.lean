theorem dX4_mix_34 : decode cX4_mix 34 = .ok (.iconst (-1), 1) := by decide +kernel
theorem dX4_mix_35 : decode cX4_mix 35 = .ok (.ireturn, 1) := by decide +kernel
theorem dX4_mix_36 : decode cX4_mix 36 = .ok (.aload_n 0, 1) := by decide +kernel
theorem dX4_mix_37 : decode cX4_mix 37 = .ok (.getfield 10, 3) := by decide +kernel
theorem dX4_mix_40 : decode cX4_mix 40 = .ok (.getfield 59, 3) := by decide +kernel
theorem dX4_mix_43 : decode cX4_mix 43 = .ok (.ifCond .ne 6, 3) := by decide +kernel
theorem dX4_mix_46 : decode cX4_mix 46 = .ok (.bipush (-2), 2) := by decide +kernel
theorem dX4_mix_48 : decode cX4_mix 48 = .ok (.ireturn, 1) := by decide +kernel
theorem dX4_mix_49 : decode cX4_mix 49 = .ok (.aload_n 0, 1) := by decide +kernel
theorem dX4_mix_50 : decode cX4_mix 50 = .ok (.getfield 10, 3) := by decide +kernel
theorem dX4_mix_53 : decode cX4_mix 53 = .ok (.iload_n 1, 1) := by decide +kernel
theorem dX4_mix_54 : decode cX4_mix 54 = .ok (.invokevirtual 147, 3) := by decide +kernel
theorem dX4_mix_57 : decode cX4_mix 57 = .ok (.iload_n 1, 1) := by decide +kernel
theorem dX4_mix_58 : decode cX4_mix 58 = .ok (.invokestatic 49, 3) := by decide +kernel
theorem dX4_mix_61 : decode cX4_mix 61 = .ok (.ireturn, 1) := by decide +kernel
theorem dX4_fulfil_0 : decode cX4_fulfil 0 = .ok (.aload_n 0, 1) := by decide +kernel
theorem dX4_fulfil_1 : decode cX4_fulfil 1 = .ok (.getfield 10, 3) := by decide +kernel
theorem dX4_fulfil_4 : decode cX4_fulfil 4 = .ok (.getfield 59, 3) := by decide +kernel
theorem dX4_fulfil_7 : decode cX4_fulfil 7 = .ok (.ifCond .ne 6, 3) := by decide +kernel
theorem dX4_fulfil_10 : decode cX4_fulfil 10 = .ok (.bipush (-2), 2) := by decide +kernel
theorem dX4_fulfil_12 : decode cX4_fulfil 12 = .ok (.ireturn, 1) := by decide +kernel
theorem dX4_fulfil_13 : decode cX4_fulfil 13 = .ok (.iconst 0, 1) := by decide +kernel
theorem dX4_fulfil_14 : decode cX4_fulfil 14 = .ok (.istore_n 1, 1) := by decide +kernel
theorem dX4_fulfil_15 : decode cX4_fulfil 15 = .ok (.iconst 0, 1) := by decide +kernel
theorem dX4_fulfil_16 : decode cX4_fulfil 16 = .ok (.istore_n 2, 1) := by decide +kernel
theorem dX4_fulfil_17 : decode cX4_fulfil 17 = .ok (.iload_n 2, 1) := by decide +kernel
theorem dX4_fulfil_18 : decode cX4_fulfil 18 = .ok (.aload_n 0, 1) := by decide +kernel
theorem dX4_fulfil_19 : decode cX4_fulfil 19 = .ok (.getfield 10, 3) := by decide +kernel
theorem dX4_fulfil_22 : decode cX4_fulfil 22 = .ok (.invokevirtual 45, 3) := by decide +kernel
theorem dX4_fulfil_25 : decode cX4_fulfil 25 = .ok (.if_icmp .ge 23, 3) := by decide +kernel
theorem dX4_fulfil_28 : decode cX4_fulfil 28 = .ok (.aload_n 0, 1) := by decide +kernel
theorem dX4_fulfil_29 : decode cX4_fulfil 29 = .ok (.getfield 10, 3) := by decide +kernel
theorem dX4_fulfil_32 : decode cX4_fulfil 32 = .ok (.iload_n 2, 1) := by decide +kernel
theorem dX4_fulfil_33 : decode cX4_fulfil 33 = .ok (.invokevirtual 150, 3) := by decide +kernel
theorem dX4_fulfil_36 : decode cX4_fulfil 36 = .ok (.ifCond .eq 6, 3) := by decide +kernel
theorem dX4_fulfil_39 : decode cX4_fulfil 39 = .ok (.iinc 1 1, 3) := by decide +kernel
theorem dX4_fulfil_42 : decode cX4_fulfil 42 = .ok (.iinc 2 1, 3) := by decide +kernel
theorem dX4_fulfil_45 : decode cX4_fulfil 45 = .ok (.goto (-28), 3) := by decide +kernel
theorem dX4_fulfil_48 : decode cX4_fulfil 48 = .ok (.iload_n 1, 1) := by decide +kernel
theorem dX4_fulfil_49 : decode cX4_fulfil 49 = .ok (.ireturn, 1) := by decide +kernel
theorem dX4_proof_0 : decode cX4_proof 0 = .ok (.aload_n 0, 1) := by decide +kernel
theorem dX4_proof_1 : decode cX4_proof 1 = .ok (.getfield 10, 3) := by decide +kernel
theorem dX4_proof_4 : decode cX4_proof 4 = .ok (.getfield 59, 3) := by decide +kernel
theorem dX4_proof_7 : decode cX4_proof 7 = .ok (.ifCond .ne 6, 3) := by decide +kernel
theorem dX4_proof_10 : decode cX4_proof 10 = .ok (.bipush (-2), 2) := by decide +kernel
theorem dX4_proof_12 : decode cX4_proof 12 = .ok (.ireturn, 1) := by decide +kernel
theorem dX4_proof_13 : decode cX4_proof 13 = .ok (.bipush (-4), 2) := by decide +kernel
theorem dX4_proof_15 : decode cX4_proof 15 = .ok (.istore_n 1, 1) := by decide +kernel
theorem dX4_proof_16 : decode cX4_proof 16 = .ok (.bipush 9, 2) := by decide +kernel
theorem dX4_proof_18 : decode cX4_proof 18 = .ok (.istore_n 2, 1) := by decide +kernel
theorem dX4_proof_19 : decode cX4_proof 19 = .ok (.iconst 1, 1) := by decide +kernel
theorem dX4_proof_20 : decode cX4_proof 20 = .ok (.istore_n 3, 1) := by decide +kernel
theorem dX4_proof_21 : decode cX4_proof 21 = .ok (.iload_n 3, 1) := by decide +kernel
theorem dX4_proof_22 : decode cX4_proof 22 = .ok (.iconst 1, 1) := by decide +kernel
theorem dX4_proof_23 : decode cX4_proof 23 = .ok (.aload_n 0, 1) := by decide +kernel
theorem dX4_proof_24 : decode cX4_proof 24 = .ok (.getfield 10, 3) := by decide +kernel
theorem dX4_proof_27 : decode cX4_proof 27 = .ok (.getfield 59, 3) := by decide +kernel
theorem dX4_proof_30 : decode cX4_proof 30 = .ok (.ishl, 1) := by decide +kernel
theorem dX4_proof_31 : decode cX4_proof 31 = .ok (.if_icmp .ge 35, 3) := by decide +kernel
theorem dX4_proof_34 : decode cX4_proof 34 = .ok (.iload_n 3, 1) := by decide +kernel
theorem dX4_proof_35 : decode cX4_proof 35 = .ok (.invokestatic 49, 3) := by decide +kernel
theorem dX4_proof_38 : decode cX4_proof 38 = .ok (.iload_n 2, 1) := by decide +kernel
theorem dX4_proof_39 : decode cX4_proof 39 = .ok (.if_icmp .ge 21, 3) := by decide +kernel
theorem dX4_proof_42 : decode cX4_proof 42 = .ok (.aload_n 0, 1) := by decide +kernel
theorem dX4_proof_43 : decode cX4_proof 43 = .ok (.getfield 10, 3) := by decide +kernel
theorem dX4_proof_46 : decode cX4_proof 46 = .ok (.iload_n 3, 1) := by decide +kernel
theorem dX4_proof_47 : decode cX4_proof 47 = .ok (.invokevirtual 153, 3) := by decide +kernel
theorem dX4_proof_50 : decode cX4_proof 50 = .ok (.ifCond .eq 10, 3) := by decide +kernel
theorem dX4_proof_53 : decode cX4_proof 53 = .ok (.iload_n 3, 1) := by decide +kernel
theorem dX4_proof_54 : decode cX4_proof 54 = .ok (.istore_n 1, 1) := by decide +kernel
theorem dX4_proof_55 : decode cX4_proof 55 = .ok (.iload_n 3, 1) := by decide +kernel
theorem dX4_proof_56 : decode cX4_proof 56 = .ok (.invokestatic 49, 3) := by decide +kernel
theorem dX4_proof_59 : decode cX4_proof 59 = .ok (.istore_n 2, 1) := by decide +kernel
theorem dX4_proof_60 : decode cX4_proof 60 = .ok (.iinc 3 1, 3) := by decide +kernel
theorem dX4_proof_63 : decode cX4_proof 63 = .ok (.goto (-42), 3) := by decide +kernel
theorem dX4_proof_66 : decode cX4_proof 66 = .ok (.iload_n 1, 1) := by decide +kernel
theorem dX4_proof_67 : decode cX4_proof 67 = .ok (.ireturn, 1) := by decide +kernel
theorem dX4_ray_0 : decode cX4_ray 0 = .ok (.iload_n 1, 1) := by decide +kernel
theorem dX4_ray_1 : decode cX4_ray 1 = .ok (.invokestatic 156, 3) := by decide +kernel
theorem dX4_ray_4 : decode cX4_ray 4 = .ok (.ifCond .eq 29, 3) := by decide +kernel
theorem dX4_ray_7 : decode cX4_ray 7 = .ok (.iload_n 2, 1) := by decide +kernel
theorem dX4_ray_8 : decode cX4_ray 8 = .ok (.invokestatic 156, 3) := by decide +kernel
theorem dX4_ray_11 : decode cX4_ray 11 = .ok (.ifCond .eq 22, 3) := by decide +kernel
theorem dX4_ray_14 : decode cX4_ray 14 = .ok (.iload_n 3, 1) := by decide +kernel
theorem dX4_ray_15 : decode cX4_ray 15 = .ok (.invokestatic 156, 3) := by decide +kernel
theorem dX4_ray_18 : decode cX4_ray 18 = .ok (.ifCond .eq 15, 3) := by decide +kernel
theorem dX4_ray_21 : decode cX4_ray 21 = .ok (.iload_n 1, 1) := by decide +kernel
theorem dX4_ray_22 : decode cX4_ray 22 = .ok (.ifCond .ne 13, 3) := by decide +kernel
theorem dX4_ray_25 : decode cX4_ray 25 = .ok (.iload_n 2, 1) := by decide +kernel
theorem dX4_ray_26 : decode cX4_ray 26 = .ok (.ifCond .ne 9, 3) := by decide +kernel
theorem dX4_ray_29 : decode cX4_ray 29 = .ok (.iload_n 3, 1) := by decide +kernel
theorem dX4_ray_30 : decode cX4_ray 30 = .ok (.ifCond .ne 5, 3) := by decide +kernel
theorem dX4_ray_33 : decode cX4_ray 33 = .ok (.iconst (-1), 1) := by decide +kernel
theorem dX4_ray_34 : decode cX4_ray 34 = .ok (.ireturn, 1) := by decide +kernel
theorem dX4_ray_35 : decode cX4_ray 35 = .ok (.aload_n 0, 1) := by decide +kernel
theorem dX4_ray_36 : decode cX4_ray 36 = .ok (.getfield 26, 3) := by decide +kernel
theorem dX4_ray_39 : decode cX4_ray 39 = .ok (.iload_n 1, 1) := by decide +kernel
theorem dX4_ray_40 : decode cX4_ray 40 = .ok (.iload_n 2, 1) := by decide +kernel
theorem dX4_ray_41 : decode cX4_ray 41 = .ok (.iload_n 3, 1) := by decide +kernel
theorem dX4_ray_42 : decode cX4_ray 42 = .ok (.invokevirtual 159, 3) := by decide +kernel
theorem dX4_ray_45 : decode cX4_ray 45 = .ok (.ifCond .eq 6, 3) := by decide +kernel
theorem dX4_ray_48 : decode cX4_ray 48 = .ok (.bipush (-2), 2) := by decide +kernel
theorem dX4_ray_50 : decode cX4_ray 50 = .ok (.ireturn, 1) := by decide +kernel
theorem dX4_ray_51 : decode cX4_ray 51 = .ok (.aload_n 0, 1) := by decide +kernel
theorem dX4_ray_52 : decode cX4_ray 52 = .ok (.getfield 26, 3) := by decide +kernel
theorem dX4_ray_55 : decode cX4_ray 55 = .ok (.getfield 163, 3) := by decide +kernel
theorem dX4_ray_58 : decode cX4_ray 58 = .ok (.bipush 12, 2) := by decide +kernel
theorem dX4_ray_60 : decode cX4_ray 60 = .ok (.if_icmp .lt 8, 3) := by decide +kernel
theorem dX4_ray_63 : decode cX4_ray 63 = .ok (.bipush (-3), 2) := by decide +kernel
theorem dX4_ray_65 : decode cX4_ray 65 = .ok (.goto 13, 3) := by decide +kernel
theorem dX4_ray_68 : decode cX4_ray 68 = .ok (.aload_n 0, 1) := by decide +kernel
theorem dX4_ray_69 : decode cX4_ray 69 = .ok (.getfield 26, 3) := by decide +kernel
theorem dX4_ray_72 : decode cX4_ray 72 = .ok (.iload_n 1, 1) := by decide +kernel
theorem dX4_ray_73 : decode cX4_ray 73 = .ok (.iload_n 2, 1) := by decide +kernel
theorem dX4_ray_74 : decode cX4_ray 74 = .ok (.iload_n 3, 1) := by decide +kernel
theorem dX4_ray_75 : decode cX4_ray 75 = .ok (.invokevirtual 164, 3) := by decide +kernel
theorem dX4_ray_78 : decode cX4_ray 78 = .ok (.ireturn, 1) := by decide +kernel
theorem dX4_cut_0 : decode cX4_cut 0 = .ok (.aload_n 0, 1) := by decide +kernel
theorem dX4_cut_1 : decode cX4_cut 1 = .ok (.getfield 26, 3) := by decide +kernel
theorem dX4_cut_4 : decode cX4_cut 4 = .ok (.getfield 163, 3) := by decide +kernel
theorem dX4_cut_7 : decode cX4_cut 7 = .ok (.ifCond .ne 8, 3) := by decide +kernel
theorem dX4_cut_10 : decode cX4_cut 10 = .ok (.bipush (-4), 2) := by decide +kernel
theorem dX4_cut_12 : decode cX4_cut 12 = .ok (.goto 10, 3) := by decide +kernel
theorem dX4_cut_15 : decode cX4_cut 15 = .ok (.aload_n 0, 1) := by decide +kernel
theorem dX4_cut_16 : decode cX4_cut 16 = .ok (.getfield 26, 3) := by decide +kernel
theorem dX4_cut_19 : decode cX4_cut 19 = .ok (.invokevirtual 167, 3) := by decide +kernel
theorem dX4_cut_22 : decode cX4_cut 22 = .ok (.ireturn, 1) := by decide +kernel
theorem dX4_square_0 : decode cX4_square 0 = .ok (.iload_n 1, 1) := by decide +kernel
theorem dX4_square_1 : decode cX4_square 1 = .ok (.ifCond .lt 14, 3) := by decide +kernel
theorem dX4_square_4 : decode cX4_square 4 = .ok (.iload_n 1, 1) := by decide +kernel
theorem dX4_square_5 : decode cX4_square 5 = .ok (.aload_n 0, 1) := by decide +kernel
theorem dX4_square_6 : decode cX4_square 6 = .ok (.getfield 26, 3) := by decide +kernel
theorem dX4_square_9 : decode cX4_square 9 = .ok (.getfield 163, 3) := by decide +kernel
theorem dX4_square_12 : decode cX4_square 12 = .ok (.if_icmp .lt 7, 3) := by decide +kernel
theorem dX4_square_15 : decode cX4_square 15 = .ok (.iconst (-1), 1) := by decide +kernel
theorem dX4_square_16 : decode cX4_square 16 = .ok (.goto 12, 3) := by decide +kernel
theorem dX4_square_19 : decode cX4_square 19 = .ok (.aload_n 0, 1) := by decide +kernel
theorem dX4_square_20 : decode cX4_square 20 = .ok (.getfield 26, 3) := by decide +kernel
theorem dX4_square_23 : decode cX4_square 23 = .ok (.getfield 168, 3) := by decide +kernel
theorem dX4_square_26 : decode cX4_square 26 = .ok (.iload_n 1, 1) := by decide +kernel
theorem dX4_square_27 : decode cX4_square 27 = .ok (.iaload, 1) := by decide +kernel
theorem dX4_square_28 : decode cX4_square 28 = .ok (.ireturn, 1) := by decide +kernel
theorem dX4_colours_0 : decode cX4_colours 0 = .ok (.iload_n 1, 1) := by decide +kernel
theorem dX4_colours_1 : decode cX4_colours 1 = .ok (.ifCond .lt 8, 3) := by decide +kernel
theorem dX4_colours_4 : decode cX4_colours 4 = .ok (.iload_n 1, 1) := by decide +kernel
theorem dX4_colours_5 : decode cX4_colours 5 = .ok (.iconst 4, 1) := by decide +kernel
theorem dX4_colours_6 : decode cX4_colours 6 = .ok (.if_icmp .le 5, 3) := by decide +kernel
theorem dX4_colours_9 : decode cX4_colours 9 = .ok (.iconst (-1), 1) := by decide +kernel
theorem dX4_colours_10 : decode cX4_colours 10 = .ok (.ireturn, 1) := by decide +kernel
theorem dX4_colours_11 : decode cX4_colours 11 = .ok (.aload_n 0, 1) := by decide +kernel
theorem dX4_colours_12 : decode cX4_colours 12 = .ok (.getfield 26, 3) := by decide +kernel
theorem dX4_colours_15 : decode cX4_colours 15 = .ok (.invokevirtual 171, 3) := by decide +kernel
theorem dX4_colours_18 : decode cX4_colours 18 = .ok (.iload_n 1, 1) := by decide +kernel
theorem dX4_colours_19 : decode cX4_colours 19 = .ok (.tableswitch 61 0 3 #[29, 37, 45, 53], 29) := by decide +kernel
theorem dX4_colours_48 : decode cX4_colours 48 = .ok (.aload_n 0, 1) := by decide +kernel
theorem dX4_colours_49 : decode cX4_colours 49 = .ok (.getfield 26, 3) := by decide +kernel
theorem dX4_colours_52 : decode cX4_colours 52 = .ok (.getfield 174, 3) := by decide +kernel
theorem dX4_colours_55 : decode cX4_colours 55 = .ok (.ireturn, 1) := by decide +kernel
theorem dX4_colours_56 : decode cX4_colours 56 = .ok (.aload_n 0, 1) := by decide +kernel
theorem dX4_colours_57 : decode cX4_colours 57 = .ok (.getfield 26, 3) := by decide +kernel
theorem dX4_colours_60 : decode cX4_colours 60 = .ok (.getfield 177, 3) := by decide +kernel
theorem dX4_colours_63 : decode cX4_colours 63 = .ok (.ireturn, 1) := by decide +kernel
theorem dX4_colours_64 : decode cX4_colours 64 = .ok (.aload_n 0, 1) := by decide +kernel
theorem dX4_colours_65 : decode cX4_colours 65 = .ok (.getfield 26, 3) := by decide +kernel
theorem dX4_colours_68 : decode cX4_colours 68 = .ok (.getfield 180, 3) := by decide +kernel
theorem dX4_colours_71 : decode cX4_colours 71 = .ok (.ireturn, 1) := by decide +kernel
theorem dX4_colours_72 : decode cX4_colours 72 = .ok (.aload_n 0, 1) := by decide +kernel
theorem dX4_colours_73 : decode cX4_colours 73 = .ok (.getfield 26, 3) := by decide +kernel
theorem dX4_colours_76 : decode cX4_colours 76 = .ok (.getfield 183, 3) := by decide +kernel
theorem dX4_colours_79 : decode cX4_colours 79 = .ok (.ireturn, 1) := by decide +kernel
theorem dX4_colours_80 : decode cX4_colours 80 = .ok (.aload_n 0, 1) := by decide +kernel
theorem dX4_colours_81 : decode cX4_colours 81 = .ok (.getfield 26, 3) := by decide +kernel
theorem dX4_colours_84 : decode cX4_colours 84 = .ok (.getfield 186, 3) := by decide +kernel
theorem dX4_colours_87 : decode cX4_colours 87 = .ok (.ireturn, 1) := by decide +kernel
theorem dX4_isRayNumber_0 : decode cX4_isRayNumber 0 = .ok (.iload_n 0, 1) := by decide +kernel
theorem dX4_isRayNumber_1 : decode cX4_isRayNumber 1 = .ok (.bipush (-5), 2) := by decide +kernel
theorem dX4_isRayNumber_3 : decode cX4_isRayNumber 3 = .ok (.if_icmp .lt 12, 3) := by decide +kernel
theorem dX4_isRayNumber_6 : decode cX4_isRayNumber 6 = .ok (.iload_n 0, 1) := by decide +kernel
theorem dX4_isRayNumber_7 : decode cX4_isRayNumber 7 = .ok (.iconst 5, 1) := by decide +kernel
theorem dX4_isRayNumber_8 : decode cX4_isRayNumber 8 = .ok (.if_icmp .gt 7, 3) := by decide +kernel
theorem dX4_isRayNumber_11 : decode cX4_isRayNumber 11 = .ok (.iconst 1, 1) := by decide +kernel
theorem dX4_isRayNumber_12 : decode cX4_isRayNumber 12 = .ok (.goto 4, 3) := by decide +kernel
theorem dX4_isRayNumber_15 : decode cX4_isRayNumber 15 = .ok (.iconst 0, 1) := by decide +kernel
theorem dX4_isRayNumber_16 : decode cX4_isRayNumber 16 = .ok (.ireturn, 1) := by decide +kernel
theorem dX4_sheet_0 : decode cX4_sheet 0 = .ok (.iload_n 1, 1) := by decide +kernel
theorem dX4_sheet_1 : decode cX4_sheet 1 = .ok (.invokestatic 189, 3) := by decide +kernel
theorem dX4_sheet_4 : decode cX4_sheet 4 = .ok (.ifCond .eq 16, 3) := by decide +kernel
theorem dX4_sheet_7 : decode cX4_sheet 7 = .ok (.iload_n 2, 1) := by decide +kernel
theorem dX4_sheet_8 : decode cX4_sheet 8 = .ok (.invokestatic 192, 3) := by decide +kernel
theorem dX4_sheet_11 : decode cX4_sheet 11 = .ok (.ifCond .eq 9, 3) := by decide +kernel
theorem dX4_sheet_14 : decode cX4_sheet 14 = .ok (.iload_n 3, 1) := by decide +kernel
theorem dX4_sheet_15 : decode cX4_sheet 15 = .ok (.bipush 64, 2) := by decide +kernel
theorem dX4_sheet_17 : decode cX4_sheet 17 = .ok (.if_icmp .le 5, 3) := by decide +kernel
theorem dX4_sheet_20 : decode cX4_sheet 20 = .ok (.iconst (-1), 1) := by decide +kernel
theorem dX4_sheet_21 : decode cX4_sheet 21 = .ok (.ireturn, 1) := by decide +kernel
theorem dX4_sheet_22 : decode cX4_sheet 22 = .ok (.iload_n 3, 1) := by decide +kernel
theorem dX4_sheet_23 : decode cX4_sheet 23 = .ok (.ifCond .ge 6, 3) := by decide +kernel
theorem dX4_sheet_26 : decode cX4_sheet 26 = .ok (.bipush (-14), 2) := by decide +kernel
theorem dX4_sheet_28 : decode cX4_sheet 28 = .ok (.ireturn, 1) := by decide +kernel
theorem dX4_sheet_29 : decode cX4_sheet 29 = .ok (.aload_n 0, 1) := by decide +kernel
theorem dX4_sheet_30 : decode cX4_sheet 30 = .ok (.getfield 32, 3) := by decide +kernel
theorem dX4_sheet_33 : decode cX4_sheet 33 = .ok (.iload_n 1, 1) := by decide +kernel
theorem dX4_sheet_34 : decode cX4_sheet 34 = .ok (.aaload, 1) := by decide +kernel
theorem dX4_sheet_35 : decode cX4_sheet 35 = .ok (.iload_n 2, 1) := by decide +kernel
theorem dX4_sheet_36 : decode cX4_sheet 36 = .ok (.iload_n 3, 1) := by decide +kernel
theorem dX4_sheet_37 : decode cX4_sheet 37 = .ok (.invokevirtual 195, 3) := by decide +kernel
theorem dX4_sheet_40 : decode cX4_sheet 40 = .ok (.iconst 1, 1) := by decide +kernel
theorem dX4_sheet_41 : decode cX4_sheet 41 = .ok (.ireturn, 1) := by decide +kernel
theorem dX4_lay_0 : decode cX4_lay 0 = .ok (.iload_n 1, 1) := by decide +kernel
theorem dX4_lay_1 : decode cX4_lay 1 = .ok (.invokestatic 189, 3) := by decide +kernel
theorem dX4_lay_4 : decode cX4_lay 4 = .ok (.ifCond .ne 5, 3) := by decide +kernel
theorem dX4_lay_7 : decode cX4_lay 7 = .ok (.iconst (-1), 1) := by decide +kernel
theorem dX4_lay_8 : decode cX4_lay 8 = .ok (.ireturn, 1) := by decide +kernel
theorem dX4_lay_9 : decode cX4_lay 9 = .ok (.aload_n 0, 1) := by decide +kernel
theorem dX4_lay_10 : decode cX4_lay 10 = .ok (.getfield 32, 3) := by decide +kernel
theorem dX4_lay_13 : decode cX4_lay 13 = .ok (.iload_n 1, 1) := by decide +kernel
theorem dX4_lay_14 : decode cX4_lay 14 = .ok (.aaload, 1) := by decide +kernel
theorem dX4_lay_15 : decode cX4_lay 15 = .ok (.invokevirtual 198, 3) := by decide +kernel
theorem dX4_lay_18 : decode cX4_lay 18 = .ok (.ifCond .eq 6, 3) := by decide +kernel
theorem dX4_lay_21 : decode cX4_lay 21 = .ok (.bipush (-11), 2) := by decide +kernel
theorem dX4_lay_23 : decode cX4_lay 23 = .ok (.ireturn, 1) := by decide +kernel
theorem dX4_lay_24 : decode cX4_lay 24 = .ok (.aload_n 0, 1) := by decide +kernel
theorem dX4_lay_25 : decode cX4_lay 25 = .ok (.getfield 32, 3) := by decide +kernel
theorem dX4_lay_28 : decode cX4_lay 28 = .ok (.iload_n 1, 1) := by decide +kernel
theorem dX4_lay_29 : decode cX4_lay 29 = .ok (.aaload, 1) := by decide +kernel
theorem dX4_lay_30 : decode cX4_lay 30 = .ok (.iload_n 2, 1) := by decide +kernel
theorem dX4_lay_31 : decode cX4_lay 31 = .ok (.invokevirtual 201, 3) := by decide +kernel
theorem dX4_lay_34 : decode cX4_lay 34 = .ok (.ifCond .ne 6, 3) := by decide +kernel
theorem dX4_lay_37 : decode cX4_lay 37 = .ok (.bipush (-12), 2) := by decide +kernel
theorem dX4_lay_39 : decode cX4_lay 39 = .ok (.ireturn, 1) := by decide +kernel
theorem dX4_lay_40 : decode cX4_lay 40 = .ok (.aload_n 0, 1) := by decide +kernel
theorem dX4_lay_41 : decode cX4_lay 41 = .ok (.getfield 32, 3) := by decide +kernel
theorem dX4_lay_44 : decode cX4_lay 44 = .ok (.iload_n 1, 1) := by decide +kernel
theorem dX4_lay_45 : decode cX4_lay 45 = .ok (.aaload, 1) := by decide +kernel
theorem dX4_lay_46 : decode cX4_lay 46 = .ok (.iload_n 2, 1) := by decide +kernel
theorem dX4_lay_47 : decode cX4_lay 47 = .ok (.iload_n 3, 1) := by decide +kernel
theorem dX4_lay_48 : decode cX4_lay 48 = .ok (.invokevirtual 204, 3) := by decide +kernel
theorem dX4_lay_51 : decode cX4_lay 51 = .ok (.iconst 1, 1) := by decide +kernel
theorem dX4_lay_52 : decode cX4_lay 52 = .ok (.ireturn, 1) := by decide +kernel
theorem dX4_draw_0 : decode cX4_draw 0 = .ok (.aload_n 0, 1) := by decide +kernel
theorem dX4_draw_1 : decode cX4_draw 1 = .ok (.getfield 10, 3) := by decide +kernel
theorem dX4_draw_4 : decode cX4_draw 4 = .ok (.iload_n 1, 1) := by decide +kernel
theorem dX4_draw_5 : decode cX4_draw 5 = .ok (.invokevirtual 68, 3) := by decide +kernel
theorem dX4_draw_8 : decode cX4_draw 8 = .ok (.ifCond .eq 27, 3) := by decide +kernel
theorem dX4_draw_11 : decode cX4_draw 11 = .ok (.iload_n 2, 1) := by decide +kernel
theorem dX4_draw_12 : decode cX4_draw 12 = .ok (.ifCond .eq 8, 3) := by decide +kernel
theorem dX4_draw_15 : decode cX4_draw 15 = .ok (.iload_n 2, 1) := by decide +kernel
theorem dX4_draw_16 : decode cX4_draw 16 = .ok (.iconst 1, 1) := by decide +kernel
theorem dX4_draw_17 : decode cX4_draw 17 = .ok (.if_icmp .ne 18, 3) := by decide +kernel
theorem dX4_draw_20 : decode cX4_draw 20 = .ok (.iload_n 3, 1) := by decide +kernel
theorem dX4_draw_21 : decode cX4_draw 21 = .ok (.invokestatic 189, 3) := by decide +kernel
theorem dX4_draw_24 : decode cX4_draw 24 = .ok (.ifCond .eq 11, 3) := by decide +kernel
theorem dX4_draw_27 : decode cX4_draw 27 = .ok (.iload 4, 2) := by decide +kernel
theorem dX4_draw_29 : decode cX4_draw 29 = .ok (.invokestatic 192, 3) := by decide +kernel
theorem dX4_draw_32 : decode cX4_draw 32 = .ok (.ifCond .ne 5, 3) := by decide +kernel
theorem dX4_draw_35 : decode cX4_draw 35 = .ok (.iconst (-1), 1) := by decide +kernel
theorem dX4_draw_36 : decode cX4_draw 36 = .ok (.ireturn, 1) := by decide +kernel
theorem dX4_draw_37 : decode cX4_draw 37 = .ok (.aload_n 0, 1) := by decide +kernel
theorem dX4_draw_38 : decode cX4_draw 38 = .ok (.getfield 32, 3) := by decide +kernel
theorem dX4_draw_41 : decode cX4_draw 41 = .ok (.iload_n 3, 1) := by decide +kernel
theorem dX4_draw_42 : decode cX4_draw 42 = .ok (.aaload, 1) := by decide +kernel
theorem dX4_draw_43 : decode cX4_draw 43 = .ok (.invokevirtual 198, 3) := by decide +kernel
theorem dX4_draw_46 : decode cX4_draw 46 = .ok (.ifCond .eq 6, 3) := by decide +kernel
theorem dX4_draw_49 : decode cX4_draw 49 = .ok (.bipush (-11), 2) := by decide +kernel
theorem dX4_draw_51 : decode cX4_draw 51 = .ok (.ireturn, 1) := by decide +kernel
theorem dX4_draw_52 : decode cX4_draw 52 = .ok (.aload_n 0, 1) := by decide +kernel
theorem dX4_draw_53 : decode cX4_draw 53 = .ok (.getfield 32, 3) := by decide +kernel
theorem dX4_draw_56 : decode cX4_draw 56 = .ok (.iload_n 3, 1) := by decide +kernel
theorem dX4_draw_57 : decode cX4_draw 57 = .ok (.aaload, 1) := by decide +kernel
theorem dX4_draw_58 : decode cX4_draw 58 = .ok (.getfield 207, 3) := by decide +kernel
theorem dX4_draw_61 : decode cX4_draw 61 = .ok (.iload 4, 2) := by decide +kernel
theorem dX4_draw_63 : decode cX4_draw 63 = .ok (.if_icmp .eq 6, 3) := by decide +kernel
theorem dX4_draw_66 : decode cX4_draw 66 = .ok (.bipush (-13), 2) := by decide +kernel
theorem dX4_draw_68 : decode cX4_draw 68 = .ok (.ireturn, 1) := by decide +kernel
theorem dX4_draw_69 : decode cX4_draw 69 = .ok (.aload_n 0, 1) := by decide +kernel
theorem dX4_draw_70 : decode cX4_draw 70 = .ok (.getfield 10, 3) := by decide +kernel
theorem dX4_draw_73 : decode cX4_draw 73 = .ok (.iload_n 1, 1) := by decide +kernel
theorem dX4_draw_74 : decode cX4_draw 74 = .ok (.invokevirtual 210, 3) := by decide +kernel
theorem dX4_draw_77 : decode cX4_draw 77 = .ok (.istore 6, 2) := by decide +kernel
theorem dX4_draw_79 : decode cX4_draw 79 = .ok (.aload_n 0, 1) := by decide +kernel
theorem dX4_draw_80 : decode cX4_draw 80 = .ok (.getfield 32, 3) := by decide +kernel
theorem dX4_draw_83 : decode cX4_draw 83 = .ok (.iload_n 3, 1) := by decide +kernel
theorem dX4_draw_84 : decode cX4_draw 84 = .ok (.aaload, 1) := by decide +kernel
theorem dX4_draw_85 : decode cX4_draw 85 = .ok (.iload_n 2, 1) := by decide +kernel
theorem dX4_draw_86 : decode cX4_draw 86 = .ok (.iload 5, 2) := by decide +kernel
theorem dX4_draw_88 : decode cX4_draw 88 = .ok (.iload 6, 2) := by decide +kernel
theorem dX4_draw_90 : decode cX4_draw 90 = .ok (.invokestatic 213, 3) := by decide +kernel
theorem dX4_draw_93 : decode cX4_draw 93 = .ok (.istore 7, 2) := by decide +kernel
theorem dX4_draw_95 : decode cX4_draw 95 = .ok (.iload 7, 2) := by decide +kernel
theorem dX4_draw_97 : decode cX4_draw 97 = .ok (.ifCond .eq 6, 3) := by decide +kernel
theorem dX4_draw_100 : decode cX4_draw 100 = .ok (.iload 7, 2) := by decide +kernel
theorem dX4_draw_102 : decode cX4_draw 102 = .ok (.ireturn, 1) := by decide +kernel
theorem dX4_draw_103 : decode cX4_draw 103 = .ok (.iconst 0, 1) := by decide +kernel
theorem dX4_draw_104 : decode cX4_draw 104 = .ok (.istore 8, 2) := by decide +kernel
theorem dX4_draw_106 : decode cX4_draw 106 = .ok (.iload 8, 2) := by decide +kernel
theorem dX4_draw_108 : decode cX4_draw 108 = .ok (.iload 6, 2) := by decide +kernel
theorem dX4_draw_110 : decode cX4_draw 110 = .ok (.if_icmp .ge 66, 3) := by decide +kernel
theorem dX4_draw_113 : decode cX4_draw 113 = .ok (.aload_n 0, 1) := by decide +kernel
theorem dX4_draw_114 : decode cX4_draw 114 = .ok (.getfield 32, 3) := by decide +kernel
theorem dX4_draw_117 : decode cX4_draw 117 = .ok (.iload_n 3, 1) := by decide +kernel
theorem dX4_draw_118 : decode cX4_draw 118 = .ok (.aaload, 1) := by decide +kernel
theorem dX4_draw_119 : decode cX4_draw 119 = .ok (.getfield 217, 3) := by decide +kernel
theorem dX4_draw_122 : decode cX4_draw 122 = .ok (.iload 5, 2) := by decide +kernel
theorem dX4_draw_124 : decode cX4_draw 124 = .ok (.iload 8, 2) := by decide +kernel
theorem dX4_draw_126 : decode cX4_draw 126 = .ok (.iadd, 1) := by decide +kernel
theorem dX4_draw_127 : decode cX4_draw 127 = .ok (.iaload, 1) := by decide +kernel
theorem dX4_draw_128 : decode cX4_draw 128 = .ok (.istore 9, 2) := by decide +kernel
theorem dX4_draw_130 : decode cX4_draw 130 = .ok (.iload_n 2, 1) := by decide +kernel
theorem dX4_draw_131 : decode cX4_draw 131 = .ok (.ifCond .ne 22, 3) := by decide +kernel
theorem dX4_draw_134 : decode cX4_draw 134 = .ok (.aload_n 0, 1) := by decide +kernel
theorem dX4_draw_135 : decode cX4_draw 135 = .ok (.getfield 10, 3) := by decide +kernel
theorem dX4_draw_138 : decode cX4_draw 138 = .ok (.bipush 8, 2) := by decide +kernel
theorem dX4_draw_140 : decode cX4_draw 140 = .ok (.iload_n 1, 1) := by decide +kernel
theorem dX4_draw_141 : decode cX4_draw 141 = .ok (.imul, 1) := by decide +kernel
theorem dX4_draw_142 : decode cX4_draw 142 = .ok (.iload 8, 2) := by decide +kernel
theorem dX4_draw_144 : decode cX4_draw 144 = .ok (.iadd, 1) := by decide +kernel
theorem dX4_draw_145 : decode cX4_draw 145 = .ok (.iload 9, 2) := by decide +kernel
theorem dX4_draw_147 : decode cX4_draw 147 = .ok (.invokevirtual 91, 3) := by decide +kernel
theorem dX4_draw_150 : decode cX4_draw 150 = .ok (.goto 20, 3) := by decide +kernel
theorem dX4_draw_153 : decode cX4_draw 153 = .ok (.aload_n 0, 1) := by decide +kernel
theorem dX4_draw_154 : decode cX4_draw 154 = .ok (.getfield 10, 3) := by decide +kernel
theorem dX4_draw_157 : decode cX4_draw 157 = .ok (.getfield 98, 3) := by decide +kernel
theorem dX4_draw_160 : decode cX4_draw 160 = .ok (.bipush 8, 2) := by decide +kernel
theorem dX4_draw_162 : decode cX4_draw 162 = .ok (.iload_n 1, 1) := by decide +kernel
theorem dX4_draw_163 : decode cX4_draw 163 = .ok (.imul, 1) := by decide +kernel
theorem dX4_draw_164 : decode cX4_draw 164 = .ok (.iload 8, 2) := by decide +kernel
theorem dX4_draw_166 : decode cX4_draw 166 = .ok (.iadd, 1) := by decide +kernel
theorem dX4_draw_167 : decode cX4_draw 167 = .ok (.iload 9, 2) := by decide +kernel
theorem dX4_draw_169 : decode cX4_draw 169 = .ok (.iastore, 1) := by decide +kernel
theorem dX4_draw_170 : decode cX4_draw 170 = .ok (.iinc 8 1, 3) := by decide +kernel
theorem dX4_draw_173 : decode cX4_draw 173 = .ok (.goto (-67), 3) := by decide +kernel
theorem dX4_draw_176 : decode cX4_draw 176 = .ok (.iconst 1, 1) := by decide +kernel
theorem dX4_draw_177 : decode cX4_draw 177 = .ok (.ireturn, 1) := by decide +kernel
theorem dX4_firstFault_0 : decode cX4_firstFault 0 = .ok (.iconst 0, 1) := by decide +kernel
theorem dX4_firstFault_1 : decode cX4_firstFault 1 = .ok (.istore 4, 2) := by decide +kernel
theorem dX4_firstFault_3 : decode cX4_firstFault 3 = .ok (.iload 4, 2) := by decide +kernel
theorem dX4_firstFault_5 : decode cX4_firstFault 5 = .ok (.iload_n 3, 1) := by decide +kernel
theorem dX4_firstFault_6 : decode cX4_firstFault 6 = .ok (.if_icmp .ge 63, 3) := by decide +kernel
theorem dX4_firstFault_9 : decode cX4_firstFault 9 = .ok (.aload_n 0, 1) := by decide +kernel
theorem dX4_firstFault_10 : decode cX4_firstFault 10 = .ok (.iload_n 2, 1) := by decide +kernel
theorem dX4_firstFault_11 : decode cX4_firstFault 11 = .ok (.iload 4, 2) := by decide +kernel
theorem dX4_firstFault_13 : decode cX4_firstFault 13 = .ok (.iadd, 1) := by decide +kernel
theorem dX4_firstFault_14 : decode cX4_firstFault 14 = .ok (.invokevirtual 201, 3) := by decide +kernel
theorem dX4_firstFault_17 : decode cX4_firstFault 17 = .ok (.ifCond .ne 6, 3) := by decide +kernel
theorem dX4_firstFault_20 : decode cX4_firstFault 20 = .ok (.bipush (-12), 2) := by decide +kernel
theorem dX4_firstFault_22 : decode cX4_firstFault 22 = .ok (.ireturn, 1) := by decide +kernel
theorem dX4_firstFault_23 : decode cX4_firstFault 23 = .ok (.aload_n 0, 1) := by decide +kernel
theorem dX4_firstFault_24 : decode cX4_firstFault 24 = .ok (.getfield 217, 3) := by decide +kernel
theorem dX4_firstFault_27 : decode cX4_firstFault 27 = .ok (.iload_n 2, 1) := by decide +kernel
theorem dX4_firstFault_28 : decode cX4_firstFault 28 = .ok (.iload 4, 2) := by decide +kernel
theorem dX4_firstFault_30 : decode cX4_firstFault 30 = .ok (.iadd, 1) := by decide +kernel
theorem dX4_firstFault_31 : decode cX4_firstFault 31 = .ok (.iaload, 1) := by decide +kernel
theorem dX4_firstFault_32 : decode cX4_firstFault 32 = .ok (.istore 5, 2) := by decide +kernel
theorem dX4_firstFault_34 : decode cX4_firstFault 34 = .ok (.iload_n 1, 1) := by decide +kernel
theorem dX4_firstFault_35 : decode cX4_firstFault 35 = .ok (.ifCond .ne 14, 3) := by decide +kernel
theorem dX4_firstFault_38 : decode cX4_firstFault 38 = .ok (.iload 5, 2) := by decide +kernel
theorem dX4_firstFault_40 : decode cX4_firstFault 40 = .ok (.invokestatic 85, 3) := by decide +kernel
theorem dX4_firstFault_43 : decode cX4_firstFault 43 = .ok (.ifCond .ne 20, 3) := by decide +kernel
theorem dX4_firstFault_46 : decode cX4_firstFault 46 = .ok (.goto 11, 3) := by decide +kernel
theorem dX4_firstFault_49 : decode cX4_firstFault 49 = .ok (.iload 5, 2) := by decide +kernel
theorem dX4_firstFault_51 : decode cX4_firstFault 51 = .ok (.invokestatic 95, 3) := by decide +kernel
theorem dX4_firstFault_54 : decode cX4_firstFault 54 = .ok (.ifCond .ne 9, 3) := by decide +kernel
theorem dX4_firstFault_57 : decode cX4_firstFault 57 = .ok (.bipush (-20), 2) := by decide +kernel
theorem dX4_firstFault_59 : decode cX4_firstFault 59 = .ok (.iload 4, 2) := by decide +kernel
theorem dX4_firstFault_61 : decode cX4_firstFault 61 = .ok (.isub, 1) := by decide +kernel
theorem dX4_firstFault_62 : decode cX4_firstFault 62 = .ok (.ireturn, 1) := by decide +kernel
theorem dX4_firstFault_63 : decode cX4_firstFault 63 = .ok (.iinc 4 1, 3) := by decide +kernel
theorem dX4_firstFault_66 : decode cX4_firstFault 66 = .ok (.goto (-63), 3) := by decide +kernel
theorem dX4_firstFault_69 : decode cX4_firstFault 69 = .ok (.iconst 0, 1) := by decide +kernel
theorem dX4_firstFault_70 : decode cX4_firstFault 70 = .ok (.ireturn, 1) := by decide +kernel
theorem dX4_count_0 : decode cX4_count 0 = .ok (.iload_n 1, 1) := by decide +kernel
theorem dX4_count_1 : decode cX4_count 1 = .ok (.tableswitch 94 0 4 #[35, 43, 51, 59, 67], 35) := by decide +kernel
theorem dX4_count_36 : decode cX4_count 36 = .ok (.aload_n 0, 1) := by decide +kernel
theorem dX4_count_37 : decode cX4_count 37 = .ok (.getfield 10, 3) := by decide +kernel
theorem dX4_count_40 : decode cX4_count 40 = .ok (.getfield 37, 3) := by decide +kernel
theorem dX4_count_43 : decode cX4_count 43 = .ok (.ireturn, 1) := by decide +kernel
theorem dX4_count_44 : decode cX4_count 44 = .ok (.aload_n 0, 1) := by decide +kernel
theorem dX4_count_45 : decode cX4_count 45 = .ok (.getfield 10, 3) := by decide +kernel
theorem dX4_count_48 : decode cX4_count 48 = .ok (.getfield 59, 3) := by decide +kernel
theorem dX4_count_51 : decode cX4_count 51 = .ok (.ireturn, 1) := by decide +kernel
theorem dX4_count_52 : decode cX4_count 52 = .ok (.aload_n 0, 1) := by decide +kernel
theorem dX4_count_53 : decode cX4_count 53 = .ok (.getfield 26, 3) := by decide +kernel
theorem dX4_count_56 : decode cX4_count 56 = .ok (.getfield 163, 3) := by decide +kernel
theorem dX4_count_59 : decode cX4_count 59 = .ok (.ireturn, 1) := by decide +kernel
theorem dX4_count_60 : decode cX4_count 60 = .ok (.aload_n 0, 1) := by decide +kernel
theorem dX4_count_61 : decode cX4_count 61 = .ok (.getfield 10, 3) := by decide +kernel
theorem dX4_count_64 : decode cX4_count 64 = .ok (.invokevirtual 220, 3) := by decide +kernel
theorem dX4_count_67 : decode cX4_count 67 = .ok (.ireturn, 1) := by decide +kernel
theorem dX4_count_68 : decode cX4_count 68 = .ok (.aload_n 0, 1) := by decide +kernel
theorem dX4_count_69 : decode cX4_count 69 = .ok (.getfield 32, 3) := by decide +kernel
theorem dX4_count_72 : decode cX4_count 72 = .ok (.iconst 0, 1) := by decide +kernel
theorem dX4_count_73 : decode cX4_count 73 = .ok (.aaload, 1) := by decide +kernel
theorem dX4_count_74 : decode cX4_count 74 = .ok (.invokevirtual 198, 3) := by decide +kernel
theorem dX4_count_77 : decode cX4_count 77 = .ok (.ifCond .eq 8, 3) := by decide +kernel
theorem dX4_count_80 : decode cX4_count 80 = .ok (.bipush (-4), 2) := by decide +kernel
theorem dX4_count_82 : decode cX4_count 82 = .ok (.goto 12, 3) := by decide +kernel
theorem dX4_count_85 : decode cX4_count 85 = .ok (.aload_n 0, 1) := by decide +kernel
theorem dX4_count_86 : decode cX4_count 86 = .ok (.getfield 32, 3) := by decide +kernel
theorem dX4_count_89 : decode cX4_count 89 = .ok (.iconst 0, 1) := by decide +kernel
theorem dX4_count_90 : decode cX4_count 90 = .ok (.aaload, 1) := by decide +kernel
theorem dX4_count_91 : decode cX4_count 91 = .ok (.getfield 223, 3) := by decide +kernel
theorem dX4_count_94 : decode cX4_count 94 = .ok (.ireturn, 1) := by decide +kernel
theorem dX4_count_95 : decode cX4_count 95 = .ok (.iconst (-1), 1) := by decide +kernel
theorem dX4_count_96 : decode cX4_count 96 = .ok (.ireturn, 1) := by decide +kernel
theorem dX4_isSheet_0 : decode cX4_isSheet 0 = .ok (.iload_n 0, 1) := by decide +kernel
theorem dX4_isSheet_1 : decode cX4_isSheet 1 = .ok (.ifCond .lt 12, 3) := by decide +kernel
theorem dX4_isSheet_4 : decode cX4_isSheet 4 = .ok (.iload_n 0, 1) := by decide +kernel
theorem dX4_isSheet_5 : decode cX4_isSheet 5 = .ok (.iconst 4, 1) := by decide +kernel
theorem dX4_isSheet_6 : decode cX4_isSheet 6 = .ok (.if_icmp .ge 7, 3) := by decide +kernel
theorem dX4_isSheet_9 : decode cX4_isSheet 9 = .ok (.iconst 1, 1) := by decide +kernel
theorem dX4_isSheet_10 : decode cX4_isSheet 10 = .ok (.goto 4, 3) := by decide +kernel
theorem dX4_isSheet_13 : decode cX4_isSheet 13 = .ok (.iconst 0, 1) := by decide +kernel
theorem dX4_isSheet_14 : decode cX4_isSheet 14 = .ok (.ireturn, 1) := by decide +kernel
theorem dX4_isLane_0 : decode cX4_isLane 0 = .ok (.iload_n 0, 1) := by decide +kernel
theorem dX4_isLane_1 : decode cX4_isLane 1 = .ok (.ifCond .lt 12, 3) := by decide +kernel
theorem dX4_isLane_4 : decode cX4_isLane 4 = .ok (.iload_n 0, 1) := by decide +kernel
theorem dX4_isLane_5 : decode cX4_isLane 5 = .ok (.iconst 3, 1) := by decide +kernel
theorem dX4_isLane_6 : decode cX4_isLane 6 = .ok (.if_icmp .ge 7, 3) := by decide +kernel
theorem dX4_isLane_9 : decode cX4_isLane 9 = .ok (.iconst 1, 1) := by decide +kernel
theorem dX4_isLane_10 : decode cX4_isLane 10 = .ok (.goto 4, 3) := by decide +kernel
theorem dX4_isLane_13 : decode cX4_isLane 13 = .ok (.iconst 0, 1) := by decide +kernel
theorem dX4_isLane_14 : decode cX4_isLane 14 = .ok (.ireturn, 1) := by decide +kernel
