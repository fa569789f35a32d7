theorem dX2_init_0 : decode cX2_init 0 = .ok (.aload_n 0, 1) := by decide +kernel
theorem dX2_init_1 : decode cX2_init 1 = .ok (.invokespecial 3, 3) := by decide +kernel
theorem dX2_init_4 : decode cX2_init 4 = .ok (.aload_n 0, 1) := by decide +kernel
theorem dX2_init_5 : decode cX2_init 5 = .ok (.bipush 64, 2) := by decide +kernel
theorem dX2_init_7 : decode cX2_init 7 = .ok (.newarray .int, 2) := by decide +kernel
theorem dX2_init_9 : decode cX2_init 9 = .ok (.putfield 9, 3) := by decide +kernel
theorem dX2_init_12 : decode cX2_init 12 = .ok (.aload_n 0, 1) := by decide +kernel
theorem dX2_init_13 : decode cX2_init 13 = .ok (.iconst (-1), 1) := by decide +kernel
theorem dX2_init_14 : decode cX2_init 14 = .ok (.putfield 15, 3) := by decide +kernel
theorem dX2_init_17 : decode cX2_init 17 = .ok (.aload_n 0, 1) := by decide +kernel
theorem dX2_init_18 : decode cX2_init 18 = .ok (.iconst 0, 1) := by decide +kernel
theorem dX2_init_19 : decode cX2_init 19 = .ok (.putfield 19, 3) := by decide +kernel
theorem dX2_init_22 : decode cX2_init 22 = .ok (.return_, 1) := by decide +kernel
theorem dX2_renew_0 : decode cX2_renew 0 = .ok (.aload_n 0, 1) := by decide +kernel
theorem dX2_renew_1 : decode cX2_renew 1 = .ok (.getfield 9, 3) := by decide +kernel
theorem dX2_renew_4 : decode cX2_renew 4 = .ok (.iconst 0, 1) := by decide +kernel
theorem dX2_renew_5 : decode cX2_renew 5 = .ok (.invokestatic 22, 3) := by decide +kernel
theorem dX2_renew_8 : decode cX2_renew 8 = .ok (.aload_n 0, 1) := by decide +kernel
theorem dX2_renew_9 : decode cX2_renew 9 = .ok (.iload_n 1, 1) := by decide +kernel
theorem dX2_renew_10 : decode cX2_renew 10 = .ok (.putfield 15, 3) := by decide +kernel
theorem dX2_renew_13 : decode cX2_renew 13 = .ok (.aload_n 0, 1) := by decide +kernel
theorem dX2_renew_14 : decode cX2_renew 14 = .ok (.iload_n 2, 1) := by decide +kernel
theorem dX2_renew_15 : decode cX2_renew 15 = .ok (.putfield 19, 3) := by decide +kernel
theorem dX2_renew_18 : decode cX2_renew 18 = .ok (.return_, 1) := by decide +kernel
theorem dX2_isNothing_0 : decode cX2_isNothing 0 = .ok (.aload_n 0, 1) := by decide +kernel
theorem dX2_isNothing_1 : decode cX2_isNothing 1 = .ok (.getfield 15, 3) := by decide +kernel
theorem dX2_isNothing_4 : decode cX2_isNothing 4 = .ok (.iconst (-1), 1) := by decide +kernel
theorem dX2_isNothing_5 : decode cX2_isNothing 5 = .ok (.if_icmp .ne 7, 3) := by decide +kernel
theorem dX2_isNothing_8 : decode cX2_isNothing 8 = .ok (.iconst 1, 1) := by decide +kernel
theorem dX2_isNothing_9 : decode cX2_isNothing 9 = .ok (.goto 4, 3) := by decide +kernel
theorem dX2_isNothing_12 : decode cX2_isNothing 12 = .ok (.iconst 0, 1) := by decide +kernel
theorem dX2_isNothing_13 : decode cX2_isNothing 13 = .ok (.ireturn, 1) := by decide +kernel
theorem dX2_hasCell_0 : decode cX2_hasCell 0 = .ok (.iload_n 1, 1) := by decide +kernel
theorem dX2_hasCell_1 : decode cX2_hasCell 1 = .ok (.ifCond .lt 15, 3) := by decide +kernel
theorem dX2_hasCell_4 : decode cX2_hasCell 4 = .ok (.iload_n 1, 1) := by decide +kernel
theorem dX2_hasCell_5 : decode cX2_hasCell 5 = .ok (.aload_n 0, 1) := by decide +kernel
theorem dX2_hasCell_6 : decode cX2_hasCell 6 = .ok (.getfield 19, 3) := by decide +kernel
theorem dX2_hasCell_9 : decode cX2_hasCell 9 = .ok (.if_icmp .ge 7, 3) := by decide +kernel
theorem dX2_hasCell_12 : decode cX2_hasCell 12 = .ok (.iconst 1, 1) := by decide +kernel
theorem dX2_hasCell_13 : decode cX2_hasCell 13 = .ok (.goto 4, 3) := by decide +kernel
theorem dX2_hasCell_16 : decode cX2_hasCell 16 = .ok (.iconst 0, 1) := by decide +kernel
theorem dX2_hasCell_17 : decode cX2_hasCell 17 = .ok (.ireturn, 1) := by decide +kernel
theorem dX2_write_0 : decode cX2_write 0 = .ok (.aload_n 0, 1) := by decide +kernel
theorem dX2_write_1 : decode cX2_write 1 = .ok (.getfield 15, 3) := by decide +kernel
theorem dX2_write_4 : decode cX2_write 4 = .ok (.lookupswitch 50 #[(0, 28), (1, 39)], 28) := by decide +kernel
theorem dX2_write_32 : decode cX2_write 32 = .ok (.aload_n 0, 1) := by decide +kernel
theorem dX2_write_33 : decode cX2_write 33 = .ok (.getfield 9, 3) := by decide +kernel
theorem dX2_write_36 : decode cX2_write 36 = .ok (.iload_n 1, 1) := by decide +kernel
theorem dX2_write_37 : decode cX2_write 37 = .ok (.iload_n 2, 1) := by decide +kernel
theorem dX2_write_38 : decode cX2_write 38 = .ok (.i2b, 1) := by decide +kernel
theorem dX2_write_39 : decode cX2_write 39 = .ok (.iastore, 1) := by decide +kernel
theorem dX2_write_40 : decode cX2_write 40 = .ok (.goto 21, 3) := by decide +kernel
theorem dX2_write_43 : decode cX2_write 43 = .ok (.aload_n 0, 1) := by decide +kernel
theorem dX2_write_44 : decode cX2_write 44 = .ok (.getfield 9, 3) := by decide +kernel
theorem dX2_write_47 : decode cX2_write 47 = .ok (.iload_n 1, 1) := by decide +kernel
theorem dX2_write_48 : decode cX2_write 48 = .ok (.iload_n 2, 1) := by decide +kernel
theorem dX2_write_49 : decode cX2_write 49 = .ok (.i2s, 1) := by decide +kernel
theorem dX2_write_50 : decode cX2_write 50 = .ok (.iastore, 1) := by decide +kernel
theorem dX2_write_51 : decode cX2_write 51 = .ok (.goto 10, 3) := by decide +kernel
theorem dX2_write_54 : decode cX2_write 54 = .ok (.aload_n 0, 1) := by decide +kernel
theorem dX2_write_55 : decode cX2_write 55 = .ok (.getfield 9, 3) := by decide +kernel
theorem dX2_write_58 : decode cX2_write 58 = .ok (.iload_n 1, 1) := by decide +kernel
theorem dX2_write_59 : decode cX2_write 59 = .ok (.iload_n 2, 1) := by decide +kernel
theorem dX2_write_60 : decode cX2_write 60 = .ok (.iastore, 1) := by decide +kernel
theorem dX2_write_61 : decode cX2_write 61 = .ok (.return_, 1) := by decide +kernel
