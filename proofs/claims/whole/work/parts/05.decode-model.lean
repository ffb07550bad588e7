theorem dX5_init_0 : decode cX5_init 0 = .ok (.aload_n 0, 1) := by decide +kernel
theorem dX5_init_1 : decode cX5_init 1 = .ok (.invokespecial 1, 3) := by decide +kernel
theorem dX5_init_4 : decode cX5_init 4 = .ok (.aload_n 0, 1) := by decide +kernel
theorem dX5_init_5 : decode cX5_init 5 = .ok (.sipush 3745, 3) := by decide +kernel
theorem dX5_init_8 : decode cX5_init 8 = .ok (.newarray .int, 2) := by decide +kernel
theorem dX5_init_10 : decode cX5_init 10 = .ok (.putfield 7, 3) := by decide +kernel
theorem dX5_init_13 : decode cX5_init 13 = .ok (.aload_n 0, 1) := by decide +kernel
theorem dX5_init_14 : decode cX5_init 14 = .ok (.bipush 60, 2) := by decide +kernel
theorem dX5_init_16 : decode cX5_init 16 = .ok (.newarray .int, 2) := by decide +kernel
theorem dX5_init_18 : decode cX5_init 18 = .ok (.putfield 13, 3) := by decide +kernel
theorem dX5_init_21 : decode cX5_init 21 = .ok (.aload_n 0, 1) := by decide +kernel
theorem dX5_init_22 : decode cX5_init 22 = .ok (.bipush (-5), 2) := by decide +kernel
theorem dX5_init_24 : decode cX5_init 24 = .ok (.putfield 16, 3) := by decide +kernel
theorem dX5_init_27 : decode cX5_init 27 = .ok (.return_, 1) := by decide +kernel
theorem dX5_in_0 : decode cX5_in 0 = .ok (.iload_n 0, 1) := by decide +kernel
theorem dX5_in_1 : decode cX5_in 1 = .ok (.iload_n 1, 1) := by decide +kernel
theorem dX5_in_2 : decode cX5_in 2 = .ok (.if_icmp .lt 12, 3) := by decide +kernel
theorem dX5_in_5 : decode cX5_in 5 = .ok (.iload_n 0, 1) := by decide +kernel
theorem dX5_in_6 : decode cX5_in 6 = .ok (.iload_n 2, 1) := by decide +kernel
theorem dX5_in_7 : decode cX5_in 7 = .ok (.if_icmp .gt 7, 3) := by decide +kernel
theorem dX5_in_10 : decode cX5_in 10 = .ok (.iconst 1, 1) := by decide +kernel
theorem dX5_in_11 : decode cX5_in 11 = .ok (.goto 4, 3) := by decide +kernel
theorem dX5_in_14 : decode cX5_in 14 = .ok (.iconst 0, 1) := by decide +kernel
theorem dX5_in_15 : decode cX5_in 15 = .ok (.ireturn, 1) := by decide +kernel
theorem dX5_of_0 : decode cX5_of 0 = .ok (.bipush 9, 2) := by decide +kernel
theorem dX5_of_2 : decode cX5_of 2 = .ok (.iconst 4, 1) := by decide +kernel
theorem dX5_of_3 : decode cX5_of 3 = .ok (.iload_n 0, 1) := by decide +kernel
theorem dX5_of_4 : decode cX5_of 4 = .ok (.imul, 1) := by decide +kernel
theorem dX5_of_5 : decode cX5_of 5 = .ok (.iadd, 1) := by decide +kernel
theorem dX5_of_6 : decode cX5_of 6 = .ok (.iload_n 1, 1) := by decide +kernel
theorem dX5_of_7 : decode cX5_of 7 = .ok (.iadd, 1) := by decide +kernel
theorem dX5_of_8 : decode cX5_of 8 = .ok (.ireturn, 1) := by decide +kernel
theorem dX5_ofMember_0 : decode cX5_ofMember 0 = .ok (.bipush 29, 2) := by decide +kernel
theorem dX5_ofMember_2 : decode cX5_ofMember 2 = .ok (.iconst 2, 1) := by decide +kernel
theorem dX5_ofMember_3 : decode cX5_ofMember 3 = .ok (.iload_n 0, 1) := by decide +kernel
theorem dX5_ofMember_4 : decode cX5_ofMember 4 = .ok (.imul, 1) := by decide +kernel
theorem dX5_ofMember_5 : decode cX5_ofMember 5 = .ok (.iadd, 1) := by decide +kernel
theorem dX5_ofMember_6 : decode cX5_ofMember 6 = .ok (.iload_n 1, 1) := by decide +kernel
theorem dX5_ofMember_7 : decode cX5_ofMember 7 = .ok (.iadd, 1) := by decide +kernel
theorem dX5_ofMember_8 : decode cX5_ofMember 8 = .ok (.ireturn, 1) := by decide +kernel
theorem dX5_ofBooking_0 : decode cX5_ofBooking 0 = .ok (.bipush 45, 2) := by decide +kernel
theorem dX5_ofBooking_2 : decode cX5_ofBooking 2 = .ok (.bipush 8, 2) := by decide +kernel
theorem dX5_ofBooking_4 : decode cX5_ofBooking 4 = .ok (.iload_n 0, 1) := by decide +kernel
theorem dX5_ofBooking_5 : decode cX5_ofBooking 5 = .ok (.imul, 1) := by decide +kernel
theorem dX5_ofBooking_6 : decode cX5_ofBooking 6 = .ok (.iadd, 1) := by decide +kernel
theorem dX5_ofBooking_7 : decode cX5_ofBooking 7 = .ok (.iload_n 1, 1) := by decide +kernel
theorem dX5_ofBooking_8 : decode cX5_ofBooking 8 = .ok (.iadd, 1) := by decide +kernel
theorem dX5_ofBooking_9 : decode cX5_ofBooking 9 = .ok (.ireturn, 1) := by decide +kernel
theorem dX5_ofMove_0 : decode cX5_ofMove 0 = .ok (.sipush 285, 3) := by decide +kernel
theorem dX5_ofMove_3 : decode cX5_ofMove 3 = .ok (.iconst 5, 1) := by decide +kernel
theorem dX5_ofMove_4 : decode cX5_ofMove 4 = .ok (.iload_n 0, 1) := by decide +kernel
theorem dX5_ofMove_5 : decode cX5_ofMove 5 = .ok (.imul, 1) := by decide +kernel
theorem dX5_ofMove_6 : decode cX5_ofMove 6 = .ok (.iadd, 1) := by decide +kernel
theorem dX5_ofMove_7 : decode cX5_ofMove 7 = .ok (.iload_n 1, 1) := by decide +kernel
theorem dX5_ofMove_8 : decode cX5_ofMove 8 = .ok (.iadd, 1) := by decide +kernel
theorem dX5_ofMove_9 : decode cX5_ofMove 9 = .ok (.ireturn, 1) := by decide +kernel
theorem dX5_isMachine_0 : decode cX5_isMachine 0 = .ok (.iload_n 1, 1) := by decide +kernel
theorem dX5_isMachine_1 : decode cX5_isMachine 1 = .ok (.iconst 0, 1) := by decide +kernel
theorem dX5_isMachine_2 : decode cX5_isMachine 2 = .ok (.aload_n 0, 1) := by decide +kernel
theorem dX5_isMachine_3 : decode cX5_isMachine 3 = .ok (.getfield 7, 3) := by decide +kernel
theorem dX5_isMachine_6 : decode cX5_isMachine 6 = .ok (.iconst 1, 1) := by decide +kernel
theorem dX5_isMachine_7 : decode cX5_isMachine 7 = .ok (.iaload, 1) := by decide +kernel
theorem dX5_isMachine_8 : decode cX5_isMachine 8 = .ok (.iconst 1, 1) := by decide +kernel
theorem dX5_isMachine_9 : decode cX5_isMachine 9 = .ok (.isub, 1) := by decide +kernel
theorem dX5_isMachine_10 : decode cX5_isMachine 10 = .ok (.invokestatic 20, 3) := by decide +kernel
theorem dX5_isMachine_13 : decode cX5_isMachine 13 = .ok (.ireturn, 1) := by decide +kernel
theorem dX5_isMember_0 : decode cX5_isMember 0 = .ok (.iload_n 1, 1) := by decide +kernel
theorem dX5_isMember_1 : decode cX5_isMember 1 = .ok (.iconst 0, 1) := by decide +kernel
theorem dX5_isMember_2 : decode cX5_isMember 2 = .ok (.aload_n 0, 1) := by decide +kernel
theorem dX5_isMember_3 : decode cX5_isMember 3 = .ok (.getfield 7, 3) := by decide +kernel
theorem dX5_isMember_6 : decode cX5_isMember 6 = .ok (.iconst 2, 1) := by decide +kernel
theorem dX5_isMember_7 : decode cX5_isMember 7 = .ok (.iaload, 1) := by decide +kernel
theorem dX5_isMember_8 : decode cX5_isMember 8 = .ok (.iconst 1, 1) := by decide +kernel
theorem dX5_isMember_9 : decode cX5_isMember 9 = .ok (.isub, 1) := by decide +kernel
theorem dX5_isMember_10 : decode cX5_isMember 10 = .ok (.invokestatic 20, 3) := by decide +kernel
theorem dX5_isMember_13 : decode cX5_isMember 13 = .ok (.ireturn, 1) := by decide +kernel
theorem dX5_isBooking_0 : decode cX5_isBooking 0 = .ok (.iload_n 1, 1) := by decide +kernel
theorem dX5_isBooking_1 : decode cX5_isBooking 1 = .ok (.iconst 0, 1) := by decide +kernel
theorem dX5_isBooking_2 : decode cX5_isBooking 2 = .ok (.aload_n 0, 1) := by decide +kernel
theorem dX5_isBooking_3 : decode cX5_isBooking 3 = .ok (.getfield 7, 3) := by decide +kernel
theorem dX5_isBooking_6 : decode cX5_isBooking 6 = .ok (.iconst 3, 1) := by decide +kernel
theorem dX5_isBooking_7 : decode cX5_isBooking 7 = .ok (.iaload, 1) := by decide +kernel
theorem dX5_isBooking_8 : decode cX5_isBooking 8 = .ok (.iconst 1, 1) := by decide +kernel
theorem dX5_isBooking_9 : decode cX5_isBooking 9 = .ok (.isub, 1) := by decide +kernel
theorem dX5_isBooking_10 : decode cX5_isBooking 10 = .ok (.invokestatic 20, 3) := by decide +kernel
theorem dX5_isBooking_13 : decode cX5_isBooking 13 = .ok (.ireturn, 1) := by decide +kernel
theorem dX5_isMove_0 : decode cX5_isMove 0 = .ok (.iload_n 1, 1) := by decide +kernel
theorem dX5_isMove_1 : decode cX5_isMove 1 = .ok (.iconst 0, 1) := by decide +kernel
theorem dX5_isMove_2 : decode cX5_isMove 2 = .ok (.aload_n 0, 1) := by decide +kernel
theorem dX5_isMove_3 : decode cX5_isMove 3 = .ok (.getfield 7, 3) := by decide +kernel
theorem dX5_isMove_6 : decode cX5_isMove 6 = .ok (.iconst 4, 1) := by decide +kernel
theorem dX5_isMove_7 : decode cX5_isMove 7 = .ok (.iaload, 1) := by decide +kernel
theorem dX5_isMove_8 : decode cX5_isMove 8 = .ok (.iconst 1, 1) := by decide +kernel
theorem dX5_isMove_9 : decode cX5_isMove 9 = .ok (.isub, 1) := by decide +kernel
theorem dX5_isMove_10 : decode cX5_isMove 10 = .ok (.invokestatic 20, 3) := by decide +kernel
theorem dX5_isMove_13 : decode cX5_isMove 13 = .ok (.ireturn, 1) := by decide +kernel
theorem dX5_isToCome_0 : decode cX5_isToCome 0 = .ok (.iload_n 1, 1) := by decide +kernel
theorem dX5_isToCome_1 : decode cX5_isToCome 1 = .ok (.aload_n 0, 1) := by decide +kernel
theorem dX5_isToCome_2 : decode cX5_isToCome 2 = .ok (.getfield 7, 3) := by decide +kernel
theorem dX5_isToCome_5 : decode cX5_isToCome 5 = .ok (.iconst 0, 1) := by decide +kernel
theorem dX5_isToCome_6 : decode cX5_isToCome 6 = .ok (.iaload, 1) := by decide +kernel
theorem dX5_isToCome_7 : decode cX5_isToCome 7 = .ok (.sipush 199, 3) := by decide +kernel
theorem dX5_isToCome_10 : decode cX5_isToCome 10 = .ok (.invokestatic 20, 3) := by decide +kernel
theorem dX5_isToCome_13 : decode cX5_isToCome 13 = .ok (.ireturn, 1) := by decide +kernel
theorem dX5_isLift_0 : decode cX5_isLift 0 = .ok (.iload_n 0, 1) := by decide +kernel
theorem dX5_isLift_1 : decode cX5_isLift 1 = .ok (.iconst 1, 1) := by decide +kernel
theorem dX5_isLift_2 : decode cX5_isLift 2 = .ok (.sipush 2000, 3) := by decide +kernel
theorem dX5_isLift_5 : decode cX5_isLift 5 = .ok (.invokestatic 20, 3) := by decide +kernel
theorem dX5_isLift_8 : decode cX5_isLift 8 = .ok (.ifCond .eq 17, 3) := by decide +kernel
theorem dX5_isLift_11 : decode cX5_isLift 11 = .ok (.iload_n 1, 1) := by decide +kernel
theorem dX5_isLift_12 : decode cX5_isLift 12 = .ok (.iconst 2, 1) := by decide +kernel
theorem dX5_isLift_13 : decode cX5_isLift 13 = .ok (.bipush 60, 2) := by decide +kernel
theorem dX5_isLift_15 : decode cX5_isLift 15 = .ok (.invokestatic 20, 3) := by decide +kernel
theorem dX5_isLift_18 : decode cX5_isLift 18 = .ok (.ifCond .eq 7, 3) := by decide +kernel
theorem dX5_isLift_21 : decode cX5_isLift 21 = .ok (.iconst 1, 1) := by decide +kernel
theorem dX5_isLift_22 : decode cX5_isLift 22 = .ok (.goto 4, 3) := by decide +kernel
theorem dX5_isLift_25 : decode cX5_isLift 25 = .ok (.iconst 0, 1) := by decide +kernel
theorem dX5_isLift_26 : decode cX5_isLift 26 = .ok (.ireturn, 1) := by decide +kernel
theorem dX5_copy_0 : decode cX5_copy 0 = .ok (.iconst 0, 1) := by decide +kernel
theorem dX5_copy_1 : decode cX5_copy 1 = .ok (.istore_n 3, 1) := by decide +kernel
theorem dX5_copy_2 : decode cX5_copy 2 = .ok (.iload_n 3, 1) := by decide +kernel
theorem dX5_copy_3 : decode cX5_copy 3 = .ok (.sipush 535, 3) := by decide +kernel
theorem dX5_copy_6 : decode cX5_copy 6 = .ok (.if_icmp .ge 25, 3) := by decide +kernel
theorem dX5_copy_9 : decode cX5_copy 9 = .ok (.aload_n 0, 1) := by decide +kernel
theorem dX5_copy_10 : decode cX5_copy 10 = .ok (.getfield 7, 3) := by decide +kernel
theorem dX5_copy_13 : decode cX5_copy 13 = .ok (.iload_n 2, 1) := by decide +kernel
theorem dX5_copy_14 : decode cX5_copy 14 = .ok (.iload_n 3, 1) := by decide +kernel
theorem dX5_copy_15 : decode cX5_copy 15 = .ok (.iadd, 1) := by decide +kernel
theorem dX5_copy_16 : decode cX5_copy 16 = .ok (.aload_n 0, 1) := by decide +kernel
theorem dX5_copy_17 : decode cX5_copy 17 = .ok (.getfield 7, 3) := by decide +kernel
theorem dX5_copy_20 : decode cX5_copy 20 = .ok (.iload_n 1, 1) := by decide +kernel
theorem dX5_copy_21 : decode cX5_copy 21 = .ok (.iload_n 3, 1) := by decide +kernel
theorem dX5_copy_22 : decode cX5_copy 22 = .ok (.iadd, 1) := by decide +kernel
theorem dX5_copy_23 : decode cX5_copy 23 = .ok (.iaload, 1) := by decide +kernel
theorem dX5_copy_24 : decode cX5_copy 24 = .ok (.iastore, 1) := by decide +kernel
theorem dX5_copy_25 : decode cX5_copy 25 = .ok (.iinc 3 1, 3) := by decide +kernel
theorem dX5_copy_28 : decode cX5_copy 28 = .ok (.goto (-26), 3) := by decide +kernel
theorem dX5_copy_31 : decode cX5_copy 31 = .ok (.return_, 1) := by decide +kernel
theorem dX5_record_0 : decode cX5_record 0 = .ok (.aload_n 0, 1) := by decide +kernel
theorem dX5_record_1 : decode cX5_record 1 = .ok (.getfield 24, 3) := by decide +kernel
theorem dX5_record_4 : decode cX5_record 4 = .ok (.iconst 4, 1) := by decide +kernel
theorem dX5_record_5 : decode cX5_record 5 = .ok (.if_icmp .ne 44, 3) := by decide +kernel
theorem dX5_record_8 : decode cX5_record 8 = .ok (.iconst 1, 1) := by decide +kernel
theorem dX5_record_9 : decode cX5_record 9 = .ok (.istore_n 1, 1) := by decide +kernel
theorem dX5_record_10 : decode cX5_record 10 = .ok (.iload_n 1, 1) := by decide +kernel
theorem dX5_record_11 : decode cX5_record 11 = .ok (.iconst 4, 1) := by decide +kernel
theorem dX5_record_12 : decode cX5_record 12 = .ok (.if_icmp .ge 27, 3) := by decide +kernel
theorem dX5_record_15 : decode cX5_record 15 = .ok (.aload_n 0, 1) := by decide +kernel
theorem dX5_record_16 : decode cX5_record 16 = .ok (.sipush 535, 3) := by decide +kernel
theorem dX5_record_19 : decode cX5_record 19 = .ok (.sipush 535, 3) := by decide +kernel
theorem dX5_record_22 : decode cX5_record 22 = .ok (.iload_n 1, 1) := by decide +kernel
theorem dX5_record_23 : decode cX5_record 23 = .ok (.imul, 1) := by decide +kernel
theorem dX5_record_24 : decode cX5_record 24 = .ok (.iadd, 1) := by decide +kernel
theorem dX5_record_25 : decode cX5_record 25 = .ok (.sipush 535, 3) := by decide +kernel
theorem dX5_record_28 : decode cX5_record 28 = .ok (.iload_n 1, 1) := by decide +kernel
theorem dX5_record_29 : decode cX5_record 29 = .ok (.imul, 1) := by decide +kernel
theorem dX5_record_30 : decode cX5_record 30 = .ok (.invokevirtual 27, 3) := by decide +kernel
theorem dX5_record_33 : decode cX5_record 33 = .ok (.iinc 1 1, 3) := by decide +kernel
theorem dX5_record_36 : decode cX5_record 36 = .ok (.goto (-26), 3) := by decide +kernel
theorem dX5_record_39 : decode cX5_record 39 = .ok (.aload_n 0, 1) := by decide +kernel
theorem dX5_record_40 : decode cX5_record 40 = .ok (.dup, 1) := by decide +kernel
theorem dX5_record_41 : decode cX5_record 41 = .ok (.getfield 24, 3) := by decide +kernel
theorem dX5_record_44 : decode cX5_record 44 = .ok (.iconst 1, 1) := by decide +kernel
theorem dX5_record_45 : decode cX5_record 45 = .ok (.isub, 1) := by decide +kernel
theorem dX5_record_46 : decode cX5_record 46 = .ok (.putfield 24, 3) := by decide +kernel
theorem dX5_record_49 : decode cX5_record 49 = .ok (.aload_n 0, 1) := by decide +kernel
theorem dX5_record_50 : decode cX5_record 50 = .ok (.iconst 0, 1) := by decide +kernel
theorem dX5_record_51 : decode cX5_record 51 = .ok (.sipush 535, 3) := by decide +kernel
theorem dX5_record_54 : decode cX5_record 54 = .ok (.sipush 535, 3) := by decide +kernel
theorem dX5_record_57 : decode cX5_record 57 = .ok (.aload_n 0, 1) := by decide +kernel
theorem dX5_record_58 : decode cX5_record 58 = .ok (.getfield 24, 3) := by decide +kernel
theorem dX5_record_61 : decode cX5_record 61 = .ok (.imul, 1) := by decide +kernel
theorem dX5_record_62 : decode cX5_record 62 = .ok (.iadd, 1) := by decide +kernel
theorem dX5_record_63 : decode cX5_record 63 = .ok (.invokevirtual 27, 3) := by decide +kernel
theorem dX5_record_66 : decode cX5_record 66 = .ok (.aload_n 0, 1) := by decide +kernel
theorem dX5_record_67 : decode cX5_record 67 = .ok (.dup, 1) := by decide +kernel
theorem dX5_record_68 : decode cX5_record 68 = .ok (.getfield 24, 3) := by decide +kernel
theorem dX5_record_71 : decode cX5_record 71 = .ok (.iconst 1, 1) := by decide +kernel
theorem dX5_record_72 : decode cX5_record 72 = .ok (.iadd, 1) := by decide +kernel
theorem dX5_record_73 : decode cX5_record 73 = .ok (.putfield 24, 3) := by decide +kernel
theorem dX5_record_76 : decode cX5_record 76 = .ok (.return_, 1) := by decide +kernel
theorem dX5_undo_0 : decode cX5_undo 0 = .ok (.aload_n 0, 1) := by decide +kernel
theorem dX5_undo_1 : decode cX5_undo 1 = .ok (.getfield 24, 3) := by decide +kernel
theorem dX5_undo_4 : decode cX5_undo 4 = .ok (.ifCond .ne 6, 3) := by decide +kernel
theorem dX5_undo_7 : decode cX5_undo 7 = .ok (.bipush (-5), 2) := by decide +kernel
theorem dX5_undo_9 : decode cX5_undo 9 = .ok (.ireturn, 1) := by decide +kernel
theorem dX5_undo_10 : decode cX5_undo 10 = .ok (.aload_n 0, 1) := by decide +kernel
theorem dX5_undo_11 : decode cX5_undo 11 = .ok (.dup, 1) := by decide +kernel
theorem dX5_undo_12 : decode cX5_undo 12 = .ok (.getfield 24, 3) := by decide +kernel
theorem dX5_undo_15 : decode cX5_undo 15 = .ok (.iconst 1, 1) := by decide +kernel
theorem dX5_undo_16 : decode cX5_undo 16 = .ok (.isub, 1) := by decide +kernel
theorem dX5_undo_17 : decode cX5_undo 17 = .ok (.putfield 24, 3) := by decide +kernel
theorem dX5_undo_20 : decode cX5_undo 20 = .ok (.aload_n 0, 1) := by decide +kernel
theorem dX5_undo_21 : decode cX5_undo 21 = .ok (.sipush 535, 3) := by decide +kernel
theorem dX5_undo_24 : decode cX5_undo 24 = .ok (.sipush 535, 3) := by decide +kernel
theorem dX5_undo_27 : decode cX5_undo 27 = .ok (.aload_n 0, 1) := by decide +kernel
theorem dX5_undo_28 : decode cX5_undo 28 = .ok (.getfield 24, 3) := by decide +kernel
theorem dX5_undo_31 : decode cX5_undo 31 = .ok (.imul, 1) := by decide +kernel
theorem dX5_undo_32 : decode cX5_undo 32 = .ok (.iadd, 1) := by decide +kernel
theorem dX5_undo_33 : decode cX5_undo 33 = .ok (.iconst 0, 1) := by decide +kernel
theorem dX5_undo_34 : decode cX5_undo 34 = .ok (.invokevirtual 27, 3) := by decide +kernel
theorem dX5_undo_37 : decode cX5_undo 37 = .ok (.aload_n 0, 1) := by decide +kernel
theorem dX5_undo_38 : decode cX5_undo 38 = .ok (.getfield 24, 3) := by decide +kernel
theorem dX5_undo_41 : decode cX5_undo 41 = .ok (.ireturn, 1) := by decide +kernel
theorem dX5_keep_0 : decode cX5_keep 0 = .ok (.aload_n 0, 1) := by decide +kernel
theorem dX5_keep_1 : decode cX5_keep 1 = .ok (.iconst 0, 1) := by decide +kernel
theorem dX5_keep_2 : decode cX5_keep 2 = .ok (.sipush 2675, 3) := by decide +kernel
theorem dX5_keep_5 : decode cX5_keep 5 = .ok (.invokevirtual 27, 3) := by decide +kernel
theorem dX5_keep_8 : decode cX5_keep 8 = .ok (.aload_n 0, 1) := by decide +kernel
theorem dX5_keep_9 : decode cX5_keep 9 = .ok (.iconst 1, 1) := by decide +kernel
theorem dX5_keep_10 : decode cX5_keep 10 = .ok (.putfield 31, 3) := by decide +kernel
theorem dX5_keep_13 : decode cX5_keep 13 = .ok (.aload_n 0, 1) := by decide +kernel
theorem dX5_keep_14 : decode cX5_keep 14 = .ok (.getfield 7, 3) := by decide +kernel
theorem dX5_keep_17 : decode cX5_keep 17 = .ok (.iconst 0, 1) := by decide +kernel
theorem dX5_keep_18 : decode cX5_keep 18 = .ok (.iaload, 1) := by decide +kernel
theorem dX5_keep_19 : decode cX5_keep 19 = .ok (.ireturn, 1) := by decide +kernel
theorem dX5_restore_0 : decode cX5_restore 0 = .ok (.aload_n 0, 1) := by decide +kernel
theorem dX5_restore_1 : decode cX5_restore 1 = .ok (.getfield 31, 3) := by decide +kernel
theorem dX5_restore_4 : decode cX5_restore 4 = .ok (.ifCond .ne 6, 3) := by decide +kernel
theorem dX5_restore_7 : decode cX5_restore 7 = .ok (.bipush (-5), 2) := by decide +kernel
theorem dX5_restore_9 : decode cX5_restore 9 = .ok (.ireturn, 1) := by decide +kernel
theorem dX5_restore_10 : decode cX5_restore 10 = .ok (.aload_n 0, 1) := by decide +kernel
theorem dX5_restore_11 : decode cX5_restore 11 = .ok (.invokevirtual 35, 3) := by decide +kernel
theorem dX5_restore_14 : decode cX5_restore 14 = .ok (.aload_n 0, 1) := by decide +kernel
theorem dX5_restore_15 : decode cX5_restore 15 = .ok (.sipush 2675, 3) := by decide +kernel
theorem dX5_restore_18 : decode cX5_restore 18 = .ok (.iconst 0, 1) := by decide +kernel
theorem dX5_restore_19 : decode cX5_restore 19 = .ok (.invokevirtual 27, 3) := by decide +kernel
theorem dX5_restore_22 : decode cX5_restore 22 = .ok (.aload_n 0, 1) := by decide +kernel
theorem dX5_restore_23 : decode cX5_restore 23 = .ok (.getfield 7, 3) := by decide +kernel
theorem dX5_restore_26 : decode cX5_restore 26 = .ok (.iconst 0, 1) := by decide +kernel
theorem dX5_restore_27 : decode cX5_restore 27 = .ok (.iaload, 1) := by decide +kernel
theorem dX5_restore_28 : decode cX5_restore 28 = .ok (.ireturn, 1) := by decide +kernel
theorem dX5_addMachine_0 : decode cX5_addMachine 0 = .ok (.iload_n 1, 1) := by decide +kernel
theorem dX5_addMachine_1 : decode cX5_addMachine 1 = .ok (.bipush 10, 2) := by decide +kernel
theorem dX5_addMachine_3 : decode cX5_addMachine 3 = .ok (.sipush 200, 3) := by decide +kernel
theorem dX5_addMachine_6 : decode cX5_addMachine 6 = .ok (.invokestatic 20, 3) := by decide +kernel
theorem dX5_addMachine_9 : decode cX5_addMachine 9 = .ok (.ifCond .eq 13, 3) := by decide +kernel
theorem dX5_addMachine_12 : decode cX5_addMachine 12 = .ok (.iload_n 2, 1) := by decide +kernel
theorem dX5_addMachine_13 : decode cX5_addMachine 13 = .ok (.iconst 0, 1) := by decide +kernel
theorem dX5_addMachine_14 : decode cX5_addMachine 14 = .ok (.bipush 12, 2) := by decide +kernel
theorem dX5_addMachine_16 : decode cX5_addMachine 16 = .ok (.invokestatic 20, 3) := by decide +kernel
theorem dX5_addMachine_19 : decode cX5_addMachine 19 = .ok (.ifCond .ne 6, 3) := by decide +kernel
theorem dX5_addMachine_22 : decode cX5_addMachine 22 = .ok (.bipush (-2), 2) := by decide +kernel
theorem dX5_addMachine_24 : decode cX5_addMachine 24 = .ok (.ireturn, 1) := by decide +kernel
theorem dX5_addMachine_25 : decode cX5_addMachine 25 = .ok (.aload_n 0, 1) := by decide +kernel
theorem dX5_addMachine_26 : decode cX5_addMachine 26 = .ok (.getfield 7, 3) := by decide +kernel
theorem dX5_addMachine_29 : decode cX5_addMachine 29 = .ok (.iconst 1, 1) := by decide +kernel
theorem dX5_addMachine_30 : decode cX5_addMachine 30 = .ok (.iaload, 1) := by decide +kernel
theorem dX5_addMachine_31 : decode cX5_addMachine 31 = .ok (.iconst 5, 1) := by decide +kernel
theorem dX5_addMachine_32 : decode cX5_addMachine 32 = .ok (.if_icmp .ne 6, 3) := by decide +kernel
theorem dX5_addMachine_35 : decode cX5_addMachine 35 = .ok (.bipush (-3), 2) := by decide +kernel
theorem dX5_addMachine_37 : decode cX5_addMachine 37 = .ok (.ireturn, 1) := by decide +kernel
theorem dX5_addMachine_38 : decode cX5_addMachine 38 = .ok (.aload_n 0, 1) := by decide +kernel
theorem dX5_addMachine_39 : decode cX5_addMachine 39 = .ok (.invokevirtual 35, 3) := by decide +kernel
theorem dX5_addMachine_42 : decode cX5_addMachine 42 = .ok (.aload_n 0, 1) := by decide +kernel
theorem dX5_addMachine_43 : decode cX5_addMachine 43 = .ok (.getfield 7, 3) := by decide +kernel
theorem dX5_addMachine_46 : decode cX5_addMachine 46 = .ok (.iconst 1, 1) := by decide +kernel
theorem dX5_addMachine_47 : decode cX5_addMachine 47 = .ok (.iaload, 1) := by decide +kernel
theorem dX5_addMachine_48 : decode cX5_addMachine 48 = .ok (.istore_n 3, 1) := by decide +kernel
theorem dX5_addMachine_49 : decode cX5_addMachine 49 = .ok (.aload_n 0, 1) := by decide +kernel
theorem dX5_addMachine_50 : decode cX5_addMachine 50 = .ok (.getfield 7, 3) := by decide +kernel
theorem dX5_addMachine_53 : decode cX5_addMachine 53 = .ok (.iload_n 3, 1) := by decide +kernel
theorem dX5_addMachine_54 : decode cX5_addMachine 54 = .ok (.iconst 0, 1) := by decide +kernel
theorem dX5_addMachine_55 : decode cX5_addMachine 55 = .ok (.invokestatic 38, 3) := by decide +kernel
theorem dX5_addMachine_58 : decode cX5_addMachine 58 = .ok (.iload_n 1, 1) := by decide +kernel
theorem dX5_addMachine_59 : decode cX5_addMachine 59 = .ok (.iastore, 1) := by decide +kernel
theorem dX5_addMachine_60 : decode cX5_addMachine 60 = .ok (.aload_n 0, 1) := by decide +kernel
theorem dX5_addMachine_61 : decode cX5_addMachine 61 = .ok (.getfield 7, 3) := by decide +kernel
theorem dX5_addMachine_64 : decode cX5_addMachine 64 = .ok (.iload_n 3, 1) := by decide +kernel
theorem dX5_addMachine_65 : decode cX5_addMachine 65 = .ok (.iconst 1, 1) := by decide +kernel
theorem dX5_addMachine_66 : decode cX5_addMachine 66 = .ok (.invokestatic 38, 3) := by decide +kernel
theorem dX5_addMachine_69 : decode cX5_addMachine 69 = .ok (.iload_n 2, 1) := by decide +kernel
theorem dX5_addMachine_70 : decode cX5_addMachine 70 = .ok (.iastore, 1) := by decide +kernel
theorem dX5_addMachine_71 : decode cX5_addMachine 71 = .ok (.aload_n 0, 1) := by decide +kernel
theorem dX5_addMachine_72 : decode cX5_addMachine 72 = .ok (.getfield 7, 3) := by decide +kernel
theorem dX5_addMachine_75 : decode cX5_addMachine 75 = .ok (.iload_n 3, 1) := by decide +kernel
theorem dX5_addMachine_76 : decode cX5_addMachine 76 = .ok (.iconst 2, 1) := by decide +kernel
theorem dX5_addMachine_77 : decode cX5_addMachine 77 = .ok (.invokestatic 38, 3) := by decide +kernel
theorem dX5_addMachine_80 : decode cX5_addMachine 80 = .ok (.iconst 0, 1) := by decide +kernel
theorem dX5_addMachine_81 : decode cX5_addMachine 81 = .ok (.iastore, 1) := by decide +kernel
theorem dX5_addMachine_82 : decode cX5_addMachine 82 = .ok (.aload_n 0, 1) := by decide +kernel
theorem dX5_addMachine_83 : decode cX5_addMachine 83 = .ok (.getfield 7, 3) := by decide +kernel
theorem dX5_addMachine_86 : decode cX5_addMachine 86 = .ok (.iload_n 3, 1) := by decide +kernel
theorem dX5_addMachine_87 : decode cX5_addMachine 87 = .ok (.iconst 3, 1) := by decide +kernel
theorem dX5_addMachine_88 : decode cX5_addMachine 88 = .ok (.invokestatic 38, 3) := by decide +kernel
theorem dX5_addMachine_91 : decode cX5_addMachine 91 = .ok (.iconst 0, 1) := by decide +kernel
theorem dX5_addMachine_92 : decode cX5_addMachine 92 = .ok (.iastore, 1) := by decide +kernel
theorem dX5_addMachine_93 : decode cX5_addMachine 93 = .ok (.aload_n 0, 1) := by decide +kernel
theorem dX5_addMachine_94 : decode cX5_addMachine 94 = .ok (.getfield 7, 3) := by decide +kernel
theorem dX5_addMachine_97 : decode cX5_addMachine 97 = .ok (.iconst 1, 1) := by decide +kernel
theorem dX5_addMachine_98 : decode cX5_addMachine 98 = .ok (.dup2, 1) := by decide +kernel
theorem dX5_addMachine_99 : decode cX5_addMachine 99 = .ok (.iaload, 1) := by decide +kernel
theorem dX5_addMachine_100 : decode cX5_addMachine 100 = .ok (.iconst 1, 1) := by decide +kernel
theorem dX5_addMachine_101 : decode cX5_addMachine 101 = .ok (.iadd, 1) := by decide +kernel
theorem dX5_addMachine_102 : decode cX5_addMachine 102 = .ok (.iastore, 1) := by decide +kernel
theorem dX5_addMachine_103 : decode cX5_addMachine 103 = .ok (.iload_n 3, 1) := by decide +kernel
theorem dX5_addMachine_104 : decode cX5_addMachine 104 = .ok (.ireturn, 1) := by decide +kernel
theorem dX5_addMember_0 : decode cX5_addMember 0 = .ok (.aload_n 0, 1) := by decide +kernel
theorem dX5_addMember_1 : decode cX5_addMember 1 = .ok (.getfield 7, 3) := by decide +kernel
theorem dX5_addMember_4 : decode cX5_addMember 4 = .ok (.iconst 2, 1) := by decide +kernel
theorem dX5_addMember_5 : decode cX5_addMember 5 = .ok (.iaload, 1) := by decide +kernel
theorem dX5_addMember_6 : decode cX5_addMember 6 = .ok (.bipush 8, 2) := by decide +kernel
theorem dX5_addMember_8 : decode cX5_addMember 8 = .ok (.if_icmp .ne 6, 3) := by decide +kernel
theorem dX5_addMember_11 : decode cX5_addMember 11 = .ok (.bipush (-3), 2) := by decide +kernel
theorem dX5_addMember_13 : decode cX5_addMember 13 = .ok (.ireturn, 1) := by decide +kernel
theorem dX5_addMember_14 : decode cX5_addMember 14 = .ok (.aload_n 0, 1) := by decide +kernel
theorem dX5_addMember_15 : decode cX5_addMember 15 = .ok (.invokevirtual 35, 3) := by decide +kernel
theorem dX5_addMember_18 : decode cX5_addMember 18 = .ok (.aload_n 0, 1) := by decide +kernel
theorem dX5_addMember_19 : decode cX5_addMember 19 = .ok (.getfield 7, 3) := by decide +kernel
theorem dX5_addMember_22 : decode cX5_addMember 22 = .ok (.iconst 2, 1) := by decide +kernel
theorem dX5_addMember_23 : decode cX5_addMember 23 = .ok (.iaload, 1) := by decide +kernel
theorem dX5_addMember_24 : decode cX5_addMember 24 = .ok (.istore_n 1, 1) := by decide +kernel
theorem dX5_addMember_25 : decode cX5_addMember 25 = .ok (.aload_n 0, 1) := by decide +kernel
theorem dX5_addMember_26 : decode cX5_addMember 26 = .ok (.getfield 7, 3) := by decide +kernel
theorem dX5_addMember_29 : decode cX5_addMember 29 = .ok (.iload_n 1, 1) := by decide +kernel
theorem dX5_addMember_30 : decode cX5_addMember 30 = .ok (.iconst 0, 1) := by decide +kernel
theorem dX5_addMember_31 : decode cX5_addMember 31 = .ok (.invokestatic 42, 3) := by decide +kernel
theorem dX5_addMember_34 : decode cX5_addMember 34 = .ok (.iconst 0, 1) := by decide +kernel
theorem dX5_addMember_35 : decode cX5_addMember 35 = .ok (.iastore, 1) := by decide +kernel
theorem dX5_addMember_36 : decode cX5_addMember 36 = .ok (.aload_n 0, 1) := by decide +kernel
theorem dX5_addMember_37 : decode cX5_addMember 37 = .ok (.getfield 7, 3) := by decide +kernel
theorem dX5_addMember_40 : decode cX5_addMember 40 = .ok (.iload_n 1, 1) := by decide +kernel
theorem dX5_addMember_41 : decode cX5_addMember 41 = .ok (.iconst 1, 1) := by decide +kernel
theorem dX5_addMember_42 : decode cX5_addMember 42 = .ok (.invokestatic 42, 3) := by decide +kernel
theorem dX5_addMember_45 : decode cX5_addMember 45 = .ok (.iconst 0, 1) := by decide +kernel
theorem dX5_addMember_46 : decode cX5_addMember 46 = .ok (.iastore, 1) := by decide +kernel
theorem dX5_addMember_47 : decode cX5_addMember 47 = .ok (.aload_n 0, 1) := by decide +kernel
theorem dX5_addMember_48 : decode cX5_addMember 48 = .ok (.getfield 7, 3) := by decide +kernel
theorem dX5_addMember_51 : decode cX5_addMember 51 = .ok (.iconst 2, 1) := by decide +kernel
theorem dX5_addMember_52 : decode cX5_addMember 52 = .ok (.dup2, 1) := by decide +kernel
theorem dX5_addMember_53 : decode cX5_addMember 53 = .ok (.iaload, 1) := by decide +kernel
theorem dX5_addMember_54 : decode cX5_addMember 54 = .ok (.iconst 1, 1) := by decide +kernel
theorem dX5_addMember_55 : decode cX5_addMember 55 = .ok (.iadd, 1) := by decide +kernel
theorem dX5_addMember_56 : decode cX5_addMember 56 = .ok (.iastore, 1) := by decide +kernel
theorem dX5_addMember_57 : decode cX5_addMember 57 = .ok (.iload_n 1, 1) := by decide +kernel
theorem dX5_addMember_58 : decode cX5_addMember 58 = .ok (.ireturn, 1) := by decide +kernel
theorem dX5_setWind_0 : decode cX5_setWind 0 = .ok (.aload_n 0, 1) := by decide +kernel
theorem dX5_setWind_1 : decode cX5_setWind 1 = .ok (.iload_n 1, 1) := by decide +kernel
theorem dX5_setWind_2 : decode cX5_setWind 2 = .ok (.invokevirtual 45, 3) := by decide +kernel
theorem dX5_setWind_5 : decode cX5_setWind 5 = .ok (.ifCond .ne 5, 3) := by decide +kernel
theorem dX5_setWind_8 : decode cX5_setWind 8 = .ok (.iconst (-1), 1) := by decide +kernel
theorem dX5_setWind_9 : decode cX5_setWind 9 = .ok (.ireturn, 1) := by decide +kernel
theorem dX5_setWind_10 : decode cX5_setWind 10 = .ok (.iload_n 2, 1) := by decide +kernel
theorem dX5_setWind_11 : decode cX5_setWind 11 = .ok (.iconst 0, 1) := by decide +kernel
theorem dX5_setWind_12 : decode cX5_setWind 12 = .ok (.bipush 99, 2) := by decide +kernel
theorem dX5_setWind_14 : decode cX5_setWind 14 = .ok (.invokestatic 20, 3) := by decide +kernel
theorem dX5_setWind_17 : decode cX5_setWind 17 = .ok (.ifCond .ne 6, 3) := by decide +kernel
theorem dX5_setWind_20 : decode cX5_setWind 20 = .ok (.bipush (-2), 2) := by decide +kernel
theorem dX5_setWind_22 : decode cX5_setWind 22 = .ok (.ireturn, 1) := by decide +kernel
theorem dX5_setWind_23 : decode cX5_setWind 23 = .ok (.aload_n 0, 1) := by decide +kernel
theorem dX5_setWind_24 : decode cX5_setWind 24 = .ok (.getfield 7, 3) := by decide +kernel
theorem dX5_setWind_27 : decode cX5_setWind 27 = .ok (.sipush 335, 3) := by decide +kernel
theorem dX5_setWind_30 : decode cX5_setWind 30 = .ok (.iload_n 1, 1) := by decide +kernel
theorem dX5_setWind_31 : decode cX5_setWind 31 = .ok (.iadd, 1) := by decide +kernel
theorem dX5_setWind_32 : decode cX5_setWind 32 = .ok (.iaload, 1) := by decide +kernel
theorem dX5_setWind_33 : decode cX5_setWind 33 = .ok (.istore_n 3, 1) := by decide +kernel
theorem dX5_setWind_34 : decode cX5_setWind 34 = .ok (.iload_n 3, 1) := by decide +kernel
theorem dX5_setWind_35 : decode cX5_setWind 35 = .ok (.iload_n 2, 1) := by decide +kernel
theorem dX5_setWind_36 : decode cX5_setWind 36 = .ok (.if_icmp .ne 6, 3) := by decide +kernel
theorem dX5_setWind_39 : decode cX5_setWind 39 = .ok (.bipush (-5), 2) := by decide +kernel
theorem dX5_setWind_41 : decode cX5_setWind 41 = .ok (.ireturn, 1) := by decide +kernel
theorem dX5_setWind_42 : decode cX5_setWind 42 = .ok (.aload_n 0, 1) := by decide +kernel
theorem dX5_setWind_43 : decode cX5_setWind 43 = .ok (.invokevirtual 35, 3) := by decide +kernel
theorem dX5_setWind_46 : decode cX5_setWind 46 = .ok (.aload_n 0, 1) := by decide +kernel
theorem dX5_setWind_47 : decode cX5_setWind 47 = .ok (.getfield 7, 3) := by decide +kernel
theorem dX5_setWind_50 : decode cX5_setWind 50 = .ok (.sipush 335, 3) := by decide +kernel
theorem dX5_setWind_53 : decode cX5_setWind 53 = .ok (.iload_n 1, 1) := by decide +kernel
theorem dX5_setWind_54 : decode cX5_setWind 54 = .ok (.iadd, 1) := by decide +kernel
theorem dX5_setWind_55 : decode cX5_setWind 55 = .ok (.iload_n 2, 1) := by decide +kernel
theorem dX5_setWind_56 : decode cX5_setWind 56 = .ok (.iastore, 1) := by decide +kernel
theorem dX5_setWind_57 : decode cX5_setWind 57 = .ok (.iload_n 3, 1) := by decide +kernel
theorem dX5_setWind_58 : decode cX5_setWind 58 = .ok (.ireturn, 1) := by decide +kernel
theorem dX5_bearsBy_0 : decode cX5_bearsBy 0 = .ok (.iload_n 0, 1) := by decide +kernel
theorem dX5_bearsBy_1 : decode cX5_bearsBy 1 = .ok (.bipush 100, 2) := by decide +kernel
theorem dX5_bearsBy_3 : decode cX5_bearsBy 3 = .ok (.imul, 1) := by decide +kernel
theorem dX5_bearsBy_4 : decode cX5_bearsBy 4 = .ok (.iload_n 1, 1) := by decide +kernel
theorem dX5_bearsBy_5 : decode cX5_bearsBy 5 = .ok (.sipush 150, 3) := by decide +kernel
theorem dX5_bearsBy_8 : decode cX5_bearsBy 8 = .ok (.imul, 1) := by decide +kernel
theorem dX5_bearsBy_9 : decode cX5_bearsBy 9 = .ok (.iadd, 1) := by decide +kernel
theorem dX5_bearsBy_10 : decode cX5_bearsBy 10 = .ok (.iload_n 2, 1) := by decide +kernel
theorem dX5_bearsBy_11 : decode cX5_bearsBy 11 = .ok (.idiv, 1) := by decide +kernel
theorem dX5_bearsBy_12 : decode cX5_bearsBy 12 = .ok (.istore_n 3, 1) := by decide +kernel
theorem dX5_bearsBy_13 : decode cX5_bearsBy 13 = .ok (.iload_n 3, 1) := by decide +kernel
theorem dX5_bearsBy_14 : decode cX5_bearsBy 14 = .ok (.iload_n 0, 1) := by decide +kernel
theorem dX5_bearsBy_15 : decode cX5_bearsBy 15 = .ok (.bipush 10, 2) := by decide +kernel
theorem dX5_bearsBy_17 : decode cX5_bearsBy 17 = .ok (.imul, 1) := by decide +kernel
theorem dX5_bearsBy_18 : decode cX5_bearsBy 18 = .ok (.if_icmp .ge 7, 3) := by decide +kernel
theorem dX5_bearsBy_21 : decode cX5_bearsBy 21 = .ok (.iload_n 3, 1) := by decide +kernel
theorem dX5_bearsBy_22 : decode cX5_bearsBy 22 = .ok (.goto 7, 3) := by decide +kernel
theorem dX5_bearsBy_25 : decode cX5_bearsBy 25 = .ok (.iload_n 0, 1) := by decide +kernel
theorem dX5_bearsBy_26 : decode cX5_bearsBy 26 = .ok (.bipush 10, 2) := by decide +kernel
theorem dX5_bearsBy_28 : decode cX5_bearsBy 28 = .ok (.imul, 1) := by decide +kernel
theorem dX5_bearsBy_29 : decode cX5_bearsBy 29 = .ok (.ireturn, 1) := by decide +kernel
theorem dX5_canBear_0 : decode cX5_canBear 0 = .ok (.iload_n 2, 1) := by decide +kernel
theorem dX5_canBear_1 : decode cX5_canBear 1 = .ok (.aload_n 0, 1) := by decide +kernel
theorem dX5_canBear_2 : decode cX5_canBear 2 = .ok (.getfield 7, 3) := by decide +kernel
theorem dX5_canBear_5 : decode cX5_canBear 5 = .ok (.iload_n 1, 1) := by decide +kernel
theorem dX5_canBear_6 : decode cX5_canBear 6 = .ok (.iconst 0, 1) := by decide +kernel
theorem dX5_canBear_7 : decode cX5_canBear 7 = .ok (.invokestatic 38, 3) := by decide +kernel
theorem dX5_canBear_10 : decode cX5_canBear 10 = .ok (.iaload, 1) := by decide +kernel
theorem dX5_canBear_11 : decode cX5_canBear 11 = .ok (.aload_n 0, 1) := by decide +kernel
theorem dX5_canBear_12 : decode cX5_canBear 12 = .ok (.getfield 7, 3) := by decide +kernel
theorem dX5_canBear_15 : decode cX5_canBear 15 = .ok (.iload_n 1, 1) := by decide +kernel
theorem dX5_canBear_16 : decode cX5_canBear 16 = .ok (.iconst 1, 1) := by decide +kernel
theorem dX5_canBear_17 : decode cX5_canBear 17 = .ok (.invokestatic 38, 3) := by decide +kernel
theorem dX5_canBear_20 : decode cX5_canBear 20 = .ok (.iaload, 1) := by decide +kernel
theorem dX5_canBear_21 : decode cX5_canBear 21 = .ok (.iload_n 3, 1) := by decide +kernel
theorem dX5_canBear_22 : decode cX5_canBear 22 = .ok (.invokestatic 49, 3) := by decide +kernel
theorem dX5_canBear_25 : decode cX5_canBear 25 = .ok (.if_icmp .gt 7, 3) := by decide +kernel
theorem dX5_canBear_28 : decode cX5_canBear 28 = .ok (.iconst 1, 1) := by decide +kernel
theorem dX5_canBear_29 : decode cX5_canBear 29 = .ok (.goto 4, 3) := by decide +kernel
theorem dX5_canBear_32 : decode cX5_canBear 32 = .ok (.iconst 0, 1) := by decide +kernel
theorem dX5_canBear_33 : decode cX5_canBear 33 = .ok (.ireturn, 1) := by decide +kernel
theorem dX5_limitOf_0 : decode cX5_limitOf 0 = .ok (.bipush 60, 2) := by decide +kernel
theorem dX5_limitOf_2 : decode cX5_limitOf 2 = .ok (.iload_n 0, 1) := by decide +kernel
theorem dX5_limitOf_3 : decode cX5_limitOf 3 = .ok (.bipush 20, 2) := by decide +kernel
theorem dX5_limitOf_5 : decode cX5_limitOf 5 = .ok (.idiv, 1) := by decide +kernel
theorem dX5_limitOf_6 : decode cX5_limitOf 6 = .ok (.isub, 1) := by decide +kernel
theorem dX5_limitOf_7 : decode cX5_limitOf 7 = .ok (.iload_n 1, 1) := by decide +kernel
theorem dX5_limitOf_8 : decode cX5_limitOf 8 = .ok (.iconst 2, 1) := by decide +kernel
theorem dX5_limitOf_9 : decode cX5_limitOf 9 = .ok (.idiv, 1) := by decide +kernel
theorem dX5_limitOf_10 : decode cX5_limitOf 10 = .ok (.isub, 1) := by decide +kernel
theorem dX5_limitOf_11 : decode cX5_limitOf 11 = .ok (.istore_n 2, 1) := by decide +kernel
theorem dX5_limitOf_12 : decode cX5_limitOf 12 = .ok (.iload_n 2, 1) := by decide +kernel
theorem dX5_limitOf_13 : decode cX5_limitOf 13 = .ok (.bipush 10, 2) := by decide +kernel
theorem dX5_limitOf_15 : decode cX5_limitOf 15 = .ok (.if_icmp .ge 8, 3) := by decide +kernel
theorem dX5_limitOf_18 : decode cX5_limitOf 18 = .ok (.bipush 10, 2) := by decide +kernel
theorem dX5_limitOf_20 : decode cX5_limitOf 20 = .ok (.goto 4, 3) := by decide +kernel
theorem dX5_limitOf_23 : decode cX5_limitOf 23 = .ok (.iload_n 2, 1) := by decide +kernel
theorem dX5_limitOf_24 : decode cX5_limitOf 24 = .ok (.ireturn, 1) := by decide +kernel
theorem dX5_bookingAt_0 : decode cX5_bookingAt 0 = .ok (.iconst 0, 1) := by decide +kernel
theorem dX5_bookingAt_1 : decode cX5_bookingAt 1 = .ok (.istore_n 3, 1) := by decide +kernel
theorem dX5_bookingAt_2 : decode cX5_bookingAt 2 = .ok (.iload_n 3, 1) := by decide +kernel
theorem dX5_bookingAt_3 : decode cX5_bookingAt 3 = .ok (.aload_n 0, 1) := by decide +kernel
theorem dX5_bookingAt_4 : decode cX5_bookingAt 4 = .ok (.getfield 7, 3) := by decide +kernel
theorem dX5_bookingAt_7 : decode cX5_bookingAt 7 = .ok (.iconst 3, 1) := by decide +kernel
theorem dX5_bookingAt_8 : decode cX5_bookingAt 8 = .ok (.iaload, 1) := by decide +kernel
theorem dX5_bookingAt_9 : decode cX5_bookingAt 9 = .ok (.if_icmp .ge 52, 3) := by decide +kernel
theorem dX5_bookingAt_12 : decode cX5_bookingAt 12 = .ok (.aload_n 0, 1) := by decide +kernel
theorem dX5_bookingAt_13 : decode cX5_bookingAt 13 = .ok (.getfield 7, 3) := by decide +kernel
theorem dX5_bookingAt_16 : decode cX5_bookingAt 16 = .ok (.iload_n 3, 1) := by decide +kernel
theorem dX5_bookingAt_17 : decode cX5_bookingAt 17 = .ok (.iconst 5, 1) := by decide +kernel
theorem dX5_bookingAt_18 : decode cX5_bookingAt 18 = .ok (.invokestatic 53, 3) := by decide +kernel
theorem dX5_bookingAt_21 : decode cX5_bookingAt 21 = .ok (.iaload, 1) := by decide +kernel
theorem dX5_bookingAt_22 : decode cX5_bookingAt 22 = .ok (.ifCond .ne 33, 3) := by decide +kernel
theorem dX5_bookingAt_25 : decode cX5_bookingAt 25 = .ok (.aload_n 0, 1) := by decide +kernel
theorem dX5_bookingAt_26 : decode cX5_bookingAt 26 = .ok (.getfield 7, 3) := by decide +kernel
theorem dX5_bookingAt_29 : decode cX5_bookingAt 29 = .ok (.iload_n 3, 1) := by decide +kernel
theorem dX5_bookingAt_30 : decode cX5_bookingAt 30 = .ok (.iconst 1, 1) := by decide +kernel
theorem dX5_bookingAt_31 : decode cX5_bookingAt 31 = .ok (.invokestatic 53, 3) := by decide +kernel
theorem dX5_bookingAt_34 : decode cX5_bookingAt 34 = .ok (.iaload, 1) := by decide +kernel
theorem dX5_bookingAt_35 : decode cX5_bookingAt 35 = .ok (.iload_n 1, 1) := by decide +kernel
theorem dX5_bookingAt_36 : decode cX5_bookingAt 36 = .ok (.if_icmp .ne 19, 3) := by decide +kernel
theorem dX5_bookingAt_39 : decode cX5_bookingAt 39 = .ok (.aload_n 0, 1) := by decide +kernel
theorem dX5_bookingAt_40 : decode cX5_bookingAt 40 = .ok (.getfield 7, 3) := by decide +kernel
theorem dX5_bookingAt_43 : decode cX5_bookingAt 43 = .ok (.iload_n 3, 1) := by decide +kernel
theorem dX5_bookingAt_44 : decode cX5_bookingAt 44 = .ok (.iconst 2, 1) := by decide +kernel
theorem dX5_bookingAt_45 : decode cX5_bookingAt 45 = .ok (.invokestatic 53, 3) := by decide +kernel
theorem dX5_bookingAt_48 : decode cX5_bookingAt 48 = .ok (.iaload, 1) := by decide +kernel
theorem dX5_bookingAt_49 : decode cX5_bookingAt 49 = .ok (.iload_n 2, 1) := by decide +kernel
theorem dX5_bookingAt_50 : decode cX5_bookingAt 50 = .ok (.if_icmp .ne 5, 3) := by decide +kernel
theorem dX5_bookingAt_53 : decode cX5_bookingAt 53 = .ok (.iload_n 3, 1) := by decide +kernel
theorem dX5_bookingAt_54 : decode cX5_bookingAt 54 = .ok (.ireturn, 1) := by decide +kernel
theorem dX5_bookingAt_55 : decode cX5_bookingAt 55 = .ok (.iinc 3 1, 3) := by decide +kernel
theorem dX5_bookingAt_58 : decode cX5_bookingAt 58 = .ok (.goto (-56), 3) := by decide +kernel
theorem dX5_bookingAt_61 : decode cX5_bookingAt 61 = .ok (.bipush (-5), 2) := by decide +kernel
theorem dX5_bookingAt_63 : decode cX5_bookingAt 63 = .ok (.ireturn, 1) := by decide +kernel
theorem dX5_give_0 : decode cX5_give 0 = .ok (.aload_n 0, 1) := by decide +kernel
theorem dX5_give_1 : decode cX5_give 1 = .ok (.getfield 7, 3) := by decide +kernel
theorem dX5_give_4 : decode cX5_give 4 = .ok (.iload_n 1, 1) := by decide +kernel
theorem dX5_give_5 : decode cX5_give 5 = .ok (.iconst 1, 1) := by decide +kernel
theorem dX5_give_6 : decode cX5_give 6 = .ok (.invokestatic 53, 3) := by decide +kernel
theorem dX5_give_9 : decode cX5_give 9 = .ok (.iload_n 2, 1) := by decide +kernel
theorem dX5_give_10 : decode cX5_give 10 = .ok (.iastore, 1) := by decide +kernel
theorem dX5_give_11 : decode cX5_give 11 = .ok (.aload_n 0, 1) := by decide +kernel
theorem dX5_give_12 : decode cX5_give 12 = .ok (.getfield 7, 3) := by decide +kernel
theorem dX5_give_15 : decode cX5_give 15 = .ok (.iload_n 1, 1) := by decide +kernel
theorem dX5_give_16 : decode cX5_give 16 = .ok (.iconst 2, 1) := by decide +kernel
theorem dX5_give_17 : decode cX5_give 17 = .ok (.invokestatic 53, 3) := by decide +kernel
theorem dX5_give_20 : decode cX5_give 20 = .ok (.iload_n 3, 1) := by decide +kernel
theorem dX5_give_21 : decode cX5_give 21 = .ok (.iastore, 1) := by decide +kernel
theorem dX5_give_22 : decode cX5_give 22 = .ok (.aload_n 0, 1) := by decide +kernel
theorem dX5_give_23 : decode cX5_give 23 = .ok (.getfield 7, 3) := by decide +kernel
theorem dX5_give_26 : decode cX5_give 26 = .ok (.iload_n 1, 1) := by decide +kernel
theorem dX5_give_27 : decode cX5_give 27 = .ok (.bipush 6, 2) := by decide +kernel
theorem dX5_give_29 : decode cX5_give 29 = .ok (.invokestatic 53, 3) := by decide +kernel
theorem dX5_give_32 : decode cX5_give 32 = .ok (.aload_n 0, 1) := by decide +kernel
theorem dX5_give_33 : decode cX5_give 33 = .ok (.getfield 7, 3) := by decide +kernel
theorem dX5_give_36 : decode cX5_give 36 = .ok (.sipush 335, 3) := by decide +kernel
theorem dX5_give_39 : decode cX5_give 39 = .ok (.iload_n 3, 1) := by decide +kernel
theorem dX5_give_40 : decode cX5_give 40 = .ok (.iadd, 1) := by decide +kernel
theorem dX5_give_41 : decode cX5_give 41 = .ok (.iaload, 1) := by decide +kernel
theorem dX5_give_42 : decode cX5_give 42 = .ok (.iastore, 1) := by decide +kernel
theorem dX5_give_43 : decode cX5_give 43 = .ok (.return_, 1) := by decide +kernel
theorem dX5_book_0 : decode cX5_book 0 = .ok (.aload_n 0, 1) := by decide +kernel
theorem dX5_book_1 : decode cX5_book 1 = .ok (.iload_n 1, 1) := by decide +kernel
theorem dX5_book_2 : decode cX5_book 2 = .ok (.invokevirtual 56, 3) := by decide +kernel
theorem dX5_book_5 : decode cX5_book 5 = .ok (.ifCond .eq 19, 3) := by decide +kernel
theorem dX5_book_8 : decode cX5_book 8 = .ok (.aload_n 0, 1) := by decide +kernel
theorem dX5_book_9 : decode cX5_book 9 = .ok (.iload_n 2, 1) := by decide +kernel
theorem dX5_book_10 : decode cX5_book 10 = .ok (.invokevirtual 59, 3) := by decide +kernel
theorem dX5_book_13 : decode cX5_book 13 = .ok (.ifCond .eq 11, 3) := by decide +kernel
theorem dX5_book_16 : decode cX5_book 16 = .ok (.aload_n 0, 1) := by decide +kernel
theorem dX5_book_17 : decode cX5_book 17 = .ok (.iload_n 3, 1) := by decide +kernel
theorem dX5_book_18 : decode cX5_book 18 = .ok (.invokevirtual 45, 3) := by decide +kernel
theorem dX5_book_21 : decode cX5_book 21 = .ok (.ifCond .ne 5, 3) := by decide +kernel
theorem dX5_book_24 : decode cX5_book 24 = .ok (.iconst (-1), 1) := by decide +kernel
theorem dX5_book_25 : decode cX5_book 25 = .ok (.ireturn, 1) := by decide +kernel
theorem dX5_book_26 : decode cX5_book 26 = .ok (.iload 4, 2) := by decide +kernel
theorem dX5_book_28 : decode cX5_book 28 = .ok (.iload 5, 2) := by decide +kernel
theorem dX5_book_30 : decode cX5_book 30 = .ok (.invokestatic 62, 3) := by decide +kernel
theorem dX5_book_33 : decode cX5_book 33 = .ok (.ifCond .ne 6, 3) := by decide +kernel
theorem dX5_book_36 : decode cX5_book 36 = .ok (.bipush (-2), 2) := by decide +kernel
theorem dX5_book_38 : decode cX5_book 38 = .ok (.ireturn, 1) := by decide +kernel
theorem dX5_book_39 : decode cX5_book 39 = .ok (.aload_n 0, 1) := by decide +kernel
theorem dX5_book_40 : decode cX5_book 40 = .ok (.iload_n 2, 1) := by decide +kernel
theorem dX5_book_41 : decode cX5_book 41 = .ok (.iload 4, 2) := by decide +kernel
theorem dX5_book_43 : decode cX5_book 43 = .ok (.iload 5, 2) := by decide +kernel
theorem dX5_book_45 : decode cX5_book 45 = .ok (.invokevirtual 66, 3) := by decide +kernel
theorem dX5_book_48 : decode cX5_book 48 = .ok (.ifCond .eq 14, 3) := by decide +kernel
theorem dX5_book_51 : decode cX5_book 51 = .ok (.aload_n 0, 1) := by decide +kernel
theorem dX5_book_52 : decode cX5_book 52 = .ok (.iload_n 2, 1) := by decide +kernel
theorem dX5_book_53 : decode cX5_book 53 = .ok (.iload_n 3, 1) := by decide +kernel
theorem dX5_book_54 : decode cX5_book 54 = .ok (.invokevirtual 69, 3) := by decide +kernel
theorem dX5_book_57 : decode cX5_book 57 = .ok (.bipush (-5), 2) := by decide +kernel
theorem dX5_book_59 : decode cX5_book 59 = .ok (.if_icmp .eq 6, 3) := by decide +kernel
theorem dX5_book_62 : decode cX5_book 62 = .ok (.bipush (-4), 2) := by decide +kernel
theorem dX5_book_64 : decode cX5_book 64 = .ok (.ireturn, 1) := by decide +kernel
theorem dX5_book_65 : decode cX5_book 65 = .ok (.aload_n 0, 1) := by decide +kernel
theorem dX5_book_66 : decode cX5_book 66 = .ok (.getfield 7, 3) := by decide +kernel
theorem dX5_book_69 : decode cX5_book 69 = .ok (.iconst 3, 1) := by decide +kernel
theorem dX5_book_70 : decode cX5_book 70 = .ok (.iaload, 1) := by decide +kernel
theorem dX5_book_71 : decode cX5_book 71 = .ok (.bipush 30, 2) := by decide +kernel
theorem dX5_book_73 : decode cX5_book 73 = .ok (.if_icmp .ne 6, 3) := by decide +kernel
theorem dX5_book_76 : decode cX5_book 76 = .ok (.bipush (-3), 2) := by decide +kernel
theorem dX5_book_78 : decode cX5_book 78 = .ok (.ireturn, 1) := by decide +kernel
theorem dX5_book_79 : decode cX5_book 79 = .ok (.aload_n 0, 1) := by decide +kernel
theorem dX5_book_80 : decode cX5_book 80 = .ok (.invokevirtual 35, 3) := by decide +kernel
theorem dX5_book_83 : decode cX5_book 83 = .ok (.aload_n 0, 1) := by decide +kernel
theorem dX5_book_84 : decode cX5_book 84 = .ok (.getfield 7, 3) := by decide +kernel
theorem dX5_book_87 : decode cX5_book 87 = .ok (.iconst 3, 1) := by decide +kernel
theorem dX5_book_88 : decode cX5_book 88 = .ok (.iaload, 1) := by decide +kernel
theorem dX5_book_89 : decode cX5_book 89 = .ok (.istore 6, 2) := by decide +kernel
theorem dX5_book_91 : decode cX5_book 91 = .ok (.aload_n 0, 1) := by decide +kernel
theorem dX5_book_92 : decode cX5_book 92 = .ok (.getfield 7, 3) := by decide +kernel
theorem dX5_book_95 : decode cX5_book 95 = .ok (.iload 6, 2) := by decide +kernel
theorem dX5_book_97 : decode cX5_book 97 = .ok (.iconst 0, 1) := by decide +kernel
theorem dX5_book_98 : decode cX5_book 98 = .ok (.invokestatic 53, 3) := by decide +kernel
theorem dX5_book_101 : decode cX5_book 101 = .ok (.iload_n 1, 1) := by decide +kernel
theorem dX5_book_102 : decode cX5_book 102 = .ok (.iastore, 1) := by decide +kernel
theorem dX5_book_103 : decode cX5_book 103 = .ok (.aload_n 0, 1) := by decide +kernel
theorem dX5_book_104 : decode cX5_book 104 = .ok (.getfield 7, 3) := by decide +kernel
theorem dX5_book_107 : decode cX5_book 107 = .ok (.iload 6, 2) := by decide +kernel
theorem dX5_book_109 : decode cX5_book 109 = .ok (.iconst 3, 1) := by decide +kernel
theorem dX5_book_110 : decode cX5_book 110 = .ok (.invokestatic 53, 3) := by decide +kernel
theorem dX5_book_113 : decode cX5_book 113 = .ok (.iload 4, 2) := by decide +kernel
theorem dX5_book_115 : decode cX5_book 115 = .ok (.iastore, 1) := by decide +kernel
theorem dX5_book_116 : decode cX5_book 116 = .ok (.aload_n 0, 1) := by decide +kernel
theorem dX5_book_117 : decode cX5_book 117 = .ok (.getfield 7, 3) := by decide +kernel
theorem dX5_book_120 : decode cX5_book 120 = .ok (.iload 6, 2) := by decide +kernel
theorem dX5_book_122 : decode cX5_book 122 = .ok (.iconst 4, 1) := by decide +kernel
theorem dX5_book_123 : decode cX5_book 123 = .ok (.invokestatic 53, 3) := by decide +kernel
theorem dX5_book_126 : decode cX5_book 126 = .ok (.iload 5, 2) := by decide +kernel
theorem dX5_book_128 : decode cX5_book 128 = .ok (.iastore, 1) := by decide +kernel
theorem dX5_book_129 : decode cX5_book 129 = .ok (.aload_n 0, 1) := by decide +kernel
theorem dX5_book_130 : decode cX5_book 130 = .ok (.getfield 7, 3) := by decide +kernel
theorem dX5_book_133 : decode cX5_book 133 = .ok (.iload 6, 2) := by decide +kernel
theorem dX5_book_135 : decode cX5_book 135 = .ok (.iconst 5, 1) := by decide +kernel
theorem dX5_book_136 : decode cX5_book 136 = .ok (.invokestatic 53, 3) := by decide +kernel
theorem dX5_book_139 : decode cX5_book 139 = .ok (.iconst 0, 1) := by decide +kernel
theorem dX5_book_140 : decode cX5_book 140 = .ok (.iastore, 1) := by decide +kernel
theorem dX5_book_141 : decode cX5_book 141 = .ok (.aload_n 0, 1) := by decide +kernel
theorem dX5_book_142 : decode cX5_book 142 = .ok (.getfield 7, 3) := by decide +kernel
theorem dX5_book_145 : decode cX5_book 145 = .ok (.iload 6, 2) := by decide +kernel
theorem dX5_book_147 : decode cX5_book 147 = .ok (.bipush 7, 2) := by decide +kernel
theorem dX5_book_149 : decode cX5_book 149 = .ok (.invokestatic 53, 3) := by decide +kernel
theorem dX5_book_152 : decode cX5_book 152 = .ok (.iconst 0, 1) := by decide +kernel
theorem dX5_book_153 : decode cX5_book 153 = .ok (.iastore, 1) := by decide +kernel
theorem dX5_book_154 : decode cX5_book 154 = .ok (.aload_n 0, 1) := by decide +kernel
theorem dX5_book_155 : decode cX5_book 155 = .ok (.iload 6, 2) := by decide +kernel
theorem dX5_book_157 : decode cX5_book 157 = .ok (.iload_n 2, 1) := by decide +kernel
theorem dX5_book_158 : decode cX5_book 158 = .ok (.iload_n 3, 1) := by decide +kernel
theorem dX5_book_159 : decode cX5_book 159 = .ok (.invokevirtual 72, 3) := by decide +kernel
theorem dX5_book_162 : decode cX5_book 162 = .ok (.aload_n 0, 1) := by decide +kernel
theorem dX5_book_163 : decode cX5_book 163 = .ok (.getfield 7, 3) := by decide +kernel
theorem dX5_book_166 : decode cX5_book 166 = .ok (.iconst 3, 1) := by decide +kernel
theorem dX5_book_167 : decode cX5_book 167 = .ok (.dup2, 1) := by decide +kernel
theorem dX5_book_168 : decode cX5_book 168 = .ok (.iaload, 1) := by decide +kernel
theorem dX5_book_169 : decode cX5_book 169 = .ok (.iconst 1, 1) := by decide +kernel
theorem dX5_book_170 : decode cX5_book 170 = .ok (.iadd, 1) := by decide +kernel
theorem dX5_book_171 : decode cX5_book 171 = .ok (.iastore, 1) := by decide +kernel
theorem dX5_book_172 : decode cX5_book 172 = .ok (.iload 6, 2) := by decide +kernel
theorem dX5_book_174 : decode cX5_book 174 = .ok (.ireturn, 1) := by decide +kernel
theorem dX5_pay_0 : decode cX5_pay 0 = .ok (.aload_n 0, 1) := by decide +kernel
theorem dX5_pay_1 : decode cX5_pay 1 = .ok (.getfield 7, 3) := by decide +kernel
theorem dX5_pay_4 : decode cX5_pay 4 = .ok (.iload_n 1, 1) := by decide +kernel
theorem dX5_pay_5 : decode cX5_pay 5 = .ok (.iconst 0, 1) := by decide +kernel
theorem dX5_pay_6 : decode cX5_pay 6 = .ok (.invokestatic 42, 3) := by decide +kernel
theorem dX5_pay_9 : decode cX5_pay 9 = .ok (.dup2, 1) := by decide +kernel
theorem dX5_pay_10 : decode cX5_pay 10 = .ok (.iaload, 1) := by decide +kernel
theorem dX5_pay_11 : decode cX5_pay 11 = .ok (.iload_n 2, 1) := by decide +kernel
theorem dX5_pay_12 : decode cX5_pay 12 = .ok (.iadd, 1) := by decide +kernel
theorem dX5_pay_13 : decode cX5_pay 13 = .ok (.iastore, 1) := by decide +kernel
theorem dX5_pay_14 : decode cX5_pay 14 = .ok (.return_, 1) := by decide +kernel
theorem dX5_isBooked_0 : decode cX5_isBooked 0 = .ok (.aload_n 0, 1) := by decide +kernel
theorem dX5_isBooked_1 : decode cX5_isBooked 1 = .ok (.getfield 7, 3) := by decide +kernel
theorem dX5_isBooked_4 : decode cX5_isBooked 4 = .ok (.iload_n 1, 1) := by decide +kernel
theorem dX5_isBooked_5 : decode cX5_isBooked 5 = .ok (.iconst 5, 1) := by decide +kernel
theorem dX5_isBooked_6 : decode cX5_isBooked 6 = .ok (.invokestatic 53, 3) := by decide +kernel
theorem dX5_isBooked_9 : decode cX5_isBooked 9 = .ok (.iaload, 1) := by decide +kernel
theorem dX5_isBooked_10 : decode cX5_isBooked 10 = .ok (.ifCond .ne 7, 3) := by decide +kernel
theorem dX5_isBooked_13 : decode cX5_isBooked 13 = .ok (.iconst 1, 1) := by decide +kernel
theorem dX5_isBooked_14 : decode cX5_isBooked 14 = .ok (.goto 4, 3) := by decide +kernel
theorem dX5_isBooked_17 : decode cX5_isBooked 17 = .ok (.iconst 0, 1) := by decide +kernel
theorem dX5_isBooked_18 : decode cX5_isBooked 18 = .ok (.ireturn, 1) := by decide +kernel
theorem dX5_cancel_0 : decode cX5_cancel 0 = .ok (.aload_n 0, 1) := by decide +kernel
theorem dX5_cancel_1 : decode cX5_cancel 1 = .ok (.iload_n 1, 1) := by decide +kernel
theorem dX5_cancel_2 : decode cX5_cancel 2 = .ok (.invokevirtual 76, 3) := by decide +kernel
theorem dX5_cancel_5 : decode cX5_cancel 5 = .ok (.ifCond .ne 5, 3) := by decide +kernel
theorem dX5_cancel_8 : decode cX5_cancel 8 = .ok (.iconst (-1), 1) := by decide +kernel
theorem dX5_cancel_9 : decode cX5_cancel 9 = .ok (.ireturn, 1) := by decide +kernel
theorem dX5_cancel_10 : decode cX5_cancel 10 = .ok (.aload_n 0, 1) := by decide +kernel
theorem dX5_cancel_11 : decode cX5_cancel 11 = .ok (.iload_n 1, 1) := by decide +kernel
theorem dX5_cancel_12 : decode cX5_cancel 12 = .ok (.invokevirtual 79, 3) := by decide +kernel
theorem dX5_cancel_15 : decode cX5_cancel 15 = .ok (.ifCond .ne 6, 3) := by decide +kernel
theorem dX5_cancel_18 : decode cX5_cancel 18 = .ok (.bipush (-4), 2) := by decide +kernel
theorem dX5_cancel_20 : decode cX5_cancel 20 = .ok (.ireturn, 1) := by decide +kernel
theorem dX5_cancel_21 : decode cX5_cancel 21 = .ok (.aload_n 0, 1) := by decide +kernel
theorem dX5_cancel_22 : decode cX5_cancel 22 = .ok (.invokevirtual 35, 3) := by decide +kernel
theorem dX5_cancel_25 : decode cX5_cancel 25 = .ok (.aload_n 0, 1) := by decide +kernel
theorem dX5_cancel_26 : decode cX5_cancel 26 = .ok (.getfield 7, 3) := by decide +kernel
theorem dX5_cancel_29 : decode cX5_cancel 29 = .ok (.iload_n 1, 1) := by decide +kernel
theorem dX5_cancel_30 : decode cX5_cancel 30 = .ok (.iconst 2, 1) := by decide +kernel
theorem dX5_cancel_31 : decode cX5_cancel 31 = .ok (.invokestatic 53, 3) := by decide +kernel
theorem dX5_cancel_34 : decode cX5_cancel 34 = .ok (.iaload, 1) := by decide +kernel
theorem dX5_cancel_35 : decode cX5_cancel 35 = .ok (.aload_n 0, 1) := by decide +kernel
theorem dX5_cancel_36 : decode cX5_cancel 36 = .ok (.getfield 7, 3) := by decide +kernel
theorem dX5_cancel_39 : decode cX5_cancel 39 = .ok (.iconst 0, 1) := by decide +kernel
theorem dX5_cancel_40 : decode cX5_cancel 40 = .ok (.iaload, 1) := by decide +kernel
theorem dX5_cancel_41 : decode cX5_cancel 41 = .ok (.if_icmp .ne 7, 3) := by decide +kernel
theorem dX5_cancel_44 : decode cX5_cancel 44 = .ok (.iconst 4, 1) := by decide +kernel
theorem dX5_cancel_45 : decode cX5_cancel 45 = .ok (.goto 4, 3) := by decide +kernel
theorem dX5_cancel_48 : decode cX5_cancel 48 = .ok (.iconst 0, 1) := by decide +kernel
theorem dX5_cancel_49 : decode cX5_cancel 49 = .ok (.istore_n 2, 1) := by decide +kernel
theorem dX5_cancel_50 : decode cX5_cancel 50 = .ok (.aload_n 0, 1) := by decide +kernel
theorem dX5_cancel_51 : decode cX5_cancel 51 = .ok (.getfield 7, 3) := by decide +kernel
theorem dX5_cancel_54 : decode cX5_cancel 54 = .ok (.iload_n 1, 1) := by decide +kernel
theorem dX5_cancel_55 : decode cX5_cancel 55 = .ok (.iconst 5, 1) := by decide +kernel
theorem dX5_cancel_56 : decode cX5_cancel 56 = .ok (.invokestatic 53, 3) := by decide +kernel
theorem dX5_cancel_59 : decode cX5_cancel 59 = .ok (.iconst 3, 1) := by decide +kernel
theorem dX5_cancel_60 : decode cX5_cancel 60 = .ok (.iastore, 1) := by decide +kernel
theorem dX5_cancel_61 : decode cX5_cancel 61 = .ok (.aload_n 0, 1) := by decide +kernel
theorem dX5_cancel_62 : decode cX5_cancel 62 = .ok (.aload_n 0, 1) := by decide +kernel
theorem dX5_cancel_63 : decode cX5_cancel 63 = .ok (.getfield 7, 3) := by decide +kernel
theorem dX5_cancel_66 : decode cX5_cancel 66 = .ok (.iload_n 1, 1) := by decide +kernel
theorem dX5_cancel_67 : decode cX5_cancel 67 = .ok (.iconst 0, 1) := by decide +kernel
theorem dX5_cancel_68 : decode cX5_cancel 68 = .ok (.invokestatic 53, 3) := by decide +kernel
theorem dX5_cancel_71 : decode cX5_cancel 71 = .ok (.iaload, 1) := by decide +kernel
theorem dX5_cancel_72 : decode cX5_cancel 72 = .ok (.iload_n 2, 1) := by decide +kernel
theorem dX5_cancel_73 : decode cX5_cancel 73 = .ok (.invokevirtual 82, 3) := by decide +kernel
theorem dX5_cancel_76 : decode cX5_cancel 76 = .ok (.iload_n 2, 1) := by decide +kernel
theorem dX5_cancel_77 : decode cX5_cancel 77 = .ok (.ireturn, 1) := by decide +kernel
theorem dX5_canGet_0 : decode cX5_canGet 0 = .ok (.aload_n 0, 1) := by decide +kernel
theorem dX5_canGet_1 : decode cX5_canGet 1 = .ok (.iload_n 1, 1) := by decide +kernel
theorem dX5_canGet_2 : decode cX5_canGet 2 = .ok (.invokevirtual 79, 3) := by decide +kernel
theorem dX5_canGet_5 : decode cX5_canGet 5 = .ok (.ifCond .eq 44, 3) := by decide +kernel
theorem dX5_canGet_8 : decode cX5_canGet 8 = .ok (.aload_n 0, 1) := by decide +kernel
theorem dX5_canGet_9 : decode cX5_canGet 9 = .ok (.aload_n 0, 1) := by decide +kernel
theorem dX5_canGet_10 : decode cX5_canGet 10 = .ok (.getfield 7, 3) := by decide +kernel
theorem dX5_canGet_13 : decode cX5_canGet 13 = .ok (.iload_n 2, 1) := by decide +kernel
theorem dX5_canGet_14 : decode cX5_canGet 14 = .ok (.iconst 1, 1) := by decide +kernel
theorem dX5_canGet_15 : decode cX5_canGet 15 = .ok (.invokestatic 53, 3) := by decide +kernel
theorem dX5_canGet_18 : decode cX5_canGet 18 = .ok (.iaload, 1) := by decide +kernel
theorem dX5_canGet_19 : decode cX5_canGet 19 = .ok (.aload_n 0, 1) := by decide +kernel
theorem dX5_canGet_20 : decode cX5_canGet 20 = .ok (.getfield 7, 3) := by decide +kernel
theorem dX5_canGet_23 : decode cX5_canGet 23 = .ok (.iload_n 1, 1) := by decide +kernel
theorem dX5_canGet_24 : decode cX5_canGet 24 = .ok (.iconst 3, 1) := by decide +kernel
theorem dX5_canGet_25 : decode cX5_canGet 25 = .ok (.invokestatic 53, 3) := by decide +kernel
theorem dX5_canGet_28 : decode cX5_canGet 28 = .ok (.iaload, 1) := by decide +kernel
theorem dX5_canGet_29 : decode cX5_canGet 29 = .ok (.aload_n 0, 1) := by decide +kernel
theorem dX5_canGet_30 : decode cX5_canGet 30 = .ok (.getfield 7, 3) := by decide +kernel
theorem dX5_canGet_33 : decode cX5_canGet 33 = .ok (.iload_n 1, 1) := by decide +kernel
theorem dX5_canGet_34 : decode cX5_canGet 34 = .ok (.iconst 4, 1) := by decide +kernel
theorem dX5_canGet_35 : decode cX5_canGet 35 = .ok (.invokestatic 53, 3) := by decide +kernel
theorem dX5_canGet_38 : decode cX5_canGet 38 = .ok (.iaload, 1) := by decide +kernel
theorem dX5_canGet_39 : decode cX5_canGet 39 = .ok (.invokevirtual 66, 3) := by decide +kernel
theorem dX5_canGet_42 : decode cX5_canGet 42 = .ok (.ifCond .eq 7, 3) := by decide +kernel
theorem dX5_canGet_45 : decode cX5_canGet 45 = .ok (.iconst 1, 1) := by decide +kernel
theorem dX5_canGet_46 : decode cX5_canGet 46 = .ok (.goto 4, 3) := by decide +kernel
theorem dX5_canGet_49 : decode cX5_canGet 49 = .ok (.iconst 0, 1) := by decide +kernel
theorem dX5_canGet_50 : decode cX5_canGet 50 = .ok (.ireturn, 1) := by decide +kernel
theorem dX5_swap_0 : decode cX5_swap 0 = .ok (.aload_n 0, 1) := by decide +kernel
theorem dX5_swap_1 : decode cX5_swap 1 = .ok (.iload_n 1, 1) := by decide +kernel
theorem dX5_swap_2 : decode cX5_swap 2 = .ok (.invokevirtual 76, 3) := by decide +kernel
theorem dX5_swap_5 : decode cX5_swap 5 = .ok (.ifCond .eq 11, 3) := by decide +kernel
theorem dX5_swap_8 : decode cX5_swap 8 = .ok (.aload_n 0, 1) := by decide +kernel
theorem dX5_swap_9 : decode cX5_swap 9 = .ok (.iload_n 2, 1) := by decide +kernel
theorem dX5_swap_10 : decode cX5_swap 10 = .ok (.invokevirtual 76, 3) := by decide +kernel
theorem dX5_swap_13 : decode cX5_swap 13 = .ok (.ifCond .ne 5, 3) := by decide +kernel
theorem dX5_swap_16 : decode cX5_swap 16 = .ok (.iconst (-1), 1) := by decide +kernel
theorem dX5_swap_17 : decode cX5_swap 17 = .ok (.ireturn, 1) := by decide +kernel
theorem dX5_swap_18 : decode cX5_swap 18 = .ok (.iload_n 1, 1) := by decide +kernel
theorem dX5_swap_19 : decode cX5_swap 19 = .ok (.iload_n 2, 1) := by decide +kernel
theorem dX5_swap_20 : decode cX5_swap 20 = .ok (.if_icmp .ne 6, 3) := by decide +kernel
theorem dX5_swap_23 : decode cX5_swap 23 = .ok (.bipush (-2), 2) := by decide +kernel
theorem dX5_swap_25 : decode cX5_swap 25 = .ok (.ireturn, 1) := by decide +kernel
theorem dX5_swap_26 : decode cX5_swap 26 = .ok (.aload_n 0, 1) := by decide +kernel
theorem dX5_swap_27 : decode cX5_swap 27 = .ok (.iload_n 1, 1) := by decide +kernel
theorem dX5_swap_28 : decode cX5_swap 28 = .ok (.iload_n 2, 1) := by decide +kernel
theorem dX5_swap_29 : decode cX5_swap 29 = .ok (.invokevirtual 85, 3) := by decide +kernel
theorem dX5_swap_32 : decode cX5_swap 32 = .ok (.ifCond .eq 12, 3) := by decide +kernel
theorem dX5_swap_35 : decode cX5_swap 35 = .ok (.aload_n 0, 1) := by decide +kernel
theorem dX5_swap_36 : decode cX5_swap 36 = .ok (.iload_n 2, 1) := by decide +kernel
theorem dX5_swap_37 : decode cX5_swap 37 = .ok (.iload_n 1, 1) := by decide +kernel
theorem dX5_swap_38 : decode cX5_swap 38 = .ok (.invokevirtual 85, 3) := by decide +kernel
theorem dX5_swap_41 : decode cX5_swap 41 = .ok (.ifCond .ne 6, 3) := by decide +kernel
theorem dX5_swap_44 : decode cX5_swap 44 = .ok (.bipush (-4), 2) := by decide +kernel
theorem dX5_swap_46 : decode cX5_swap 46 = .ok (.ireturn, 1) := by decide +kernel
theorem dX5_swap_47 : decode cX5_swap 47 = .ok (.aload_n 0, 1) := by decide +kernel
theorem dX5_swap_48 : decode cX5_swap 48 = .ok (.invokevirtual 35, 3) := by decide +kernel
theorem dX5_swap_51 : decode cX5_swap 51 = .ok (.aload_n 0, 1) := by decide +kernel
theorem dX5_swap_52 : decode cX5_swap 52 = .ok (.getfield 7, 3) := by decide +kernel
theorem dX5_swap_55 : decode cX5_swap 55 = .ok (.iload_n 1, 1) := by decide +kernel
theorem dX5_swap_56 : decode cX5_swap 56 = .ok (.iconst 1, 1) := by decide +kernel
theorem dX5_swap_57 : decode cX5_swap 57 = .ok (.invokestatic 53, 3) := by decide +kernel
theorem dX5_swap_60 : decode cX5_swap 60 = .ok (.iaload, 1) := by decide +kernel
theorem dX5_swap_61 : decode cX5_swap 61 = .ok (.istore_n 3, 1) := by decide +kernel
theorem dX5_swap_62 : decode cX5_swap 62 = .ok (.aload_n 0, 1) := by decide +kernel
theorem dX5_swap_63 : decode cX5_swap 63 = .ok (.getfield 7, 3) := by decide +kernel
theorem dX5_swap_66 : decode cX5_swap 66 = .ok (.iload_n 1, 1) := by decide +kernel
theorem dX5_swap_67 : decode cX5_swap 67 = .ok (.iconst 2, 1) := by decide +kernel
theorem dX5_swap_68 : decode cX5_swap 68 = .ok (.invokestatic 53, 3) := by decide +kernel
theorem dX5_swap_71 : decode cX5_swap 71 = .ok (.iaload, 1) := by decide +kernel
theorem dX5_swap_72 : decode cX5_swap 72 = .ok (.istore 4, 2) := by decide +kernel
theorem dX5_swap_74 : decode cX5_swap 74 = .ok (.aload_n 0, 1) := by decide +kernel
theorem dX5_swap_75 : decode cX5_swap 75 = .ok (.iload_n 1, 1) := by decide +kernel
theorem dX5_swap_76 : decode cX5_swap 76 = .ok (.aload_n 0, 1) := by decide +kernel
theorem dX5_swap_77 : decode cX5_swap 77 = .ok (.getfield 7, 3) := by decide +kernel
theorem dX5_swap_80 : decode cX5_swap 80 = .ok (.iload_n 2, 1) := by decide +kernel
theorem dX5_swap_81 : decode cX5_swap 81 = .ok (.iconst 1, 1) := by decide +kernel
theorem dX5_swap_82 : decode cX5_swap 82 = .ok (.invokestatic 53, 3) := by decide +kernel
theorem dX5_swap_85 : decode cX5_swap 85 = .ok (.iaload, 1) := by decide +kernel
theorem dX5_swap_86 : decode cX5_swap 86 = .ok (.aload_n 0, 1) := by decide +kernel
theorem dX5_swap_87 : decode cX5_swap 87 = .ok (.getfield 7, 3) := by decide +kernel
theorem dX5_swap_90 : decode cX5_swap 90 = .ok (.iload_n 2, 1) := by decide +kernel
theorem dX5_swap_91 : decode cX5_swap 91 = .ok (.iconst 2, 1) := by decide +kernel
theorem dX5_swap_92 : decode cX5_swap 92 = .ok (.invokestatic 53, 3) := by decide +kernel
theorem dX5_swap_95 : decode cX5_swap 95 = .ok (.iaload, 1) := by decide +kernel
theorem dX5_swap_96 : decode cX5_swap 96 = .ok (.invokevirtual 72, 3) := by decide +kernel
theorem dX5_swap_99 : decode cX5_swap 99 = .ok (.aload_n 0, 1) := by decide +kernel
theorem dX5_swap_100 : decode cX5_swap 100 = .ok (.iload_n 2, 1) := by decide +kernel
theorem dX5_swap_101 : decode cX5_swap 101 = .ok (.iload_n 3, 1) := by decide +kernel
theorem dX5_swap_102 : decode cX5_swap 102 = .ok (.iload 4, 2) := by decide +kernel
theorem dX5_swap_104 : decode cX5_swap 104 = .ok (.invokevirtual 72, 3) := by decide +kernel
theorem dX5_swap_107 : decode cX5_swap 107 = .ok (.aload_n 0, 1) := by decide +kernel
theorem dX5_swap_108 : decode cX5_swap 108 = .ok (.getfield 7, 3) := by decide +kernel
theorem dX5_swap_111 : decode cX5_swap 111 = .ok (.iload_n 1, 1) := by decide +kernel
theorem dX5_swap_112 : decode cX5_swap 112 = .ok (.iconst 2, 1) := by decide +kernel
theorem dX5_swap_113 : decode cX5_swap 113 = .ok (.invokestatic 53, 3) := by decide +kernel
theorem dX5_swap_116 : decode cX5_swap 116 = .ok (.iaload, 1) := by decide +kernel
theorem dX5_swap_117 : decode cX5_swap 117 = .ok (.ireturn, 1) := by decide +kernel
theorem dX5_order_0 : decode cX5_order 0 = .ok (.aload_n 0, 1) := by decide +kernel
theorem dX5_order_1 : decode cX5_order 1 = .ok (.iload_n 1, 1) := by decide +kernel
theorem dX5_order_2 : decode cX5_order 2 = .ok (.invokevirtual 56, 3) := by decide +kernel
theorem dX5_order_5 : decode cX5_order 5 = .ok (.ifCond .eq 28, 3) := by decide +kernel
theorem dX5_order_8 : decode cX5_order 8 = .ok (.aload_n 0, 1) := by decide +kernel
theorem dX5_order_9 : decode cX5_order 9 = .ok (.iload_n 2, 1) := by decide +kernel
theorem dX5_order_10 : decode cX5_order 10 = .ok (.invokevirtual 59, 3) := by decide +kernel
theorem dX5_order_13 : decode cX5_order 13 = .ok (.ifCond .eq 20, 3) := by decide +kernel
theorem dX5_order_16 : decode cX5_order 16 = .ok (.aload_n 0, 1) := by decide +kernel
theorem dX5_order_17 : decode cX5_order 17 = .ok (.iload_n 3, 1) := by decide +kernel
theorem dX5_order_18 : decode cX5_order 18 = .ok (.invokevirtual 59, 3) := by decide +kernel
theorem dX5_order_21 : decode cX5_order 21 = .ok (.ifCond .eq 12, 3) := by decide +kernel
theorem dX5_order_24 : decode cX5_order 24 = .ok (.aload_n 0, 1) := by decide +kernel
theorem dX5_order_25 : decode cX5_order 25 = .ok (.iload 5, 2) := by decide +kernel
theorem dX5_order_27 : decode cX5_order 27 = .ok (.invokevirtual 45, 3) := by decide +kernel
theorem dX5_order_30 : decode cX5_order 30 = .ok (.ifCond .ne 5, 3) := by decide +kernel
theorem dX5_order_33 : decode cX5_order 33 = .ok (.iconst (-1), 1) := by decide +kernel
theorem dX5_order_34 : decode cX5_order 34 = .ok (.ireturn, 1) := by decide +kernel
theorem dX5_order_35 : decode cX5_order 35 = .ok (.iload 4, 2) := by decide +kernel
theorem dX5_order_37 : decode cX5_order 37 = .ok (.iconst 1, 1) := by decide +kernel
theorem dX5_order_38 : decode cX5_order 38 = .ok (.bipush 12, 2) := by decide +kernel
theorem dX5_order_40 : decode cX5_order 40 = .ok (.invokestatic 20, 3) := by decide +kernel
theorem dX5_order_43 : decode cX5_order 43 = .ok (.ifCond .eq 8, 3) := by decide +kernel
theorem dX5_order_46 : decode cX5_order 46 = .ok (.iload_n 2, 1) := by decide +kernel
theorem dX5_order_47 : decode cX5_order 47 = .ok (.iload_n 3, 1) := by decide +kernel
theorem dX5_order_48 : decode cX5_order 48 = .ok (.if_icmp .ne 6, 3) := by decide +kernel
theorem dX5_order_51 : decode cX5_order 51 = .ok (.bipush (-2), 2) := by decide +kernel
theorem dX5_order_53 : decode cX5_order 53 = .ok (.ireturn, 1) := by decide +kernel
theorem dX5_order_54 : decode cX5_order 54 = .ok (.aload_n 0, 1) := by decide +kernel
theorem dX5_order_55 : decode cX5_order 55 = .ok (.getfield 7, 3) := by decide +kernel
theorem dX5_order_58 : decode cX5_order 58 = .ok (.iconst 4, 1) := by decide +kernel
theorem dX5_order_59 : decode cX5_order 59 = .ok (.iaload, 1) := by decide +kernel
theorem dX5_order_60 : decode cX5_order 60 = .ok (.bipush 10, 2) := by decide +kernel
theorem dX5_order_62 : decode cX5_order 62 = .ok (.if_icmp .ne 6, 3) := by decide +kernel
theorem dX5_order_65 : decode cX5_order 65 = .ok (.bipush (-3), 2) := by decide +kernel
theorem dX5_order_67 : decode cX5_order 67 = .ok (.ireturn, 1) := by decide +kernel
theorem dX5_order_68 : decode cX5_order 68 = .ok (.aload_n 0, 1) := by decide +kernel
theorem dX5_order_69 : decode cX5_order 69 = .ok (.invokevirtual 35, 3) := by decide +kernel
theorem dX5_order_72 : decode cX5_order 72 = .ok (.aload_n 0, 1) := by decide +kernel
theorem dX5_order_73 : decode cX5_order 73 = .ok (.getfield 7, 3) := by decide +kernel
theorem dX5_order_76 : decode cX5_order 76 = .ok (.iconst 4, 1) := by decide +kernel
theorem dX5_order_77 : decode cX5_order 77 = .ok (.iaload, 1) := by decide +kernel
theorem dX5_order_78 : decode cX5_order 78 = .ok (.istore 6, 2) := by decide +kernel
theorem dX5_order_80 : decode cX5_order 80 = .ok (.aload_n 0, 1) := by decide +kernel
theorem dX5_order_81 : decode cX5_order 81 = .ok (.getfield 7, 3) := by decide +kernel
theorem dX5_order_84 : decode cX5_order 84 = .ok (.iload 6, 2) := by decide +kernel
theorem dX5_order_86 : decode cX5_order 86 = .ok (.iconst 0, 1) := by decide +kernel
theorem dX5_order_87 : decode cX5_order 87 = .ok (.invokestatic 88, 3) := by decide +kernel
theorem dX5_order_90 : decode cX5_order 90 = .ok (.iload_n 1, 1) := by decide +kernel
theorem dX5_order_91 : decode cX5_order 91 = .ok (.iastore, 1) := by decide +kernel
theorem dX5_order_92 : decode cX5_order 92 = .ok (.aload_n 0, 1) := by decide +kernel
theorem dX5_order_93 : decode cX5_order 93 = .ok (.getfield 7, 3) := by decide +kernel
theorem dX5_order_96 : decode cX5_order 96 = .ok (.iload 6, 2) := by decide +kernel
theorem dX5_order_98 : decode cX5_order 98 = .ok (.iconst 1, 1) := by decide +kernel
theorem dX5_order_99 : decode cX5_order 99 = .ok (.invokestatic 88, 3) := by decide +kernel
theorem dX5_order_102 : decode cX5_order 102 = .ok (.iload_n 2, 1) := by decide +kernel
theorem dX5_order_103 : decode cX5_order 103 = .ok (.iastore, 1) := by decide +kernel
theorem dX5_order_104 : decode cX5_order 104 = .ok (.aload_n 0, 1) := by decide +kernel
theorem dX5_order_105 : decode cX5_order 105 = .ok (.getfield 7, 3) := by decide +kernel
theorem dX5_order_108 : decode cX5_order 108 = .ok (.iload 6, 2) := by decide +kernel
theorem dX5_order_110 : decode cX5_order 110 = .ok (.iconst 2, 1) := by decide +kernel
theorem dX5_order_111 : decode cX5_order 111 = .ok (.invokestatic 88, 3) := by decide +kernel
theorem dX5_order_114 : decode cX5_order 114 = .ok (.iload_n 3, 1) := by decide +kernel
theorem dX5_order_115 : decode cX5_order 115 = .ok (.iastore, 1) := by decide +kernel
theorem dX5_order_116 : decode cX5_order 116 = .ok (.aload_n 0, 1) := by decide +kernel
theorem dX5_order_117 : decode cX5_order 117 = .ok (.getfield 7, 3) := by decide +kernel
theorem dX5_order_120 : decode cX5_order 120 = .ok (.iload 6, 2) := by decide +kernel
theorem dX5_order_122 : decode cX5_order 122 = .ok (.iconst 3, 1) := by decide +kernel
theorem dX5_order_123 : decode cX5_order 123 = .ok (.invokestatic 88, 3) := by decide +kernel
theorem dX5_order_126 : decode cX5_order 126 = .ok (.iload 4, 2) := by decide +kernel
theorem dX5_order_128 : decode cX5_order 128 = .ok (.iastore, 1) := by decide +kernel
theorem dX5_order_129 : decode cX5_order 129 = .ok (.aload_n 0, 1) := by decide +kernel
theorem dX5_order_130 : decode cX5_order 130 = .ok (.getfield 7, 3) := by decide +kernel
theorem dX5_order_133 : decode cX5_order 133 = .ok (.iload 6, 2) := by decide +kernel
theorem dX5_order_135 : decode cX5_order 135 = .ok (.iconst 4, 1) := by decide +kernel
theorem dX5_order_136 : decode cX5_order 136 = .ok (.invokestatic 88, 3) := by decide +kernel
theorem dX5_order_139 : decode cX5_order 139 = .ok (.iload 5, 2) := by decide +kernel
theorem dX5_order_141 : decode cX5_order 141 = .ok (.iastore, 1) := by decide +kernel
theorem dX5_order_142 : decode cX5_order 142 = .ok (.aload_n 0, 1) := by decide +kernel
theorem dX5_order_143 : decode cX5_order 143 = .ok (.getfield 7, 3) := by decide +kernel
theorem dX5_order_146 : decode cX5_order 146 = .ok (.iconst 4, 1) := by decide +kernel
theorem dX5_order_147 : decode cX5_order 147 = .ok (.dup2, 1) := by decide +kernel
theorem dX5_order_148 : decode cX5_order 148 = .ok (.iaload, 1) := by decide +kernel
theorem dX5_order_149 : decode cX5_order 149 = .ok (.iconst 1, 1) := by decide +kernel
theorem dX5_order_150 : decode cX5_order 150 = .ok (.iadd, 1) := by decide +kernel
theorem dX5_order_151 : decode cX5_order 151 = .ok (.iastore, 1) := by decide +kernel
theorem dX5_order_152 : decode cX5_order 152 = .ok (.iload 6, 2) := by decide +kernel
theorem dX5_order_154 : decode cX5_order 154 = .ok (.ireturn, 1) := by decide +kernel
theorem dX5_close_0 : decode cX5_close 0 = .ok (.aload_n 0, 1) := by decide +kernel
theorem dX5_close_1 : decode cX5_close 1 = .ok (.getfield 7, 3) := by decide +kernel
theorem dX5_close_4 : decode cX5_close 4 = .ok (.iconst 4, 1) := by decide +kernel
theorem dX5_close_5 : decode cX5_close 5 = .ok (.dup2, 1) := by decide +kernel
theorem dX5_close_6 : decode cX5_close 6 = .ok (.iaload, 1) := by decide +kernel
theorem dX5_close_7 : decode cX5_close 7 = .ok (.iconst 1, 1) := by decide +kernel
theorem dX5_close_8 : decode cX5_close 8 = .ok (.isub, 1) := by decide +kernel
theorem dX5_close_9 : decode cX5_close 9 = .ok (.iastore, 1) := by decide +kernel
theorem dX5_close_10 : decode cX5_close 10 = .ok (.iload_n 1, 1) := by decide +kernel
theorem dX5_close_11 : decode cX5_close 11 = .ok (.iconst 0, 1) := by decide +kernel
theorem dX5_close_12 : decode cX5_close 12 = .ok (.invokestatic 88, 3) := by decide +kernel
theorem dX5_close_15 : decode cX5_close 15 = .ok (.istore_n 2, 1) := by decide +kernel
theorem dX5_close_16 : decode cX5_close 16 = .ok (.iload_n 2, 1) := by decide +kernel
theorem dX5_close_17 : decode cX5_close 17 = .ok (.aload_n 0, 1) := by decide +kernel
theorem dX5_close_18 : decode cX5_close 18 = .ok (.getfield 7, 3) := by decide +kernel
theorem dX5_close_21 : decode cX5_close 21 = .ok (.iconst 4, 1) := by decide +kernel
theorem dX5_close_22 : decode cX5_close 22 = .ok (.iaload, 1) := by decide +kernel
theorem dX5_close_23 : decode cX5_close 23 = .ok (.iconst 0, 1) := by decide +kernel
theorem dX5_close_24 : decode cX5_close 24 = .ok (.invokestatic 88, 3) := by decide +kernel
theorem dX5_close_27 : decode cX5_close 27 = .ok (.if_icmp .ge 23, 3) := by decide +kernel
theorem dX5_close_30 : decode cX5_close 30 = .ok (.aload_n 0, 1) := by decide +kernel
theorem dX5_close_31 : decode cX5_close 31 = .ok (.getfield 7, 3) := by decide +kernel
theorem dX5_close_34 : decode cX5_close 34 = .ok (.iload_n 2, 1) := by decide +kernel
theorem dX5_close_35 : decode cX5_close 35 = .ok (.aload_n 0, 1) := by decide +kernel
theorem dX5_close_36 : decode cX5_close 36 = .ok (.getfield 7, 3) := by decide +kernel
theorem dX5_close_39 : decode cX5_close 39 = .ok (.iload_n 2, 1) := by decide +kernel
theorem dX5_close_40 : decode cX5_close 40 = .ok (.iconst 5, 1) := by decide +kernel
theorem dX5_close_41 : decode cX5_close 41 = .ok (.iadd, 1) := by decide +kernel
theorem dX5_close_42 : decode cX5_close 42 = .ok (.iaload, 1) := by decide +kernel
theorem dX5_close_43 : decode cX5_close 43 = .ok (.iastore, 1) := by decide +kernel
theorem dX5_close_44 : decode cX5_close 44 = .ok (.iinc 2 1, 3) := by decide +kernel
theorem dX5_close_47 : decode cX5_close 47 = .ok (.goto (-31), 3) := by decide +kernel
theorem dX5_close_50 : decode cX5_close 50 = .ok (.return_, 1) := by decide +kernel
theorem dX5_takeBack_0 : decode cX5_takeBack 0 = .ok (.aload_n 0, 1) := by decide +kernel
theorem dX5_takeBack_1 : decode cX5_takeBack 1 = .ok (.iload_n 1, 1) := by decide +kernel
theorem dX5_takeBack_2 : decode cX5_takeBack 2 = .ok (.invokevirtual 91, 3) := by decide +kernel
theorem dX5_takeBack_5 : decode cX5_takeBack 5 = .ok (.ifCond .ne 5, 3) := by decide +kernel
theorem dX5_takeBack_8 : decode cX5_takeBack 8 = .ok (.iconst (-1), 1) := by decide +kernel
theorem dX5_takeBack_9 : decode cX5_takeBack 9 = .ok (.ireturn, 1) := by decide +kernel
theorem dX5_takeBack_10 : decode cX5_takeBack 10 = .ok (.aload_n 0, 1) := by decide +kernel
theorem dX5_takeBack_11 : decode cX5_takeBack 11 = .ok (.invokevirtual 35, 3) := by decide +kernel
theorem dX5_takeBack_14 : decode cX5_takeBack 14 = .ok (.aload_n 0, 1) := by decide +kernel
theorem dX5_takeBack_15 : decode cX5_takeBack 15 = .ok (.iload_n 1, 1) := by decide +kernel
theorem dX5_takeBack_16 : decode cX5_takeBack 16 = .ok (.invokevirtual 94, 3) := by decide +kernel
theorem dX5_takeBack_19 : decode cX5_takeBack 19 = .ok (.aload_n 0, 1) := by decide +kernel
theorem dX5_takeBack_20 : decode cX5_takeBack 20 = .ok (.getfield 7, 3) := by decide +kernel
theorem dX5_takeBack_23 : decode cX5_takeBack 23 = .ok (.iconst 4, 1) := by decide +kernel
theorem dX5_takeBack_24 : decode cX5_takeBack 24 = .ok (.iaload, 1) := by decide +kernel
theorem dX5_takeBack_25 : decode cX5_takeBack 25 = .ok (.ireturn, 1) := by decide +kernel
theorem dX5_carry_0 : decode cX5_carry 0 = .ok (.aload_n 0, 1) := by decide +kernel
theorem dX5_carry_1 : decode cX5_carry 1 = .ok (.getfield 7, 3) := by decide +kernel
theorem dX5_carry_4 : decode cX5_carry 4 = .ok (.iload_n 1, 1) := by decide +kernel
theorem dX5_carry_5 : decode cX5_carry 5 = .ok (.iconst 3, 1) := by decide +kernel
theorem dX5_carry_6 : decode cX5_carry 6 = .ok (.invokestatic 88, 3) := by decide +kernel
theorem dX5_carry_9 : decode cX5_carry 9 = .ok (.iaload, 1) := by decide +kernel
theorem dX5_carry_10 : decode cX5_carry 10 = .ok (.istore_n 2, 1) := by decide +kernel
theorem dX5_carry_11 : decode cX5_carry 11 = .ok (.aload_n 0, 1) := by decide +kernel
theorem dX5_carry_12 : decode cX5_carry 12 = .ok (.getfield 7, 3) := by decide +kernel
theorem dX5_carry_15 : decode cX5_carry 15 = .ok (.iload_n 1, 1) := by decide +kernel
theorem dX5_carry_16 : decode cX5_carry 16 = .ok (.iconst 1, 1) := by decide +kernel
theorem dX5_carry_17 : decode cX5_carry 17 = .ok (.invokestatic 88, 3) := by decide +kernel
theorem dX5_carry_20 : decode cX5_carry 20 = .ok (.iaload, 1) := by decide +kernel
theorem dX5_carry_21 : decode cX5_carry 21 = .ok (.iconst 1, 1) := by decide +kernel
theorem dX5_carry_22 : decode cX5_carry 22 = .ok (.invokestatic 38, 3) := by decide +kernel
theorem dX5_carry_25 : decode cX5_carry 25 = .ok (.istore_n 3, 1) := by decide +kernel
theorem dX5_carry_26 : decode cX5_carry 26 = .ok (.aload_n 0, 1) := by decide +kernel
theorem dX5_carry_27 : decode cX5_carry 27 = .ok (.getfield 7, 3) := by decide +kernel
theorem dX5_carry_30 : decode cX5_carry 30 = .ok (.iload_n 1, 1) := by decide +kernel
theorem dX5_carry_31 : decode cX5_carry 31 = .ok (.iconst 2, 1) := by decide +kernel
theorem dX5_carry_32 : decode cX5_carry 32 = .ok (.invokestatic 88, 3) := by decide +kernel
theorem dX5_carry_35 : decode cX5_carry 35 = .ok (.iaload, 1) := by decide +kernel
theorem dX5_carry_36 : decode cX5_carry 36 = .ok (.iconst 1, 1) := by decide +kernel
theorem dX5_carry_37 : decode cX5_carry 37 = .ok (.invokestatic 38, 3) := by decide +kernel
theorem dX5_carry_40 : decode cX5_carry 40 = .ok (.istore 4, 2) := by decide +kernel
theorem dX5_carry_42 : decode cX5_carry 42 = .ok (.aload_n 0, 1) := by decide +kernel
theorem dX5_carry_43 : decode cX5_carry 43 = .ok (.getfield 7, 3) := by decide +kernel
theorem dX5_carry_46 : decode cX5_carry 46 = .ok (.iload_n 3, 1) := by decide +kernel
theorem dX5_carry_47 : decode cX5_carry 47 = .ok (.iaload, 1) := by decide +kernel
theorem dX5_carry_48 : decode cX5_carry 48 = .ok (.iload_n 2, 1) := by decide +kernel
theorem dX5_carry_49 : decode cX5_carry 49 = .ok (.if_icmp .lt 21, 3) := by decide +kernel
theorem dX5_carry_52 : decode cX5_carry 52 = .ok (.aload_n 0, 1) := by decide +kernel
theorem dX5_carry_53 : decode cX5_carry 53 = .ok (.getfield 7, 3) := by decide +kernel
theorem dX5_carry_56 : decode cX5_carry 56 = .ok (.iload 4, 2) := by decide +kernel
theorem dX5_carry_58 : decode cX5_carry 58 = .ok (.iaload, 1) := by decide +kernel
theorem dX5_carry_59 : decode cX5_carry 59 = .ok (.iload_n 2, 1) := by decide +kernel
theorem dX5_carry_60 : decode cX5_carry 60 = .ok (.iadd, 1) := by decide +kernel
theorem dX5_carry_61 : decode cX5_carry 61 = .ok (.bipush 12, 2) := by decide +kernel
theorem dX5_carry_63 : decode cX5_carry 63 = .ok (.if_icmp .gt 7, 3) := by decide +kernel
theorem dX5_carry_66 : decode cX5_carry 66 = .ok (.iconst 1, 1) := by decide +kernel
theorem dX5_carry_67 : decode cX5_carry 67 = .ok (.goto 4, 3) := by decide +kernel
theorem dX5_carry_70 : decode cX5_carry 70 = .ok (.iconst 0, 1) := by decide +kernel
theorem dX5_carry_71 : decode cX5_carry 71 = .ok (.istore 5, 2) := by decide +kernel
theorem dX5_carry_73 : decode cX5_carry 73 = .ok (.aload_n 0, 1) := by decide +kernel
theorem dX5_carry_74 : decode cX5_carry 74 = .ok (.getfield 7, 3) := by decide +kernel
theorem dX5_carry_77 : decode cX5_carry 77 = .ok (.iload_n 3, 1) := by decide +kernel
theorem dX5_carry_78 : decode cX5_carry 78 = .ok (.dup2, 1) := by decide +kernel
theorem dX5_carry_79 : decode cX5_carry 79 = .ok (.iaload, 1) := by decide +kernel
theorem dX5_carry_80 : decode cX5_carry 80 = .ok (.iload 5, 2) := by decide +kernel
theorem dX5_carry_82 : decode cX5_carry 82 = .ok (.ifCond .eq 7, 3) := by decide +kernel
theorem dX5_carry_85 : decode cX5_carry 85 = .ok (.iload_n 2, 1) := by decide +kernel
theorem dX5_carry_86 : decode cX5_carry 86 = .ok (.goto 4, 3) := by decide +kernel
theorem dX5_carry_89 : decode cX5_carry 89 = .ok (.iconst 0, 1) := by decide +kernel
theorem dX5_carry_90 : decode cX5_carry 90 = .ok (.isub, 1) := by decide +kernel
theorem dX5_carry_91 : decode cX5_carry 91 = .ok (.iastore, 1) := by decide +kernel
theorem dX5_carry_92 : decode cX5_carry 92 = .ok (.aload_n 0, 1) := by decide +kernel
theorem dX5_carry_93 : decode cX5_carry 93 = .ok (.getfield 7, 3) := by decide +kernel
theorem dX5_carry_96 : decode cX5_carry 96 = .ok (.iload 4, 2) := by decide +kernel
theorem dX5_carry_98 : decode cX5_carry 98 = .ok (.dup2, 1) := by decide +kernel
theorem dX5_carry_99 : decode cX5_carry 99 = .ok (.iaload, 1) := by decide +kernel
theorem dX5_carry_100 : decode cX5_carry 100 = .ok (.iload 5, 2) := by decide +kernel
theorem dX5_carry_102 : decode cX5_carry 102 = .ok (.ifCond .eq 7, 3) := by decide +kernel
theorem dX5_carry_105 : decode cX5_carry 105 = .ok (.iload_n 2, 1) := by decide +kernel
theorem dX5_carry_106 : decode cX5_carry 106 = .ok (.goto 4, 3) := by decide +kernel
theorem dX5_carry_109 : decode cX5_carry 109 = .ok (.iconst 0, 1) := by decide +kernel
theorem dX5_carry_110 : decode cX5_carry 110 = .ok (.iadd, 1) := by decide +kernel
theorem dX5_carry_111 : decode cX5_carry 111 = .ok (.iastore, 1) := by decide +kernel
theorem dX5_carry_112 : decode cX5_carry 112 = .ok (.iload 5, 2) := by decide +kernel
theorem dX5_carry_114 : decode cX5_carry 114 = .ok (.ireturn, 1) := by decide +kernel
theorem dX5_moveAll_0 : decode cX5_moveAll 0 = .ok (.iconst 0, 1) := by decide +kernel
theorem dX5_moveAll_1 : decode cX5_moveAll 1 = .ok (.istore_n 1, 1) := by decide +kernel
theorem dX5_moveAll_2 : decode cX5_moveAll 2 = .ok (.iload_n 1, 1) := by decide +kernel
theorem dX5_moveAll_3 : decode cX5_moveAll 3 = .ok (.aload_n 0, 1) := by decide +kernel
theorem dX5_moveAll_4 : decode cX5_moveAll 4 = .ok (.getfield 7, 3) := by decide +kernel
theorem dX5_moveAll_7 : decode cX5_moveAll 7 = .ok (.iconst 4, 1) := by decide +kernel
theorem dX5_moveAll_8 : decode cX5_moveAll 8 = .ok (.iaload, 1) := by decide +kernel
theorem dX5_moveAll_9 : decode cX5_moveAll 9 = .ok (.if_icmp .ge 165, 3) := by decide +kernel
theorem dX5_moveAll_12 : decode cX5_moveAll 12 = .ok (.aload_n 0, 1) := by decide +kernel
theorem dX5_moveAll_13 : decode cX5_moveAll 13 = .ok (.getfield 7, 3) := by decide +kernel
theorem dX5_moveAll_16 : decode cX5_moveAll 16 = .ok (.iload_n 1, 1) := by decide +kernel
theorem dX5_moveAll_17 : decode cX5_moveAll 17 = .ok (.iconst 4, 1) := by decide +kernel
theorem dX5_moveAll_18 : decode cX5_moveAll 18 = .ok (.invokestatic 88, 3) := by decide +kernel
theorem dX5_moveAll_21 : decode cX5_moveAll 21 = .ok (.iaload, 1) := by decide +kernel
theorem dX5_moveAll_22 : decode cX5_moveAll 22 = .ok (.aload_n 0, 1) := by decide +kernel
theorem dX5_moveAll_23 : decode cX5_moveAll 23 = .ok (.getfield 7, 3) := by decide +kernel
theorem dX5_moveAll_26 : decode cX5_moveAll 26 = .ok (.iconst 0, 1) := by decide +kernel
theorem dX5_moveAll_27 : decode cX5_moveAll 27 = .ok (.iaload, 1) := by decide +kernel
theorem dX5_moveAll_28 : decode cX5_moveAll 28 = .ok (.if_icmp .ne 140, 3) := by decide +kernel
theorem dX5_moveAll_31 : decode cX5_moveAll 31 = .ok (.aload_n 0, 1) := by decide +kernel
theorem dX5_moveAll_32 : decode cX5_moveAll 32 = .ok (.iload_n 1, 1) := by decide +kernel
theorem dX5_moveAll_33 : decode cX5_moveAll 33 = .ok (.invokevirtual 98, 3) := by decide +kernel
theorem dX5_moveAll_36 : decode cX5_moveAll 36 = .ok (.istore_n 2, 1) := by decide +kernel
theorem dX5_moveAll_37 : decode cX5_moveAll 37 = .ok (.aload_n 0, 1) := by decide +kernel
theorem dX5_moveAll_38 : decode cX5_moveAll 38 = .ok (.getfield 7, 3) := by decide +kernel
theorem dX5_moveAll_41 : decode cX5_moveAll 41 = .ok (.iload_n 1, 1) := by decide +kernel
theorem dX5_moveAll_42 : decode cX5_moveAll 42 = .ok (.iconst 0, 1) := by decide +kernel
theorem dX5_moveAll_43 : decode cX5_moveAll 43 = .ok (.invokestatic 88, 3) := by decide +kernel
theorem dX5_moveAll_46 : decode cX5_moveAll 46 = .ok (.iaload, 1) := by decide +kernel
theorem dX5_moveAll_47 : decode cX5_moveAll 47 = .ok (.istore_n 3, 1) := by decide +kernel
theorem dX5_moveAll_48 : decode cX5_moveAll 48 = .ok (.aload_n 0, 1) := by decide +kernel
theorem dX5_moveAll_49 : decode cX5_moveAll 49 = .ok (.iload_n 3, 1) := by decide +kernel
theorem dX5_moveAll_50 : decode cX5_moveAll 50 = .ok (.iload_n 2, 1) := by decide +kernel
theorem dX5_moveAll_51 : decode cX5_moveAll 51 = .ok (.ifCond .eq 20, 3) := by decide +kernel
theorem dX5_moveAll_54 : decode cX5_moveAll 54 = .ok (.iconst 5, 1) := by decide +kernel
theorem dX5_moveAll_55 : decode cX5_moveAll 55 = .ok (.iconst 2, 1) := by decide +kernel
theorem dX5_moveAll_56 : decode cX5_moveAll 56 = .ok (.aload_n 0, 1) := by decide +kernel
theorem dX5_moveAll_57 : decode cX5_moveAll 57 = .ok (.getfield 7, 3) := by decide +kernel
theorem dX5_moveAll_60 : decode cX5_moveAll 60 = .ok (.iload_n 1, 1) := by decide +kernel
theorem dX5_moveAll_61 : decode cX5_moveAll 61 = .ok (.iconst 3, 1) := by decide +kernel
theorem dX5_moveAll_62 : decode cX5_moveAll 62 = .ok (.invokestatic 88, 3) := by decide +kernel
theorem dX5_moveAll_65 : decode cX5_moveAll 65 = .ok (.iaload, 1) := by decide +kernel
theorem dX5_moveAll_66 : decode cX5_moveAll 66 = .ok (.imul, 1) := by decide +kernel
theorem dX5_moveAll_67 : decode cX5_moveAll 67 = .ok (.iadd, 1) := by decide +kernel
theorem dX5_moveAll_68 : decode cX5_moveAll 68 = .ok (.goto 4, 3) := by decide +kernel
theorem dX5_moveAll_71 : decode cX5_moveAll 71 = .ok (.iconst 5, 1) := by decide +kernel
theorem dX5_moveAll_72 : decode cX5_moveAll 72 = .ok (.invokevirtual 82, 3) := by decide +kernel
theorem dX5_moveAll_75 : decode cX5_moveAll 75 = .ok (.aload_n 0, 1) := by decide +kernel
theorem dX5_moveAll_76 : decode cX5_moveAll 76 = .ok (.getfield 7, 3) := by decide +kernel
theorem dX5_moveAll_79 : decode cX5_moveAll 79 = .ok (.aload_n 0, 1) := by decide +kernel
theorem dX5_moveAll_80 : decode cX5_moveAll 80 = .ok (.getfield 7, 3) := by decide +kernel
theorem dX5_moveAll_83 : decode cX5_moveAll 83 = .ok (.iload_n 1, 1) := by decide +kernel
theorem dX5_moveAll_84 : decode cX5_moveAll 84 = .ok (.iconst 1, 1) := by decide +kernel
theorem dX5_moveAll_85 : decode cX5_moveAll 85 = .ok (.invokestatic 88, 3) := by decide +kernel
theorem dX5_moveAll_88 : decode cX5_moveAll 88 = .ok (.iaload, 1) := by decide +kernel
theorem dX5_moveAll_89 : decode cX5_moveAll 89 = .ok (.iconst 2, 1) := by decide +kernel
theorem dX5_moveAll_90 : decode cX5_moveAll 90 = .ok (.invokestatic 38, 3) := by decide +kernel
theorem dX5_moveAll_93 : decode cX5_moveAll 93 = .ok (.iload_n 2, 1) := by decide +kernel
theorem dX5_moveAll_94 : decode cX5_moveAll 94 = .ok (.ifCond .eq 9, 3) := by decide +kernel
theorem dX5_moveAll_97 : decode cX5_moveAll 97 = .ok (.iload_n 3, 1) := by decide +kernel
theorem dX5_moveAll_98 : decode cX5_moveAll 98 = .ok (.iconst 1, 1) := by decide +kernel
theorem dX5_moveAll_99 : decode cX5_moveAll 99 = .ok (.iadd, 1) := by decide +kernel
theorem dX5_moveAll_100 : decode cX5_moveAll 100 = .ok (.goto 22, 3) := by decide +kernel
theorem dX5_moveAll_103 : decode cX5_moveAll 103 = .ok (.aload_n 0, 1) := by decide +kernel
theorem dX5_moveAll_104 : decode cX5_moveAll 104 = .ok (.getfield 7, 3) := by decide +kernel
theorem dX5_moveAll_107 : decode cX5_moveAll 107 = .ok (.aload_n 0, 1) := by decide +kernel
theorem dX5_moveAll_108 : decode cX5_moveAll 108 = .ok (.getfield 7, 3) := by decide +kernel
theorem dX5_moveAll_111 : decode cX5_moveAll 111 = .ok (.iload_n 1, 1) := by decide +kernel
theorem dX5_moveAll_112 : decode cX5_moveAll 112 = .ok (.iconst 1, 1) := by decide +kernel
theorem dX5_moveAll_113 : decode cX5_moveAll 113 = .ok (.invokestatic 88, 3) := by decide +kernel
theorem dX5_moveAll_116 : decode cX5_moveAll 116 = .ok (.iaload, 1) := by decide +kernel
theorem dX5_moveAll_117 : decode cX5_moveAll 117 = .ok (.iconst 2, 1) := by decide +kernel
theorem dX5_moveAll_118 : decode cX5_moveAll 118 = .ok (.invokestatic 38, 3) := by decide +kernel
theorem dX5_moveAll_121 : decode cX5_moveAll 121 = .ok (.iaload, 1) := by decide +kernel
theorem dX5_moveAll_122 : decode cX5_moveAll 122 = .ok (.iastore, 1) := by decide +kernel
theorem dX5_moveAll_123 : decode cX5_moveAll 123 = .ok (.aload_n 0, 1) := by decide +kernel
theorem dX5_moveAll_124 : decode cX5_moveAll 124 = .ok (.getfield 7, 3) := by decide +kernel
theorem dX5_moveAll_127 : decode cX5_moveAll 127 = .ok (.iconst 5, 1) := by decide +kernel
theorem dX5_moveAll_128 : decode cX5_moveAll 128 = .ok (.dup2, 1) := by decide +kernel
theorem dX5_moveAll_129 : decode cX5_moveAll 129 = .ok (.iaload, 1) := by decide +kernel
theorem dX5_moveAll_130 : decode cX5_moveAll 130 = .ok (.iload_n 2, 1) := by decide +kernel
theorem dX5_moveAll_131 : decode cX5_moveAll 131 = .ok (.ifCond .eq 7, 3) := by decide +kernel
theorem dX5_moveAll_134 : decode cX5_moveAll 134 = .ok (.iconst 1, 1) := by decide +kernel
theorem dX5_moveAll_135 : decode cX5_moveAll 135 = .ok (.goto 4, 3) := by decide +kernel
theorem dX5_moveAll_138 : decode cX5_moveAll 138 = .ok (.iconst 0, 1) := by decide +kernel
theorem dX5_moveAll_139 : decode cX5_moveAll 139 = .ok (.iadd, 1) := by decide +kernel
theorem dX5_moveAll_140 : decode cX5_moveAll 140 = .ok (.iastore, 1) := by decide +kernel
theorem dX5_moveAll_141 : decode cX5_moveAll 141 = .ok (.aload_n 0, 1) := by decide +kernel
theorem dX5_moveAll_142 : decode cX5_moveAll 142 = .ok (.getfield 7, 3) := by decide +kernel
theorem dX5_moveAll_145 : decode cX5_moveAll 145 = .ok (.bipush 6, 2) := by decide +kernel
theorem dX5_moveAll_147 : decode cX5_moveAll 147 = .ok (.dup2, 1) := by decide +kernel
theorem dX5_moveAll_148 : decode cX5_moveAll 148 = .ok (.iaload, 1) := by decide +kernel
theorem dX5_moveAll_149 : decode cX5_moveAll 149 = .ok (.iload_n 2, 1) := by decide +kernel
theorem dX5_moveAll_150 : decode cX5_moveAll 150 = .ok (.ifCond .eq 7, 3) := by decide +kernel
theorem dX5_moveAll_153 : decode cX5_moveAll 153 = .ok (.iconst 0, 1) := by decide +kernel
theorem dX5_moveAll_154 : decode cX5_moveAll 154 = .ok (.goto 4, 3) := by decide +kernel
theorem dX5_moveAll_157 : decode cX5_moveAll 157 = .ok (.iconst 1, 1) := by decide +kernel
theorem dX5_moveAll_158 : decode cX5_moveAll 158 = .ok (.iadd, 1) := by decide +kernel
theorem dX5_moveAll_159 : decode cX5_moveAll 159 = .ok (.iastore, 1) := by decide +kernel
theorem dX5_moveAll_160 : decode cX5_moveAll 160 = .ok (.aload_n 0, 1) := by decide +kernel
theorem dX5_moveAll_161 : decode cX5_moveAll 161 = .ok (.iload_n 1, 1) := by decide +kernel
theorem dX5_moveAll_162 : decode cX5_moveAll 162 = .ok (.invokevirtual 94, 3) := by decide +kernel
theorem dX5_moveAll_165 : decode cX5_moveAll 165 = .ok (.goto (-163), 3) := by decide +kernel
theorem dX5_moveAll_168 : decode cX5_moveAll 168 = .ok (.iinc 1 1, 3) := by decide +kernel
theorem dX5_moveAll_171 : decode cX5_moveAll 171 = .ok (.goto (-169), 3) := by decide +kernel
theorem dX5_moveAll_174 : decode cX5_moveAll 174 = .ok (.return_, 1) := by decide +kernel
theorem dX5_standBy_0 : decode cX5_standBy 0 = .ok (.aload_n 0, 1) := by decide +kernel
theorem dX5_standBy_1 : decode cX5_standBy 1 = .ok (.getfield 7, 3) := by decide +kernel
theorem dX5_standBy_4 : decode cX5_standBy 4 = .ok (.iload_n 2, 1) := by decide +kernel
theorem dX5_standBy_5 : decode cX5_standBy 5 = .ok (.ifCond .ge 8, 3) := by decide +kernel
theorem dX5_standBy_8 : decode cX5_standBy 8 = .ok (.bipush 8, 2) := by decide +kernel
theorem dX5_standBy_10 : decode cX5_standBy 10 = .ok (.goto 5, 3) := by decide +kernel
theorem dX5_standBy_13 : decode cX5_standBy 13 = .ok (.bipush 7, 2) := by decide +kernel
theorem dX5_standBy_15 : decode cX5_standBy 15 = .ok (.dup2, 1) := by decide +kernel
theorem dX5_standBy_16 : decode cX5_standBy 16 = .ok (.iaload, 1) := by decide +kernel
theorem dX5_standBy_17 : decode cX5_standBy 17 = .ok (.iconst 1, 1) := by decide +kernel
theorem dX5_standBy_18 : decode cX5_standBy 18 = .ok (.iadd, 1) := by decide +kernel
theorem dX5_standBy_19 : decode cX5_standBy 19 = .ok (.iastore, 1) := by decide +kernel
theorem dX5_standBy_20 : decode cX5_standBy 20 = .ok (.iload_n 2, 1) := by decide +kernel
theorem dX5_standBy_21 : decode cX5_standBy 21 = .ok (.ifCond .lt 24, 3) := by decide +kernel
theorem dX5_standBy_24 : decode cX5_standBy 24 = .ok (.aload_n 0, 1) := by decide +kernel
theorem dX5_standBy_25 : decode cX5_standBy 25 = .ok (.getfield 7, 3) := by decide +kernel
theorem dX5_standBy_28 : decode cX5_standBy 28 = .ok (.iload_n 2, 1) := by decide +kernel
theorem dX5_standBy_29 : decode cX5_standBy 29 = .ok (.iconst 1, 1) := by decide +kernel
theorem dX5_standBy_30 : decode cX5_standBy 30 = .ok (.invokestatic 42, 3) := by decide +kernel
theorem dX5_standBy_33 : decode cX5_standBy 33 = .ok (.dup2, 1) := by decide +kernel
theorem dX5_standBy_34 : decode cX5_standBy 34 = .ok (.iaload, 1) := by decide +kernel
theorem dX5_standBy_35 : decode cX5_standBy 35 = .ok (.iconst 1, 1) := by decide +kernel
theorem dX5_standBy_36 : decode cX5_standBy 36 = .ok (.iadd, 1) := by decide +kernel
theorem dX5_standBy_37 : decode cX5_standBy 37 = .ok (.iastore, 1) := by decide +kernel
theorem dX5_standBy_38 : decode cX5_standBy 38 = .ok (.aload_n 0, 1) := by decide +kernel
theorem dX5_standBy_39 : decode cX5_standBy 39 = .ok (.iload_n 2, 1) := by decide +kernel
theorem dX5_standBy_40 : decode cX5_standBy 40 = .ok (.bipush 8, 2) := by decide +kernel
theorem dX5_standBy_42 : decode cX5_standBy 42 = .ok (.invokevirtual 82, 3) := by decide +kernel
theorem dX5_standBy_45 : decode cX5_standBy 45 = .ok (.aload_n 0, 1) := by decide +kernel
theorem dX5_standBy_46 : decode cX5_standBy 46 = .ok (.getfield 7, 3) := by decide +kernel
theorem dX5_standBy_49 : decode cX5_standBy 49 = .ok (.iload_n 1, 1) := by decide +kernel
theorem dX5_standBy_50 : decode cX5_standBy 50 = .ok (.bipush 7, 2) := by decide +kernel
theorem dX5_standBy_52 : decode cX5_standBy 52 = .ok (.invokestatic 53, 3) := by decide +kernel
theorem dX5_standBy_55 : decode cX5_standBy 55 = .ok (.dup2, 1) := by decide +kernel
theorem dX5_standBy_56 : decode cX5_standBy 56 = .ok (.iaload, 1) := by decide +kernel
theorem dX5_standBy_57 : decode cX5_standBy 57 = .ok (.iconst 1, 1) := by decide +kernel
theorem dX5_standBy_58 : decode cX5_standBy 58 = .ok (.iadd, 1) := by decide +kernel
theorem dX5_standBy_59 : decode cX5_standBy 59 = .ok (.iastore, 1) := by decide +kernel
theorem dX5_standBy_60 : decode cX5_standBy 60 = .ok (.aload_n 0, 1) := by decide +kernel
theorem dX5_standBy_61 : decode cX5_standBy 61 = .ok (.iload_n 1, 1) := by decide +kernel
theorem dX5_standBy_62 : decode cX5_standBy 62 = .ok (.aload_n 0, 1) := by decide +kernel
theorem dX5_standBy_63 : decode cX5_standBy 63 = .ok (.getfield 16, 3) := by decide +kernel
theorem dX5_standBy_66 : decode cX5_standBy 66 = .ok (.if_icmp .ne 15, 3) := by decide +kernel
theorem dX5_standBy_69 : decode cX5_standBy 69 = .ok (.iload_n 2, 1) := by decide +kernel
theorem dX5_standBy_70 : decode cX5_standBy 70 = .ok (.ifCond .ge 7, 3) := by decide +kernel
theorem dX5_standBy_73 : decode cX5_standBy 73 = .ok (.iconst 2, 1) := by decide +kernel
theorem dX5_standBy_74 : decode cX5_standBy 74 = .ok (.goto 11, 3) := by decide +kernel
theorem dX5_standBy_77 : decode cX5_standBy 77 = .ok (.iconst 1, 1) := by decide +kernel
theorem dX5_standBy_78 : decode cX5_standBy 78 = .ok (.goto 7, 3) := by decide +kernel
theorem dX5_standBy_81 : decode cX5_standBy 81 = .ok (.aload_n 0, 1) := by decide +kernel
theorem dX5_standBy_82 : decode cX5_standBy 82 = .ok (.getfield 101, 3) := by decide +kernel
theorem dX5_standBy_85 : decode cX5_standBy 85 = .ok (.putfield 101, 3) := by decide +kernel
theorem dX5_standBy_88 : decode cX5_standBy 88 = .ok (.aload_n 0, 1) := by decide +kernel
theorem dX5_standBy_89 : decode cX5_standBy 89 = .ok (.getfield 7, 3) := by decide +kernel
theorem dX5_standBy_92 : decode cX5_standBy 92 = .ok (.iload_n 1, 1) := by decide +kernel
theorem dX5_standBy_93 : decode cX5_standBy 93 = .ok (.iconst 1, 1) := by decide +kernel
theorem dX5_standBy_94 : decode cX5_standBy 94 = .ok (.invokestatic 53, 3) := by decide +kernel
theorem dX5_standBy_97 : decode cX5_standBy 97 = .ok (.iaload, 1) := by decide +kernel
theorem dX5_standBy_98 : decode cX5_standBy 98 = .ok (.istore_n 3, 1) := by decide +kernel
theorem dX5_standBy_99 : decode cX5_standBy 99 = .ok (.iconst 1, 1) := by decide +kernel
theorem dX5_standBy_100 : decode cX5_standBy 100 = .ok (.istore 4, 2) := by decide +kernel
theorem dX5_standBy_102 : decode cX5_standBy 102 = .ok (.iload 4, 2) := by decide +kernel
theorem dX5_standBy_104 : decode cX5_standBy 104 = .ok (.bipush 9, 2) := by decide +kernel
theorem dX5_standBy_106 : decode cX5_standBy 106 = .ok (.if_icmp .gt 49, 3) := by decide +kernel
theorem dX5_standBy_109 : decode cX5_standBy 109 = .ok (.aload_n 0, 1) := by decide +kernel
theorem dX5_standBy_110 : decode cX5_standBy 110 = .ok (.getfield 7, 3) := by decide +kernel
theorem dX5_standBy_113 : decode cX5_standBy 113 = .ok (.iconst 0, 1) := by decide +kernel
theorem dX5_standBy_114 : decode cX5_standBy 114 = .ok (.iaload, 1) := by decide +kernel
theorem dX5_standBy_115 : decode cX5_standBy 115 = .ok (.iload 4, 2) := by decide +kernel
theorem dX5_standBy_117 : decode cX5_standBy 117 = .ok (.iadd, 1) := by decide +kernel
theorem dX5_standBy_118 : decode cX5_standBy 118 = .ok (.istore 5, 2) := by decide +kernel
theorem dX5_standBy_120 : decode cX5_standBy 120 = .ok (.iload 5, 2) := by decide +kernel
theorem dX5_standBy_122 : decode cX5_standBy 122 = .ok (.sipush 199, 3) := by decide +kernel
theorem dX5_standBy_125 : decode cX5_standBy 125 = .ok (.if_icmp .gt 24, 3) := by decide +kernel
theorem dX5_standBy_128 : decode cX5_standBy 128 = .ok (.aload_n 0, 1) := by decide +kernel
theorem dX5_standBy_129 : decode cX5_standBy 129 = .ok (.iload_n 3, 1) := by decide +kernel
theorem dX5_standBy_130 : decode cX5_standBy 130 = .ok (.iload 5, 2) := by decide +kernel
theorem dX5_standBy_132 : decode cX5_standBy 132 = .ok (.invokevirtual 69, 3) := by decide +kernel
theorem dX5_standBy_135 : decode cX5_standBy 135 = .ok (.bipush (-5), 2) := by decide +kernel
theorem dX5_standBy_137 : decode cX5_standBy 137 = .ok (.if_icmp .ne 12, 3) := by decide +kernel
theorem dX5_standBy_140 : decode cX5_standBy 140 = .ok (.aload_n 0, 1) := by decide +kernel
theorem dX5_standBy_141 : decode cX5_standBy 141 = .ok (.iload_n 1, 1) := by decide +kernel
theorem dX5_standBy_142 : decode cX5_standBy 142 = .ok (.iload_n 3, 1) := by decide +kernel
theorem dX5_standBy_143 : decode cX5_standBy 143 = .ok (.iload 5, 2) := by decide +kernel
theorem dX5_standBy_145 : decode cX5_standBy 145 = .ok (.invokevirtual 72, 3) := by decide +kernel
theorem dX5_standBy_148 : decode cX5_standBy 148 = .ok (.return_, 1) := by decide +kernel
theorem dX5_standBy_149 : decode cX5_standBy 149 = .ok (.iinc 4 1, 3) := by decide +kernel
theorem dX5_standBy_152 : decode cX5_standBy 152 = .ok (.goto (-50), 3) := by decide +kernel
theorem dX5_standBy_155 : decode cX5_standBy 155 = .ok (.aload_n 0, 1) := by decide +kernel
theorem dX5_standBy_156 : decode cX5_standBy 156 = .ok (.getfield 7, 3) := by decide +kernel
theorem dX5_standBy_159 : decode cX5_standBy 159 = .ok (.iload_n 1, 1) := by decide +kernel
theorem dX5_standBy_160 : decode cX5_standBy 160 = .ok (.iconst 5, 1) := by decide +kernel
theorem dX5_standBy_161 : decode cX5_standBy 161 = .ok (.invokestatic 53, 3) := by decide +kernel
theorem dX5_standBy_164 : decode cX5_standBy 164 = .ok (.iconst 2, 1) := by decide +kernel
theorem dX5_standBy_165 : decode cX5_standBy 165 = .ok (.iastore, 1) := by decide +kernel
theorem dX5_standBy_166 : decode cX5_standBy 166 = .ok (.return_, 1) := by decide +kernel
theorem dX5_lift_0 : decode cX5_lift 0 = .ok (.aload_n 0, 1) := by decide +kernel
theorem dX5_lift_1 : decode cX5_lift 1 = .ok (.getfield 7, 3) := by decide +kernel
theorem dX5_lift_4 : decode cX5_lift 4 = .ok (.iload_n 1, 1) := by decide +kernel
theorem dX5_lift_5 : decode cX5_lift 5 = .ok (.iconst 1, 1) := by decide +kernel
theorem dX5_lift_6 : decode cX5_lift 6 = .ok (.invokestatic 53, 3) := by decide +kernel
theorem dX5_lift_9 : decode cX5_lift 9 = .ok (.iaload, 1) := by decide +kernel
theorem dX5_lift_10 : decode cX5_lift 10 = .ok (.istore_n 2, 1) := by decide +kernel
theorem dX5_lift_11 : decode cX5_lift 11 = .ok (.aload_n 0, 1) := by decide +kernel
theorem dX5_lift_12 : decode cX5_lift 12 = .ok (.getfield 7, 3) := by decide +kernel
theorem dX5_lift_15 : decode cX5_lift 15 = .ok (.iload_n 1, 1) := by decide +kernel
theorem dX5_lift_16 : decode cX5_lift 16 = .ok (.iconst 3, 1) := by decide +kernel
theorem dX5_lift_17 : decode cX5_lift 17 = .ok (.invokestatic 53, 3) := by decide +kernel
theorem dX5_lift_20 : decode cX5_lift 20 = .ok (.iaload, 1) := by decide +kernel
theorem dX5_lift_21 : decode cX5_lift 21 = .ok (.istore_n 3, 1) := by decide +kernel
theorem dX5_lift_22 : decode cX5_lift 22 = .ok (.aload_n 0, 1) := by decide +kernel
theorem dX5_lift_23 : decode cX5_lift 23 = .ok (.getfield 7, 3) := by decide +kernel
theorem dX5_lift_26 : decode cX5_lift 26 = .ok (.iload_n 1, 1) := by decide +kernel
theorem dX5_lift_27 : decode cX5_lift 27 = .ok (.iconst 4, 1) := by decide +kernel
theorem dX5_lift_28 : decode cX5_lift 28 = .ok (.invokestatic 53, 3) := by decide +kernel
theorem dX5_lift_31 : decode cX5_lift 31 = .ok (.iaload, 1) := by decide +kernel
theorem dX5_lift_32 : decode cX5_lift 32 = .ok (.istore 4, 2) := by decide +kernel
theorem dX5_lift_34 : decode cX5_lift 34 = .ok (.aload_n 0, 1) := by decide +kernel
theorem dX5_lift_35 : decode cX5_lift 35 = .ok (.getfield 7, 3) := by decide +kernel
theorem dX5_lift_38 : decode cX5_lift 38 = .ok (.iload_n 1, 1) := by decide +kernel
theorem dX5_lift_39 : decode cX5_lift 39 = .ok (.iconst 0, 1) := by decide +kernel
theorem dX5_lift_40 : decode cX5_lift 40 = .ok (.invokestatic 53, 3) := by decide +kernel
theorem dX5_lift_43 : decode cX5_lift 43 = .ok (.iaload, 1) := by decide +kernel
theorem dX5_lift_44 : decode cX5_lift 44 = .ok (.istore 5, 2) := by decide +kernel
theorem dX5_lift_46 : decode cX5_lift 46 = .ok (.iload_n 3, 1) := by decide +kernel
theorem dX5_lift_47 : decode cX5_lift 47 = .ok (.iload 4, 2) := by decide +kernel
theorem dX5_lift_49 : decode cX5_lift 49 = .ok (.invokestatic 104, 3) := by decide +kernel
theorem dX5_lift_52 : decode cX5_lift 52 = .ok (.istore 6, 2) := by decide +kernel
theorem dX5_lift_54 : decode cX5_lift 54 = .ok (.aload_n 0, 1) := by decide +kernel
theorem dX5_lift_55 : decode cX5_lift 55 = .ok (.iload_n 2, 1) := by decide +kernel
theorem dX5_lift_56 : decode cX5_lift 56 = .ok (.iload_n 3, 1) := by decide +kernel
theorem dX5_lift_57 : decode cX5_lift 57 = .ok (.iload 4, 2) := by decide +kernel
theorem dX5_lift_59 : decode cX5_lift 59 = .ok (.invokevirtual 66, 3) := by decide +kernel
theorem dX5_lift_62 : decode cX5_lift 62 = .ok (.ifCond .ne 23, 3) := by decide +kernel
theorem dX5_lift_65 : decode cX5_lift 65 = .ok (.aload_n 0, 1) := by decide +kernel
theorem dX5_lift_66 : decode cX5_lift 66 = .ok (.iload_n 1, 1) := by decide +kernel
theorem dX5_lift_67 : decode cX5_lift 67 = .ok (.aload_n 0, 1) := by decide +kernel
theorem dX5_lift_68 : decode cX5_lift 68 = .ok (.getfield 7, 3) := by decide +kernel
theorem dX5_lift_71 : decode cX5_lift 71 = .ok (.iload_n 2, 1) := by decide +kernel
theorem dX5_lift_72 : decode cX5_lift 72 = .ok (.iconst 2, 1) := by decide +kernel
theorem dX5_lift_73 : decode cX5_lift 73 = .ok (.invokestatic 38, 3) := by decide +kernel
theorem dX5_lift_76 : decode cX5_lift 76 = .ok (.iaload, 1) := by decide +kernel
theorem dX5_lift_77 : decode cX5_lift 77 = .ok (.iconst 1, 1) := by decide +kernel
theorem dX5_lift_78 : decode cX5_lift 78 = .ok (.isub, 1) := by decide +kernel
theorem dX5_lift_79 : decode cX5_lift 79 = .ok (.invokevirtual 107, 3) := by decide +kernel
theorem dX5_lift_82 : decode cX5_lift 82 = .ok (.goto 107, 3) := by decide +kernel
theorem dX5_lift_85 : decode cX5_lift 85 = .ok (.aload_n 0, 1) := by decide +kernel
theorem dX5_lift_86 : decode cX5_lift 86 = .ok (.getfield 7, 3) := by decide +kernel
theorem dX5_lift_89 : decode cX5_lift 89 = .ok (.sipush 335, 3) := by decide +kernel
theorem dX5_lift_92 : decode cX5_lift 92 = .ok (.aload_n 0, 1) := by decide +kernel
theorem dX5_lift_93 : decode cX5_lift 93 = .ok (.getfield 7, 3) := by decide +kernel
theorem dX5_lift_96 : decode cX5_lift 96 = .ok (.iconst 0, 1) := by decide +kernel
theorem dX5_lift_97 : decode cX5_lift 97 = .ok (.iaload, 1) := by decide +kernel
theorem dX5_lift_98 : decode cX5_lift 98 = .ok (.iadd, 1) := by decide +kernel
theorem dX5_lift_99 : decode cX5_lift 99 = .ok (.iaload, 1) := by decide +kernel
theorem dX5_lift_100 : decode cX5_lift 100 = .ok (.iload 6, 2) := by decide +kernel
theorem dX5_lift_102 : decode cX5_lift 102 = .ok (.if_icmp .le 34, 3) := by decide +kernel
theorem dX5_lift_105 : decode cX5_lift 105 = .ok (.aload_n 0, 1) := by decide +kernel
theorem dX5_lift_106 : decode cX5_lift 106 = .ok (.iload_n 1, 1) := by decide +kernel
theorem dX5_lift_107 : decode cX5_lift 107 = .ok (.aload_n 0, 1) := by decide +kernel
theorem dX5_lift_108 : decode cX5_lift 108 = .ok (.getfield 7, 3) := by decide +kernel
theorem dX5_lift_111 : decode cX5_lift 111 = .ok (.iload_n 1, 1) := by decide +kernel
theorem dX5_lift_112 : decode cX5_lift 112 = .ok (.bipush 6, 2) := by decide +kernel
theorem dX5_lift_114 : decode cX5_lift 114 = .ok (.invokestatic 53, 3) := by decide +kernel
theorem dX5_lift_117 : decode cX5_lift 117 = .ok (.iaload, 1) := by decide +kernel
theorem dX5_lift_118 : decode cX5_lift 118 = .ok (.iload 6, 2) := by decide +kernel
theorem dX5_lift_120 : decode cX5_lift 120 = .ok (.if_icmp .le 8, 3) := by decide +kernel
theorem dX5_lift_123 : decode cX5_lift 123 = .ok (.iload 5, 2) := by decide +kernel
theorem dX5_lift_125 : decode cX5_lift 125 = .ok (.goto 5, 3) := by decide +kernel
theorem dX5_lift_128 : decode cX5_lift 128 = .ok (.bipush (-5), 2) := by decide +kernel
theorem dX5_lift_130 : decode cX5_lift 130 = .ok (.invokevirtual 107, 3) := by decide +kernel
theorem dX5_lift_133 : decode cX5_lift 133 = .ok (.goto 56, 3) := by decide +kernel
theorem dX5_lift_136 : decode cX5_lift 136 = .ok (.aload_n 0, 1) := by decide +kernel
theorem dX5_lift_137 : decode cX5_lift 137 = .ok (.getfield 7, 3) := by decide +kernel
theorem dX5_lift_140 : decode cX5_lift 140 = .ok (.iload_n 1, 1) := by decide +kernel
theorem dX5_lift_141 : decode cX5_lift 141 = .ok (.iconst 5, 1) := by decide +kernel
theorem dX5_lift_142 : decode cX5_lift 142 = .ok (.invokestatic 53, 3) := by decide +kernel
theorem dX5_lift_145 : decode cX5_lift 145 = .ok (.iconst 1, 1) := by decide +kernel
theorem dX5_lift_146 : decode cX5_lift 146 = .ok (.iastore, 1) := by decide +kernel
theorem dX5_lift_147 : decode cX5_lift 147 = .ok (.aload_n 0, 1) := by decide +kernel
theorem dX5_lift_148 : decode cX5_lift 148 = .ok (.getfield 7, 3) := by decide +kernel
theorem dX5_lift_151 : decode cX5_lift 151 = .ok (.iload_n 2, 1) := by decide +kernel
theorem dX5_lift_152 : decode cX5_lift 152 = .ok (.iconst 3, 1) := by decide +kernel
theorem dX5_lift_153 : decode cX5_lift 153 = .ok (.invokestatic 38, 3) := by decide +kernel
theorem dX5_lift_156 : decode cX5_lift 156 = .ok (.dup2, 1) := by decide +kernel
theorem dX5_lift_157 : decode cX5_lift 157 = .ok (.iaload, 1) := by decide +kernel
theorem dX5_lift_158 : decode cX5_lift 158 = .ok (.iconst 1, 1) := by decide +kernel
theorem dX5_lift_159 : decode cX5_lift 159 = .ok (.iadd, 1) := by decide +kernel
theorem dX5_lift_160 : decode cX5_lift 160 = .ok (.iastore, 1) := by decide +kernel
theorem dX5_lift_161 : decode cX5_lift 161 = .ok (.aload_n 0, 1) := by decide +kernel
theorem dX5_lift_162 : decode cX5_lift 162 = .ok (.iload 5, 2) := by decide +kernel
theorem dX5_lift_164 : decode cX5_lift 164 = .ok (.bipush 30, 2) := by decide +kernel
theorem dX5_lift_166 : decode cX5_lift 166 = .ok (.invokevirtual 82, 3) := by decide +kernel
theorem dX5_lift_169 : decode cX5_lift 169 = .ok (.aload_n 0, 1) := by decide +kernel
theorem dX5_lift_170 : decode cX5_lift 170 = .ok (.iload_n 1, 1) := by decide +kernel
theorem dX5_lift_171 : decode cX5_lift 171 = .ok (.aload_n 0, 1) := by decide +kernel
theorem dX5_lift_172 : decode cX5_lift 172 = .ok (.getfield 16, 3) := by decide +kernel
theorem dX5_lift_175 : decode cX5_lift 175 = .ok (.if_icmp .ne 7, 3) := by decide +kernel
theorem dX5_lift_178 : decode cX5_lift 178 = .ok (.iconst 0, 1) := by decide +kernel
theorem dX5_lift_179 : decode cX5_lift 179 = .ok (.goto 7, 3) := by decide +kernel
theorem dX5_lift_182 : decode cX5_lift 182 = .ok (.aload_n 0, 1) := by decide +kernel
theorem dX5_lift_183 : decode cX5_lift 183 = .ok (.getfield 101, 3) := by decide +kernel
theorem dX5_lift_186 : decode cX5_lift 186 = .ok (.putfield 101, 3) := by decide +kernel
theorem dX5_lift_189 : decode cX5_lift 189 = .ok (.return_, 1) := by decide +kernel
theorem dX5_passOne_0 : decode cX5_passOne 0 = .ok (.aload_n 0, 1) := by decide +kernel
theorem dX5_passOne_1 : decode cX5_passOne 1 = .ok (.invokevirtual 110, 3) := by decide +kernel
theorem dX5_passOne_4 : decode cX5_passOne 4 = .ok (.iconst 0, 1) := by decide +kernel
theorem dX5_passOne_5 : decode cX5_passOne 5 = .ok (.istore_n 1, 1) := by decide +kernel
theorem dX5_passOne_6 : decode cX5_passOne 6 = .ok (.iload_n 1, 1) := by decide +kernel
theorem dX5_passOne_7 : decode cX5_passOne 7 = .ok (.aload_n 0, 1) := by decide +kernel
theorem dX5_passOne_8 : decode cX5_passOne 8 = .ok (.getfield 7, 3) := by decide +kernel
theorem dX5_passOne_11 : decode cX5_passOne 11 = .ok (.iconst 3, 1) := by decide +kernel
theorem dX5_passOne_12 : decode cX5_passOne 12 = .ok (.iaload, 1) := by decide +kernel
theorem dX5_passOne_13 : decode cX5_passOne 13 = .ok (.if_icmp .ge 41, 3) := by decide +kernel
theorem dX5_passOne_16 : decode cX5_passOne 16 = .ok (.aload_n 0, 1) := by decide +kernel
theorem dX5_passOne_17 : decode cX5_passOne 17 = .ok (.iload_n 1, 1) := by decide +kernel
theorem dX5_passOne_18 : decode cX5_passOne 18 = .ok (.invokevirtual 79, 3) := by decide +kernel
theorem dX5_passOne_21 : decode cX5_passOne 21 = .ok (.ifCond .eq 27, 3) := by decide +kernel
theorem dX5_passOne_24 : decode cX5_passOne 24 = .ok (.aload_n 0, 1) := by decide +kernel
theorem dX5_passOne_25 : decode cX5_passOne 25 = .ok (.getfield 7, 3) := by decide +kernel
theorem dX5_passOne_28 : decode cX5_passOne 28 = .ok (.iload_n 1, 1) := by decide +kernel
theorem dX5_passOne_29 : decode cX5_passOne 29 = .ok (.iconst 2, 1) := by decide +kernel
theorem dX5_passOne_30 : decode cX5_passOne 30 = .ok (.invokestatic 53, 3) := by decide +kernel
theorem dX5_passOne_33 : decode cX5_passOne 33 = .ok (.iaload, 1) := by decide +kernel
theorem dX5_passOne_34 : decode cX5_passOne 34 = .ok (.aload_n 0, 1) := by decide +kernel
theorem dX5_passOne_35 : decode cX5_passOne 35 = .ok (.getfield 7, 3) := by decide +kernel
theorem dX5_passOne_38 : decode cX5_passOne 38 = .ok (.iconst 0, 1) := by decide +kernel
theorem dX5_passOne_39 : decode cX5_passOne 39 = .ok (.iaload, 1) := by decide +kernel
theorem dX5_passOne_40 : decode cX5_passOne 40 = .ok (.if_icmp .ne 8, 3) := by decide +kernel
theorem dX5_passOne_43 : decode cX5_passOne 43 = .ok (.aload_n 0, 1) := by decide +kernel
theorem dX5_passOne_44 : decode cX5_passOne 44 = .ok (.iload_n 1, 1) := by decide +kernel
theorem dX5_passOne_45 : decode cX5_passOne 45 = .ok (.invokevirtual 113, 3) := by decide +kernel
theorem dX5_passOne_48 : decode cX5_passOne 48 = .ok (.iinc 1 1, 3) := by decide +kernel
theorem dX5_passOne_51 : decode cX5_passOne 51 = .ok (.goto (-45), 3) := by decide +kernel
theorem dX5_passOne_54 : decode cX5_passOne 54 = .ok (.aload_n 0, 1) := by decide +kernel
theorem dX5_passOne_55 : decode cX5_passOne 55 = .ok (.getfield 7, 3) := by decide +kernel
theorem dX5_passOne_58 : decode cX5_passOne 58 = .ok (.iconst 0, 1) := by decide +kernel
theorem dX5_passOne_59 : decode cX5_passOne 59 = .ok (.dup2, 1) := by decide +kernel
theorem dX5_passOne_60 : decode cX5_passOne 60 = .ok (.iaload, 1) := by decide +kernel
theorem dX5_passOne_61 : decode cX5_passOne 61 = .ok (.iconst 1, 1) := by decide +kernel
theorem dX5_passOne_62 : decode cX5_passOne 62 = .ok (.iadd, 1) := by decide +kernel
theorem dX5_passOne_63 : decode cX5_passOne 63 = .ok (.iastore, 1) := by decide +kernel
theorem dX5_passOne_64 : decode cX5_passOne 64 = .ok (.return_, 1) := by decide +kernel
theorem dX5_manyIn_0 : decode cX5_manyIn 0 = .ok (.iconst 0, 1) := by decide +kernel
theorem dX5_manyIn_1 : decode cX5_manyIn 1 = .ok (.istore_n 2, 1) := by decide +kernel
theorem dX5_manyIn_2 : decode cX5_manyIn 2 = .ok (.iconst 0, 1) := by decide +kernel
theorem dX5_manyIn_3 : decode cX5_manyIn 3 = .ok (.istore_n 3, 1) := by decide +kernel
theorem dX5_manyIn_4 : decode cX5_manyIn 4 = .ok (.iload_n 3, 1) := by decide +kernel
theorem dX5_manyIn_5 : decode cX5_manyIn 5 = .ok (.aload_n 0, 1) := by decide +kernel
theorem dX5_manyIn_6 : decode cX5_manyIn 6 = .ok (.getfield 7, 3) := by decide +kernel
theorem dX5_manyIn_9 : decode cX5_manyIn 9 = .ok (.iconst 3, 1) := by decide +kernel
theorem dX5_manyIn_10 : decode cX5_manyIn 10 = .ok (.iaload, 1) := by decide +kernel
theorem dX5_manyIn_11 : decode cX5_manyIn 11 = .ok (.if_icmp .ge 31, 3) := by decide +kernel
theorem dX5_manyIn_14 : decode cX5_manyIn 14 = .ok (.iload_n 2, 1) := by decide +kernel
theorem dX5_manyIn_15 : decode cX5_manyIn 15 = .ok (.aload_n 0, 1) := by decide +kernel
theorem dX5_manyIn_16 : decode cX5_manyIn 16 = .ok (.getfield 7, 3) := by decide +kernel
theorem dX5_manyIn_19 : decode cX5_manyIn 19 = .ok (.iload_n 3, 1) := by decide +kernel
theorem dX5_manyIn_20 : decode cX5_manyIn 20 = .ok (.iconst 5, 1) := by decide +kernel
theorem dX5_manyIn_21 : decode cX5_manyIn 21 = .ok (.invokestatic 53, 3) := by decide +kernel
theorem dX5_manyIn_24 : decode cX5_manyIn 24 = .ok (.iaload, 1) := by decide +kernel
theorem dX5_manyIn_25 : decode cX5_manyIn 25 = .ok (.iload_n 1, 1) := by decide +kernel
theorem dX5_manyIn_26 : decode cX5_manyIn 26 = .ok (.if_icmp .ne 7, 3) := by decide +kernel
theorem dX5_manyIn_29 : decode cX5_manyIn 29 = .ok (.iconst 1, 1) := by decide +kernel
theorem dX5_manyIn_30 : decode cX5_manyIn 30 = .ok (.goto 4, 3) := by decide +kernel
theorem dX5_manyIn_33 : decode cX5_manyIn 33 = .ok (.iconst 0, 1) := by decide +kernel
theorem dX5_manyIn_34 : decode cX5_manyIn 34 = .ok (.iadd, 1) := by decide +kernel
theorem dX5_manyIn_35 : decode cX5_manyIn 35 = .ok (.istore_n 2, 1) := by decide +kernel
theorem dX5_manyIn_36 : decode cX5_manyIn 36 = .ok (.iinc 3 1, 3) := by decide +kernel
theorem dX5_manyIn_39 : decode cX5_manyIn 39 = .ok (.goto (-35), 3) := by decide +kernel
theorem dX5_manyIn_42 : decode cX5_manyIn 42 = .ok (.iload_n 2, 1) := by decide +kernel
theorem dX5_manyIn_43 : decode cX5_manyIn 43 = .ok (.ireturn, 1) := by decide +kernel
theorem dX5_pass_0 : decode cX5_pass 0 = .ok (.iload_n 1, 1) := by decide +kernel
theorem dX5_pass_1 : decode cX5_pass 1 = .ok (.iconst 1, 1) := by decide +kernel
theorem dX5_pass_2 : decode cX5_pass 2 = .ok (.bipush 20, 2) := by decide +kernel
theorem dX5_pass_4 : decode cX5_pass 4 = .ok (.invokestatic 20, 3) := by decide +kernel
theorem dX5_pass_7 : decode cX5_pass 7 = .ok (.ifCond .ne 6, 3) := by decide +kernel
theorem dX5_pass_10 : decode cX5_pass 10 = .ok (.bipush (-2), 2) := by decide +kernel
theorem dX5_pass_12 : decode cX5_pass 12 = .ok (.ireturn, 1) := by decide +kernel
theorem dX5_pass_13 : decode cX5_pass 13 = .ok (.aload_n 0, 1) := by decide +kernel
theorem dX5_pass_14 : decode cX5_pass 14 = .ok (.getfield 7, 3) := by decide +kernel
theorem dX5_pass_17 : decode cX5_pass 17 = .ok (.iconst 0, 1) := by decide +kernel
theorem dX5_pass_18 : decode cX5_pass 18 = .ok (.iaload, 1) := by decide +kernel
theorem dX5_pass_19 : decode cX5_pass 19 = .ok (.iload_n 1, 1) := by decide +kernel
theorem dX5_pass_20 : decode cX5_pass 20 = .ok (.iadd, 1) := by decide +kernel
theorem dX5_pass_21 : decode cX5_pass 21 = .ok (.sipush 199, 3) := by decide +kernel
theorem dX5_pass_24 : decode cX5_pass 24 = .ok (.if_icmp .le 6, 3) := by decide +kernel
theorem dX5_pass_27 : decode cX5_pass 27 = .ok (.bipush (-4), 2) := by decide +kernel
theorem dX5_pass_29 : decode cX5_pass 29 = .ok (.ireturn, 1) := by decide +kernel
theorem dX5_pass_30 : decode cX5_pass 30 = .ok (.aload_n 0, 1) := by decide +kernel
theorem dX5_pass_31 : decode cX5_pass 31 = .ok (.invokevirtual 35, 3) := by decide +kernel
theorem dX5_pass_34 : decode cX5_pass 34 = .ok (.aload_n 0, 1) := by decide +kernel
theorem dX5_pass_35 : decode cX5_pass 35 = .ok (.iconst 1, 1) := by decide +kernel
theorem dX5_pass_36 : decode cX5_pass 36 = .ok (.invokevirtual 116, 3) := by decide +kernel
theorem dX5_pass_39 : decode cX5_pass 39 = .ok (.istore_n 2, 1) := by decide +kernel
theorem dX5_pass_40 : decode cX5_pass 40 = .ok (.iconst 0, 1) := by decide +kernel
theorem dX5_pass_41 : decode cX5_pass 41 = .ok (.istore_n 3, 1) := by decide +kernel
theorem dX5_pass_42 : decode cX5_pass 42 = .ok (.iload_n 3, 1) := by decide +kernel
theorem dX5_pass_43 : decode cX5_pass 43 = .ok (.iload_n 1, 1) := by decide +kernel
theorem dX5_pass_44 : decode cX5_pass 44 = .ok (.if_icmp .ge 13, 3) := by decide +kernel
theorem dX5_pass_47 : decode cX5_pass 47 = .ok (.aload_n 0, 1) := by decide +kernel
theorem dX5_pass_48 : decode cX5_pass 48 = .ok (.invokevirtual 120, 3) := by decide +kernel
theorem dX5_pass_51 : decode cX5_pass 51 = .ok (.iinc 3 1, 3) := by decide +kernel
theorem dX5_pass_54 : decode cX5_pass 54 = .ok (.goto (-12), 3) := by decide +kernel
theorem dX5_pass_57 : decode cX5_pass 57 = .ok (.aload_n 0, 1) := by decide +kernel
theorem dX5_pass_58 : decode cX5_pass 58 = .ok (.iconst 1, 1) := by decide +kernel
theorem dX5_pass_59 : decode cX5_pass 59 = .ok (.invokevirtual 116, 3) := by decide +kernel
theorem dX5_pass_62 : decode cX5_pass 62 = .ok (.iload_n 2, 1) := by decide +kernel
theorem dX5_pass_63 : decode cX5_pass 63 = .ok (.isub, 1) := by decide +kernel
theorem dX5_pass_64 : decode cX5_pass 64 = .ok (.ireturn, 1) := by decide +kernel
theorem dX5_type_0 : decode cX5_type 0 = .ok (.aload_n 0, 1) := by decide +kernel
theorem dX5_type_1 : decode cX5_type 1 = .ok (.getfield 123, 3) := by decide +kernel
theorem dX5_type_4 : decode cX5_type 4 = .ok (.bipush 60, 2) := by decide +kernel
theorem dX5_type_6 : decode cX5_type 6 = .ok (.if_icmp .ne 6, 3) := by decide +kernel
theorem dX5_type_9 : decode cX5_type 9 = .ok (.bipush (-3), 2) := by decide +kernel
theorem dX5_type_11 : decode cX5_type 11 = .ok (.ireturn, 1) := by decide +kernel
theorem dX5_type_12 : decode cX5_type 12 = .ok (.aload_n 0, 1) := by decide +kernel
theorem dX5_type_13 : decode cX5_type 13 = .ok (.getfield 13, 3) := by decide +kernel
theorem dX5_type_16 : decode cX5_type 16 = .ok (.aload_n 0, 1) := by decide +kernel
theorem dX5_type_17 : decode cX5_type 17 = .ok (.getfield 123, 3) := by decide +kernel
theorem dX5_type_20 : decode cX5_type 20 = .ok (.iload_n 1, 1) := by decide +kernel
theorem dX5_type_21 : decode cX5_type 21 = .ok (.iastore, 1) := by decide +kernel
theorem dX5_type_22 : decode cX5_type 22 = .ok (.aload_n 0, 1) := by decide +kernel
theorem dX5_type_23 : decode cX5_type 23 = .ok (.dup, 1) := by decide +kernel
theorem dX5_type_24 : decode cX5_type 24 = .ok (.getfield 123, 3) := by decide +kernel
theorem dX5_type_27 : decode cX5_type 27 = .ok (.iconst 1, 1) := by decide +kernel
theorem dX5_type_28 : decode cX5_type 28 = .ok (.iadd, 1) := by decide +kernel
theorem dX5_type_29 : decode cX5_type 29 = .ok (.putfield 123, 3) := by decide +kernel
theorem dX5_type_32 : decode cX5_type 32 = .ok (.aload_n 0, 1) := by decide +kernel
theorem dX5_type_33 : decode cX5_type 33 = .ok (.getfield 123, 3) := by decide +kernel
theorem dX5_type_36 : decode cX5_type 36 = .ok (.ireturn, 1) := by decide +kernel
theorem dX5_clearText_0 : decode cX5_clearText 0 = .ok (.aload_n 0, 1) := by decide +kernel
theorem dX5_clearText_1 : decode cX5_clearText 1 = .ok (.getfield 123, 3) := by decide +kernel
theorem dX5_clearText_4 : decode cX5_clearText 4 = .ok (.istore_n 1, 1) := by decide +kernel
theorem dX5_clearText_5 : decode cX5_clearText 5 = .ok (.aload_n 0, 1) := by decide +kernel
theorem dX5_clearText_6 : decode cX5_clearText 6 = .ok (.iconst 0, 1) := by decide +kernel
theorem dX5_clearText_7 : decode cX5_clearText 7 = .ok (.putfield 123, 3) := by decide +kernel
theorem dX5_clearText_10 : decode cX5_clearText 10 = .ok (.iload_n 1, 1) := by decide +kernel
theorem dX5_clearText_11 : decode cX5_clearText 11 = .ok (.ireturn, 1) := by decide +kernel
theorem dX5_code_0 : decode cX5_code 0 = .ok (.aload_n 0, 1) := by decide +kernel
theorem dX5_code_1 : decode cX5_code 1 = .ok (.getfield 126, 3) := by decide +kernel
theorem dX5_code_4 : decode cX5_code 4 = .ok (.aload_n 0, 1) := by decide +kernel
theorem dX5_code_5 : decode cX5_code 5 = .ok (.getfield 123, 3) := by decide +kernel
theorem dX5_code_8 : decode cX5_code 8 = .ok (.if_icmp .ge 15, 3) := by decide +kernel
theorem dX5_code_11 : decode cX5_code 11 = .ok (.aload_n 0, 1) := by decide +kernel
theorem dX5_code_12 : decode cX5_code 12 = .ok (.getfield 13, 3) := by decide +kernel
theorem dX5_code_15 : decode cX5_code 15 = .ok (.aload_n 0, 1) := by decide +kernel
theorem dX5_code_16 : decode cX5_code 16 = .ok (.getfield 126, 3) := by decide +kernel
theorem dX5_code_19 : decode cX5_code 19 = .ok (.iaload, 1) := by decide +kernel
theorem dX5_code_20 : decode cX5_code 20 = .ok (.goto 4, 3) := by decide +kernel
theorem dX5_code_23 : decode cX5_code 23 = .ok (.iconst 0, 1) := by decide +kernel
theorem dX5_code_24 : decode cX5_code 24 = .ok (.ireturn, 1) := by decide +kernel
theorem dX5_number_0 : decode cX5_number 0 = .ok (.iconst 0, 1) := by decide +kernel
theorem dX5_number_1 : decode cX5_number 1 = .ok (.istore_n 2, 1) := by decide +kernel
theorem dX5_number_2 : decode cX5_number 2 = .ok (.iconst 0, 1) := by decide +kernel
theorem dX5_number_3 : decode cX5_number 3 = .ok (.istore_n 3, 1) := by decide +kernel
theorem dX5_number_4 : decode cX5_number 4 = .ok (.aload_n 0, 1) := by decide +kernel
theorem dX5_number_5 : decode cX5_number 5 = .ok (.invokevirtual 129, 3) := by decide +kernel
theorem dX5_number_8 : decode cX5_number 8 = .ok (.bipush 48, 2) := by decide +kernel
theorem dX5_number_10 : decode cX5_number 10 = .ok (.bipush 57, 2) := by decide +kernel
theorem dX5_number_12 : decode cX5_number 12 = .ok (.invokestatic 20, 3) := by decide +kernel
theorem dX5_number_15 : decode cX5_number 15 = .ok (.ifCond .eq 45, 3) := by decide +kernel
theorem dX5_number_18 : decode cX5_number 18 = .ok (.iload_n 2, 1) := by decide +kernel
theorem dX5_number_19 : decode cX5_number 19 = .ok (.iload_n 1, 1) := by decide +kernel
theorem dX5_number_20 : decode cX5_number 20 = .ok (.if_icmp .ge 40, 3) := by decide +kernel
theorem dX5_number_23 : decode cX5_number 23 = .ok (.iload_n 2, 1) := by decide +kernel
theorem dX5_number_24 : decode cX5_number 24 = .ok (.ifCond .eq 7, 3) := by decide +kernel
theorem dX5_number_27 : decode cX5_number 27 = .ok (.iload_n 3, 1) := by decide +kernel
theorem dX5_number_28 : decode cX5_number 28 = .ok (.ifCond .le 32, 3) := by decide +kernel
theorem dX5_number_31 : decode cX5_number 31 = .ok (.bipush 10, 2) := by decide +kernel
theorem dX5_number_33 : decode cX5_number 33 = .ok (.iload_n 3, 1) := by decide +kernel
theorem dX5_number_34 : decode cX5_number 34 = .ok (.imul, 1) := by decide +kernel
theorem dX5_number_35 : decode cX5_number 35 = .ok (.aload_n 0, 1) := by decide +kernel
theorem dX5_number_36 : decode cX5_number 36 = .ok (.invokevirtual 129, 3) := by decide +kernel
theorem dX5_number_39 : decode cX5_number 39 = .ok (.iadd, 1) := by decide +kernel
theorem dX5_number_40 : decode cX5_number 40 = .ok (.bipush 48, 2) := by decide +kernel
theorem dX5_number_42 : decode cX5_number 42 = .ok (.isub, 1) := by decide +kernel
theorem dX5_number_43 : decode cX5_number 43 = .ok (.istore_n 3, 1) := by decide +kernel
theorem dX5_number_44 : decode cX5_number 44 = .ok (.aload_n 0, 1) := by decide +kernel
theorem dX5_number_45 : decode cX5_number 45 = .ok (.dup, 1) := by decide +kernel
theorem dX5_number_46 : decode cX5_number 46 = .ok (.getfield 126, 3) := by decide +kernel
theorem dX5_number_49 : decode cX5_number 49 = .ok (.iconst 1, 1) := by decide +kernel
theorem dX5_number_50 : decode cX5_number 50 = .ok (.iadd, 1) := by decide +kernel
theorem dX5_number_51 : decode cX5_number 51 = .ok (.putfield 126, 3) := by decide +kernel
theorem dX5_number_54 : decode cX5_number 54 = .ok (.iinc 2 1, 3) := by decide +kernel
theorem dX5_number_57 : decode cX5_number 57 = .ok (.goto (-53), 3) := by decide +kernel
theorem dX5_number_60 : decode cX5_number 60 = .ok (.iload_n 2, 1) := by decide +kernel
theorem dX5_number_61 : decode cX5_number 61 = .ok (.ifCond .ne 7, 3) := by decide +kernel
theorem dX5_number_64 : decode cX5_number 64 = .ok (.iconst (-1), 1) := by decide +kernel
theorem dX5_number_65 : decode cX5_number 65 = .ok (.goto 4, 3) := by decide +kernel
theorem dX5_number_68 : decode cX5_number 68 = .ok (.iload_n 3, 1) := by decide +kernel
theorem dX5_number_69 : decode cX5_number 69 = .ok (.ireturn, 1) := by decide +kernel
theorem dX5_readsWind_0 : decode cX5_readsWind 0 = .ok (.aload_n 0, 1) := by decide +kernel
theorem dX5_readsWind_1 : decode cX5_readsWind 1 = .ok (.aload_n 0, 1) := by decide +kernel
theorem dX5_readsWind_2 : decode cX5_readsWind 2 = .ok (.iconst 3, 1) := by decide +kernel
theorem dX5_readsWind_3 : decode cX5_readsWind 3 = .ok (.invokevirtual 133, 3) := by decide +kernel
theorem dX5_readsWind_6 : decode cX5_readsWind 6 = .ok (.putfield 136, 3) := by decide +kernel
theorem dX5_readsWind_9 : decode cX5_readsWind 9 = .ok (.aload_n 0, 1) := by decide +kernel
theorem dX5_readsWind_10 : decode cX5_readsWind 10 = .ok (.getfield 136, 3) := by decide +kernel
theorem dX5_readsWind_13 : decode cX5_readsWind 13 = .ok (.ifCond .lt 12, 3) := by decide +kernel
theorem dX5_readsWind_16 : decode cX5_readsWind 16 = .ok (.aload_n 0, 1) := by decide +kernel
theorem dX5_readsWind_17 : decode cX5_readsWind 17 = .ok (.invokevirtual 129, 3) := by decide +kernel
theorem dX5_readsWind_20 : decode cX5_readsWind 20 = .ok (.bipush 58, 2) := by decide +kernel
theorem dX5_readsWind_22 : decode cX5_readsWind 22 = .ok (.if_icmp .eq 5, 3) := by decide +kernel
theorem dX5_readsWind_25 : decode cX5_readsWind 25 = .ok (.iconst 0, 1) := by decide +kernel
theorem dX5_readsWind_26 : decode cX5_readsWind 26 = .ok (.ireturn, 1) := by decide +kernel
theorem dX5_readsWind_27 : decode cX5_readsWind 27 = .ok (.aload_n 0, 1) := by decide +kernel
theorem dX5_readsWind_28 : decode cX5_readsWind 28 = .ok (.dup, 1) := by decide +kernel
theorem dX5_readsWind_29 : decode cX5_readsWind 29 = .ok (.getfield 126, 3) := by decide +kernel
theorem dX5_readsWind_32 : decode cX5_readsWind 32 = .ok (.iconst 1, 1) := by decide +kernel
theorem dX5_readsWind_33 : decode cX5_readsWind 33 = .ok (.iadd, 1) := by decide +kernel
theorem dX5_readsWind_34 : decode cX5_readsWind 34 = .ok (.putfield 126, 3) := by decide +kernel
theorem dX5_readsWind_37 : decode cX5_readsWind 37 = .ok (.aload_n 0, 1) := by decide +kernel
theorem dX5_readsWind_38 : decode cX5_readsWind 38 = .ok (.aload_n 0, 1) := by decide +kernel
theorem dX5_readsWind_39 : decode cX5_readsWind 39 = .ok (.iconst 2, 1) := by decide +kernel
theorem dX5_readsWind_40 : decode cX5_readsWind 40 = .ok (.invokevirtual 133, 3) := by decide +kernel
theorem dX5_readsWind_43 : decode cX5_readsWind 43 = .ok (.putfield 139, 3) := by decide +kernel
theorem dX5_readsWind_46 : decode cX5_readsWind 46 = .ok (.aload_n 0, 1) := by decide +kernel
theorem dX5_readsWind_47 : decode cX5_readsWind 47 = .ok (.getfield 139, 3) := by decide +kernel
theorem dX5_readsWind_50 : decode cX5_readsWind 50 = .ok (.ifCond .lt 7, 3) := by decide +kernel
theorem dX5_readsWind_53 : decode cX5_readsWind 53 = .ok (.iconst 1, 1) := by decide +kernel
theorem dX5_readsWind_54 : decode cX5_readsWind 54 = .ok (.goto 4, 3) := by decide +kernel
theorem dX5_readsWind_57 : decode cX5_readsWind 57 = .ok (.iconst 0, 1) := by decide +kernel
theorem dX5_readsWind_58 : decode cX5_readsWind 58 = .ok (.ireturn, 1) := by decide +kernel
theorem dX5_faultOf_0 : decode cX5_faultOf 0 = .ok (.aload_n 0, 1) := by decide +kernel
theorem dX5_faultOf_1 : decode cX5_faultOf 1 = .ok (.iconst 0, 1) := by decide +kernel
theorem dX5_faultOf_2 : decode cX5_faultOf 2 = .ok (.putfield 126, 3) := by decide +kernel
theorem dX5_faultOf_5 : decode cX5_faultOf 5 = .ok (.aload_n 0, 1) := by decide +kernel
theorem dX5_faultOf_6 : decode cX5_faultOf 6 = .ok (.invokevirtual 142, 3) := by decide +kernel
theorem dX5_faultOf_9 : decode cX5_faultOf 9 = .ok (.istore_n 1, 1) := by decide +kernel
theorem dX5_faultOf_10 : decode cX5_faultOf 10 = .ok (.iload_n 1, 1) := by decide +kernel
theorem dX5_faultOf_11 : decode cX5_faultOf 11 = .ok (.ifCond .eq 67, 3) := by decide +kernel
theorem dX5_faultOf_14 : decode cX5_faultOf 14 = .ok (.aload_n 0, 1) := by decide +kernel
theorem dX5_faultOf_15 : decode cX5_faultOf 15 = .ok (.getfield 126, 3) := by decide +kernel
theorem dX5_faultOf_18 : decode cX5_faultOf 18 = .ok (.aload_n 0, 1) := by decide +kernel
theorem dX5_faultOf_19 : decode cX5_faultOf 19 = .ok (.getfield 123, 3) := by decide +kernel
theorem dX5_faultOf_22 : decode cX5_faultOf 22 = .ok (.if_icmp .ge 56, 3) := by decide +kernel
theorem dX5_faultOf_25 : decode cX5_faultOf 25 = .ok (.aload_n 0, 1) := by decide +kernel
theorem dX5_faultOf_26 : decode cX5_faultOf 26 = .ok (.invokevirtual 129, 3) := by decide +kernel
theorem dX5_faultOf_29 : decode cX5_faultOf 29 = .ok (.bipush 59, 2) := by decide +kernel
theorem dX5_faultOf_31 : decode cX5_faultOf 31 = .ok (.if_icmp .ne 7, 3) := by decide +kernel
theorem dX5_faultOf_34 : decode cX5_faultOf 34 = .ok (.iconst 1, 1) := by decide +kernel
theorem dX5_faultOf_35 : decode cX5_faultOf 35 = .ok (.goto 4, 3) := by decide +kernel
theorem dX5_faultOf_38 : decode cX5_faultOf 38 = .ok (.iconst 0, 1) := by decide +kernel
theorem dX5_faultOf_39 : decode cX5_faultOf 39 = .ok (.istore_n 1, 1) := by decide +kernel
theorem dX5_faultOf_40 : decode cX5_faultOf 40 = .ok (.aload_n 0, 1) := by decide +kernel
theorem dX5_faultOf_41 : decode cX5_faultOf 41 = .ok (.dup, 1) := by decide +kernel
theorem dX5_faultOf_42 : decode cX5_faultOf 42 = .ok (.getfield 126, 3) := by decide +kernel
theorem dX5_faultOf_45 : decode cX5_faultOf 45 = .ok (.iload_n 1, 1) := by decide +kernel
theorem dX5_faultOf_46 : decode cX5_faultOf 46 = .ok (.ifCond .eq 7, 3) := by decide +kernel
theorem dX5_faultOf_49 : decode cX5_faultOf 49 = .ok (.iconst 1, 1) := by decide +kernel
theorem dX5_faultOf_50 : decode cX5_faultOf 50 = .ok (.goto 4, 3) := by decide +kernel
theorem dX5_faultOf_53 : decode cX5_faultOf 53 = .ok (.iconst 0, 1) := by decide +kernel
theorem dX5_faultOf_54 : decode cX5_faultOf 54 = .ok (.iadd, 1) := by decide +kernel
theorem dX5_faultOf_55 : decode cX5_faultOf 55 = .ok (.putfield 126, 3) := by decide +kernel
theorem dX5_faultOf_58 : decode cX5_faultOf 58 = .ok (.iload_n 1, 1) := by decide +kernel
theorem dX5_faultOf_59 : decode cX5_faultOf 59 = .ok (.ifCond .eq 14, 3) := by decide +kernel
theorem dX5_faultOf_62 : decode cX5_faultOf 62 = .ok (.aload_n 0, 1) := by decide +kernel
theorem dX5_faultOf_63 : decode cX5_faultOf 63 = .ok (.invokevirtual 142, 3) := by decide +kernel
theorem dX5_faultOf_66 : decode cX5_faultOf 66 = .ok (.ifCond .eq 7, 3) := by decide +kernel
theorem dX5_faultOf_69 : decode cX5_faultOf 69 = .ok (.iconst 1, 1) := by decide +kernel
theorem dX5_faultOf_70 : decode cX5_faultOf 70 = .ok (.goto 4, 3) := by decide +kernel
theorem dX5_faultOf_73 : decode cX5_faultOf 73 = .ok (.iconst 0, 1) := by decide +kernel
theorem dX5_faultOf_74 : decode cX5_faultOf 74 = .ok (.istore_n 1, 1) := by decide +kernel
theorem dX5_faultOf_75 : decode cX5_faultOf 75 = .ok (.goto (-65), 3) := by decide +kernel
theorem dX5_faultOf_78 : decode cX5_faultOf 78 = .ok (.iload_n 1, 1) := by decide +kernel
theorem dX5_faultOf_79 : decode cX5_faultOf 79 = .ok (.ifCond .eq 7, 3) := by decide +kernel
theorem dX5_faultOf_82 : decode cX5_faultOf 82 = .ok (.iconst (-1), 1) := by decide +kernel
theorem dX5_faultOf_83 : decode cX5_faultOf 83 = .ok (.goto 7, 3) := by decide +kernel
theorem dX5_faultOf_86 : decode cX5_faultOf 86 = .ok (.aload_n 0, 1) := by decide +kernel
theorem dX5_faultOf_87 : decode cX5_faultOf 87 = .ok (.getfield 126, 3) := by decide +kernel
theorem dX5_faultOf_90 : decode cX5_faultOf 90 = .ok (.ireturn, 1) := by decide +kernel
theorem dX5_goOn_0 : decode cX5_goOn 0 = .ok (.iconst 0, 1) := by decide +kernel
theorem dX5_goOn_1 : decode cX5_goOn 1 = .ok (.istore_n 2, 1) := by decide +kernel
theorem dX5_goOn_2 : decode cX5_goOn 2 = .ok (.aload_n 0, 1) := by decide +kernel
theorem dX5_goOn_3 : decode cX5_goOn 3 = .ok (.iconst 0, 1) := by decide +kernel
theorem dX5_goOn_4 : decode cX5_goOn 4 = .ok (.putfield 126, 3) := by decide +kernel
theorem dX5_goOn_7 : decode cX5_goOn 7 = .ok (.aload_n 0, 1) := by decide +kernel
theorem dX5_goOn_8 : decode cX5_goOn 8 = .ok (.getfield 126, 3) := by decide +kernel
theorem dX5_goOn_11 : decode cX5_goOn 11 = .ok (.aload_n 0, 1) := by decide +kernel
theorem dX5_goOn_12 : decode cX5_goOn 12 = .ok (.getfield 123, 3) := by decide +kernel
theorem dX5_goOn_15 : decode cX5_goOn 15 = .ok (.if_icmp .ge 74, 3) := by decide +kernel
theorem dX5_goOn_18 : decode cX5_goOn 18 = .ok (.aload_n 0, 1) := by decide +kernel
theorem dX5_goOn_19 : decode cX5_goOn 19 = .ok (.invokevirtual 142, 3) := by decide +kernel
theorem dX5_goOn_22 : decode cX5_goOn 22 = .ok (.pop, 1) := by decide +kernel
theorem dX5_goOn_23 : decode cX5_goOn 23 = .ok (.aload_n 0, 1) := by decide +kernel
theorem dX5_goOn_24 : decode cX5_goOn 24 = .ok (.aload_n 0, 1) := by decide +kernel
theorem dX5_goOn_25 : decode cX5_goOn 25 = .ok (.getfield 136, 3) := by decide +kernel
theorem dX5_goOn_28 : decode cX5_goOn 28 = .ok (.invokevirtual 45, 3) := by decide +kernel
theorem dX5_goOn_31 : decode cX5_goOn 31 = .ok (.ifCond .ne 5, 3) := by decide +kernel
theorem dX5_goOn_34 : decode cX5_goOn 34 = .ok (.iconst (-1), 1) := by decide +kernel
theorem dX5_goOn_35 : decode cX5_goOn 35 = .ok (.ireturn, 1) := by decide +kernel
theorem dX5_goOn_36 : decode cX5_goOn 36 = .ok (.aload_n 0, 1) := by decide +kernel
theorem dX5_goOn_37 : decode cX5_goOn 37 = .ok (.getfield 7, 3) := by decide +kernel
theorem dX5_goOn_40 : decode cX5_goOn 40 = .ok (.sipush 335, 3) := by decide +kernel
theorem dX5_goOn_43 : decode cX5_goOn 43 = .ok (.aload_n 0, 1) := by decide +kernel
theorem dX5_goOn_44 : decode cX5_goOn 44 = .ok (.getfield 136, 3) := by decide +kernel
theorem dX5_goOn_47 : decode cX5_goOn 47 = .ok (.iadd, 1) := by decide +kernel
theorem dX5_goOn_48 : decode cX5_goOn 48 = .ok (.iload_n 1, 1) := by decide +kernel
theorem dX5_goOn_49 : decode cX5_goOn 49 = .ok (.ifCond .eq 10, 3) := by decide +kernel
theorem dX5_goOn_52 : decode cX5_goOn 52 = .ok (.aload_n 0, 1) := by decide +kernel
theorem dX5_goOn_53 : decode cX5_goOn 53 = .ok (.getfield 139, 3) := by decide +kernel
theorem dX5_goOn_56 : decode cX5_goOn 56 = .ok (.goto 16, 3) := by decide +kernel
theorem dX5_goOn_59 : decode cX5_goOn 59 = .ok (.aload_n 0, 1) := by decide +kernel
theorem dX5_goOn_60 : decode cX5_goOn 60 = .ok (.getfield 7, 3) := by decide +kernel
theorem dX5_goOn_63 : decode cX5_goOn 63 = .ok (.sipush 335, 3) := by decide +kernel
theorem dX5_goOn_66 : decode cX5_goOn 66 = .ok (.aload_n 0, 1) := by decide +kernel
theorem dX5_goOn_67 : decode cX5_goOn 67 = .ok (.getfield 136, 3) := by decide +kernel
theorem dX5_goOn_70 : decode cX5_goOn 70 = .ok (.iadd, 1) := by decide +kernel
theorem dX5_goOn_71 : decode cX5_goOn 71 = .ok (.iaload, 1) := by decide +kernel
theorem dX5_goOn_72 : decode cX5_goOn 72 = .ok (.iastore, 1) := by decide +kernel
theorem dX5_goOn_73 : decode cX5_goOn 73 = .ok (.iinc 2 1, 3) := by decide +kernel
theorem dX5_goOn_76 : decode cX5_goOn 76 = .ok (.aload_n 0, 1) := by decide +kernel
theorem dX5_goOn_77 : decode cX5_goOn 77 = .ok (.dup, 1) := by decide +kernel
theorem dX5_goOn_78 : decode cX5_goOn 78 = .ok (.getfield 126, 3) := by decide +kernel
theorem dX5_goOn_81 : decode cX5_goOn 81 = .ok (.iconst 1, 1) := by decide +kernel
theorem dX5_goOn_82 : decode cX5_goOn 82 = .ok (.iadd, 1) := by decide +kernel
theorem dX5_goOn_83 : decode cX5_goOn 83 = .ok (.putfield 126, 3) := by decide +kernel
theorem dX5_goOn_86 : decode cX5_goOn 86 = .ok (.goto (-79), 3) := by decide +kernel
theorem dX5_goOn_89 : decode cX5_goOn 89 = .ok (.iload_n 2, 1) := by decide +kernel
theorem dX5_goOn_90 : decode cX5_goOn 90 = .ok (.ireturn, 1) := by decide +kernel
theorem dX5_readWinds_0 : decode cX5_readWinds 0 = .ok (.aload_n 0, 1) := by decide +kernel
theorem dX5_readWinds_1 : decode cX5_readWinds 1 = .ok (.invokevirtual 146, 3) := by decide +kernel
theorem dX5_readWinds_4 : decode cX5_readWinds 4 = .ok (.istore_n 1, 1) := by decide +kernel
theorem dX5_readWinds_5 : decode cX5_readWinds 5 = .ok (.iload_n 1, 1) := by decide +kernel
theorem dX5_readWinds_6 : decode cX5_readWinds 6 = .ok (.ifCond .lt 8, 3) := by decide +kernel
theorem dX5_readWinds_9 : decode cX5_readWinds 9 = .ok (.bipush (-100), 2) := by decide +kernel
theorem dX5_readWinds_11 : decode cX5_readWinds 11 = .ok (.iload_n 1, 1) := by decide +kernel
theorem dX5_readWinds_12 : decode cX5_readWinds 12 = .ok (.isub, 1) := by decide +kernel
theorem dX5_readWinds_13 : decode cX5_readWinds 13 = .ok (.ireturn, 1) := by decide +kernel
theorem dX5_readWinds_14 : decode cX5_readWinds 14 = .ok (.aload_n 0, 1) := by decide +kernel
theorem dX5_readWinds_15 : decode cX5_readWinds 15 = .ok (.iconst 0, 1) := by decide +kernel
theorem dX5_readWinds_16 : decode cX5_readWinds 16 = .ok (.invokevirtual 149, 3) := by decide +kernel
theorem dX5_readWinds_19 : decode cX5_readWinds 19 = .ok (.ifCond .ge 5, 3) := by decide +kernel
theorem dX5_readWinds_22 : decode cX5_readWinds 22 = .ok (.iconst (-1), 1) := by decide +kernel
theorem dX5_readWinds_23 : decode cX5_readWinds 23 = .ok (.ireturn, 1) := by decide +kernel
theorem dX5_readWinds_24 : decode cX5_readWinds 24 = .ok (.aload_n 0, 1) := by decide +kernel
theorem dX5_readWinds_25 : decode cX5_readWinds 25 = .ok (.invokevirtual 35, 3) := by decide +kernel
theorem dX5_readWinds_28 : decode cX5_readWinds 28 = .ok (.aload_n 0, 1) := by decide +kernel
theorem dX5_readWinds_29 : decode cX5_readWinds 29 = .ok (.iconst 1, 1) := by decide +kernel
theorem dX5_readWinds_30 : decode cX5_readWinds 30 = .ok (.invokevirtual 149, 3) := by decide +kernel
theorem dX5_readWinds_33 : decode cX5_readWinds 33 = .ok (.ireturn, 1) := by decide +kernel
theorem dX5_bears_0 : decode cX5_bears 0 = .ok (.aload_n 0, 1) := by decide +kernel
theorem dX5_bears_1 : decode cX5_bears 1 = .ok (.iload_n 1, 1) := by decide +kernel
theorem dX5_bears_2 : decode cX5_bears 2 = .ok (.invokevirtual 59, 3) := by decide +kernel
theorem dX5_bears_5 : decode cX5_bears 5 = .ok (.ifCond .ne 5, 3) := by decide +kernel
theorem dX5_bears_8 : decode cX5_bears 8 = .ok (.iconst (-1), 1) := by decide +kernel
theorem dX5_bears_9 : decode cX5_bears 9 = .ok (.ireturn, 1) := by decide +kernel
theorem dX5_bears_10 : decode cX5_bears 10 = .ok (.iload_n 2, 1) := by decide +kernel
theorem dX5_bears_11 : decode cX5_bears 11 = .ok (.iconst 2, 1) := by decide +kernel
theorem dX5_bears_12 : decode cX5_bears 12 = .ok (.bipush 60, 2) := by decide +kernel
theorem dX5_bears_14 : decode cX5_bears 14 = .ok (.invokestatic 20, 3) := by decide +kernel
theorem dX5_bears_17 : decode cX5_bears 17 = .ok (.ifCond .eq 30, 3) := by decide +kernel
theorem dX5_bears_20 : decode cX5_bears 20 = .ok (.aload_n 0, 1) := by decide +kernel
theorem dX5_bears_21 : decode cX5_bears 21 = .ok (.getfield 7, 3) := by decide +kernel
theorem dX5_bears_24 : decode cX5_bears 24 = .ok (.iload_n 1, 1) := by decide +kernel
theorem dX5_bears_25 : decode cX5_bears 25 = .ok (.iconst 0, 1) := by decide +kernel
theorem dX5_bears_26 : decode cX5_bears 26 = .ok (.invokestatic 38, 3) := by decide +kernel
theorem dX5_bears_29 : decode cX5_bears 29 = .ok (.iaload, 1) := by decide +kernel
theorem dX5_bears_30 : decode cX5_bears 30 = .ok (.aload_n 0, 1) := by decide +kernel
theorem dX5_bears_31 : decode cX5_bears 31 = .ok (.getfield 7, 3) := by decide +kernel
theorem dX5_bears_34 : decode cX5_bears 34 = .ok (.iload_n 1, 1) := by decide +kernel
theorem dX5_bears_35 : decode cX5_bears 35 = .ok (.iconst 1, 1) := by decide +kernel
theorem dX5_bears_36 : decode cX5_bears 36 = .ok (.invokestatic 38, 3) := by decide +kernel
theorem dX5_bears_39 : decode cX5_bears 39 = .ok (.iaload, 1) := by decide +kernel
theorem dX5_bears_40 : decode cX5_bears 40 = .ok (.iload_n 2, 1) := by decide +kernel
theorem dX5_bears_41 : decode cX5_bears 41 = .ok (.invokestatic 49, 3) := by decide +kernel
theorem dX5_bears_44 : decode cX5_bears 44 = .ok (.goto 5, 3) := by decide +kernel
theorem dX5_bears_47 : decode cX5_bears 47 = .ok (.bipush (-2), 2) := by decide +kernel
theorem dX5_bears_49 : decode cX5_bears 49 = .ok (.ireturn, 1) := by decide +kernel
theorem dX5_willBear_0 : decode cX5_willBear 0 = .ok (.aload_n 0, 1) := by decide +kernel
theorem dX5_willBear_1 : decode cX5_willBear 1 = .ok (.iload_n 1, 1) := by decide +kernel
theorem dX5_willBear_2 : decode cX5_willBear 2 = .ok (.invokevirtual 59, 3) := by decide +kernel
theorem dX5_willBear_5 : decode cX5_willBear 5 = .ok (.ifCond .eq 11, 3) := by decide +kernel
theorem dX5_willBear_8 : decode cX5_willBear 8 = .ok (.aload_n 0, 1) := by decide +kernel
theorem dX5_willBear_9 : decode cX5_willBear 9 = .ok (.iload_n 3, 1) := by decide +kernel
theorem dX5_willBear_10 : decode cX5_willBear 10 = .ok (.invokevirtual 45, 3) := by decide +kernel
theorem dX5_willBear_13 : decode cX5_willBear 13 = .ok (.ifCond .ne 5, 3) := by decide +kernel
theorem dX5_willBear_16 : decode cX5_willBear 16 = .ok (.iconst (-1), 1) := by decide +kernel
theorem dX5_willBear_17 : decode cX5_willBear 17 = .ok (.ireturn, 1) := by decide +kernel
theorem dX5_willBear_18 : decode cX5_willBear 18 = .ok (.iload_n 2, 1) := by decide +kernel
theorem dX5_willBear_19 : decode cX5_willBear 19 = .ok (.iconst 2, 1) := by decide +kernel
theorem dX5_willBear_20 : decode cX5_willBear 20 = .ok (.bipush 60, 2) := by decide +kernel
theorem dX5_willBear_22 : decode cX5_willBear 22 = .ok (.invokestatic 20, 3) := by decide +kernel
theorem dX5_willBear_25 : decode cX5_willBear 25 = .ok (.ifCond .ne 6, 3) := by decide +kernel
theorem dX5_willBear_28 : decode cX5_willBear 28 = .ok (.bipush (-2), 2) := by decide +kernel
theorem dX5_willBear_30 : decode cX5_willBear 30 = .ok (.ireturn, 1) := by decide +kernel
theorem dX5_willBear_31 : decode cX5_willBear 31 = .ok (.aload_n 0, 1) := by decide +kernel
theorem dX5_willBear_32 : decode cX5_willBear 32 = .ok (.iconst 0, 1) := by decide +kernel
theorem dX5_willBear_33 : decode cX5_willBear 33 = .ok (.sipush 3210, 3) := by decide +kernel
theorem dX5_willBear_36 : decode cX5_willBear 36 = .ok (.invokevirtual 27, 3) := by decide +kernel
theorem dX5_willBear_39 : decode cX5_willBear 39 = .ok (.aload_n 0, 1) := by decide +kernel
theorem dX5_willBear_40 : decode cX5_willBear 40 = .ok (.getfield 7, 3) := by decide +kernel
theorem dX5_willBear_43 : decode cX5_willBear 43 = .ok (.iconst 0, 1) := by decide +kernel
theorem dX5_willBear_44 : decode cX5_willBear 44 = .ok (.iaload, 1) := by decide +kernel
theorem dX5_willBear_45 : decode cX5_willBear 45 = .ok (.istore 4, 2) := by decide +kernel
theorem dX5_willBear_47 : decode cX5_willBear 47 = .ok (.iload 4, 2) := by decide +kernel
theorem dX5_willBear_49 : decode cX5_willBear 49 = .ok (.iload_n 3, 1) := by decide +kernel
theorem dX5_willBear_50 : decode cX5_willBear 50 = .ok (.if_icmp .gt 52, 3) := by decide +kernel
theorem dX5_willBear_53 : decode cX5_willBear 53 = .ok (.iconst 0, 1) := by decide +kernel
theorem dX5_willBear_54 : decode cX5_willBear 54 = .ok (.istore 5, 2) := by decide +kernel
theorem dX5_willBear_56 : decode cX5_willBear 56 = .ok (.iload 5, 2) := by decide +kernel
theorem dX5_willBear_58 : decode cX5_willBear 58 = .ok (.aload_n 0, 1) := by decide +kernel
theorem dX5_willBear_59 : decode cX5_willBear 59 = .ok (.getfield 7, 3) := by decide +kernel
theorem dX5_willBear_62 : decode cX5_willBear 62 = .ok (.iconst 4, 1) := by decide +kernel
theorem dX5_willBear_63 : decode cX5_willBear 63 = .ok (.iaload, 1) := by decide +kernel
theorem dX5_willBear_64 : decode cX5_willBear 64 = .ok (.if_icmp .ge 32, 3) := by decide +kernel
theorem dX5_willBear_67 : decode cX5_willBear 67 = .ok (.aload_n 0, 1) := by decide +kernel
theorem dX5_willBear_68 : decode cX5_willBear 68 = .ok (.getfield 7, 3) := by decide +kernel
theorem dX5_willBear_71 : decode cX5_willBear 71 = .ok (.iload 5, 2) := by decide +kernel
theorem dX5_willBear_73 : decode cX5_willBear 73 = .ok (.iconst 4, 1) := by decide +kernel
theorem dX5_willBear_74 : decode cX5_willBear 74 = .ok (.invokestatic 88, 3) := by decide +kernel
theorem dX5_willBear_77 : decode cX5_willBear 77 = .ok (.iaload, 1) := by decide +kernel
theorem dX5_willBear_78 : decode cX5_willBear 78 = .ok (.iload 4, 2) := by decide +kernel
theorem dX5_willBear_80 : decode cX5_willBear 80 = .ok (.if_icmp .ne 10, 3) := by decide +kernel
theorem dX5_willBear_83 : decode cX5_willBear 83 = .ok (.aload_n 0, 1) := by decide +kernel
theorem dX5_willBear_84 : decode cX5_willBear 84 = .ok (.iload 5, 2) := by decide +kernel
theorem dX5_willBear_86 : decode cX5_willBear 86 = .ok (.invokevirtual 98, 3) := by decide +kernel
theorem dX5_willBear_89 : decode cX5_willBear 89 = .ok (.pop, 1) := by decide +kernel
theorem dX5_willBear_90 : decode cX5_willBear 90 = .ok (.iinc 5 1, 3) := by decide +kernel
theorem dX5_willBear_93 : decode cX5_willBear 93 = .ok (.goto (-37), 3) := by decide +kernel
theorem dX5_willBear_96 : decode cX5_willBear 96 = .ok (.iinc 4 1, 3) := by decide +kernel
theorem dX5_willBear_99 : decode cX5_willBear 99 = .ok (.goto (-52), 3) := by decide +kernel
theorem dX5_willBear_102 : decode cX5_willBear 102 = .ok (.aload_n 0, 1) := by decide +kernel
theorem dX5_willBear_103 : decode cX5_willBear 103 = .ok (.getfield 7, 3) := by decide +kernel
theorem dX5_willBear_106 : decode cX5_willBear 106 = .ok (.iload_n 1, 1) := by decide +kernel
theorem dX5_willBear_107 : decode cX5_willBear 107 = .ok (.iconst 0, 1) := by decide +kernel
theorem dX5_willBear_108 : decode cX5_willBear 108 = .ok (.invokestatic 38, 3) := by decide +kernel
theorem dX5_willBear_111 : decode cX5_willBear 111 = .ok (.iaload, 1) := by decide +kernel
theorem dX5_willBear_112 : decode cX5_willBear 112 = .ok (.aload_n 0, 1) := by decide +kernel
theorem dX5_willBear_113 : decode cX5_willBear 113 = .ok (.getfield 7, 3) := by decide +kernel
theorem dX5_willBear_116 : decode cX5_willBear 116 = .ok (.iload_n 1, 1) := by decide +kernel
theorem dX5_willBear_117 : decode cX5_willBear 117 = .ok (.iconst 1, 1) := by decide +kernel
theorem dX5_willBear_118 : decode cX5_willBear 118 = .ok (.invokestatic 38, 3) := by decide +kernel
theorem dX5_willBear_121 : decode cX5_willBear 121 = .ok (.iaload, 1) := by decide +kernel
theorem dX5_willBear_122 : decode cX5_willBear 122 = .ok (.iload_n 2, 1) := by decide +kernel
theorem dX5_willBear_123 : decode cX5_willBear 123 = .ok (.invokestatic 49, 3) := by decide +kernel
theorem dX5_willBear_126 : decode cX5_willBear 126 = .ok (.istore 4, 2) := by decide +kernel
theorem dX5_willBear_128 : decode cX5_willBear 128 = .ok (.aload_n 0, 1) := by decide +kernel
theorem dX5_willBear_129 : decode cX5_willBear 129 = .ok (.sipush 3210, 3) := by decide +kernel
theorem dX5_willBear_132 : decode cX5_willBear 132 = .ok (.iconst 0, 1) := by decide +kernel
theorem dX5_willBear_133 : decode cX5_willBear 133 = .ok (.invokevirtual 27, 3) := by decide +kernel
theorem dX5_willBear_136 : decode cX5_willBear 136 = .ok (.iload 4, 2) := by decide +kernel
theorem dX5_willBear_138 : decode cX5_willBear 138 = .ok (.ireturn, 1) := by decide +kernel
theorem dX5_windLimit_0 : decode cX5_windLimit 0 = .ok (.iload_n 1, 1) := by decide +kernel
theorem dX5_windLimit_1 : decode cX5_windLimit 1 = .ok (.iload_n 2, 1) := by decide +kernel
theorem dX5_windLimit_2 : decode cX5_windLimit 2 = .ok (.invokestatic 62, 3) := by decide +kernel
theorem dX5_windLimit_5 : decode cX5_windLimit 5 = .ok (.ifCond .eq 11, 3) := by decide +kernel
theorem dX5_windLimit_8 : decode cX5_windLimit 8 = .ok (.iload_n 1, 1) := by decide +kernel
theorem dX5_windLimit_9 : decode cX5_windLimit 9 = .ok (.iload_n 2, 1) := by decide +kernel
theorem dX5_windLimit_10 : decode cX5_windLimit 10 = .ok (.invokestatic 104, 3) := by decide +kernel
theorem dX5_windLimit_13 : decode cX5_windLimit 13 = .ok (.goto 5, 3) := by decide +kernel
theorem dX5_windLimit_16 : decode cX5_windLimit 16 = .ok (.bipush (-2), 2) := by decide +kernel
theorem dX5_windLimit_18 : decode cX5_windLimit 18 = .ok (.ireturn, 1) := by decide +kernel
theorem dX5_bookingsOf_0 : decode cX5_bookingsOf 0 = .ok (.iconst 0, 1) := by decide +kernel
theorem dX5_bookingsOf_1 : decode cX5_bookingsOf 1 = .ok (.istore 4, 2) := by decide +kernel
theorem dX5_bookingsOf_3 : decode cX5_bookingsOf 3 = .ok (.iconst 0, 1) := by decide +kernel
theorem dX5_bookingsOf_4 : decode cX5_bookingsOf 4 = .ok (.istore 5, 2) := by decide +kernel
theorem dX5_bookingsOf_6 : decode cX5_bookingsOf 6 = .ok (.iload 5, 2) := by decide +kernel
theorem dX5_bookingsOf_8 : decode cX5_bookingsOf 8 = .ok (.aload_n 0, 1) := by decide +kernel
theorem dX5_bookingsOf_9 : decode cX5_bookingsOf 9 = .ok (.getfield 7, 3) := by decide +kernel
theorem dX5_bookingsOf_12 : decode cX5_bookingsOf 12 = .ok (.iconst 3, 1) := by decide +kernel
theorem dX5_bookingsOf_13 : decode cX5_bookingsOf 13 = .ok (.iaload, 1) := by decide +kernel
theorem dX5_bookingsOf_14 : decode cX5_bookingsOf 14 = .ok (.if_icmp .ge 49, 3) := by decide +kernel
theorem dX5_bookingsOf_17 : decode cX5_bookingsOf 17 = .ok (.iload 4, 2) := by decide +kernel
theorem dX5_bookingsOf_19 : decode cX5_bookingsOf 19 = .ok (.aload_n 0, 1) := by decide +kernel
theorem dX5_bookingsOf_20 : decode cX5_bookingsOf 20 = .ok (.getfield 7, 3) := by decide +kernel
theorem dX5_bookingsOf_23 : decode cX5_bookingsOf 23 = .ok (.iload 5, 2) := by decide +kernel
theorem dX5_bookingsOf_25 : decode cX5_bookingsOf 25 = .ok (.iload_n 1, 1) := by decide +kernel
theorem dX5_bookingsOf_26 : decode cX5_bookingsOf 26 = .ok (.invokestatic 53, 3) := by decide +kernel
theorem dX5_bookingsOf_29 : decode cX5_bookingsOf 29 = .ok (.iaload, 1) := by decide +kernel
theorem dX5_bookingsOf_30 : decode cX5_bookingsOf 30 = .ok (.iload_n 2, 1) := by decide +kernel
theorem dX5_bookingsOf_31 : decode cX5_bookingsOf 31 = .ok (.if_icmp .ne 22, 3) := by decide +kernel
theorem dX5_bookingsOf_34 : decode cX5_bookingsOf 34 = .ok (.aload_n 0, 1) := by decide +kernel
theorem dX5_bookingsOf_35 : decode cX5_bookingsOf 35 = .ok (.getfield 7, 3) := by decide +kernel
theorem dX5_bookingsOf_38 : decode cX5_bookingsOf 38 = .ok (.iload 5, 2) := by decide +kernel
theorem dX5_bookingsOf_40 : decode cX5_bookingsOf 40 = .ok (.iconst 5, 1) := by decide +kernel
theorem dX5_bookingsOf_41 : decode cX5_bookingsOf 41 = .ok (.invokestatic 53, 3) := by decide +kernel
theorem dX5_bookingsOf_44 : decode cX5_bookingsOf 44 = .ok (.iaload, 1) := by decide +kernel
theorem dX5_bookingsOf_45 : decode cX5_bookingsOf 45 = .ok (.iload_n 3, 1) := by decide +kernel
theorem dX5_bookingsOf_46 : decode cX5_bookingsOf 46 = .ok (.if_icmp .ne 7, 3) := by decide +kernel
theorem dX5_bookingsOf_49 : decode cX5_bookingsOf 49 = .ok (.iconst 1, 1) := by decide +kernel
theorem dX5_bookingsOf_50 : decode cX5_bookingsOf 50 = .ok (.goto 4, 3) := by decide +kernel
theorem dX5_bookingsOf_53 : decode cX5_bookingsOf 53 = .ok (.iconst 0, 1) := by decide +kernel
theorem dX5_bookingsOf_54 : decode cX5_bookingsOf 54 = .ok (.iadd, 1) := by decide +kernel
theorem dX5_bookingsOf_55 : decode cX5_bookingsOf 55 = .ok (.istore 4, 2) := by decide +kernel
theorem dX5_bookingsOf_57 : decode cX5_bookingsOf 57 = .ok (.iinc 5 1, 3) := by decide +kernel
theorem dX5_bookingsOf_60 : decode cX5_bookingsOf 60 = .ok (.goto (-54), 3) := by decide +kernel
theorem dX5_bookingsOf_63 : decode cX5_bookingsOf 63 = .ok (.iload 4, 2) := by decide +kernel
theorem dX5_bookingsOf_65 : decode cX5_bookingsOf 65 = .ok (.ireturn, 1) := by decide +kernel
theorem dX5_movesOf_0 : decode cX5_movesOf 0 = .ok (.iconst 0, 1) := by decide +kernel
theorem dX5_movesOf_1 : decode cX5_movesOf 1 = .ok (.istore_n 3, 1) := by decide +kernel
theorem dX5_movesOf_2 : decode cX5_movesOf 2 = .ok (.iconst 0, 1) := by decide +kernel
theorem dX5_movesOf_3 : decode cX5_movesOf 3 = .ok (.istore 4, 2) := by decide +kernel
theorem dX5_movesOf_5 : decode cX5_movesOf 5 = .ok (.iload 4, 2) := by decide +kernel
theorem dX5_movesOf_7 : decode cX5_movesOf 7 = .ok (.aload_n 0, 1) := by decide +kernel
theorem dX5_movesOf_8 : decode cX5_movesOf 8 = .ok (.getfield 7, 3) := by decide +kernel
theorem dX5_movesOf_11 : decode cX5_movesOf 11 = .ok (.iconst 4, 1) := by decide +kernel
theorem dX5_movesOf_12 : decode cX5_movesOf 12 = .ok (.iaload, 1) := by decide +kernel
theorem dX5_movesOf_13 : decode cX5_movesOf 13 = .ok (.if_icmp .ge 32, 3) := by decide +kernel
theorem dX5_movesOf_16 : decode cX5_movesOf 16 = .ok (.iload_n 3, 1) := by decide +kernel
theorem dX5_movesOf_17 : decode cX5_movesOf 17 = .ok (.aload_n 0, 1) := by decide +kernel
theorem dX5_movesOf_18 : decode cX5_movesOf 18 = .ok (.getfield 7, 3) := by decide +kernel
theorem dX5_movesOf_21 : decode cX5_movesOf 21 = .ok (.iload 4, 2) := by decide +kernel
theorem dX5_movesOf_23 : decode cX5_movesOf 23 = .ok (.iload_n 1, 1) := by decide +kernel
theorem dX5_movesOf_24 : decode cX5_movesOf 24 = .ok (.invokestatic 88, 3) := by decide +kernel
theorem dX5_movesOf_27 : decode cX5_movesOf 27 = .ok (.iaload, 1) := by decide +kernel
theorem dX5_movesOf_28 : decode cX5_movesOf 28 = .ok (.iload_n 2, 1) := by decide +kernel
theorem dX5_movesOf_29 : decode cX5_movesOf 29 = .ok (.if_icmp .ne 7, 3) := by decide +kernel
theorem dX5_movesOf_32 : decode cX5_movesOf 32 = .ok (.iconst 1, 1) := by decide +kernel
theorem dX5_movesOf_33 : decode cX5_movesOf 33 = .ok (.goto 4, 3) := by decide +kernel
theorem dX5_movesOf_36 : decode cX5_movesOf 36 = .ok (.iconst 0, 1) := by decide +kernel
theorem dX5_movesOf_37 : decode cX5_movesOf 37 = .ok (.iadd, 1) := by decide +kernel
theorem dX5_movesOf_38 : decode cX5_movesOf 38 = .ok (.istore_n 3, 1) := by decide +kernel
theorem dX5_movesOf_39 : decode cX5_movesOf 39 = .ok (.iinc 4 1, 3) := by decide +kernel
theorem dX5_movesOf_42 : decode cX5_movesOf 42 = .ok (.goto (-37), 3) := by decide +kernel
theorem dX5_movesOf_45 : decode cX5_movesOf 45 = .ok (.iload_n 3, 1) := by decide +kernel
theorem dX5_movesOf_46 : decode cX5_movesOf 46 = .ok (.ireturn, 1) := by decide +kernel
theorem dX5_machine_0 : decode cX5_machine 0 = .ok (.aload_n 0, 1) := by decide +kernel
theorem dX5_machine_1 : decode cX5_machine 1 = .ok (.iload_n 1, 1) := by decide +kernel
theorem dX5_machine_2 : decode cX5_machine 2 = .ok (.invokevirtual 59, 3) := by decide +kernel
theorem dX5_machine_5 : decode cX5_machine 5 = .ok (.ifCond .ne 5, 3) := by decide +kernel
theorem dX5_machine_8 : decode cX5_machine 8 = .ok (.iconst (-1), 1) := by decide +kernel
theorem dX5_machine_9 : decode cX5_machine 9 = .ok (.ireturn, 1) := by decide +kernel
theorem dX5_machine_10 : decode cX5_machine 10 = .ok (.iload_n 2, 1) := by decide +kernel
theorem dX5_machine_11 : decode cX5_machine 11 = .ok (.tableswitch 116 0 6 #[41, 41, 52, 60, 67, 74, 105], 41) := by decide +kernel
theorem dX5_machine_52 : decode cX5_machine 52 = .ok (.aload_n 0, 1) := by decide +kernel
theorem dX5_machine_53 : decode cX5_machine 53 = .ok (.getfield 7, 3) := by decide +kernel
theorem dX5_machine_56 : decode cX5_machine 56 = .ok (.iload_n 1, 1) := by decide +kernel
theorem dX5_machine_57 : decode cX5_machine 57 = .ok (.iload_n 2, 1) := by decide +kernel
theorem dX5_machine_58 : decode cX5_machine 58 = .ok (.invokestatic 38, 3) := by decide +kernel
theorem dX5_machine_61 : decode cX5_machine 61 = .ok (.iaload, 1) := by decide +kernel
theorem dX5_machine_62 : decode cX5_machine 62 = .ok (.ireturn, 1) := by decide +kernel
theorem dX5_machine_63 : decode cX5_machine 63 = .ok (.aload_n 0, 1) := by decide +kernel
theorem dX5_machine_64 : decode cX5_machine 64 = .ok (.iconst 1, 1) := by decide +kernel
theorem dX5_machine_65 : decode cX5_machine 65 = .ok (.iload_n 1, 1) := by decide +kernel
theorem dX5_machine_66 : decode cX5_machine 66 = .ok (.iconst 0, 1) := by decide +kernel
theorem dX5_machine_67 : decode cX5_machine 67 = .ok (.invokevirtual 153, 3) := by decide +kernel
theorem dX5_machine_70 : decode cX5_machine 70 = .ok (.ireturn, 1) := by decide +kernel
theorem dX5_machine_71 : decode cX5_machine 71 = .ok (.aload_n 0, 1) := by decide +kernel
theorem dX5_machine_72 : decode cX5_machine 72 = .ok (.iconst 1, 1) := by decide +kernel
theorem dX5_machine_73 : decode cX5_machine 73 = .ok (.iload_n 1, 1) := by decide +kernel
theorem dX5_machine_74 : decode cX5_machine 74 = .ok (.invokevirtual 156, 3) := by decide +kernel
theorem dX5_machine_77 : decode cX5_machine 77 = .ok (.ireturn, 1) := by decide +kernel
theorem dX5_machine_78 : decode cX5_machine 78 = .ok (.aload_n 0, 1) := by decide +kernel
theorem dX5_machine_79 : decode cX5_machine 79 = .ok (.iconst 2, 1) := by decide +kernel
theorem dX5_machine_80 : decode cX5_machine 80 = .ok (.iload_n 1, 1) := by decide +kernel
theorem dX5_machine_81 : decode cX5_machine 81 = .ok (.invokevirtual 156, 3) := by decide +kernel
theorem dX5_machine_84 : decode cX5_machine 84 = .ok (.ireturn, 1) := by decide +kernel
theorem dX5_machine_85 : decode cX5_machine 85 = .ok (.aload_n 0, 1) := by decide +kernel
theorem dX5_machine_86 : decode cX5_machine 86 = .ok (.getfield 7, 3) := by decide +kernel
theorem dX5_machine_89 : decode cX5_machine 89 = .ok (.iload_n 1, 1) := by decide +kernel
theorem dX5_machine_90 : decode cX5_machine 90 = .ok (.iconst 2, 1) := by decide +kernel
theorem dX5_machine_91 : decode cX5_machine 91 = .ok (.invokestatic 38, 3) := by decide +kernel
theorem dX5_machine_94 : decode cX5_machine 94 = .ok (.iaload, 1) := by decide +kernel
theorem dX5_machine_95 : decode cX5_machine 95 = .ok (.ifCond .ne 8, 3) := by decide +kernel
theorem dX5_machine_98 : decode cX5_machine 98 = .ok (.bipush (-5), 2) := by decide +kernel
theorem dX5_machine_100 : decode cX5_machine 100 = .ok (.goto 15, 3) := by decide +kernel
theorem dX5_machine_103 : decode cX5_machine 103 = .ok (.aload_n 0, 1) := by decide +kernel
theorem dX5_machine_104 : decode cX5_machine 104 = .ok (.getfield 7, 3) := by decide +kernel
theorem dX5_machine_107 : decode cX5_machine 107 = .ok (.iload_n 1, 1) := by decide +kernel
theorem dX5_machine_108 : decode cX5_machine 108 = .ok (.iconst 2, 1) := by decide +kernel
theorem dX5_machine_109 : decode cX5_machine 109 = .ok (.invokestatic 38, 3) := by decide +kernel
theorem dX5_machine_112 : decode cX5_machine 112 = .ok (.iaload, 1) := by decide +kernel
theorem dX5_machine_113 : decode cX5_machine 113 = .ok (.iconst 1, 1) := by decide +kernel
theorem dX5_machine_114 : decode cX5_machine 114 = .ok (.isub, 1) := by decide +kernel
theorem dX5_machine_115 : decode cX5_machine 115 = .ok (.ireturn, 1) := by decide +kernel
theorem dX5_machine_116 : decode cX5_machine 116 = .ok (.aload_n 0, 1) := by decide +kernel
theorem dX5_machine_117 : decode cX5_machine 117 = .ok (.getfield 7, 3) := by decide +kernel
theorem dX5_machine_120 : decode cX5_machine 120 = .ok (.iload_n 1, 1) := by decide +kernel
theorem dX5_machine_121 : decode cX5_machine 121 = .ok (.iconst 3, 1) := by decide +kernel
theorem dX5_machine_122 : decode cX5_machine 122 = .ok (.invokestatic 38, 3) := by decide +kernel
theorem dX5_machine_125 : decode cX5_machine 125 = .ok (.iaload, 1) := by decide +kernel
theorem dX5_machine_126 : decode cX5_machine 126 = .ok (.ireturn, 1) := by decide +kernel
theorem dX5_machine_127 : decode cX5_machine 127 = .ok (.bipush (-2), 2) := by decide +kernel
theorem dX5_machine_129 : decode cX5_machine 129 = .ok (.ireturn, 1) := by decide +kernel
theorem dX5_member_0 : decode cX5_member 0 = .ok (.aload_n 0, 1) := by decide +kernel
theorem dX5_member_1 : decode cX5_member 1 = .ok (.iload_n 1, 1) := by decide +kernel
theorem dX5_member_2 : decode cX5_member 2 = .ok (.invokevirtual 56, 3) := by decide +kernel
theorem dX5_member_5 : decode cX5_member 5 = .ok (.ifCond .ne 5, 3) := by decide +kernel
theorem dX5_member_8 : decode cX5_member 8 = .ok (.iconst (-1), 1) := by decide +kernel
theorem dX5_member_9 : decode cX5_member 9 = .ok (.ireturn, 1) := by decide +kernel
theorem dX5_member_10 : decode cX5_member 10 = .ok (.iload_n 2, 1) := by decide +kernel
theorem dX5_member_11 : decode cX5_member 11 = .ok (.tableswitch 80 0 6 #[41, 52, 52, 52, 52, 62, 73], 41) := by decide +kernel
theorem dX5_member_52 : decode cX5_member 52 = .ok (.aload_n 0, 1) := by decide +kernel
theorem dX5_member_53 : decode cX5_member 53 = .ok (.getfield 7, 3) := by decide +kernel
theorem dX5_member_56 : decode cX5_member 56 = .ok (.iload_n 1, 1) := by decide +kernel
theorem dX5_member_57 : decode cX5_member 57 = .ok (.iconst 0, 1) := by decide +kernel
theorem dX5_member_58 : decode cX5_member 58 = .ok (.invokestatic 42, 3) := by decide +kernel
theorem dX5_member_61 : decode cX5_member 61 = .ok (.iaload, 1) := by decide +kernel
theorem dX5_member_62 : decode cX5_member 62 = .ok (.ireturn, 1) := by decide +kernel
theorem dX5_member_63 : decode cX5_member 63 = .ok (.aload_n 0, 1) := by decide +kernel
theorem dX5_member_64 : decode cX5_member 64 = .ok (.iconst 0, 1) := by decide +kernel
theorem dX5_member_65 : decode cX5_member 65 = .ok (.iload_n 1, 1) := by decide +kernel
theorem dX5_member_66 : decode cX5_member 66 = .ok (.iload_n 2, 1) := by decide +kernel
theorem dX5_member_67 : decode cX5_member 67 = .ok (.iconst 1, 1) := by decide +kernel
theorem dX5_member_68 : decode cX5_member 68 = .ok (.isub, 1) := by decide +kernel
theorem dX5_member_69 : decode cX5_member 69 = .ok (.invokevirtual 153, 3) := by decide +kernel
theorem dX5_member_72 : decode cX5_member 72 = .ok (.ireturn, 1) := by decide +kernel
theorem dX5_member_73 : decode cX5_member 73 = .ok (.aload_n 0, 1) := by decide +kernel
theorem dX5_member_74 : decode cX5_member 74 = .ok (.getfield 7, 3) := by decide +kernel
theorem dX5_member_77 : decode cX5_member 77 = .ok (.iload_n 1, 1) := by decide +kernel
theorem dX5_member_78 : decode cX5_member 78 = .ok (.iconst 1, 1) := by decide +kernel
theorem dX5_member_79 : decode cX5_member 79 = .ok (.invokestatic 42, 3) := by decide +kernel
theorem dX5_member_82 : decode cX5_member 82 = .ok (.iaload, 1) := by decide +kernel
theorem dX5_member_83 : decode cX5_member 83 = .ok (.ireturn, 1) := by decide +kernel
theorem dX5_member_84 : decode cX5_member 84 = .ok (.aload_n 0, 1) := by decide +kernel
theorem dX5_member_85 : decode cX5_member 85 = .ok (.iconst 0, 1) := by decide +kernel
theorem dX5_member_86 : decode cX5_member 86 = .ok (.iload_n 1, 1) := by decide +kernel
theorem dX5_member_87 : decode cX5_member 87 = .ok (.invokevirtual 156, 3) := by decide +kernel
theorem dX5_member_90 : decode cX5_member 90 = .ok (.ireturn, 1) := by decide +kernel
theorem dX5_member_91 : decode cX5_member 91 = .ok (.bipush (-2), 2) := by decide +kernel
theorem dX5_member_93 : decode cX5_member 93 = .ok (.ireturn, 1) := by decide +kernel
theorem dX5_booking_0 : decode cX5_booking 0 = .ok (.aload_n 0, 1) := by decide +kernel
theorem dX5_booking_1 : decode cX5_booking 1 = .ok (.iload_n 1, 1) := by decide +kernel
theorem dX5_booking_2 : decode cX5_booking 2 = .ok (.invokevirtual 76, 3) := by decide +kernel
theorem dX5_booking_5 : decode cX5_booking 5 = .ok (.ifCond .ne 5, 3) := by decide +kernel
theorem dX5_booking_8 : decode cX5_booking 8 = .ok (.iconst (-1), 1) := by decide +kernel
theorem dX5_booking_9 : decode cX5_booking 9 = .ok (.ireturn, 1) := by decide +kernel
theorem dX5_booking_10 : decode cX5_booking 10 = .ok (.iload_n 2, 1) := by decide +kernel
theorem dX5_booking_11 : decode cX5_booking 11 = .ok (.iconst 0, 1) := by decide +kernel
theorem dX5_booking_12 : decode cX5_booking 12 = .ok (.bipush 7, 2) := by decide +kernel
theorem dX5_booking_14 : decode cX5_booking 14 = .ok (.invokestatic 20, 3) := by decide +kernel
theorem dX5_booking_17 : decode cX5_booking 17 = .ok (.ifCond .eq 16, 3) := by decide +kernel
theorem dX5_booking_20 : decode cX5_booking 20 = .ok (.aload_n 0, 1) := by decide +kernel
theorem dX5_booking_21 : decode cX5_booking 21 = .ok (.getfield 7, 3) := by decide +kernel
theorem dX5_booking_24 : decode cX5_booking 24 = .ok (.iload_n 1, 1) := by decide +kernel
theorem dX5_booking_25 : decode cX5_booking 25 = .ok (.iload_n 2, 1) := by decide +kernel
theorem dX5_booking_26 : decode cX5_booking 26 = .ok (.invokestatic 53, 3) := by decide +kernel
theorem dX5_booking_29 : decode cX5_booking 29 = .ok (.iaload, 1) := by decide +kernel
theorem dX5_booking_30 : decode cX5_booking 30 = .ok (.goto 37, 3) := by decide +kernel
theorem dX5_booking_33 : decode cX5_booking 33 = .ok (.iload_n 2, 1) := by decide +kernel
theorem dX5_booking_34 : decode cX5_booking 34 = .ok (.bipush 8, 2) := by decide +kernel
theorem dX5_booking_36 : decode cX5_booking 36 = .ok (.if_icmp .ne 29, 3) := by decide +kernel
theorem dX5_booking_39 : decode cX5_booking 39 = .ok (.aload_n 0, 1) := by decide +kernel
theorem dX5_booking_40 : decode cX5_booking 40 = .ok (.getfield 7, 3) := by decide +kernel
theorem dX5_booking_43 : decode cX5_booking 43 = .ok (.iload_n 1, 1) := by decide +kernel
theorem dX5_booking_44 : decode cX5_booking 44 = .ok (.iconst 3, 1) := by decide +kernel
theorem dX5_booking_45 : decode cX5_booking 45 = .ok (.invokestatic 53, 3) := by decide +kernel
theorem dX5_booking_48 : decode cX5_booking 48 = .ok (.iaload, 1) := by decide +kernel
theorem dX5_booking_49 : decode cX5_booking 49 = .ok (.aload_n 0, 1) := by decide +kernel
theorem dX5_booking_50 : decode cX5_booking 50 = .ok (.getfield 7, 3) := by decide +kernel
theorem dX5_booking_53 : decode cX5_booking 53 = .ok (.iload_n 1, 1) := by decide +kernel
theorem dX5_booking_54 : decode cX5_booking 54 = .ok (.iconst 4, 1) := by decide +kernel
theorem dX5_booking_55 : decode cX5_booking 55 = .ok (.invokestatic 53, 3) := by decide +kernel
theorem dX5_booking_58 : decode cX5_booking 58 = .ok (.iaload, 1) := by decide +kernel
theorem dX5_booking_59 : decode cX5_booking 59 = .ok (.invokestatic 104, 3) := by decide +kernel
theorem dX5_booking_62 : decode cX5_booking 62 = .ok (.goto 5, 3) := by decide +kernel
theorem dX5_booking_65 : decode cX5_booking 65 = .ok (.bipush (-2), 2) := by decide +kernel
theorem dX5_booking_67 : decode cX5_booking 67 = .ok (.ireturn, 1) := by decide +kernel
theorem dX5_move_0 : decode cX5_move 0 = .ok (.aload_n 0, 1) := by decide +kernel
theorem dX5_move_1 : decode cX5_move 1 = .ok (.iload_n 1, 1) := by decide +kernel
theorem dX5_move_2 : decode cX5_move 2 = .ok (.invokevirtual 91, 3) := by decide +kernel
theorem dX5_move_5 : decode cX5_move 5 = .ok (.ifCond .ne 5, 3) := by decide +kernel
theorem dX5_move_8 : decode cX5_move 8 = .ok (.iconst (-1), 1) := by decide +kernel
theorem dX5_move_9 : decode cX5_move 9 = .ok (.ireturn, 1) := by decide +kernel
theorem dX5_move_10 : decode cX5_move 10 = .ok (.iload_n 2, 1) := by decide +kernel
theorem dX5_move_11 : decode cX5_move 11 = .ok (.iconst 0, 1) := by decide +kernel
theorem dX5_move_12 : decode cX5_move 12 = .ok (.iconst 4, 1) := by decide +kernel
theorem dX5_move_13 : decode cX5_move 13 = .ok (.invokestatic 20, 3) := by decide +kernel
theorem dX5_move_16 : decode cX5_move 16 = .ok (.ifCond .eq 16, 3) := by decide +kernel
theorem dX5_move_19 : decode cX5_move 19 = .ok (.aload_n 0, 1) := by decide +kernel
theorem dX5_move_20 : decode cX5_move 20 = .ok (.getfield 7, 3) := by decide +kernel
theorem dX5_move_23 : decode cX5_move 23 = .ok (.iload_n 1, 1) := by decide +kernel
theorem dX5_move_24 : decode cX5_move 24 = .ok (.iload_n 2, 1) := by decide +kernel
theorem dX5_move_25 : decode cX5_move 25 = .ok (.invokestatic 88, 3) := by decide +kernel
theorem dX5_move_28 : decode cX5_move 28 = .ok (.iaload, 1) := by decide +kernel
theorem dX5_move_29 : decode cX5_move 29 = .ok (.goto 5, 3) := by decide +kernel
theorem dX5_move_32 : decode cX5_move 32 = .ok (.bipush (-2), 2) := by decide +kernel
theorem dX5_move_34 : decode cX5_move 34 = .ok (.ireturn, 1) := by decide +kernel
theorem dX5_bookedAt_0 : decode cX5_bookedAt 0 = .ok (.aload_n 0, 1) := by decide +kernel
theorem dX5_bookedAt_1 : decode cX5_bookedAt 1 = .ok (.iload_n 1, 1) := by decide +kernel
theorem dX5_bookedAt_2 : decode cX5_bookedAt 2 = .ok (.invokevirtual 59, 3) := by decide +kernel
theorem dX5_bookedAt_5 : decode cX5_bookedAt 5 = .ok (.ifCond .eq 23, 3) := by decide +kernel
theorem dX5_bookedAt_8 : decode cX5_bookedAt 8 = .ok (.iload_n 2, 1) := by decide +kernel
theorem dX5_bookedAt_9 : decode cX5_bookedAt 9 = .ok (.iconst 0, 1) := by decide +kernel
theorem dX5_bookedAt_10 : decode cX5_bookedAt 10 = .ok (.sipush 199, 3) := by decide +kernel
theorem dX5_bookedAt_13 : decode cX5_bookedAt 13 = .ok (.invokestatic 20, 3) := by decide +kernel
theorem dX5_bookedAt_16 : decode cX5_bookedAt 16 = .ok (.ifCond .eq 12, 3) := by decide +kernel
theorem dX5_bookedAt_19 : decode cX5_bookedAt 19 = .ok (.aload_n 0, 1) := by decide +kernel
theorem dX5_bookedAt_20 : decode cX5_bookedAt 20 = .ok (.iload_n 1, 1) := by decide +kernel
theorem dX5_bookedAt_21 : decode cX5_bookedAt 21 = .ok (.iload_n 2, 1) := by decide +kernel
theorem dX5_bookedAt_22 : decode cX5_bookedAt 22 = .ok (.invokevirtual 69, 3) := by decide +kernel
theorem dX5_bookedAt_25 : decode cX5_bookedAt 25 = .ok (.goto 4, 3) := by decide +kernel
theorem dX5_bookedAt_28 : decode cX5_bookedAt 28 = .ok (.iconst (-1), 1) := by decide +kernel
theorem dX5_bookedAt_29 : decode cX5_bookedAt 29 = .ok (.ireturn, 1) := by decide +kernel
theorem dX5_machineFor_0 : decode cX5_machineFor 0 = .ok (.aload_n 0, 1) := by decide +kernel
theorem dX5_machineFor_1 : decode cX5_machineFor 1 = .ok (.iload_n 1, 1) := by decide +kernel
theorem dX5_machineFor_2 : decode cX5_machineFor 2 = .ok (.invokevirtual 45, 3) := by decide +kernel
theorem dX5_machineFor_5 : decode cX5_machineFor 5 = .ok (.ifCond .ne 5, 3) := by decide +kernel
theorem dX5_machineFor_8 : decode cX5_machineFor 8 = .ok (.iconst (-1), 1) := by decide +kernel
theorem dX5_machineFor_9 : decode cX5_machineFor 9 = .ok (.ireturn, 1) := by decide +kernel
theorem dX5_machineFor_10 : decode cX5_machineFor 10 = .ok (.iload_n 2, 1) := by decide +kernel
theorem dX5_machineFor_11 : decode cX5_machineFor 11 = .ok (.iload_n 3, 1) := by decide +kernel
theorem dX5_machineFor_12 : decode cX5_machineFor 12 = .ok (.invokestatic 62, 3) := by decide +kernel
theorem dX5_machineFor_15 : decode cX5_machineFor 15 = .ok (.ifCond .ne 6, 3) := by decide +kernel
theorem dX5_machineFor_18 : decode cX5_machineFor 18 = .ok (.bipush (-2), 2) := by decide +kernel
theorem dX5_machineFor_20 : decode cX5_machineFor 20 = .ok (.ireturn, 1) := by decide +kernel
theorem dX5_machineFor_21 : decode cX5_machineFor 21 = .ok (.iconst 0, 1) := by decide +kernel
theorem dX5_machineFor_22 : decode cX5_machineFor 22 = .ok (.istore 4, 2) := by decide +kernel
theorem dX5_machineFor_24 : decode cX5_machineFor 24 = .ok (.iload 4, 2) := by decide +kernel
theorem dX5_machineFor_26 : decode cX5_machineFor 26 = .ok (.aload_n 0, 1) := by decide +kernel
theorem dX5_machineFor_27 : decode cX5_machineFor 27 = .ok (.getfield 7, 3) := by decide +kernel
theorem dX5_machineFor_30 : decode cX5_machineFor 30 = .ok (.iconst 1, 1) := by decide +kernel
theorem dX5_machineFor_31 : decode cX5_machineFor 31 = .ok (.iaload, 1) := by decide +kernel
theorem dX5_machineFor_32 : decode cX5_machineFor 32 = .ok (.if_icmp .ge 35, 3) := by decide +kernel
theorem dX5_machineFor_35 : decode cX5_machineFor 35 = .ok (.aload_n 0, 1) := by decide +kernel
theorem dX5_machineFor_36 : decode cX5_machineFor 36 = .ok (.iload 4, 2) := by decide +kernel
theorem dX5_machineFor_38 : decode cX5_machineFor 38 = .ok (.iload_n 2, 1) := by decide +kernel
theorem dX5_machineFor_39 : decode cX5_machineFor 39 = .ok (.iload_n 3, 1) := by decide +kernel
theorem dX5_machineFor_40 : decode cX5_machineFor 40 = .ok (.invokevirtual 66, 3) := by decide +kernel
theorem dX5_machineFor_43 : decode cX5_machineFor 43 = .ok (.ifCond .eq 18, 3) := by decide +kernel
theorem dX5_machineFor_46 : decode cX5_machineFor 46 = .ok (.aload_n 0, 1) := by decide +kernel
theorem dX5_machineFor_47 : decode cX5_machineFor 47 = .ok (.iload 4, 2) := by decide +kernel
theorem dX5_machineFor_49 : decode cX5_machineFor 49 = .ok (.iload_n 1, 1) := by decide +kernel
theorem dX5_machineFor_50 : decode cX5_machineFor 50 = .ok (.invokevirtual 69, 3) := by decide +kernel
theorem dX5_machineFor_53 : decode cX5_machineFor 53 = .ok (.bipush (-5), 2) := by decide +kernel
theorem dX5_machineFor_55 : decode cX5_machineFor 55 = .ok (.if_icmp .ne 6, 3) := by decide +kernel
theorem dX5_machineFor_58 : decode cX5_machineFor 58 = .ok (.iload 4, 2) := by decide +kernel
theorem dX5_machineFor_60 : decode cX5_machineFor 60 = .ok (.ireturn, 1) := by decide +kernel
theorem dX5_machineFor_61 : decode cX5_machineFor 61 = .ok (.iinc 4 1, 3) := by decide +kernel
theorem dX5_machineFor_64 : decode cX5_machineFor 64 = .ok (.goto (-40), 3) := by decide +kernel
theorem dX5_machineFor_67 : decode cX5_machineFor 67 = .ok (.bipush (-5), 2) := by decide +kernel
theorem dX5_machineFor_69 : decode cX5_machineFor 69 = .ok (.ireturn, 1) := by decide +kernel
theorem dX5_fate_0 : decode cX5_fate 0 = .ok (.aload_n 0, 1) := by decide +kernel
theorem dX5_fate_1 : decode cX5_fate 1 = .ok (.iload_n 1, 1) := by decide +kernel
theorem dX5_fate_2 : decode cX5_fate 2 = .ok (.invokevirtual 76, 3) := by decide +kernel
theorem dX5_fate_5 : decode cX5_fate 5 = .ok (.ifCond .ne 5, 3) := by decide +kernel
theorem dX5_fate_8 : decode cX5_fate 8 = .ok (.iconst (-1), 1) := by decide +kernel
theorem dX5_fate_9 : decode cX5_fate 9 = .ok (.ireturn, 1) := by decide +kernel
theorem dX5_fate_10 : decode cX5_fate 10 = .ok (.aload_n 0, 1) := by decide +kernel
theorem dX5_fate_11 : decode cX5_fate 11 = .ok (.iload_n 1, 1) := by decide +kernel
theorem dX5_fate_12 : decode cX5_fate 12 = .ok (.invokevirtual 79, 3) := by decide +kernel
theorem dX5_fate_15 : decode cX5_fate 15 = .ok (.ifCond .ne 6, 3) := by decide +kernel
theorem dX5_fate_18 : decode cX5_fate 18 = .ok (.bipush (-4), 2) := by decide +kernel
theorem dX5_fate_20 : decode cX5_fate 20 = .ok (.ireturn, 1) := by decide +kernel
theorem dX5_fate_21 : decode cX5_fate 21 = .ok (.aload_n 0, 1) := by decide +kernel
theorem dX5_fate_22 : decode cX5_fate 22 = .ok (.getfield 7, 3) := by decide +kernel
theorem dX5_fate_25 : decode cX5_fate 25 = .ok (.iload_n 1, 1) := by decide +kernel
theorem dX5_fate_26 : decode cX5_fate 26 = .ok (.iconst 2, 1) := by decide +kernel
theorem dX5_fate_27 : decode cX5_fate 27 = .ok (.invokestatic 53, 3) := by decide +kernel
theorem dX5_fate_30 : decode cX5_fate 30 = .ok (.iaload, 1) := by decide +kernel
theorem dX5_fate_31 : decode cX5_fate 31 = .ok (.istore_n 2, 1) := by decide +kernel
theorem dX5_fate_32 : decode cX5_fate 32 = .ok (.aload_n 0, 1) := by decide +kernel
theorem dX5_fate_33 : decode cX5_fate 33 = .ok (.iconst 0, 1) := by decide +kernel
theorem dX5_fate_34 : decode cX5_fate 34 = .ok (.sipush 3210, 3) := by decide +kernel
theorem dX5_fate_37 : decode cX5_fate 37 = .ok (.invokevirtual 27, 3) := by decide +kernel
theorem dX5_fate_40 : decode cX5_fate 40 = .ok (.aload_n 0, 1) := by decide +kernel
theorem dX5_fate_41 : decode cX5_fate 41 = .ok (.iload_n 1, 1) := by decide +kernel
theorem dX5_fate_42 : decode cX5_fate 42 = .ok (.putfield 16, 3) := by decide +kernel
theorem dX5_fate_45 : decode cX5_fate 45 = .ok (.aload_n 0, 1) := by decide +kernel
theorem dX5_fate_46 : decode cX5_fate 46 = .ok (.getfield 7, 3) := by decide +kernel
theorem dX5_fate_49 : decode cX5_fate 49 = .ok (.iconst 0, 1) := by decide +kernel
theorem dX5_fate_50 : decode cX5_fate 50 = .ok (.iaload, 1) := by decide +kernel
theorem dX5_fate_51 : decode cX5_fate 51 = .ok (.iload_n 2, 1) := by decide +kernel
theorem dX5_fate_52 : decode cX5_fate 52 = .ok (.if_icmp .gt 10, 3) := by decide +kernel
theorem dX5_fate_55 : decode cX5_fate 55 = .ok (.aload_n 0, 1) := by decide +kernel
theorem dX5_fate_56 : decode cX5_fate 56 = .ok (.invokevirtual 120, 3) := by decide +kernel
theorem dX5_fate_59 : decode cX5_fate 59 = .ok (.goto (-14), 3) := by decide +kernel
theorem dX5_fate_62 : decode cX5_fate 62 = .ok (.aload_n 0, 1) := by decide +kernel
theorem dX5_fate_63 : decode cX5_fate 63 = .ok (.bipush (-5), 2) := by decide +kernel
theorem dX5_fate_65 : decode cX5_fate 65 = .ok (.putfield 16, 3) := by decide +kernel
theorem dX5_fate_68 : decode cX5_fate 68 = .ok (.aload_n 0, 1) := by decide +kernel
theorem dX5_fate_69 : decode cX5_fate 69 = .ok (.sipush 3210, 3) := by decide +kernel
theorem dX5_fate_72 : decode cX5_fate 72 = .ok (.iconst 0, 1) := by decide +kernel
theorem dX5_fate_73 : decode cX5_fate 73 = .ok (.invokevirtual 27, 3) := by decide +kernel
theorem dX5_fate_76 : decode cX5_fate 76 = .ok (.aload_n 0, 1) := by decide +kernel
theorem dX5_fate_77 : decode cX5_fate 77 = .ok (.getfield 101, 3) := by decide +kernel
theorem dX5_fate_80 : decode cX5_fate 80 = .ok (.ireturn, 1) := by decide +kernel
theorem dX5_wind_0 : decode cX5_wind 0 = .ok (.iload_n 1, 1) := by decide +kernel
theorem dX5_wind_1 : decode cX5_wind 1 = .ok (.iconst 0, 1) := by decide +kernel
theorem dX5_wind_2 : decode cX5_wind 2 = .ok (.sipush 199, 3) := by decide +kernel
theorem dX5_wind_5 : decode cX5_wind 5 = .ok (.invokestatic 20, 3) := by decide +kernel
theorem dX5_wind_8 : decode cX5_wind 8 = .ok (.ifCond .eq 16, 3) := by decide +kernel
theorem dX5_wind_11 : decode cX5_wind 11 = .ok (.aload_n 0, 1) := by decide +kernel
theorem dX5_wind_12 : decode cX5_wind 12 = .ok (.getfield 7, 3) := by decide +kernel
theorem dX5_wind_15 : decode cX5_wind 15 = .ok (.sipush 335, 3) := by decide +kernel
theorem dX5_wind_18 : decode cX5_wind 18 = .ok (.iload_n 1, 1) := by decide +kernel
theorem dX5_wind_19 : decode cX5_wind 19 = .ok (.iadd, 1) := by decide +kernel
theorem dX5_wind_20 : decode cX5_wind 20 = .ok (.iaload, 1) := by decide +kernel
theorem dX5_wind_21 : decode cX5_wind 21 = .ok (.goto 4, 3) := by decide +kernel
theorem dX5_wind_24 : decode cX5_wind 24 = .ok (.iconst (-1), 1) := by decide +kernel
theorem dX5_wind_25 : decode cX5_wind 25 = .ok (.ireturn, 1) := by decide +kernel
theorem dX5_allPaid_0 : decode cX5_allPaid 0 = .ok (.iconst 0, 1) := by decide +kernel
theorem dX5_allPaid_1 : decode cX5_allPaid 1 = .ok (.istore_n 1, 1) := by decide +kernel
theorem dX5_allPaid_2 : decode cX5_allPaid 2 = .ok (.iconst 0, 1) := by decide +kernel
theorem dX5_allPaid_3 : decode cX5_allPaid 3 = .ok (.istore_n 2, 1) := by decide +kernel
theorem dX5_allPaid_4 : decode cX5_allPaid 4 = .ok (.iload_n 2, 1) := by decide +kernel
theorem dX5_allPaid_5 : decode cX5_allPaid 5 = .ok (.aload_n 0, 1) := by decide +kernel
theorem dX5_allPaid_6 : decode cX5_allPaid 6 = .ok (.getfield 7, 3) := by decide +kernel
theorem dX5_allPaid_9 : decode cX5_allPaid 9 = .ok (.iconst 2, 1) := by decide +kernel
theorem dX5_allPaid_10 : decode cX5_allPaid 10 = .ok (.iaload, 1) := by decide +kernel
theorem dX5_allPaid_11 : decode cX5_allPaid 11 = .ok (.if_icmp .ge 22, 3) := by decide +kernel
theorem dX5_allPaid_14 : decode cX5_allPaid 14 = .ok (.iload_n 1, 1) := by decide +kernel
theorem dX5_allPaid_15 : decode cX5_allPaid 15 = .ok (.aload_n 0, 1) := by decide +kernel
theorem dX5_allPaid_16 : decode cX5_allPaid 16 = .ok (.getfield 7, 3) := by decide +kernel
theorem dX5_allPaid_19 : decode cX5_allPaid 19 = .ok (.iload_n 2, 1) := by decide +kernel
theorem dX5_allPaid_20 : decode cX5_allPaid 20 = .ok (.iconst 0, 1) := by decide +kernel
theorem dX5_allPaid_21 : decode cX5_allPaid 21 = .ok (.invokestatic 42, 3) := by decide +kernel
theorem dX5_allPaid_24 : decode cX5_allPaid 24 = .ok (.iaload, 1) := by decide +kernel
theorem dX5_allPaid_25 : decode cX5_allPaid 25 = .ok (.iadd, 1) := by decide +kernel
theorem dX5_allPaid_26 : decode cX5_allPaid 26 = .ok (.istore_n 1, 1) := by decide +kernel
theorem dX5_allPaid_27 : decode cX5_allPaid 27 = .ok (.iinc 2 1, 3) := by decide +kernel
theorem dX5_allPaid_30 : decode cX5_allPaid 30 = .ok (.goto (-26), 3) := by decide +kernel
theorem dX5_allPaid_33 : decode cX5_allPaid 33 = .ok (.iload_n 1, 1) := by decide +kernel
theorem dX5_allPaid_34 : decode cX5_allPaid 34 = .ok (.ireturn, 1) := by decide +kernel
theorem dX5_allBlocks_0 : decode cX5_allBlocks 0 = .ok (.iconst 0, 1) := by decide +kernel
theorem dX5_allBlocks_1 : decode cX5_allBlocks 1 = .ok (.istore_n 1, 1) := by decide +kernel
theorem dX5_allBlocks_2 : decode cX5_allBlocks 2 = .ok (.iconst 0, 1) := by decide +kernel
theorem dX5_allBlocks_3 : decode cX5_allBlocks 3 = .ok (.istore_n 2, 1) := by decide +kernel
theorem dX5_allBlocks_4 : decode cX5_allBlocks 4 = .ok (.iload_n 2, 1) := by decide +kernel
theorem dX5_allBlocks_5 : decode cX5_allBlocks 5 = .ok (.aload_n 0, 1) := by decide +kernel
theorem dX5_allBlocks_6 : decode cX5_allBlocks 6 = .ok (.getfield 7, 3) := by decide +kernel
theorem dX5_allBlocks_9 : decode cX5_allBlocks 9 = .ok (.iconst 1, 1) := by decide +kernel
theorem dX5_allBlocks_10 : decode cX5_allBlocks 10 = .ok (.iaload, 1) := by decide +kernel
theorem dX5_allBlocks_11 : decode cX5_allBlocks 11 = .ok (.if_icmp .ge 22, 3) := by decide +kernel
theorem dX5_allBlocks_14 : decode cX5_allBlocks 14 = .ok (.iload_n 1, 1) := by decide +kernel
theorem dX5_allBlocks_15 : decode cX5_allBlocks 15 = .ok (.aload_n 0, 1) := by decide +kernel
theorem dX5_allBlocks_16 : decode cX5_allBlocks 16 = .ok (.getfield 7, 3) := by decide +kernel
theorem dX5_allBlocks_19 : decode cX5_allBlocks 19 = .ok (.iload_n 2, 1) := by decide +kernel
theorem dX5_allBlocks_20 : decode cX5_allBlocks 20 = .ok (.iconst 1, 1) := by decide +kernel
theorem dX5_allBlocks_21 : decode cX5_allBlocks 21 = .ok (.invokestatic 38, 3) := by decide +kernel
theorem dX5_allBlocks_24 : decode cX5_allBlocks 24 = .ok (.iaload, 1) := by decide +kernel
theorem dX5_allBlocks_25 : decode cX5_allBlocks 25 = .ok (.iadd, 1) := by decide +kernel
theorem dX5_allBlocks_26 : decode cX5_allBlocks 26 = .ok (.istore_n 1, 1) := by decide +kernel
theorem dX5_allBlocks_27 : decode cX5_allBlocks 27 = .ok (.iinc 2 1, 3) := by decide +kernel
theorem dX5_allBlocks_30 : decode cX5_allBlocks 30 = .ok (.goto (-26), 3) := by decide +kernel
theorem dX5_allBlocks_33 : decode cX5_allBlocks 33 = .ok (.iload_n 1, 1) := by decide +kernel
theorem dX5_allBlocks_34 : decode cX5_allBlocks 34 = .ok (.ireturn, 1) := by decide +kernel
theorem dX5_count_0 : decode cX5_count 0 = .ok (.iload_n 1, 1) := by decide +kernel
theorem dX5_count_1 : decode cX5_count 1 = .ok (.tableswitch 143 0 16 #[83, 83, 83, 83, 90, 90, 90, 90, 98, 98, 98, 110, 115, 115, 128, 133, 138], 83) := by decide +kernel
theorem dX5_count_84 : decode cX5_count 84 = .ok (.aload_n 0, 1) := by decide +kernel
theorem dX5_count_85 : decode cX5_count 85 = .ok (.getfield 7, 3) := by decide +kernel
theorem dX5_count_88 : decode cX5_count 88 = .ok (.iload_n 1, 1) := by decide +kernel
theorem dX5_count_89 : decode cX5_count 89 = .ok (.iaload, 1) := by decide +kernel
theorem dX5_count_90 : decode cX5_count 90 = .ok (.ireturn, 1) := by decide +kernel
theorem dX5_count_91 : decode cX5_count 91 = .ok (.aload_n 0, 1) := by decide +kernel
theorem dX5_count_92 : decode cX5_count 92 = .ok (.iload_n 1, 1) := by decide +kernel
theorem dX5_count_93 : decode cX5_count 93 = .ok (.iconst 4, 1) := by decide +kernel
theorem dX5_count_94 : decode cX5_count 94 = .ok (.isub, 1) := by decide +kernel
theorem dX5_count_95 : decode cX5_count 95 = .ok (.invokevirtual 116, 3) := by decide +kernel
theorem dX5_count_98 : decode cX5_count 98 = .ok (.ireturn, 1) := by decide +kernel
theorem dX5_count_99 : decode cX5_count 99 = .ok (.aload_n 0, 1) := by decide +kernel
theorem dX5_count_100 : decode cX5_count 100 = .ok (.getfield 7, 3) := by decide +kernel
theorem dX5_count_103 : decode cX5_count 103 = .ok (.iconst 4, 1) := by decide +kernel
theorem dX5_count_104 : decode cX5_count 104 = .ok (.iload_n 1, 1) := by decide +kernel
theorem dX5_count_105 : decode cX5_count 105 = .ok (.iadd, 1) := by decide +kernel
theorem dX5_count_106 : decode cX5_count 106 = .ok (.bipush 8, 2) := by decide +kernel
theorem dX5_count_108 : decode cX5_count 108 = .ok (.isub, 1) := by decide +kernel
theorem dX5_count_109 : decode cX5_count 109 = .ok (.iaload, 1) := by decide +kernel
theorem dX5_count_110 : decode cX5_count 110 = .ok (.ireturn, 1) := by decide +kernel
theorem dX5_count_111 : decode cX5_count 111 = .ok (.aload_n 0, 1) := by decide +kernel
theorem dX5_count_112 : decode cX5_count 112 = .ok (.invokevirtual 159, 3) := by decide +kernel
theorem dX5_count_115 : decode cX5_count 115 = .ok (.ireturn, 1) := by decide +kernel
theorem dX5_count_116 : decode cX5_count 116 = .ok (.aload_n 0, 1) := by decide +kernel
theorem dX5_count_117 : decode cX5_count 117 = .ok (.getfield 7, 3) := by decide +kernel
theorem dX5_count_120 : decode cX5_count 120 = .ok (.bipush 7, 2) := by decide +kernel
theorem dX5_count_122 : decode cX5_count 122 = .ok (.iload_n 1, 1) := by decide +kernel
theorem dX5_count_123 : decode cX5_count 123 = .ok (.iadd, 1) := by decide +kernel
theorem dX5_count_124 : decode cX5_count 124 = .ok (.bipush 12, 2) := by decide +kernel
theorem dX5_count_126 : decode cX5_count 126 = .ok (.isub, 1) := by decide +kernel
theorem dX5_count_127 : decode cX5_count 127 = .ok (.iaload, 1) := by decide +kernel
theorem dX5_count_128 : decode cX5_count 128 = .ok (.ireturn, 1) := by decide +kernel
theorem dX5_count_129 : decode cX5_count 129 = .ok (.aload_n 0, 1) := by decide +kernel
theorem dX5_count_130 : decode cX5_count 130 = .ok (.invokevirtual 162, 3) := by decide +kernel
theorem dX5_count_133 : decode cX5_count 133 = .ok (.ireturn, 1) := by decide +kernel
theorem dX5_count_134 : decode cX5_count 134 = .ok (.aload_n 0, 1) := by decide +kernel
theorem dX5_count_135 : decode cX5_count 135 = .ok (.getfield 24, 3) := by decide +kernel
theorem dX5_count_138 : decode cX5_count 138 = .ok (.ireturn, 1) := by decide +kernel
theorem dX5_count_139 : decode cX5_count 139 = .ok (.aload_n 0, 1) := by decide +kernel
theorem dX5_count_140 : decode cX5_count 140 = .ok (.getfield 123, 3) := by decide +kernel
theorem dX5_count_143 : decode cX5_count 143 = .ok (.ireturn, 1) := by decide +kernel
theorem dX5_count_144 : decode cX5_count 144 = .ok (.bipush (-2), 2) := by decide +kernel
theorem dX5_count_146 : decode cX5_count 146 = .ok (.ireturn, 1) := by decide +kernel
