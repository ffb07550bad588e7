theorem dX0_init_0 : decode cX0_init 0 = .ok (.aload_n 0, 1) := by decide +kernel
theorem dX0_init_1 : decode cX0_init 1 = .ok (.invokespecial 3, 3) := by decide +kernel
theorem dX0_init_4 : decode cX0_init 4 = .ok (.aload_n 0, 1) := by decide +kernel
theorem dX0_init_5 : decode cX0_init 5 = .ok (.iconst 4, 1) := by decide +kernel
theorem dX0_init_6 : decode cX0_init 6 = .ok (.anewarray 9, 3) := by decide +kernel
theorem dX0_init_9 : decode cX0_init 9 = .ok (.putfield 11, 3) := by decide +kernel
theorem dX0_init_12 : decode cX0_init 12 = .ok (.iconst 0, 1) := by decide +kernel
theorem dX0_init_13 : decode cX0_init 13 = .ok (.istore_n 1, 1) := by decide +kernel
theorem dX0_init_14 : decode cX0_init 14 = .ok (.iload_n 1, 1) := by decide +kernel
theorem dX0_init_15 : decode cX0_init 15 = .ok (.iconst 4, 1) := by decide +kernel
theorem dX0_init_16 : decode cX0_init 16 = .ok (.if_icmp .ge 22, 3) := by decide +kernel
theorem dX0_init_19 : decode cX0_init 19 = .ok (.aload_n 0, 1) := by decide +kernel
theorem dX0_init_20 : decode cX0_init 20 = .ok (.getfield 11, 3) := by decide +kernel
theorem dX0_init_23 : decode cX0_init 23 = .ok (.iload_n 1, 1) := by decide +kernel
theorem dX0_init_24 : decode cX0_init 24 = .ok (.new 9, 3) := by decide +kernel
theorem dX0_init_27 : decode cX0_init 27 = .ok (.dup, 1) := by decide +kernel
theorem dX0_init_28 : decode cX0_init 28 = .ok (.invokespecial 17, 3) := by decide +kernel
theorem dX0_init_31 : decode cX0_init 31 = .ok (.aastore, 1) := by decide +kernel
theorem dX0_init_32 : decode cX0_init 32 = .ok (.iinc 1 1, 3) := by decide +kernel
theorem dX0_init_35 : decode cX0_init 35 = .ok (.goto (-21), 3) := by decide +kernel
theorem dX0_init_38 : decode cX0_init 38 = .ok (.return_, 1) := by decide +kernel
theorem dX0_size_0 : decode cX0_size 0 = .ok (.aload_n 0, 1) := by decide +kernel
theorem dX0_size_1 : decode cX0_size 1 = .ok (.getfield 18, 3) := by decide +kernel
theorem dX0_size_4 : decode cX0_size 4 = .ok (.ireturn, 1) := by decide +kernel
theorem dX0_stateAt_0 : decode cX0_stateAt 0 = .ok (.iload_n 1, 1) := by decide +kernel
theorem dX0_stateAt_1 : decode cX0_stateAt 1 = .ok (.ifCond .lt 21, 3) := by decide +kernel
theorem dX0_stateAt_4 : decode cX0_stateAt 4 = .ok (.iload_n 1, 1) := by decide +kernel
theorem dX0_stateAt_5 : decode cX0_stateAt 5 = .ok (.aload_n 0, 1) := by decide +kernel
theorem dX0_stateAt_6 : decode cX0_stateAt 6 = .ok (.getfield 11, 3) := by decide +kernel
theorem dX0_stateAt_9 : decode cX0_stateAt 9 = .ok (.arraylength, 1) := by decide +kernel
theorem dX0_stateAt_10 : decode cX0_stateAt 10 = .ok (.if_icmp .ge 12, 3) := by decide +kernel
theorem dX0_stateAt_13 : decode cX0_stateAt 13 = .ok (.aload_n 0, 1) := by decide +kernel
theorem dX0_stateAt_14 : decode cX0_stateAt 14 = .ok (.getfield 11, 3) := by decide +kernel
theorem dX0_stateAt_17 : decode cX0_stateAt 17 = .ok (.iload_n 1, 1) := by decide +kernel
theorem dX0_stateAt_18 : decode cX0_stateAt 18 = .ok (.aaload, 1) := by decide +kernel
theorem dX0_stateAt_19 : decode cX0_stateAt 19 = .ok (.goto 4, 3) := by decide +kernel
theorem dX0_stateAt_22 : decode cX0_stateAt 22 = .ok (.aconst_null, 1) := by decide +kernel
theorem dX0_stateAt_23 : decode cX0_stateAt 23 = .ok (.areturn, 1) := by decide +kernel
theorem dX0_push_0 : decode cX0_push 0 = .ok (.aload_n 0, 1) := by decide +kernel
theorem dX0_push_1 : decode cX0_push 1 = .ok (.aload_n 0, 1) := by decide +kernel
theorem dX0_push_2 : decode cX0_push 2 = .ok (.getfield 22, 3) := by decide +kernel
theorem dX0_push_5 : decode cX0_push 5 = .ok (.invokevirtual 25, 3) := by decide +kernel
theorem dX0_push_8 : decode cX0_push 8 = .ok (.astore_n 2, 1) := by decide +kernel
theorem dX0_push_9 : decode cX0_push 9 = .ok (.aload_n 2, 1) := by decide +kernel
theorem dX0_push_10 : decode cX0_push 10 = .ok (.ifnonnull 4, 3) := by decide +kernel
theorem dX0_push_13 : decode cX0_push 13 = .ok (.return_, 1) := by decide +kernel
theorem dX0_push_14 : decode cX0_push 14 = .ok (.aload_n 2, 1) := by decide +kernel
theorem dX0_push_15 : decode cX0_push 15 = .ok (.aload_n 1, 1) := by decide +kernel
theorem dX0_push_16 : decode cX0_push 16 = .ok (.invokevirtual 29, 3) := by decide +kernel
theorem dX0_push_19 : decode cX0_push 19 = .ok (.aload_n 0, 1) := by decide +kernel
theorem dX0_push_20 : decode cX0_push 20 = .ok (.aload_n 0, 1) := by decide +kernel
theorem dX0_push_21 : decode cX0_push 21 = .ok (.getfield 22, 3) := by decide +kernel
theorem dX0_push_24 : decode cX0_push 24 = .ok (.iconst 1, 1) := by decide +kernel
theorem dX0_push_25 : decode cX0_push 25 = .ok (.iadd, 1) := by decide +kernel
theorem dX0_push_26 : decode cX0_push 26 = .ok (.iconst 4, 1) := by decide +kernel
theorem dX0_push_27 : decode cX0_push 27 = .ok (.irem, 1) := by decide +kernel
theorem dX0_push_28 : decode cX0_push 28 = .ok (.putfield 22, 3) := by decide +kernel
theorem dX0_push_31 : decode cX0_push 31 = .ok (.aload_n 0, 1) := by decide +kernel
theorem dX0_push_32 : decode cX0_push 32 = .ok (.aload_n 0, 1) := by decide +kernel
theorem dX0_push_33 : decode cX0_push 33 = .ok (.getfield 18, 3) := by decide +kernel
theorem dX0_push_36 : decode cX0_push 36 = .ok (.iconst 1, 1) := by decide +kernel
theorem dX0_push_37 : decode cX0_push 37 = .ok (.iadd, 1) := by decide +kernel
theorem dX0_push_38 : decode cX0_push 38 = .ok (.iconst 4, 1) := by decide +kernel
theorem dX0_push_39 : decode cX0_push 39 = .ok (.invokestatic 33, 3) := by decide +kernel
theorem dX0_push_42 : decode cX0_push 42 = .ok (.putfield 18, 3) := by decide +kernel
theorem dX0_push_45 : decode cX0_push 45 = .ok (.return_, 1) := by decide +kernel
theorem dX0_popInto_0 : decode cX0_popInto 0 = .ok (.aload_n 0, 1) := by decide +kernel
theorem dX0_popInto_1 : decode cX0_popInto 1 = .ok (.getfield 22, 3) := by decide +kernel
theorem dX0_popInto_4 : decode cX0_popInto 4 = .ok (.iconst 4, 1) := by decide +kernel
theorem dX0_popInto_5 : decode cX0_popInto 5 = .ok (.iadd, 1) := by decide +kernel
theorem dX0_popInto_6 : decode cX0_popInto 6 = .ok (.iconst 1, 1) := by decide +kernel
theorem dX0_popInto_7 : decode cX0_popInto 7 = .ok (.isub, 1) := by decide +kernel
theorem dX0_popInto_8 : decode cX0_popInto 8 = .ok (.iconst 4, 1) := by decide +kernel
theorem dX0_popInto_9 : decode cX0_popInto 9 = .ok (.irem, 1) := by decide +kernel
theorem dX0_popInto_10 : decode cX0_popInto 10 = .ok (.istore_n 2, 1) := by decide +kernel
theorem dX0_popInto_11 : decode cX0_popInto 11 = .ok (.aload_n 0, 1) := by decide +kernel
theorem dX0_popInto_12 : decode cX0_popInto 12 = .ok (.iload_n 2, 1) := by decide +kernel
theorem dX0_popInto_13 : decode cX0_popInto 13 = .ok (.invokevirtual 25, 3) := by decide +kernel
theorem dX0_popInto_16 : decode cX0_popInto 16 = .ok (.astore_n 3, 1) := by decide +kernel
theorem dX0_popInto_17 : decode cX0_popInto 17 = .ok (.aload_n 0, 1) := by decide +kernel
theorem dX0_popInto_18 : decode cX0_popInto 18 = .ok (.getfield 18, 3) := by decide +kernel
theorem dX0_popInto_21 : decode cX0_popInto 21 = .ok (.ifCond .eq 7, 3) := by decide +kernel
theorem dX0_popInto_24 : decode cX0_popInto 24 = .ok (.aload_n 3, 1) := by decide +kernel
theorem dX0_popInto_25 : decode cX0_popInto 25 = .ok (.ifnonnull 4, 3) := by decide +kernel
theorem dX0_popInto_28 : decode cX0_popInto 28 = .ok (.return_, 1) := by decide +kernel
theorem dX0_popInto_29 : decode cX0_popInto 29 = .ok (.aload_n 1, 1) := by decide +kernel
theorem dX0_popInto_30 : decode cX0_popInto 30 = .ok (.aload_n 3, 1) := by decide +kernel
theorem dX0_popInto_31 : decode cX0_popInto 31 = .ok (.invokevirtual 29, 3) := by decide +kernel
theorem dX0_popInto_34 : decode cX0_popInto 34 = .ok (.aload_n 0, 1) := by decide +kernel
theorem dX0_popInto_35 : decode cX0_popInto 35 = .ok (.iload_n 2, 1) := by decide +kernel
theorem dX0_popInto_36 : decode cX0_popInto 36 = .ok (.putfield 22, 3) := by decide +kernel
theorem dX0_popInto_39 : decode cX0_popInto 39 = .ok (.aload_n 0, 1) := by decide +kernel
theorem dX0_popInto_40 : decode cX0_popInto 40 = .ok (.dup, 1) := by decide +kernel
theorem dX0_popInto_41 : decode cX0_popInto 41 = .ok (.getfield 18, 3) := by decide +kernel
theorem dX0_popInto_44 : decode cX0_popInto 44 = .ok (.iconst 1, 1) := by decide +kernel
theorem dX0_popInto_45 : decode cX0_popInto 45 = .ok (.isub, 1) := by decide +kernel
theorem dX0_popInto_46 : decode cX0_popInto 46 = .ok (.putfield 18, 3) := by decide +kernel
theorem dX0_popInto_49 : decode cX0_popInto 49 = .ok (.return_, 1) := by decide +kernel
theorem dX1_init_0 : decode cX1_init 0 = .ok (.aload_n 0, 1) := by decide +kernel
theorem dX1_init_1 : decode cX1_init 1 = .ok (.invokespecial 3, 3) := by decide +kernel
theorem dX1_init_4 : decode cX1_init 4 = .ok (.aload_n 0, 1) := by decide +kernel
theorem dX1_init_5 : decode cX1_init 5 = .ok (.new 9, 3) := by decide +kernel
theorem dX1_init_8 : decode cX1_init 8 = .ok (.dup, 1) := by decide +kernel
theorem dX1_init_9 : decode cX1_init 9 = .ok (.iconst 5, 1) := by decide +kernel
theorem dX1_init_10 : decode cX1_init 10 = .ok (.iconst 3, 1) := by decide +kernel
theorem dX1_init_11 : decode cX1_init 11 = .ok (.invokespecial 11, 3) := by decide +kernel
theorem dX1_init_14 : decode cX1_init 14 = .ok (.putfield 14, 3) := by decide +kernel
theorem dX1_init_17 : decode cX1_init 17 = .ok (.aload_n 0, 1) := by decide +kernel
theorem dX1_init_18 : decode cX1_init 18 = .ok (.new 9, 3) := by decide +kernel
theorem dX1_init_21 : decode cX1_init 21 = .ok (.dup, 1) := by decide +kernel
theorem dX1_init_22 : decode cX1_init 22 = .ok (.bipush 8, 2) := by decide +kernel
theorem dX1_init_24 : decode cX1_init 24 = .ok (.iconst 2, 1) := by decide +kernel
theorem dX1_init_25 : decode cX1_init 25 = .ok (.invokespecial 11, 3) := by decide +kernel
theorem dX1_init_28 : decode cX1_init 28 = .ok (.putfield 20, 3) := by decide +kernel
theorem dX1_init_31 : decode cX1_init 31 = .ok (.aload_n 0, 1) := by decide +kernel
theorem dX1_init_32 : decode cX1_init 32 = .ok (.new 9, 3) := by decide +kernel
theorem dX1_init_35 : decode cX1_init 35 = .ok (.dup, 1) := by decide +kernel
theorem dX1_init_36 : decode cX1_init 36 = .ok (.bipush 30, 2) := by decide +kernel
theorem dX1_init_38 : decode cX1_init 38 = .ok (.bipush 8, 2) := by decide +kernel
theorem dX1_init_40 : decode cX1_init 40 = .ok (.invokespecial 11, 3) := by decide +kernel
theorem dX1_init_43 : decode cX1_init 43 = .ok (.putfield 23, 3) := by decide +kernel
theorem dX1_init_46 : decode cX1_init 46 = .ok (.aload_n 0, 1) := by decide +kernel
theorem dX1_init_47 : decode cX1_init 47 = .ok (.new 9, 3) := by decide +kernel
theorem dX1_init_50 : decode cX1_init 50 = .ok (.dup, 1) := by decide +kernel
theorem dX1_init_51 : decode cX1_init 51 = .ok (.bipush 10, 2) := by decide +kernel
theorem dX1_init_53 : decode cX1_init 53 = .ok (.iconst 5, 1) := by decide +kernel
theorem dX1_init_54 : decode cX1_init 54 = .ok (.invokespecial 11, 3) := by decide +kernel
theorem dX1_init_57 : decode cX1_init 57 = .ok (.putfield 26, 3) := by decide +kernel
theorem dX1_init_60 : decode cX1_init 60 = .ok (.aload_n 0, 1) := by decide +kernel
theorem dX1_init_61 : decode cX1_init 61 = .ok (.sipush 200, 3) := by decide +kernel
theorem dX1_init_64 : decode cX1_init 64 = .ok (.newarray .int, 2) := by decide +kernel
theorem dX1_init_66 : decode cX1_init 66 = .ok (.putfield 29, 3) := by decide +kernel
theorem dX1_init_69 : decode cX1_init 69 = .ok (.return_, 1) := by decide +kernel
theorem dX1_copyFrom_0 : decode cX1_copyFrom 0 = .ok (.aload_n 0, 1) := by decide +kernel
theorem dX1_copyFrom_1 : decode cX1_copyFrom 1 = .ok (.getfield 14, 3) := by decide +kernel
theorem dX1_copyFrom_4 : decode cX1_copyFrom 4 = .ok (.aload_n 1, 1) := by decide +kernel
theorem dX1_copyFrom_5 : decode cX1_copyFrom 5 = .ok (.getfield 14, 3) := by decide +kernel
theorem dX1_copyFrom_8 : decode cX1_copyFrom 8 = .ok (.invokevirtual 33, 3) := by decide +kernel
theorem dX1_copyFrom_11 : decode cX1_copyFrom 11 = .ok (.aload_n 0, 1) := by decide +kernel
theorem dX1_copyFrom_12 : decode cX1_copyFrom 12 = .ok (.getfield 20, 3) := by decide +kernel
theorem dX1_copyFrom_15 : decode cX1_copyFrom 15 = .ok (.aload_n 1, 1) := by decide +kernel
theorem dX1_copyFrom_16 : decode cX1_copyFrom 16 = .ok (.getfield 20, 3) := by decide +kernel
theorem dX1_copyFrom_19 : decode cX1_copyFrom 19 = .ok (.invokevirtual 33, 3) := by decide +kernel
theorem dX1_copyFrom_22 : decode cX1_copyFrom 22 = .ok (.aload_n 0, 1) := by decide +kernel
theorem dX1_copyFrom_23 : decode cX1_copyFrom 23 = .ok (.getfield 23, 3) := by decide +kernel
theorem dX1_copyFrom_26 : decode cX1_copyFrom 26 = .ok (.aload_n 1, 1) := by decide +kernel
theorem dX1_copyFrom_27 : decode cX1_copyFrom 27 = .ok (.getfield 23, 3) := by decide +kernel
theorem dX1_copyFrom_30 : decode cX1_copyFrom 30 = .ok (.invokevirtual 33, 3) := by decide +kernel
theorem dX1_copyFrom_33 : decode cX1_copyFrom 33 = .ok (.aload_n 0, 1) := by decide +kernel
theorem dX1_copyFrom_34 : decode cX1_copyFrom 34 = .ok (.getfield 26, 3) := by decide +kernel
theorem dX1_copyFrom_37 : decode cX1_copyFrom 37 = .ok (.aload_n 1, 1) := by decide +kernel
theorem dX1_copyFrom_38 : decode cX1_copyFrom 38 = .ok (.getfield 26, 3) := by decide +kernel
theorem dX1_copyFrom_41 : decode cX1_copyFrom 41 = .ok (.invokevirtual 33, 3) := by decide +kernel
theorem dX1_copyFrom_44 : decode cX1_copyFrom 44 = .ok (.aload_n 1, 1) := by decide +kernel
theorem dX1_copyFrom_45 : decode cX1_copyFrom 45 = .ok (.getfield 29, 3) := by decide +kernel
theorem dX1_copyFrom_48 : decode cX1_copyFrom 48 = .ok (.iconst 0, 1) := by decide +kernel
theorem dX1_copyFrom_49 : decode cX1_copyFrom 49 = .ok (.aload_n 0, 1) := by decide +kernel
theorem dX1_copyFrom_50 : decode cX1_copyFrom 50 = .ok (.getfield 29, 3) := by decide +kernel
theorem dX1_copyFrom_53 : decode cX1_copyFrom 53 = .ok (.iconst 0, 1) := by decide +kernel
theorem dX1_copyFrom_54 : decode cX1_copyFrom 54 = .ok (.aload_n 1, 1) := by decide +kernel
theorem dX1_copyFrom_55 : decode cX1_copyFrom 55 = .ok (.getfield 29, 3) := by decide +kernel
theorem dX1_copyFrom_58 : decode cX1_copyFrom 58 = .ok (.arraylength, 1) := by decide +kernel
theorem dX1_copyFrom_59 : decode cX1_copyFrom 59 = .ok (.aload_n 0, 1) := by decide +kernel
theorem dX1_copyFrom_60 : decode cX1_copyFrom 60 = .ok (.getfield 29, 3) := by decide +kernel
theorem dX1_copyFrom_63 : decode cX1_copyFrom 63 = .ok (.arraylength, 1) := by decide +kernel
theorem dX1_copyFrom_64 : decode cX1_copyFrom 64 = .ok (.invokestatic 37, 3) := by decide +kernel
theorem dX1_copyFrom_67 : decode cX1_copyFrom 67 = .ok (.invokestatic 43, 3) := by decide +kernel
theorem dX1_copyFrom_70 : decode cX1_copyFrom 70 = .ok (.aload_n 0, 1) := by decide +kernel
theorem dX1_copyFrom_71 : decode cX1_copyFrom 71 = .ok (.aload_n 1, 1) := by decide +kernel
theorem dX1_copyFrom_72 : decode cX1_copyFrom 72 = .ok (.getfield 49, 3) := by decide +kernel
theorem dX1_copyFrom_75 : decode cX1_copyFrom 75 = .ok (.putfield 49, 3) := by decide +kernel
theorem dX1_copyFrom_78 : decode cX1_copyFrom 78 = .ok (.aload_n 0, 1) := by decide +kernel
theorem dX1_copyFrom_79 : decode cX1_copyFrom 79 = .ok (.aload_n 1, 1) := by decide +kernel
theorem dX1_copyFrom_80 : decode cX1_copyFrom 80 = .ok (.getfield 53, 3) := by decide +kernel
theorem dX1_copyFrom_83 : decode cX1_copyFrom 83 = .ok (.putfield 53, 3) := by decide +kernel
theorem dX1_copyFrom_86 : decode cX1_copyFrom 86 = .ok (.aload_n 0, 1) := by decide +kernel
theorem dX1_copyFrom_87 : decode cX1_copyFrom 87 = .ok (.aload_n 1, 1) := by decide +kernel
theorem dX1_copyFrom_88 : decode cX1_copyFrom 88 = .ok (.getfield 56, 3) := by decide +kernel
theorem dX1_copyFrom_91 : decode cX1_copyFrom 91 = .ok (.putfield 56, 3) := by decide +kernel
theorem dX1_copyFrom_94 : decode cX1_copyFrom 94 = .ok (.aload_n 0, 1) := by decide +kernel
theorem dX1_copyFrom_95 : decode cX1_copyFrom 95 = .ok (.aload_n 1, 1) := by decide +kernel
theorem dX1_copyFrom_96 : decode cX1_copyFrom 96 = .ok (.getfield 59, 3) := by decide +kernel
theorem dX1_copyFrom_99 : decode cX1_copyFrom 99 = .ok (.putfield 59, 3) := by decide +kernel
theorem dX1_copyFrom_102 : decode cX1_copyFrom 102 = .ok (.return_, 1) := by decide +kernel
theorem dX1_isToCome_0 : decode cX1_isToCome 0 = .ok (.iload_n 1, 1) := by decide +kernel
theorem dX1_isToCome_1 : decode cX1_isToCome 1 = .ok (.aload_n 0, 1) := by decide +kernel
theorem dX1_isToCome_2 : decode cX1_isToCome 2 = .ok (.getfield 49, 3) := by decide +kernel
theorem dX1_isToCome_5 : decode cX1_isToCome 5 = .ok (.if_icmp .lt 14, 3) := by decide +kernel
theorem dX1_isToCome_8 : decode cX1_isToCome 8 = .ok (.iload_n 1, 1) := by decide +kernel
theorem dX1_isToCome_9 : decode cX1_isToCome 9 = .ok (.invokestatic 62, 3) := by decide +kernel
theorem dX1_isToCome_12 : decode cX1_isToCome 12 = .ok (.ifCond .eq 7, 3) := by decide +kernel
theorem dX1_isToCome_15 : decode cX1_isToCome 15 = .ok (.iconst 1, 1) := by decide +kernel
theorem dX1_isToCome_16 : decode cX1_isToCome 16 = .ok (.goto 4, 3) := by decide +kernel
theorem dX1_isToCome_19 : decode cX1_isToCome 19 = .ok (.iconst 0, 1) := by decide +kernel
theorem dX1_isToCome_20 : decode cX1_isToCome 20 = .ok (.ireturn, 1) := by decide +kernel
theorem dX1_windAt_0 : decode cX1_windAt 0 = .ok (.iload_n 1, 1) := by decide +kernel
theorem dX1_windAt_1 : decode cX1_windAt 1 = .ok (.ifCond .lt 21, 3) := by decide +kernel
theorem dX1_windAt_4 : decode cX1_windAt 4 = .ok (.iload_n 1, 1) := by decide +kernel
theorem dX1_windAt_5 : decode cX1_windAt 5 = .ok (.aload_n 0, 1) := by decide +kernel
theorem dX1_windAt_6 : decode cX1_windAt 6 = .ok (.getfield 29, 3) := by decide +kernel
theorem dX1_windAt_9 : decode cX1_windAt 9 = .ok (.arraylength, 1) := by decide +kernel
theorem dX1_windAt_10 : decode cX1_windAt 10 = .ok (.if_icmp .ge 12, 3) := by decide +kernel
theorem dX1_windAt_13 : decode cX1_windAt 13 = .ok (.aload_n 0, 1) := by decide +kernel
theorem dX1_windAt_14 : decode cX1_windAt 14 = .ok (.getfield 29, 3) := by decide +kernel
theorem dX1_windAt_17 : decode cX1_windAt 17 = .ok (.iload_n 1, 1) := by decide +kernel
theorem dX1_windAt_18 : decode cX1_windAt 18 = .ok (.iaload, 1) := by decide +kernel
theorem dX1_windAt_19 : decode cX1_windAt 19 = .ok (.goto 4, 3) := by decide +kernel
theorem dX1_windAt_22 : decode cX1_windAt 22 = .ok (.iconst 0, 1) := by decide +kernel
theorem dX1_windAt_23 : decode cX1_windAt 23 = .ok (.ireturn, 1) := by decide +kernel
theorem dX1_tellWind_0 : decode cX1_tellWind 0 = .ok (.iload_n 1, 1) := by decide +kernel
theorem dX1_tellWind_1 : decode cX1_tellWind 1 = .ok (.ifCond .lt 19, 3) := by decide +kernel
theorem dX1_tellWind_4 : decode cX1_tellWind 4 = .ok (.iload_n 1, 1) := by decide +kernel
theorem dX1_tellWind_5 : decode cX1_tellWind 5 = .ok (.aload_n 0, 1) := by decide +kernel
theorem dX1_tellWind_6 : decode cX1_tellWind 6 = .ok (.getfield 29, 3) := by decide +kernel
theorem dX1_tellWind_9 : decode cX1_tellWind 9 = .ok (.arraylength, 1) := by decide +kernel
theorem dX1_tellWind_10 : decode cX1_tellWind 10 = .ok (.if_icmp .ge 10, 3) := by decide +kernel
theorem dX1_tellWind_13 : decode cX1_tellWind 13 = .ok (.aload_n 0, 1) := by decide +kernel
theorem dX1_tellWind_14 : decode cX1_tellWind 14 = .ok (.getfield 29, 3) := by decide +kernel
theorem dX1_tellWind_17 : decode cX1_tellWind 17 = .ok (.iload_n 1, 1) := by decide +kernel
theorem dX1_tellWind_18 : decode cX1_tellWind 18 = .ok (.iload_n 2, 1) := by decide +kernel
theorem dX1_tellWind_19 : decode cX1_tellWind 19 = .ok (.iastore, 1) := by decide +kernel
theorem dX1_tellWind_20 : decode cX1_tellWind 20 = .ok (.return_, 1) := by decide +kernel
theorem dX1_putMachine_0 : decode cX1_putMachine 0 = .ok (.aload_n 0, 1) := by decide +kernel
theorem dX1_putMachine_1 : decode cX1_putMachine 1 = .ok (.getfield 14, 3) := by decide +kernel
theorem dX1_putMachine_4 : decode cX1_putMachine 4 = .ok (.invokevirtual 79, 3) := by decide +kernel
theorem dX1_putMachine_7 : decode cX1_putMachine 7 = .ok (.istore_n 3, 1) := by decide +kernel
theorem dX1_putMachine_8 : decode cX1_putMachine 8 = .ok (.aload_n 0, 1) := by decide +kernel
theorem dX1_putMachine_9 : decode cX1_putMachine 9 = .ok (.getfield 14, 3) := by decide +kernel
theorem dX1_putMachine_12 : decode cX1_putMachine 12 = .ok (.iload_n 3, 1) := by decide +kernel
theorem dX1_putMachine_13 : decode cX1_putMachine 13 = .ok (.iconst 0, 1) := by decide +kernel
theorem dX1_putMachine_14 : decode cX1_putMachine 14 = .ok (.iload_n 1, 1) := by decide +kernel
theorem dX1_putMachine_15 : decode cX1_putMachine 15 = .ok (.invokevirtual 82, 3) := by decide +kernel
theorem dX1_putMachine_18 : decode cX1_putMachine 18 = .ok (.aload_n 0, 1) := by decide +kernel
theorem dX1_putMachine_19 : decode cX1_putMachine 19 = .ok (.getfield 14, 3) := by decide +kernel
theorem dX1_putMachine_22 : decode cX1_putMachine 22 = .ok (.iload_n 3, 1) := by decide +kernel
theorem dX1_putMachine_23 : decode cX1_putMachine 23 = .ok (.iconst 1, 1) := by decide +kernel
theorem dX1_putMachine_24 : decode cX1_putMachine 24 = .ok (.iload_n 2, 1) := by decide +kernel
theorem dX1_putMachine_25 : decode cX1_putMachine 25 = .ok (.invokevirtual 82, 3) := by decide +kernel
theorem dX1_putMachine_28 : decode cX1_putMachine 28 = .ok (.aload_n 0, 1) := by decide +kernel
theorem dX1_putMachine_29 : decode cX1_putMachine 29 = .ok (.getfield 14, 3) := by decide +kernel
theorem dX1_putMachine_32 : decode cX1_putMachine 32 = .ok (.iload_n 3, 1) := by decide +kernel
theorem dX1_putMachine_33 : decode cX1_putMachine 33 = .ok (.iconst 2, 1) := by decide +kernel
theorem dX1_putMachine_34 : decode cX1_putMachine 34 = .ok (.bipush (-5), 2) := by decide +kernel
theorem dX1_putMachine_36 : decode cX1_putMachine 36 = .ok (.invokevirtual 82, 3) := by decide +kernel
theorem dX1_putMachine_39 : decode cX1_putMachine 39 = .ok (.iload_n 3, 1) := by decide +kernel
theorem dX1_putMachine_40 : decode cX1_putMachine 40 = .ok (.ireturn, 1) := by decide +kernel
theorem dX1_borneBy_0 : decode cX1_borneBy 0 = .ok (.aload_n 0, 1) := by decide +kernel
theorem dX1_borneBy_1 : decode cX1_borneBy 1 = .ok (.getfield 14, 3) := by decide +kernel
theorem dX1_borneBy_4 : decode cX1_borneBy 4 = .ok (.iload_n 1, 1) := by decide +kernel
theorem dX1_borneBy_5 : decode cX1_borneBy 5 = .ok (.iconst 0, 1) := by decide +kernel
theorem dX1_borneBy_6 : decode cX1_borneBy 6 = .ok (.invokevirtual 70, 3) := by decide +kernel
theorem dX1_borneBy_9 : decode cX1_borneBy 9 = .ok (.istore_n 3, 1) := by decide +kernel
theorem dX1_borneBy_10 : decode cX1_borneBy 10 = .ok (.aload_n 0, 1) := by decide +kernel
theorem dX1_borneBy_11 : decode cX1_borneBy 11 = .ok (.getfield 14, 3) := by decide +kernel
theorem dX1_borneBy_14 : decode cX1_borneBy 14 = .ok (.iload_n 1, 1) := by decide +kernel
theorem dX1_borneBy_15 : decode cX1_borneBy 15 = .ok (.iconst 1, 1) := by decide +kernel
theorem dX1_borneBy_16 : decode cX1_borneBy 16 = .ok (.invokevirtual 70, 3) := by decide +kernel
theorem dX1_borneBy_19 : decode cX1_borneBy 19 = .ok (.istore 4, 2) := by decide +kernel
theorem dX1_borneBy_21 : decode cX1_borneBy 21 = .ok (.iload_n 3, 1) := by decide +kernel
theorem dX1_borneBy_22 : decode cX1_borneBy 22 = .ok (.bipush 100, 2) := by decide +kernel
theorem dX1_borneBy_24 : decode cX1_borneBy 24 = .ok (.imul, 1) := by decide +kernel
theorem dX1_borneBy_25 : decode cX1_borneBy 25 = .ok (.iload 4, 2) := by decide +kernel
theorem dX1_borneBy_27 : decode cX1_borneBy 27 = .ok (.sipush 150, 3) := by decide +kernel
theorem dX1_borneBy_30 : decode cX1_borneBy 30 = .ok (.imul, 1) := by decide +kernel
theorem dX1_borneBy_31 : decode cX1_borneBy 31 = .ok (.iadd, 1) := by decide +kernel
theorem dX1_borneBy_32 : decode cX1_borneBy 32 = .ok (.iload_n 2, 1) := by decide +kernel
theorem dX1_borneBy_33 : decode cX1_borneBy 33 = .ok (.iconst 2, 1) := by decide +kernel
theorem dX1_borneBy_34 : decode cX1_borneBy 34 = .ok (.invokestatic 86, 3) := by decide +kernel
theorem dX1_borneBy_37 : decode cX1_borneBy 37 = .ok (.idiv, 1) := by decide +kernel
theorem dX1_borneBy_38 : decode cX1_borneBy 38 = .ok (.istore 5, 2) := by decide +kernel
theorem dX1_borneBy_40 : decode cX1_borneBy 40 = .ok (.iload 5, 2) := by decide +kernel
theorem dX1_borneBy_42 : decode cX1_borneBy 42 = .ok (.iload_n 3, 1) := by decide +kernel
theorem dX1_borneBy_43 : decode cX1_borneBy 43 = .ok (.bipush 10, 2) := by decide +kernel
theorem dX1_borneBy_45 : decode cX1_borneBy 45 = .ok (.imul, 1) := by decide +kernel
theorem dX1_borneBy_46 : decode cX1_borneBy 46 = .ok (.invokestatic 37, 3) := by decide +kernel
theorem dX1_borneBy_49 : decode cX1_borneBy 49 = .ok (.ireturn, 1) := by decide +kernel
theorem dX1_canTake_0 : decode cX1_canTake 0 = .ok (.iload_n 3, 1) := by decide +kernel
theorem dX1_canTake_1 : decode cX1_canTake 1 = .ok (.aload_n 0, 1) := by decide +kernel
theorem dX1_canTake_2 : decode cX1_canTake 2 = .ok (.iload_n 1, 1) := by decide +kernel
theorem dX1_canTake_3 : decode cX1_canTake 3 = .ok (.iload 4, 2) := by decide +kernel
theorem dX1_canTake_5 : decode cX1_canTake 5 = .ok (.invokevirtual 89, 3) := by decide +kernel
theorem dX1_canTake_8 : decode cX1_canTake 8 = .ok (.if_icmp .gt 18, 3) := by decide +kernel
theorem dX1_canTake_11 : decode cX1_canTake 11 = .ok (.aload_n 0, 1) := by decide +kernel
theorem dX1_canTake_12 : decode cX1_canTake 12 = .ok (.iload_n 1, 1) := by decide +kernel
theorem dX1_canTake_13 : decode cX1_canTake 13 = .ok (.iload_n 2, 1) := by decide +kernel
theorem dX1_canTake_14 : decode cX1_canTake 14 = .ok (.invokevirtual 92, 3) := by decide +kernel
theorem dX1_canTake_17 : decode cX1_canTake 17 = .ok (.bipush (-5), 2) := by decide +kernel
theorem dX1_canTake_19 : decode cX1_canTake 19 = .ok (.if_icmp .ne 7, 3) := by decide +kernel
theorem dX1_canTake_22 : decode cX1_canTake 22 = .ok (.iconst 1, 1) := by decide +kernel
theorem dX1_canTake_23 : decode cX1_canTake 23 = .ok (.goto 4, 3) := by decide +kernel
theorem dX1_canTake_26 : decode cX1_canTake 26 = .ok (.iconst 0, 1) := by decide +kernel
theorem dX1_canTake_27 : decode cX1_canTake 27 = .ok (.ireturn, 1) := by decide +kernel
theorem dX1_pay_0 : decode cX1_pay 0 = .ok (.aload_n 0, 1) := by decide +kernel
theorem dX1_pay_1 : decode cX1_pay 1 = .ok (.getfield 20, 3) := by decide +kernel
theorem dX1_pay_4 : decode cX1_pay 4 = .ok (.iload_n 1, 1) := by decide +kernel
theorem dX1_pay_5 : decode cX1_pay 5 = .ok (.iconst 0, 1) := by decide +kernel
theorem dX1_pay_6 : decode cX1_pay 6 = .ok (.iload_n 2, 1) := by decide +kernel
theorem dX1_pay_7 : decode cX1_pay 7 = .ok (.invokevirtual 95, 3) := by decide +kernel
theorem dX1_pay_10 : decode cX1_pay 10 = .ok (.return_, 1) := by decide +kernel
theorem dX1_putBooking_0 : decode cX1_putBooking 0 = .ok (.aload_n 0, 1) := by decide +kernel
theorem dX1_putBooking_1 : decode cX1_putBooking 1 = .ok (.getfield 23, 3) := by decide +kernel
theorem dX1_putBooking_4 : decode cX1_putBooking 4 = .ok (.invokevirtual 79, 3) := by decide +kernel
theorem dX1_putBooking_7 : decode cX1_putBooking 7 = .ok (.istore 4, 2) := by decide +kernel
theorem dX1_putBooking_9 : decode cX1_putBooking 9 = .ok (.aload_n 0, 1) := by decide +kernel
theorem dX1_putBooking_10 : decode cX1_putBooking 10 = .ok (.getfield 23, 3) := by decide +kernel
theorem dX1_putBooking_13 : decode cX1_putBooking 13 = .ok (.iload 4, 2) := by decide +kernel
theorem dX1_putBooking_15 : decode cX1_putBooking 15 = .ok (.iconst 0, 1) := by decide +kernel
theorem dX1_putBooking_16 : decode cX1_putBooking 16 = .ok (.iload_n 1, 1) := by decide +kernel
theorem dX1_putBooking_17 : decode cX1_putBooking 17 = .ok (.invokevirtual 82, 3) := by decide +kernel
theorem dX1_putBooking_20 : decode cX1_putBooking 20 = .ok (.aload_n 0, 1) := by decide +kernel
theorem dX1_putBooking_21 : decode cX1_putBooking 21 = .ok (.getfield 23, 3) := by decide +kernel
theorem dX1_putBooking_24 : decode cX1_putBooking 24 = .ok (.iload 4, 2) := by decide +kernel
theorem dX1_putBooking_26 : decode cX1_putBooking 26 = .ok (.iconst 3, 1) := by decide +kernel
theorem dX1_putBooking_27 : decode cX1_putBooking 27 = .ok (.iload_n 2, 1) := by decide +kernel
theorem dX1_putBooking_28 : decode cX1_putBooking 28 = .ok (.invokevirtual 82, 3) := by decide +kernel
theorem dX1_putBooking_31 : decode cX1_putBooking 31 = .ok (.aload_n 0, 1) := by decide +kernel
theorem dX1_putBooking_32 : decode cX1_putBooking 32 = .ok (.getfield 23, 3) := by decide +kernel
theorem dX1_putBooking_35 : decode cX1_putBooking 35 = .ok (.iload 4, 2) := by decide +kernel
theorem dX1_putBooking_37 : decode cX1_putBooking 37 = .ok (.iconst 4, 1) := by decide +kernel
theorem dX1_putBooking_38 : decode cX1_putBooking 38 = .ok (.iload_n 3, 1) := by decide +kernel
theorem dX1_putBooking_39 : decode cX1_putBooking 39 = .ok (.invokevirtual 82, 3) := by decide +kernel
theorem dX1_putBooking_42 : decode cX1_putBooking 42 = .ok (.aload_n 0, 1) := by decide +kernel
theorem dX1_putBooking_43 : decode cX1_putBooking 43 = .ok (.getfield 23, 3) := by decide +kernel
theorem dX1_putBooking_46 : decode cX1_putBooking 46 = .ok (.iload 4, 2) := by decide +kernel
theorem dX1_putBooking_48 : decode cX1_putBooking 48 = .ok (.iconst 5, 1) := by decide +kernel
theorem dX1_putBooking_49 : decode cX1_putBooking 49 = .ok (.iconst 0, 1) := by decide +kernel
theorem dX1_putBooking_50 : decode cX1_putBooking 50 = .ok (.invokevirtual 82, 3) := by decide +kernel
theorem dX1_putBooking_53 : decode cX1_putBooking 53 = .ok (.iload 4, 2) := by decide +kernel
theorem dX1_putBooking_55 : decode cX1_putBooking 55 = .ok (.ireturn, 1) := by decide +kernel
theorem dX1_place_0 : decode cX1_place 0 = .ok (.aload_n 0, 1) := by decide +kernel
theorem dX1_place_1 : decode cX1_place 1 = .ok (.getfield 23, 3) := by decide +kernel
theorem dX1_place_4 : decode cX1_place 4 = .ok (.iload_n 1, 1) := by decide +kernel
theorem dX1_place_5 : decode cX1_place 5 = .ok (.iconst 1, 1) := by decide +kernel
theorem dX1_place_6 : decode cX1_place 6 = .ok (.iload_n 2, 1) := by decide +kernel
theorem dX1_place_7 : decode cX1_place 7 = .ok (.invokevirtual 82, 3) := by decide +kernel
theorem dX1_place_10 : decode cX1_place 10 = .ok (.aload_n 0, 1) := by decide +kernel
theorem dX1_place_11 : decode cX1_place 11 = .ok (.getfield 23, 3) := by decide +kernel
theorem dX1_place_14 : decode cX1_place 14 = .ok (.iload_n 1, 1) := by decide +kernel
theorem dX1_place_15 : decode cX1_place 15 = .ok (.iconst 2, 1) := by decide +kernel
theorem dX1_place_16 : decode cX1_place 16 = .ok (.iload_n 3, 1) := by decide +kernel
theorem dX1_place_17 : decode cX1_place 17 = .ok (.invokevirtual 82, 3) := by decide +kernel
theorem dX1_place_20 : decode cX1_place 20 = .ok (.aload_n 0, 1) := by decide +kernel
theorem dX1_place_21 : decode cX1_place 21 = .ok (.getfield 23, 3) := by decide +kernel
theorem dX1_place_24 : decode cX1_place 24 = .ok (.iload_n 1, 1) := by decide +kernel
theorem dX1_place_25 : decode cX1_place 25 = .ok (.bipush 6, 2) := by decide +kernel
theorem dX1_place_27 : decode cX1_place 27 = .ok (.aload_n 0, 1) := by decide +kernel
theorem dX1_place_28 : decode cX1_place 28 = .ok (.iload_n 3, 1) := by decide +kernel
theorem dX1_place_29 : decode cX1_place 29 = .ok (.invokevirtual 98, 3) := by decide +kernel
theorem dX1_place_32 : decode cX1_place 32 = .ok (.invokevirtual 82, 3) := by decide +kernel
theorem dX1_place_35 : decode cX1_place 35 = .ok (.return_, 1) := by decide +kernel
theorem dX1_isBooked_0 : decode cX1_isBooked 0 = .ok (.aload_n 0, 1) := by decide +kernel
theorem dX1_isBooked_1 : decode cX1_isBooked 1 = .ok (.getfield 23, 3) := by decide +kernel
theorem dX1_isBooked_4 : decode cX1_isBooked 4 = .ok (.iload_n 1, 1) := by decide +kernel
theorem dX1_isBooked_5 : decode cX1_isBooked 5 = .ok (.iconst 5, 1) := by decide +kernel
theorem dX1_isBooked_6 : decode cX1_isBooked 6 = .ok (.invokevirtual 70, 3) := by decide +kernel
theorem dX1_isBooked_9 : decode cX1_isBooked 9 = .ok (.ifCond .ne 7, 3) := by decide +kernel
theorem dX1_isBooked_12 : decode cX1_isBooked 12 = .ok (.iconst 1, 1) := by decide +kernel
theorem dX1_isBooked_13 : decode cX1_isBooked 13 = .ok (.goto 4, 3) := by decide +kernel
theorem dX1_isBooked_16 : decode cX1_isBooked 16 = .ok (.iconst 0, 1) := by decide +kernel
theorem dX1_isBooked_17 : decode cX1_isBooked 17 = .ok (.ireturn, 1) := by decide +kernel
theorem dX1_bookingFor_0 : decode cX1_bookingFor 0 = .ok (.iconst 0, 1) := by decide +kernel
theorem dX1_bookingFor_1 : decode cX1_bookingFor 1 = .ok (.istore_n 3, 1) := by decide +kernel
theorem dX1_bookingFor_2 : decode cX1_bookingFor 2 = .ok (.iload_n 3, 1) := by decide +kernel
theorem dX1_bookingFor_3 : decode cX1_bookingFor 3 = .ok (.aload_n 0, 1) := by decide +kernel
theorem dX1_bookingFor_4 : decode cX1_bookingFor 4 = .ok (.getfield 23, 3) := by decide +kernel
theorem dX1_bookingFor_7 : decode cX1_bookingFor 7 = .ok (.invokevirtual 66, 3) := by decide +kernel
theorem dX1_bookingFor_10 : decode cX1_bookingFor 10 = .ok (.if_icmp .ge 49, 3) := by decide +kernel
theorem dX1_bookingFor_13 : decode cX1_bookingFor 13 = .ok (.aload_n 0, 1) := by decide +kernel
theorem dX1_bookingFor_14 : decode cX1_bookingFor 14 = .ok (.getfield 23, 3) := by decide +kernel
theorem dX1_bookingFor_17 : decode cX1_bookingFor 17 = .ok (.iload_n 3, 1) := by decide +kernel
theorem dX1_bookingFor_18 : decode cX1_bookingFor 18 = .ok (.iconst 5, 1) := by decide +kernel
theorem dX1_bookingFor_19 : decode cX1_bookingFor 19 = .ok (.invokevirtual 70, 3) := by decide +kernel
theorem dX1_bookingFor_22 : decode cX1_bookingFor 22 = .ok (.ifCond .ne 31, 3) := by decide +kernel
theorem dX1_bookingFor_25 : decode cX1_bookingFor 25 = .ok (.aload_n 0, 1) := by decide +kernel
theorem dX1_bookingFor_26 : decode cX1_bookingFor 26 = .ok (.getfield 23, 3) := by decide +kernel
theorem dX1_bookingFor_29 : decode cX1_bookingFor 29 = .ok (.iload_n 3, 1) := by decide +kernel
theorem dX1_bookingFor_30 : decode cX1_bookingFor 30 = .ok (.iconst 1, 1) := by decide +kernel
theorem dX1_bookingFor_31 : decode cX1_bookingFor 31 = .ok (.invokevirtual 70, 3) := by decide +kernel
theorem dX1_bookingFor_34 : decode cX1_bookingFor 34 = .ok (.iload_n 1, 1) := by decide +kernel
theorem dX1_bookingFor_35 : decode cX1_bookingFor 35 = .ok (.if_icmp .ne 18, 3) := by decide +kernel
theorem dX1_bookingFor_38 : decode cX1_bookingFor 38 = .ok (.aload_n 0, 1) := by decide +kernel
theorem dX1_bookingFor_39 : decode cX1_bookingFor 39 = .ok (.getfield 23, 3) := by decide +kernel
theorem dX1_bookingFor_42 : decode cX1_bookingFor 42 = .ok (.iload_n 3, 1) := by decide +kernel
theorem dX1_bookingFor_43 : decode cX1_bookingFor 43 = .ok (.iconst 2, 1) := by decide +kernel
theorem dX1_bookingFor_44 : decode cX1_bookingFor 44 = .ok (.invokevirtual 70, 3) := by decide +kernel
theorem dX1_bookingFor_47 : decode cX1_bookingFor 47 = .ok (.iload_n 2, 1) := by decide +kernel
theorem dX1_bookingFor_48 : decode cX1_bookingFor 48 = .ok (.if_icmp .ne 5, 3) := by decide +kernel
theorem dX1_bookingFor_51 : decode cX1_bookingFor 51 = .ok (.iload_n 3, 1) := by decide +kernel
theorem dX1_bookingFor_52 : decode cX1_bookingFor 52 = .ok (.ireturn, 1) := by decide +kernel
theorem dX1_bookingFor_53 : decode cX1_bookingFor 53 = .ok (.iinc 3 1, 3) := by decide +kernel
theorem dX1_bookingFor_56 : decode cX1_bookingFor 56 = .ok (.goto (-54), 3) := by decide +kernel
theorem dX1_bookingFor_59 : decode cX1_bookingFor 59 = .ok (.bipush (-5), 2) := by decide +kernel
theorem dX1_bookingFor_61 : decode cX1_bookingFor 61 = .ok (.ireturn, 1) := by decide +kernel
theorem dX1_limitOf_0 : decode cX1_limitOf 0 = .ok (.aload_n 0, 1) := by decide +kernel
theorem dX1_limitOf_1 : decode cX1_limitOf 1 = .ok (.getfield 23, 3) := by decide +kernel
theorem dX1_limitOf_4 : decode cX1_limitOf 4 = .ok (.iload_n 1, 1) := by decide +kernel
theorem dX1_limitOf_5 : decode cX1_limitOf 5 = .ok (.iconst 3, 1) := by decide +kernel
theorem dX1_limitOf_6 : decode cX1_limitOf 6 = .ok (.invokevirtual 70, 3) := by decide +kernel
theorem dX1_limitOf_9 : decode cX1_limitOf 9 = .ok (.aload_n 0, 1) := by decide +kernel
theorem dX1_limitOf_10 : decode cX1_limitOf 10 = .ok (.getfield 23, 3) := by decide +kernel
theorem dX1_limitOf_13 : decode cX1_limitOf 13 = .ok (.iload_n 1, 1) := by decide +kernel
theorem dX1_limitOf_14 : decode cX1_limitOf 14 = .ok (.iconst 4, 1) := by decide +kernel
theorem dX1_limitOf_15 : decode cX1_limitOf 15 = .ok (.invokevirtual 70, 3) := by decide +kernel
theorem dX1_limitOf_18 : decode cX1_limitOf 18 = .ok (.invokestatic 102, 3) := by decide +kernel
theorem dX1_limitOf_21 : decode cX1_limitOf 21 = .ok (.ireturn, 1) := by decide +kernel
theorem dX1_bearsLiftOf_0 : decode cX1_bearsLiftOf 0 = .ok (.aload_n 0, 1) := by decide +kernel
theorem dX1_bearsLiftOf_1 : decode cX1_bearsLiftOf 1 = .ok (.getfield 23, 3) := by decide +kernel
theorem dX1_bearsLiftOf_4 : decode cX1_bearsLiftOf 4 = .ok (.iload_n 2, 1) := by decide +kernel
theorem dX1_bearsLiftOf_5 : decode cX1_bearsLiftOf 5 = .ok (.iconst 3, 1) := by decide +kernel
theorem dX1_bearsLiftOf_6 : decode cX1_bearsLiftOf 6 = .ok (.invokevirtual 70, 3) := by decide +kernel
theorem dX1_bearsLiftOf_9 : decode cX1_bearsLiftOf 9 = .ok (.aload_n 0, 1) := by decide +kernel
theorem dX1_bearsLiftOf_10 : decode cX1_bearsLiftOf 10 = .ok (.iload_n 1, 1) := by decide +kernel
theorem dX1_bearsLiftOf_11 : decode cX1_bearsLiftOf 11 = .ok (.aload_n 0, 1) := by decide +kernel
theorem dX1_bearsLiftOf_12 : decode cX1_bearsLiftOf 12 = .ok (.getfield 23, 3) := by decide +kernel
theorem dX1_bearsLiftOf_15 : decode cX1_bearsLiftOf 15 = .ok (.iload_n 2, 1) := by decide +kernel
theorem dX1_bearsLiftOf_16 : decode cX1_bearsLiftOf 16 = .ok (.iconst 4, 1) := by decide +kernel
theorem dX1_bearsLiftOf_17 : decode cX1_bearsLiftOf 17 = .ok (.invokevirtual 70, 3) := by decide +kernel
theorem dX1_bearsLiftOf_20 : decode cX1_bearsLiftOf 20 = .ok (.invokevirtual 89, 3) := by decide +kernel
theorem dX1_bearsLiftOf_23 : decode cX1_bearsLiftOf 23 = .ok (.if_icmp .gt 7, 3) := by decide +kernel
theorem dX1_bearsLiftOf_26 : decode cX1_bearsLiftOf 26 = .ok (.iconst 1, 1) := by decide +kernel
theorem dX1_bearsLiftOf_27 : decode cX1_bearsLiftOf 27 = .ok (.goto 4, 3) := by decide +kernel
theorem dX1_bearsLiftOf_30 : decode cX1_bearsLiftOf 30 = .ok (.iconst 0, 1) := by decide +kernel
theorem dX1_bearsLiftOf_31 : decode cX1_bearsLiftOf 31 = .ok (.ireturn, 1) := by decide +kernel
theorem dX1_mustStandBy_0 : decode cX1_mustStandBy 0 = .ok (.aload_n 0, 1) := by decide +kernel
theorem dX1_mustStandBy_1 : decode cX1_mustStandBy 1 = .ok (.aload_n 0, 1) := by decide +kernel
theorem dX1_mustStandBy_2 : decode cX1_mustStandBy 2 = .ok (.getfield 23, 3) := by decide +kernel
theorem dX1_mustStandBy_5 : decode cX1_mustStandBy 5 = .ok (.iload_n 1, 1) := by decide +kernel
theorem dX1_mustStandBy_6 : decode cX1_mustStandBy 6 = .ok (.iconst 1, 1) := by decide +kernel
theorem dX1_mustStandBy_7 : decode cX1_mustStandBy 7 = .ok (.invokevirtual 70, 3) := by decide +kernel
theorem dX1_mustStandBy_10 : decode cX1_mustStandBy 10 = .ok (.iload_n 1, 1) := by decide +kernel
theorem dX1_mustStandBy_11 : decode cX1_mustStandBy 11 = .ok (.invokevirtual 105, 3) := by decide +kernel
theorem dX1_mustStandBy_14 : decode cX1_mustStandBy 14 = .ok (.ifCond .eq 24, 3) := by decide +kernel
theorem dX1_mustStandBy_17 : decode cX1_mustStandBy 17 = .ok (.aload_n 0, 1) := by decide +kernel
theorem dX1_mustStandBy_18 : decode cX1_mustStandBy 18 = .ok (.aload_n 0, 1) := by decide +kernel
theorem dX1_mustStandBy_19 : decode cX1_mustStandBy 19 = .ok (.getfield 23, 3) := by decide +kernel
theorem dX1_mustStandBy_22 : decode cX1_mustStandBy 22 = .ok (.iload_n 1, 1) := by decide +kernel
theorem dX1_mustStandBy_23 : decode cX1_mustStandBy 23 = .ok (.iconst 2, 1) := by decide +kernel
theorem dX1_mustStandBy_24 : decode cX1_mustStandBy 24 = .ok (.invokevirtual 70, 3) := by decide +kernel
theorem dX1_mustStandBy_27 : decode cX1_mustStandBy 27 = .ok (.invokevirtual 98, 3) := by decide +kernel
theorem dX1_mustStandBy_30 : decode cX1_mustStandBy 30 = .ok (.aload_n 0, 1) := by decide +kernel
theorem dX1_mustStandBy_31 : decode cX1_mustStandBy 31 = .ok (.iload_n 1, 1) := by decide +kernel
theorem dX1_mustStandBy_32 : decode cX1_mustStandBy 32 = .ok (.invokevirtual 109, 3) := by decide +kernel
theorem dX1_mustStandBy_35 : decode cX1_mustStandBy 35 = .ok (.if_icmp .le 7, 3) := by decide +kernel
theorem dX1_mustStandBy_38 : decode cX1_mustStandBy 38 = .ok (.iconst 1, 1) := by decide +kernel
theorem dX1_mustStandBy_39 : decode cX1_mustStandBy 39 = .ok (.goto 4, 3) := by decide +kernel
theorem dX1_mustStandBy_42 : decode cX1_mustStandBy 42 = .ok (.iconst 0, 1) := by decide +kernel
theorem dX1_mustStandBy_43 : decode cX1_mustStandBy 43 = .ok (.ireturn, 1) := by decide +kernel
theorem dX1_causerOf_0 : decode cX1_causerOf 0 = .ok (.aload_n 0, 1) := by decide +kernel
theorem dX1_causerOf_1 : decode cX1_causerOf 1 = .ok (.getfield 23, 3) := by decide +kernel
theorem dX1_causerOf_4 : decode cX1_causerOf 4 = .ok (.iload_n 1, 1) := by decide +kernel
theorem dX1_causerOf_5 : decode cX1_causerOf 5 = .ok (.iconst 1, 1) := by decide +kernel
theorem dX1_causerOf_6 : decode cX1_causerOf 6 = .ok (.invokevirtual 70, 3) := by decide +kernel
theorem dX1_causerOf_9 : decode cX1_causerOf 9 = .ok (.istore_n 2, 1) := by decide +kernel
theorem dX1_causerOf_10 : decode cX1_causerOf 10 = .ok (.aload_n 0, 1) := by decide +kernel
theorem dX1_causerOf_11 : decode cX1_causerOf 11 = .ok (.iload_n 2, 1) := by decide +kernel
theorem dX1_causerOf_12 : decode cX1_causerOf 12 = .ok (.iload_n 1, 1) := by decide +kernel
theorem dX1_causerOf_13 : decode cX1_causerOf 13 = .ok (.invokevirtual 105, 3) := by decide +kernel
theorem dX1_causerOf_16 : decode cX1_causerOf 16 = .ok (.ifCond .ne 13, 3) := by decide +kernel
theorem dX1_causerOf_19 : decode cX1_causerOf 19 = .ok (.aload_n 0, 1) := by decide +kernel
theorem dX1_causerOf_20 : decode cX1_causerOf 20 = .ok (.getfield 14, 3) := by decide +kernel
theorem dX1_causerOf_23 : decode cX1_causerOf 23 = .ok (.iload_n 2, 1) := by decide +kernel
theorem dX1_causerOf_24 : decode cX1_causerOf 24 = .ok (.iconst 2, 1) := by decide +kernel
theorem dX1_causerOf_25 : decode cX1_causerOf 25 = .ok (.invokevirtual 70, 3) := by decide +kernel
theorem dX1_causerOf_28 : decode cX1_causerOf 28 = .ok (.ireturn, 1) := by decide +kernel
theorem dX1_causerOf_29 : decode cX1_causerOf 29 = .ok (.aload_n 0, 1) := by decide +kernel
theorem dX1_causerOf_30 : decode cX1_causerOf 30 = .ok (.getfield 23, 3) := by decide +kernel
theorem dX1_causerOf_33 : decode cX1_causerOf 33 = .ok (.iload_n 1, 1) := by decide +kernel
theorem dX1_causerOf_34 : decode cX1_causerOf 34 = .ok (.bipush 6, 2) := by decide +kernel
theorem dX1_causerOf_36 : decode cX1_causerOf 36 = .ok (.invokevirtual 70, 3) := by decide +kernel
theorem dX1_causerOf_39 : decode cX1_causerOf 39 = .ok (.aload_n 0, 1) := by decide +kernel
theorem dX1_causerOf_40 : decode cX1_causerOf 40 = .ok (.iload_n 1, 1) := by decide +kernel
theorem dX1_causerOf_41 : decode cX1_causerOf 41 = .ok (.invokevirtual 109, 3) := by decide +kernel
theorem dX1_causerOf_44 : decode cX1_causerOf 44 = .ok (.if_icmp .le 7, 3) := by decide +kernel
theorem dX1_causerOf_47 : decode cX1_causerOf 47 = .ok (.iconst 1, 1) := by decide +kernel
theorem dX1_causerOf_48 : decode cX1_causerOf 48 = .ok (.goto 4, 3) := by decide +kernel
theorem dX1_causerOf_51 : decode cX1_causerOf 51 = .ok (.iconst 0, 1) := by decide +kernel
theorem dX1_causerOf_52 : decode cX1_causerOf 52 = .ok (.istore_n 3, 1) := by decide +kernel
theorem dX1_causerOf_53 : decode cX1_causerOf 53 = .ok (.iload_n 3, 1) := by decide +kernel
theorem dX1_causerOf_54 : decode cX1_causerOf 54 = .ok (.ifCond .eq 15, 3) := by decide +kernel
theorem dX1_causerOf_57 : decode cX1_causerOf 57 = .ok (.aload_n 0, 1) := by decide +kernel
theorem dX1_causerOf_58 : decode cX1_causerOf 58 = .ok (.getfield 23, 3) := by decide +kernel
theorem dX1_causerOf_61 : decode cX1_causerOf 61 = .ok (.iload_n 1, 1) := by decide +kernel
theorem dX1_causerOf_62 : decode cX1_causerOf 62 = .ok (.iconst 0, 1) := by decide +kernel
theorem dX1_causerOf_63 : decode cX1_causerOf 63 = .ok (.invokevirtual 70, 3) := by decide +kernel
theorem dX1_causerOf_66 : decode cX1_causerOf 66 = .ok (.goto 5, 3) := by decide +kernel
theorem dX1_causerOf_69 : decode cX1_causerOf 69 = .ok (.bipush (-5), 2) := by decide +kernel
theorem dX1_causerOf_71 : decode cX1_causerOf 71 = .ok (.ireturn, 1) := by decide +kernel
theorem dX1_putMove_0 : decode cX1_putMove 0 = .ok (.aload_n 0, 1) := by decide +kernel
theorem dX1_putMove_1 : decode cX1_putMove 1 = .ok (.getfield 26, 3) := by decide +kernel
theorem dX1_putMove_4 : decode cX1_putMove 4 = .ok (.invokevirtual 79, 3) := by decide +kernel
theorem dX1_putMove_7 : decode cX1_putMove 7 = .ok (.istore 6, 2) := by decide +kernel
theorem dX1_putMove_9 : decode cX1_putMove 9 = .ok (.aload_n 0, 1) := by decide +kernel
theorem dX1_putMove_10 : decode cX1_putMove 10 = .ok (.getfield 26, 3) := by decide +kernel
theorem dX1_putMove_13 : decode cX1_putMove 13 = .ok (.iload 6, 2) := by decide +kernel
theorem dX1_putMove_15 : decode cX1_putMove 15 = .ok (.iconst 0, 1) := by decide +kernel
theorem dX1_putMove_16 : decode cX1_putMove 16 = .ok (.iload_n 1, 1) := by decide +kernel
theorem dX1_putMove_17 : decode cX1_putMove 17 = .ok (.invokevirtual 82, 3) := by decide +kernel
theorem dX1_putMove_20 : decode cX1_putMove 20 = .ok (.aload_n 0, 1) := by decide +kernel
theorem dX1_putMove_21 : decode cX1_putMove 21 = .ok (.getfield 26, 3) := by decide +kernel
theorem dX1_putMove_24 : decode cX1_putMove 24 = .ok (.iload 6, 2) := by decide +kernel
theorem dX1_putMove_26 : decode cX1_putMove 26 = .ok (.iconst 1, 1) := by decide +kernel
theorem dX1_putMove_27 : decode cX1_putMove 27 = .ok (.iload_n 2, 1) := by decide +kernel
theorem dX1_putMove_28 : decode cX1_putMove 28 = .ok (.invokevirtual 82, 3) := by decide +kernel
theorem dX1_putMove_31 : decode cX1_putMove 31 = .ok (.aload_n 0, 1) := by decide +kernel
theorem dX1_putMove_32 : decode cX1_putMove 32 = .ok (.getfield 26, 3) := by decide +kernel
theorem dX1_putMove_35 : decode cX1_putMove 35 = .ok (.iload 6, 2) := by decide +kernel
theorem dX1_putMove_37 : decode cX1_putMove 37 = .ok (.iconst 2, 1) := by decide +kernel
theorem dX1_putMove_38 : decode cX1_putMove 38 = .ok (.iload_n 3, 1) := by decide +kernel
theorem dX1_putMove_39 : decode cX1_putMove 39 = .ok (.invokevirtual 82, 3) := by decide +kernel
theorem dX1_putMove_42 : decode cX1_putMove 42 = .ok (.aload_n 0, 1) := by decide +kernel
theorem dX1_putMove_43 : decode cX1_putMove 43 = .ok (.getfield 26, 3) := by decide +kernel
theorem dX1_putMove_46 : decode cX1_putMove 46 = .ok (.iload 6, 2) := by decide +kernel
theorem dX1_putMove_48 : decode cX1_putMove 48 = .ok (.iconst 3, 1) := by decide +kernel
theorem dX1_putMove_49 : decode cX1_putMove 49 = .ok (.iload 4, 2) := by decide +kernel
theorem dX1_putMove_51 : decode cX1_putMove 51 = .ok (.invokevirtual 82, 3) := by decide +kernel
theorem dX1_putMove_54 : decode cX1_putMove 54 = .ok (.aload_n 0, 1) := by decide +kernel
theorem dX1_putMove_55 : decode cX1_putMove 55 = .ok (.getfield 26, 3) := by decide +kernel
theorem dX1_putMove_58 : decode cX1_putMove 58 = .ok (.iload 6, 2) := by decide +kernel
theorem dX1_putMove_60 : decode cX1_putMove 60 = .ok (.iconst 4, 1) := by decide +kernel
theorem dX1_putMove_61 : decode cX1_putMove 61 = .ok (.iload 5, 2) := by decide +kernel
theorem dX1_putMove_63 : decode cX1_putMove 63 = .ok (.invokevirtual 82, 3) := by decide +kernel
theorem dX1_putMove_66 : decode cX1_putMove 66 = .ok (.iload 6, 2) := by decide +kernel
theorem dX1_putMove_68 : decode cX1_putMove 68 = .ok (.ireturn, 1) := by decide +kernel
theorem dX1_nextMoveUpTo_0 : decode cX1_nextMoveUpTo 0 = .ok (.bipush (-5), 2) := by decide +kernel
theorem dX1_nextMoveUpTo_2 : decode cX1_nextMoveUpTo 2 = .ok (.istore_n 2, 1) := by decide +kernel
theorem dX1_nextMoveUpTo_3 : decode cX1_nextMoveUpTo 3 = .ok (.iload_n 1, 1) := by decide +kernel
theorem dX1_nextMoveUpTo_4 : decode cX1_nextMoveUpTo 4 = .ok (.iconst 1, 1) := by decide +kernel
theorem dX1_nextMoveUpTo_5 : decode cX1_nextMoveUpTo 5 = .ok (.iadd, 1) := by decide +kernel
theorem dX1_nextMoveUpTo_6 : decode cX1_nextMoveUpTo 6 = .ok (.istore_n 3, 1) := by decide +kernel
theorem dX1_nextMoveUpTo_7 : decode cX1_nextMoveUpTo 7 = .ok (.iconst 0, 1) := by decide +kernel
theorem dX1_nextMoveUpTo_8 : decode cX1_nextMoveUpTo 8 = .ok (.istore 4, 2) := by decide +kernel
theorem dX1_nextMoveUpTo_10 : decode cX1_nextMoveUpTo 10 = .ok (.iload 4, 2) := by decide +kernel
theorem dX1_nextMoveUpTo_12 : decode cX1_nextMoveUpTo 12 = .ok (.aload_n 0, 1) := by decide +kernel
theorem dX1_nextMoveUpTo_13 : decode cX1_nextMoveUpTo 13 = .ok (.getfield 26, 3) := by decide +kernel
theorem dX1_nextMoveUpTo_16 : decode cX1_nextMoveUpTo 16 = .ok (.invokevirtual 66, 3) := by decide +kernel
theorem dX1_nextMoveUpTo_19 : decode cX1_nextMoveUpTo 19 = .ok (.if_icmp .ge 37, 3) := by decide +kernel
theorem dX1_nextMoveUpTo_22 : decode cX1_nextMoveUpTo 22 = .ok (.aload_n 0, 1) := by decide +kernel
theorem dX1_nextMoveUpTo_23 : decode cX1_nextMoveUpTo 23 = .ok (.getfield 26, 3) := by decide +kernel
theorem dX1_nextMoveUpTo_26 : decode cX1_nextMoveUpTo 26 = .ok (.iload 4, 2) := by decide +kernel
theorem dX1_nextMoveUpTo_28 : decode cX1_nextMoveUpTo 28 = .ok (.iconst 4, 1) := by decide +kernel
theorem dX1_nextMoveUpTo_29 : decode cX1_nextMoveUpTo 29 = .ok (.invokevirtual 70, 3) := by decide +kernel
theorem dX1_nextMoveUpTo_32 : decode cX1_nextMoveUpTo 32 = .ok (.iload_n 3, 1) := by decide +kernel
theorem dX1_nextMoveUpTo_33 : decode cX1_nextMoveUpTo 33 = .ok (.if_icmp .ge 17, 3) := by decide +kernel
theorem dX1_nextMoveUpTo_36 : decode cX1_nextMoveUpTo 36 = .ok (.iload 4, 2) := by decide +kernel
theorem dX1_nextMoveUpTo_38 : decode cX1_nextMoveUpTo 38 = .ok (.istore_n 2, 1) := by decide +kernel
theorem dX1_nextMoveUpTo_39 : decode cX1_nextMoveUpTo 39 = .ok (.aload_n 0, 1) := by decide +kernel
theorem dX1_nextMoveUpTo_40 : decode cX1_nextMoveUpTo 40 = .ok (.getfield 26, 3) := by decide +kernel
theorem dX1_nextMoveUpTo_43 : decode cX1_nextMoveUpTo 43 = .ok (.iload 4, 2) := by decide +kernel
theorem dX1_nextMoveUpTo_45 : decode cX1_nextMoveUpTo 45 = .ok (.iconst 4, 1) := by decide +kernel
theorem dX1_nextMoveUpTo_46 : decode cX1_nextMoveUpTo 46 = .ok (.invokevirtual 70, 3) := by decide +kernel
theorem dX1_nextMoveUpTo_49 : decode cX1_nextMoveUpTo 49 = .ok (.istore_n 3, 1) := by decide +kernel
theorem dX1_nextMoveUpTo_50 : decode cX1_nextMoveUpTo 50 = .ok (.iinc 4 1, 3) := by decide +kernel
theorem dX1_nextMoveUpTo_53 : decode cX1_nextMoveUpTo 53 = .ok (.goto (-43), 3) := by decide +kernel
theorem dX1_nextMoveUpTo_56 : decode cX1_nextMoveUpTo 56 = .ok (.iload_n 2, 1) := by decide +kernel
theorem dX1_nextMoveUpTo_57 : decode cX1_nextMoveUpTo 57 = .ok (.ireturn, 1) := by decide +kernel
theorem dX1_closeMovesUpTo_0 : decode cX1_closeMovesUpTo 0 = .ok (.iconst 0, 1) := by decide +kernel
theorem dX1_closeMovesUpTo_1 : decode cX1_closeMovesUpTo 1 = .ok (.istore_n 2, 1) := by decide +kernel
theorem dX1_closeMovesUpTo_2 : decode cX1_closeMovesUpTo 2 = .ok (.iload_n 2, 1) := by decide +kernel
theorem dX1_closeMovesUpTo_3 : decode cX1_closeMovesUpTo 3 = .ok (.bipush 10, 2) := by decide +kernel
theorem dX1_closeMovesUpTo_5 : decode cX1_closeMovesUpTo 5 = .ok (.if_icmp .ge 27, 3) := by decide +kernel
theorem dX1_closeMovesUpTo_8 : decode cX1_closeMovesUpTo 8 = .ok (.aload_n 0, 1) := by decide +kernel
theorem dX1_closeMovesUpTo_9 : decode cX1_closeMovesUpTo 9 = .ok (.iload_n 1, 1) := by decide +kernel
theorem dX1_closeMovesUpTo_10 : decode cX1_closeMovesUpTo 10 = .ok (.invokevirtual 112, 3) := by decide +kernel
theorem dX1_closeMovesUpTo_13 : decode cX1_closeMovesUpTo 13 = .ok (.istore_n 3, 1) := by decide +kernel
theorem dX1_closeMovesUpTo_14 : decode cX1_closeMovesUpTo 14 = .ok (.iload_n 3, 1) := by decide +kernel
theorem dX1_closeMovesUpTo_15 : decode cX1_closeMovesUpTo 15 = .ok (.bipush (-5), 2) := by decide +kernel
theorem dX1_closeMovesUpTo_17 : decode cX1_closeMovesUpTo 17 = .ok (.if_icmp .ne 4, 3) := by decide +kernel
theorem dX1_closeMovesUpTo_20 : decode cX1_closeMovesUpTo 20 = .ok (.return_, 1) := by decide +kernel
theorem dX1_closeMovesUpTo_21 : decode cX1_closeMovesUpTo 21 = .ok (.aload_n 0, 1) := by decide +kernel
theorem dX1_closeMovesUpTo_22 : decode cX1_closeMovesUpTo 22 = .ok (.iload_n 3, 1) := by decide +kernel
theorem dX1_closeMovesUpTo_23 : decode cX1_closeMovesUpTo 23 = .ok (.invokevirtual 115, 3) := by decide +kernel
theorem dX1_closeMovesUpTo_26 : decode cX1_closeMovesUpTo 26 = .ok (.iinc 2 1, 3) := by decide +kernel
theorem dX1_closeMovesUpTo_29 : decode cX1_closeMovesUpTo 29 = .ok (.goto (-27), 3) := by decide +kernel
theorem dX1_closeMovesUpTo_32 : decode cX1_closeMovesUpTo 32 = .ok (.return_, 1) := by decide +kernel
theorem dX1_closeMove_0 : decode cX1_closeMove 0 = .ok (.aload_n 0, 1) := by decide +kernel
theorem dX1_closeMove_1 : decode cX1_closeMove 1 = .ok (.getfield 26, 3) := by decide +kernel
theorem dX1_closeMove_4 : decode cX1_closeMove 4 = .ok (.iload_n 1, 1) := by decide +kernel
theorem dX1_closeMove_5 : decode cX1_closeMove 5 = .ok (.iconst 0, 1) := by decide +kernel
theorem dX1_closeMove_6 : decode cX1_closeMove 6 = .ok (.invokevirtual 70, 3) := by decide +kernel
theorem dX1_closeMove_9 : decode cX1_closeMove 9 = .ok (.istore_n 2, 1) := by decide +kernel
theorem dX1_closeMove_10 : decode cX1_closeMove 10 = .ok (.aload_n 0, 1) := by decide +kernel
theorem dX1_closeMove_11 : decode cX1_closeMove 11 = .ok (.getfield 26, 3) := by decide +kernel
theorem dX1_closeMove_14 : decode cX1_closeMove 14 = .ok (.iload_n 1, 1) := by decide +kernel
theorem dX1_closeMove_15 : decode cX1_closeMove 15 = .ok (.iconst 1, 1) := by decide +kernel
theorem dX1_closeMove_16 : decode cX1_closeMove 16 = .ok (.invokevirtual 70, 3) := by decide +kernel
theorem dX1_closeMove_19 : decode cX1_closeMove 19 = .ok (.istore_n 3, 1) := by decide +kernel
theorem dX1_closeMove_20 : decode cX1_closeMove 20 = .ok (.aload_n 0, 1) := by decide +kernel
theorem dX1_closeMove_21 : decode cX1_closeMove 21 = .ok (.getfield 26, 3) := by decide +kernel
theorem dX1_closeMove_24 : decode cX1_closeMove 24 = .ok (.iload_n 1, 1) := by decide +kernel
theorem dX1_closeMove_25 : decode cX1_closeMove 25 = .ok (.iconst 2, 1) := by decide +kernel
theorem dX1_closeMove_26 : decode cX1_closeMove 26 = .ok (.invokevirtual 70, 3) := by decide +kernel
theorem dX1_closeMove_29 : decode cX1_closeMove 29 = .ok (.istore 4, 2) := by decide +kernel
theorem dX1_closeMove_31 : decode cX1_closeMove 31 = .ok (.aload_n 0, 1) := by decide +kernel
theorem dX1_closeMove_32 : decode cX1_closeMove 32 = .ok (.getfield 26, 3) := by decide +kernel
theorem dX1_closeMove_35 : decode cX1_closeMove 35 = .ok (.iload_n 1, 1) := by decide +kernel
theorem dX1_closeMove_36 : decode cX1_closeMove 36 = .ok (.iconst 3, 1) := by decide +kernel
theorem dX1_closeMove_37 : decode cX1_closeMove 37 = .ok (.invokevirtual 70, 3) := by decide +kernel
theorem dX1_closeMove_40 : decode cX1_closeMove 40 = .ok (.istore 5, 2) := by decide +kernel
theorem dX1_closeMove_42 : decode cX1_closeMove 42 = .ok (.aload_n 0, 1) := by decide +kernel
theorem dX1_closeMove_43 : decode cX1_closeMove 43 = .ok (.getfield 26, 3) := by decide +kernel
theorem dX1_closeMove_46 : decode cX1_closeMove 46 = .ok (.iload_n 1, 1) := by decide +kernel
theorem dX1_closeMove_47 : decode cX1_closeMove 47 = .ok (.invokevirtual 119, 3) := by decide +kernel
theorem dX1_closeMove_50 : decode cX1_closeMove 50 = .ok (.aload_n 0, 1) := by decide +kernel
theorem dX1_closeMove_51 : decode cX1_closeMove 51 = .ok (.getfield 14, 3) := by decide +kernel
theorem dX1_closeMove_54 : decode cX1_closeMove 54 = .ok (.iload_n 3, 1) := by decide +kernel
theorem dX1_closeMove_55 : decode cX1_closeMove 55 = .ok (.iconst 1, 1) := by decide +kernel
theorem dX1_closeMove_56 : decode cX1_closeMove 56 = .ok (.invokevirtual 70, 3) := by decide +kernel
theorem dX1_closeMove_59 : decode cX1_closeMove 59 = .ok (.iload 5, 2) := by decide +kernel
theorem dX1_closeMove_61 : decode cX1_closeMove 61 = .ok (.if_icmp .lt 21, 3) := by decide +kernel
theorem dX1_closeMove_64 : decode cX1_closeMove 64 = .ok (.aload_n 0, 1) := by decide +kernel
theorem dX1_closeMove_65 : decode cX1_closeMove 65 = .ok (.getfield 14, 3) := by decide +kernel
theorem dX1_closeMove_68 : decode cX1_closeMove 68 = .ok (.iload 4, 2) := by decide +kernel
theorem dX1_closeMove_70 : decode cX1_closeMove 70 = .ok (.iconst 1, 1) := by decide +kernel
theorem dX1_closeMove_71 : decode cX1_closeMove 71 = .ok (.invokevirtual 70, 3) := by decide +kernel
theorem dX1_closeMove_74 : decode cX1_closeMove 74 = .ok (.iload 5, 2) := by decide +kernel
theorem dX1_closeMove_76 : decode cX1_closeMove 76 = .ok (.iadd, 1) := by decide +kernel
theorem dX1_closeMove_77 : decode cX1_closeMove 77 = .ok (.bipush 12, 2) := by decide +kernel
theorem dX1_closeMove_79 : decode cX1_closeMove 79 = .ok (.if_icmp .le 20, 3) := by decide +kernel
theorem dX1_closeMove_82 : decode cX1_closeMove 82 = .ok (.aload_n 0, 1) := by decide +kernel
theorem dX1_closeMove_83 : decode cX1_closeMove 83 = .ok (.iload_n 2, 1) := by decide +kernel
theorem dX1_closeMove_84 : decode cX1_closeMove 84 = .ok (.iconst 5, 1) := by decide +kernel
theorem dX1_closeMove_85 : decode cX1_closeMove 85 = .ok (.invokevirtual 122, 3) := by decide +kernel
theorem dX1_closeMove_88 : decode cX1_closeMove 88 = .ok (.aload_n 0, 1) := by decide +kernel
theorem dX1_closeMove_89 : decode cX1_closeMove 89 = .ok (.dup, 1) := by decide +kernel
theorem dX1_closeMove_90 : decode cX1_closeMove 90 = .ok (.getfield 56, 3) := by decide +kernel
theorem dX1_closeMove_93 : decode cX1_closeMove 93 = .ok (.iconst 1, 1) := by decide +kernel
theorem dX1_closeMove_94 : decode cX1_closeMove 94 = .ok (.iadd, 1) := by decide +kernel
theorem dX1_closeMove_95 : decode cX1_closeMove 95 = .ok (.putfield 56, 3) := by decide +kernel
theorem dX1_closeMove_98 : decode cX1_closeMove 98 = .ok (.return_, 1) := by decide +kernel
theorem dX1_closeMove_99 : decode cX1_closeMove 99 = .ok (.aload_n 0, 1) := by decide +kernel
theorem dX1_closeMove_100 : decode cX1_closeMove 100 = .ok (.getfield 14, 3) := by decide +kernel
theorem dX1_closeMove_103 : decode cX1_closeMove 103 = .ok (.iload_n 3, 1) := by decide +kernel
theorem dX1_closeMove_104 : decode cX1_closeMove 104 = .ok (.iconst 1, 1) := by decide +kernel
theorem dX1_closeMove_105 : decode cX1_closeMove 105 = .ok (.iload 5, 2) := by decide +kernel
theorem dX1_closeMove_107 : decode cX1_closeMove 107 = .ok (.ineg, 1) := by decide +kernel
theorem dX1_closeMove_108 : decode cX1_closeMove 108 = .ok (.invokevirtual 95, 3) := by decide +kernel
theorem dX1_closeMove_111 : decode cX1_closeMove 111 = .ok (.aload_n 0, 1) := by decide +kernel
theorem dX1_closeMove_112 : decode cX1_closeMove 112 = .ok (.getfield 14, 3) := by decide +kernel
theorem dX1_closeMove_115 : decode cX1_closeMove 115 = .ok (.iload 4, 2) := by decide +kernel
theorem dX1_closeMove_117 : decode cX1_closeMove 117 = .ok (.iconst 1, 1) := by decide +kernel
theorem dX1_closeMove_118 : decode cX1_closeMove 118 = .ok (.iload 5, 2) := by decide +kernel
theorem dX1_closeMove_120 : decode cX1_closeMove 120 = .ok (.invokevirtual 95, 3) := by decide +kernel
theorem dX1_closeMove_123 : decode cX1_closeMove 123 = .ok (.aload_n 0, 1) := by decide +kernel
theorem dX1_closeMove_124 : decode cX1_closeMove 124 = .ok (.getfield 14, 3) := by decide +kernel
theorem dX1_closeMove_127 : decode cX1_closeMove 127 = .ok (.iload_n 3, 1) := by decide +kernel
theorem dX1_closeMove_128 : decode cX1_closeMove 128 = .ok (.iconst 2, 1) := by decide +kernel
theorem dX1_closeMove_129 : decode cX1_closeMove 129 = .ok (.iload_n 2, 1) := by decide +kernel
theorem dX1_closeMove_130 : decode cX1_closeMove 130 = .ok (.invokevirtual 82, 3) := by decide +kernel
theorem dX1_closeMove_133 : decode cX1_closeMove 133 = .ok (.aload_n 0, 1) := by decide +kernel
theorem dX1_closeMove_134 : decode cX1_closeMove 134 = .ok (.iload_n 2, 1) := by decide +kernel
theorem dX1_closeMove_135 : decode cX1_closeMove 135 = .ok (.iconst 5, 1) := by decide +kernel
theorem dX1_closeMove_136 : decode cX1_closeMove 136 = .ok (.iconst 2, 1) := by decide +kernel
theorem dX1_closeMove_137 : decode cX1_closeMove 137 = .ok (.iload 5, 2) := by decide +kernel
theorem dX1_closeMove_139 : decode cX1_closeMove 139 = .ok (.imul, 1) := by decide +kernel
theorem dX1_closeMove_140 : decode cX1_closeMove 140 = .ok (.iadd, 1) := by decide +kernel
theorem dX1_closeMove_141 : decode cX1_closeMove 141 = .ok (.invokevirtual 122, 3) := by decide +kernel
theorem dX1_closeMove_144 : decode cX1_closeMove 144 = .ok (.aload_n 0, 1) := by decide +kernel
theorem dX1_closeMove_145 : decode cX1_closeMove 145 = .ok (.dup, 1) := by decide +kernel
theorem dX1_closeMove_146 : decode cX1_closeMove 146 = .ok (.getfield 53, 3) := by decide +kernel
theorem dX1_closeMove_149 : decode cX1_closeMove 149 = .ok (.iconst 1, 1) := by decide +kernel
theorem dX1_closeMove_150 : decode cX1_closeMove 150 = .ok (.iadd, 1) := by decide +kernel
theorem dX1_closeMove_151 : decode cX1_closeMove 151 = .ok (.putfield 53, 3) := by decide +kernel
theorem dX1_closeMove_154 : decode cX1_closeMove 154 = .ok (.return_, 1) := by decide +kernel
theorem dX1_passHalfDay_0 : decode cX1_passHalfDay 0 = .ok (.aload_n 0, 1) := by decide +kernel
theorem dX1_passHalfDay_1 : decode cX1_passHalfDay 1 = .ok (.aload_n 0, 1) := by decide +kernel
theorem dX1_passHalfDay_2 : decode cX1_passHalfDay 2 = .ok (.getfield 49, 3) := by decide +kernel
theorem dX1_passHalfDay_5 : decode cX1_passHalfDay 5 = .ok (.invokevirtual 125, 3) := by decide +kernel
theorem dX1_passHalfDay_8 : decode cX1_passHalfDay 8 = .ok (.iconst 0, 1) := by decide +kernel
theorem dX1_passHalfDay_9 : decode cX1_passHalfDay 9 = .ok (.istore_n 1, 1) := by decide +kernel
theorem dX1_passHalfDay_10 : decode cX1_passHalfDay 10 = .ok (.iconst 0, 1) := by decide +kernel
theorem dX1_passHalfDay_11 : decode cX1_passHalfDay 11 = .ok (.istore_n 2, 1) := by decide +kernel
theorem dX1_passHalfDay_12 : decode cX1_passHalfDay 12 = .ok (.iload_n 2, 1) := by decide +kernel
theorem dX1_passHalfDay_13 : decode cX1_passHalfDay 13 = .ok (.aload_n 0, 1) := by decide +kernel
theorem dX1_passHalfDay_14 : decode cX1_passHalfDay 14 = .ok (.getfield 23, 3) := by decide +kernel
theorem dX1_passHalfDay_17 : decode cX1_passHalfDay 17 = .ok (.invokevirtual 66, 3) := by decide +kernel
theorem dX1_passHalfDay_20 : decode cX1_passHalfDay 20 = .ok (.if_icmp .ge 60, 3) := by decide +kernel
theorem dX1_passHalfDay_23 : decode cX1_passHalfDay 23 = .ok (.aload_n 0, 1) := by decide +kernel
theorem dX1_passHalfDay_24 : decode cX1_passHalfDay 24 = .ok (.iload_n 2, 1) := by decide +kernel
theorem dX1_passHalfDay_25 : decode cX1_passHalfDay 25 = .ok (.invokevirtual 128, 3) := by decide +kernel
theorem dX1_passHalfDay_28 : decode cX1_passHalfDay 28 = .ok (.ifCond .eq 46, 3) := by decide +kernel
theorem dX1_passHalfDay_31 : decode cX1_passHalfDay 31 = .ok (.aload_n 0, 1) := by decide +kernel
theorem dX1_passHalfDay_32 : decode cX1_passHalfDay 32 = .ok (.getfield 23, 3) := by decide +kernel
theorem dX1_passHalfDay_35 : decode cX1_passHalfDay 35 = .ok (.iload_n 2, 1) := by decide +kernel
theorem dX1_passHalfDay_36 : decode cX1_passHalfDay 36 = .ok (.iconst 2, 1) := by decide +kernel
theorem dX1_passHalfDay_37 : decode cX1_passHalfDay 37 = .ok (.invokevirtual 70, 3) := by decide +kernel
theorem dX1_passHalfDay_40 : decode cX1_passHalfDay 40 = .ok (.aload_n 0, 1) := by decide +kernel
theorem dX1_passHalfDay_41 : decode cX1_passHalfDay 41 = .ok (.getfield 49, 3) := by decide +kernel
theorem dX1_passHalfDay_44 : decode cX1_passHalfDay 44 = .ok (.if_icmp .eq 6, 3) := by decide +kernel
theorem dX1_passHalfDay_47 : decode cX1_passHalfDay 47 = .ok (.goto 27, 3) := by decide +kernel
theorem dX1_passHalfDay_50 : decode cX1_passHalfDay 50 = .ok (.aload_n 0, 1) := by decide +kernel
theorem dX1_passHalfDay_51 : decode cX1_passHalfDay 51 = .ok (.iload_n 2, 1) := by decide +kernel
theorem dX1_passHalfDay_52 : decode cX1_passHalfDay 52 = .ok (.invokevirtual 131, 3) := by decide +kernel
theorem dX1_passHalfDay_55 : decode cX1_passHalfDay 55 = .ok (.ifCond .eq 11, 3) := by decide +kernel
theorem dX1_passHalfDay_58 : decode cX1_passHalfDay 58 = .ok (.aload_n 0, 1) := by decide +kernel
theorem dX1_passHalfDay_59 : decode cX1_passHalfDay 59 = .ok (.iload_n 2, 1) := by decide +kernel
theorem dX1_passHalfDay_60 : decode cX1_passHalfDay 60 = .ok (.invokevirtual 134, 3) := by decide +kernel
theorem dX1_passHalfDay_63 : decode cX1_passHalfDay 63 = .ok (.goto 11, 3) := by decide +kernel
theorem dX1_passHalfDay_66 : decode cX1_passHalfDay 66 = .ok (.aload_n 0, 1) := by decide +kernel
theorem dX1_passHalfDay_67 : decode cX1_passHalfDay 67 = .ok (.iload_n 2, 1) := by decide +kernel
theorem dX1_passHalfDay_68 : decode cX1_passHalfDay 68 = .ok (.invokevirtual 137, 3) := by decide +kernel
theorem dX1_passHalfDay_71 : decode cX1_passHalfDay 71 = .ok (.iinc 1 1, 3) := by decide +kernel
theorem dX1_passHalfDay_74 : decode cX1_passHalfDay 74 = .ok (.iinc 2 1, 3) := by decide +kernel
theorem dX1_passHalfDay_77 : decode cX1_passHalfDay 77 = .ok (.goto (-65), 3) := by decide +kernel
theorem dX1_passHalfDay_80 : decode cX1_passHalfDay 80 = .ok (.aload_n 0, 1) := by decide +kernel
theorem dX1_passHalfDay_81 : decode cX1_passHalfDay 81 = .ok (.dup, 1) := by decide +kernel
theorem dX1_passHalfDay_82 : decode cX1_passHalfDay 82 = .ok (.getfield 49, 3) := by decide +kernel
theorem dX1_passHalfDay_85 : decode cX1_passHalfDay 85 = .ok (.iconst 1, 1) := by decide +kernel
theorem dX1_passHalfDay_86 : decode cX1_passHalfDay 86 = .ok (.iadd, 1) := by decide +kernel
theorem dX1_passHalfDay_87 : decode cX1_passHalfDay 87 = .ok (.putfield 49, 3) := by decide +kernel
theorem dX1_passHalfDay_90 : decode cX1_passHalfDay 90 = .ok (.iload_n 1, 1) := by decide +kernel
theorem dX1_passHalfDay_91 : decode cX1_passHalfDay 91 = .ok (.ireturn, 1) := by decide +kernel
theorem dX1_lift_0 : decode cX1_lift 0 = .ok (.aload_n 0, 1) := by decide +kernel
theorem dX1_lift_1 : decode cX1_lift 1 = .ok (.getfield 23, 3) := by decide +kernel
theorem dX1_lift_4 : decode cX1_lift 4 = .ok (.iload_n 1, 1) := by decide +kernel
theorem dX1_lift_5 : decode cX1_lift 5 = .ok (.iconst 5, 1) := by decide +kernel
theorem dX1_lift_6 : decode cX1_lift 6 = .ok (.iconst 1, 1) := by decide +kernel
theorem dX1_lift_7 : decode cX1_lift 7 = .ok (.invokevirtual 82, 3) := by decide +kernel
theorem dX1_lift_10 : decode cX1_lift 10 = .ok (.aload_n 0, 1) := by decide +kernel
theorem dX1_lift_11 : decode cX1_lift 11 = .ok (.aload_n 0, 1) := by decide +kernel
theorem dX1_lift_12 : decode cX1_lift 12 = .ok (.getfield 23, 3) := by decide +kernel
theorem dX1_lift_15 : decode cX1_lift 15 = .ok (.iload_n 1, 1) := by decide +kernel
theorem dX1_lift_16 : decode cX1_lift 16 = .ok (.iconst 0, 1) := by decide +kernel
theorem dX1_lift_17 : decode cX1_lift 17 = .ok (.invokevirtual 70, 3) := by decide +kernel
theorem dX1_lift_20 : decode cX1_lift 20 = .ok (.bipush 30, 2) := by decide +kernel
theorem dX1_lift_22 : decode cX1_lift 22 = .ok (.invokevirtual 122, 3) := by decide +kernel
theorem dX1_lift_25 : decode cX1_lift 25 = .ok (.return_, 1) := by decide +kernel
theorem dX1_standBy_0 : decode cX1_standBy 0 = .ok (.aload_n 0, 1) := by decide +kernel
theorem dX1_standBy_1 : decode cX1_standBy 1 = .ok (.iload_n 1, 1) := by decide +kernel
theorem dX1_standBy_2 : decode cX1_standBy 2 = .ok (.invokevirtual 140, 3) := by decide +kernel
theorem dX1_standBy_5 : decode cX1_standBy 5 = .ok (.istore_n 2, 1) := by decide +kernel
theorem dX1_standBy_6 : decode cX1_standBy 6 = .ok (.iload_n 2, 1) := by decide +kernel
theorem dX1_standBy_7 : decode cX1_standBy 7 = .ok (.bipush (-5), 2) := by decide +kernel
theorem dX1_standBy_9 : decode cX1_standBy 9 = .ok (.if_icmp .ne 16, 3) := by decide +kernel
theorem dX1_standBy_12 : decode cX1_standBy 12 = .ok (.aload_n 0, 1) := by decide +kernel
theorem dX1_standBy_13 : decode cX1_standBy 13 = .ok (.dup, 1) := by decide +kernel
theorem dX1_standBy_14 : decode cX1_standBy 14 = .ok (.getfield 59, 3) := by decide +kernel
theorem dX1_standBy_17 : decode cX1_standBy 17 = .ok (.iconst 1, 1) := by decide +kernel
theorem dX1_standBy_18 : decode cX1_standBy 18 = .ok (.iadd, 1) := by decide +kernel
theorem dX1_standBy_19 : decode cX1_standBy 19 = .ok (.putfield 59, 3) := by decide +kernel
theorem dX1_standBy_22 : decode cX1_standBy 22 = .ok (.goto 20, 3) := by decide +kernel
theorem dX1_standBy_25 : decode cX1_standBy 25 = .ok (.aload_n 0, 1) := by decide +kernel
theorem dX1_standBy_26 : decode cX1_standBy 26 = .ok (.getfield 20, 3) := by decide +kernel
theorem dX1_standBy_29 : decode cX1_standBy 29 = .ok (.iload_n 2, 1) := by decide +kernel
theorem dX1_standBy_30 : decode cX1_standBy 30 = .ok (.iconst 1, 1) := by decide +kernel
theorem dX1_standBy_31 : decode cX1_standBy 31 = .ok (.iconst 1, 1) := by decide +kernel
theorem dX1_standBy_32 : decode cX1_standBy 32 = .ok (.invokevirtual 95, 3) := by decide +kernel
theorem dX1_standBy_35 : decode cX1_standBy 35 = .ok (.aload_n 0, 1) := by decide +kernel
theorem dX1_standBy_36 : decode cX1_standBy 36 = .ok (.iload_n 2, 1) := by decide +kernel
theorem dX1_standBy_37 : decode cX1_standBy 37 = .ok (.bipush 8, 2) := by decide +kernel
theorem dX1_standBy_39 : decode cX1_standBy 39 = .ok (.invokevirtual 122, 3) := by decide +kernel
theorem dX1_standBy_42 : decode cX1_standBy 42 = .ok (.aload_n 0, 1) := by decide +kernel
theorem dX1_standBy_43 : decode cX1_standBy 43 = .ok (.getfield 23, 3) := by decide +kernel
theorem dX1_standBy_46 : decode cX1_standBy 46 = .ok (.iload_n 1, 1) := by decide +kernel
theorem dX1_standBy_47 : decode cX1_standBy 47 = .ok (.bipush 7, 2) := by decide +kernel
theorem dX1_standBy_49 : decode cX1_standBy 49 = .ok (.iconst 1, 1) := by decide +kernel
theorem dX1_standBy_50 : decode cX1_standBy 50 = .ok (.invokevirtual 95, 3) := by decide +kernel
theorem dX1_standBy_53 : decode cX1_standBy 53 = .ok (.aload_n 0, 1) := by decide +kernel
theorem dX1_standBy_54 : decode cX1_standBy 54 = .ok (.iload_n 1, 1) := by decide +kernel
theorem dX1_standBy_55 : decode cX1_standBy 55 = .ok (.invokevirtual 143, 3) := by decide +kernel
theorem dX1_standBy_58 : decode cX1_standBy 58 = .ok (.return_, 1) := by decide +kernel
theorem dX1_carryOver_0 : decode cX1_carryOver 0 = .ok (.aload_n 0, 1) := by decide +kernel
theorem dX1_carryOver_1 : decode cX1_carryOver 1 = .ok (.getfield 23, 3) := by decide +kernel
theorem dX1_carryOver_4 : decode cX1_carryOver 4 = .ok (.iload_n 1, 1) := by decide +kernel
theorem dX1_carryOver_5 : decode cX1_carryOver 5 = .ok (.iconst 1, 1) := by decide +kernel
theorem dX1_carryOver_6 : decode cX1_carryOver 6 = .ok (.invokevirtual 70, 3) := by decide +kernel
theorem dX1_carryOver_9 : decode cX1_carryOver 9 = .ok (.istore_n 2, 1) := by decide +kernel
theorem dX1_carryOver_10 : decode cX1_carryOver 10 = .ok (.aload_n 0, 1) := by decide +kernel
theorem dX1_carryOver_11 : decode cX1_carryOver 11 = .ok (.getfield 49, 3) := by decide +kernel
theorem dX1_carryOver_14 : decode cX1_carryOver 14 = .ok (.bipush 9, 2) := by decide +kernel
theorem dX1_carryOver_16 : decode cX1_carryOver 16 = .ok (.iadd, 1) := by decide +kernel
theorem dX1_carryOver_17 : decode cX1_carryOver 17 = .ok (.sipush 199, 3) := by decide +kernel
theorem dX1_carryOver_20 : decode cX1_carryOver 20 = .ok (.invokestatic 37, 3) := by decide +kernel
theorem dX1_carryOver_23 : decode cX1_carryOver 23 = .ok (.istore_n 3, 1) := by decide +kernel
theorem dX1_carryOver_24 : decode cX1_carryOver 24 = .ok (.aload_n 0, 1) := by decide +kernel
theorem dX1_carryOver_25 : decode cX1_carryOver 25 = .ok (.getfield 49, 3) := by decide +kernel
theorem dX1_carryOver_28 : decode cX1_carryOver 28 = .ok (.iconst 1, 1) := by decide +kernel
theorem dX1_carryOver_29 : decode cX1_carryOver 29 = .ok (.iadd, 1) := by decide +kernel
theorem dX1_carryOver_30 : decode cX1_carryOver 30 = .ok (.istore 4, 2) := by decide +kernel
theorem dX1_carryOver_32 : decode cX1_carryOver 32 = .ok (.iload 4, 2) := by decide +kernel
theorem dX1_carryOver_34 : decode cX1_carryOver 34 = .ok (.iload_n 3, 1) := by decide +kernel
theorem dX1_carryOver_35 : decode cX1_carryOver 35 = .ok (.if_icmp .gt 30, 3) := by decide +kernel
theorem dX1_carryOver_38 : decode cX1_carryOver 38 = .ok (.aload_n 0, 1) := by decide +kernel
theorem dX1_carryOver_39 : decode cX1_carryOver 39 = .ok (.iload_n 2, 1) := by decide +kernel
theorem dX1_carryOver_40 : decode cX1_carryOver 40 = .ok (.iload 4, 2) := by decide +kernel
theorem dX1_carryOver_42 : decode cX1_carryOver 42 = .ok (.invokevirtual 92, 3) := by decide +kernel
theorem dX1_carryOver_45 : decode cX1_carryOver 45 = .ok (.bipush (-5), 2) := by decide +kernel
theorem dX1_carryOver_47 : decode cX1_carryOver 47 = .ok (.if_icmp .ne 12, 3) := by decide +kernel
theorem dX1_carryOver_50 : decode cX1_carryOver 50 = .ok (.aload_n 0, 1) := by decide +kernel
theorem dX1_carryOver_51 : decode cX1_carryOver 51 = .ok (.iload_n 1, 1) := by decide +kernel
theorem dX1_carryOver_52 : decode cX1_carryOver 52 = .ok (.iload_n 2, 1) := by decide +kernel
theorem dX1_carryOver_53 : decode cX1_carryOver 53 = .ok (.iload 4, 2) := by decide +kernel
theorem dX1_carryOver_55 : decode cX1_carryOver 55 = .ok (.invokevirtual 146, 3) := by decide +kernel
theorem dX1_carryOver_58 : decode cX1_carryOver 58 = .ok (.return_, 1) := by decide +kernel
theorem dX1_carryOver_59 : decode cX1_carryOver 59 = .ok (.iinc 4 1, 3) := by decide +kernel
theorem dX1_carryOver_62 : decode cX1_carryOver 62 = .ok (.goto (-30), 3) := by decide +kernel
theorem dX1_carryOver_65 : decode cX1_carryOver 65 = .ok (.aload_n 0, 1) := by decide +kernel
theorem dX1_carryOver_66 : decode cX1_carryOver 66 = .ok (.getfield 23, 3) := by decide +kernel
theorem dX1_carryOver_69 : decode cX1_carryOver 69 = .ok (.iload_n 1, 1) := by decide +kernel
theorem dX1_carryOver_70 : decode cX1_carryOver 70 = .ok (.iconst 5, 1) := by decide +kernel
theorem dX1_carryOver_71 : decode cX1_carryOver 71 = .ok (.iconst 2, 1) := by decide +kernel
theorem dX1_carryOver_72 : decode cX1_carryOver 72 = .ok (.invokevirtual 82, 3) := by decide +kernel
theorem dX1_carryOver_75 : decode cX1_carryOver 75 = .ok (.return_, 1) := by decide +kernel
theorem dX2_init_0 : decode cX2_init 0 = .ok (.aload_n 0, 1) := by decide +kernel
theorem dX2_init_1 : decode cX2_init 1 = .ok (.invokespecial 3, 3) := by decide +kernel
theorem dX2_init_4 : decode cX2_init 4 = .ok (.aload_n 0, 1) := by decide +kernel
theorem dX2_init_5 : decode cX2_init 5 = .ok (.iload_n 1, 1) := by decide +kernel
theorem dX2_init_6 : decode cX2_init 6 = .ok (.putfield 9, 3) := by decide +kernel
theorem dX2_init_9 : decode cX2_init 9 = .ok (.aload_n 0, 1) := by decide +kernel
theorem dX2_init_10 : decode cX2_init 10 = .ok (.iload_n 2, 1) := by decide +kernel
theorem dX2_init_11 : decode cX2_init 11 = .ok (.putfield 15, 3) := by decide +kernel
theorem dX2_init_14 : decode cX2_init 14 = .ok (.aload_n 0, 1) := by decide +kernel
theorem dX2_init_15 : decode cX2_init 15 = .ok (.iload_n 1, 1) := by decide +kernel
theorem dX2_init_16 : decode cX2_init 16 = .ok (.iload_n 2, 1) := by decide +kernel
theorem dX2_init_17 : decode cX2_init 17 = .ok (.imul, 1) := by decide +kernel
theorem dX2_init_18 : decode cX2_init 18 = .ok (.iconst 0, 1) := by decide +kernel
theorem dX2_init_19 : decode cX2_init 19 = .ok (.invokestatic 18, 3) := by decide +kernel
theorem dX2_init_22 : decode cX2_init 22 = .ok (.newarray .int, 2) := by decide +kernel
theorem dX2_init_24 : decode cX2_init 24 = .ok (.putfield 24, 3) := by decide +kernel
theorem dX2_init_27 : decode cX2_init 27 = .ok (.return_, 1) := by decide +kernel
theorem dX2_size_0 : decode cX2_size 0 = .ok (.aload_n 0, 1) := by decide +kernel
theorem dX2_size_1 : decode cX2_size 1 = .ok (.getfield 28, 3) := by decide +kernel
theorem dX2_size_4 : decode cX2_size 4 = .ok (.ireturn, 1) := by decide +kernel
theorem dX2_has_0 : decode cX2_has 0 = .ok (.iload_n 1, 1) := by decide +kernel
theorem dX2_has_1 : decode cX2_has 1 = .ok (.ifCond .lt 15, 3) := by decide +kernel
theorem dX2_has_4 : decode cX2_has 4 = .ok (.iload_n 1, 1) := by decide +kernel
theorem dX2_has_5 : decode cX2_has 5 = .ok (.aload_n 0, 1) := by decide +kernel
theorem dX2_has_6 : decode cX2_has 6 = .ok (.getfield 28, 3) := by decide +kernel
theorem dX2_has_9 : decode cX2_has 9 = .ok (.if_icmp .ge 7, 3) := by decide +kernel
theorem dX2_has_12 : decode cX2_has 12 = .ok (.iconst 1, 1) := by decide +kernel
theorem dX2_has_13 : decode cX2_has 13 = .ok (.goto 4, 3) := by decide +kernel
theorem dX2_has_16 : decode cX2_has 16 = .ok (.iconst 0, 1) := by decide +kernel
theorem dX2_has_17 : decode cX2_has 17 = .ok (.ireturn, 1) := by decide +kernel
theorem dX2_isFull_0 : decode cX2_isFull 0 = .ok (.aload_n 0, 1) := by decide +kernel
theorem dX2_isFull_1 : decode cX2_isFull 1 = .ok (.getfield 28, 3) := by decide +kernel
theorem dX2_isFull_4 : decode cX2_isFull 4 = .ok (.aload_n 0, 1) := by decide +kernel
theorem dX2_isFull_5 : decode cX2_isFull 5 = .ok (.getfield 9, 3) := by decide +kernel
theorem dX2_isFull_8 : decode cX2_isFull 8 = .ok (.if_icmp .lt 7, 3) := by decide +kernel
theorem dX2_isFull_11 : decode cX2_isFull 11 = .ok (.iconst 1, 1) := by decide +kernel
theorem dX2_isFull_12 : decode cX2_isFull 12 = .ok (.goto 4, 3) := by decide +kernel
theorem dX2_isFull_15 : decode cX2_isFull 15 = .ok (.iconst 0, 1) := by decide +kernel
theorem dX2_isFull_16 : decode cX2_isFull 16 = .ok (.ireturn, 1) := by decide +kernel
theorem dX2_get_0 : decode cX2_get 0 = .ok (.iload_n 1, 1) := by decide +kernel
theorem dX2_get_1 : decode cX2_get 1 = .ok (.aload_n 0, 1) := by decide +kernel
theorem dX2_get_2 : decode cX2_get 2 = .ok (.getfield 15, 3) := by decide +kernel
theorem dX2_get_5 : decode cX2_get 5 = .ok (.imul, 1) := by decide +kernel
theorem dX2_get_6 : decode cX2_get 6 = .ok (.iload_n 2, 1) := by decide +kernel
theorem dX2_get_7 : decode cX2_get 7 = .ok (.iadd, 1) := by decide +kernel
theorem dX2_get_8 : decode cX2_get 8 = .ok (.istore_n 3, 1) := by decide +kernel
theorem dX2_get_9 : decode cX2_get 9 = .ok (.iload_n 1, 1) := by decide +kernel
theorem dX2_get_10 : decode cX2_get 10 = .ok (.ifCond .lt 36, 3) := by decide +kernel
theorem dX2_get_13 : decode cX2_get 13 = .ok (.iload_n 1, 1) := by decide +kernel
theorem dX2_get_14 : decode cX2_get 14 = .ok (.aload_n 0, 1) := by decide +kernel
theorem dX2_get_15 : decode cX2_get 15 = .ok (.getfield 28, 3) := by decide +kernel
theorem dX2_get_18 : decode cX2_get 18 = .ok (.if_icmp .ge 28, 3) := by decide +kernel
theorem dX2_get_21 : decode cX2_get 21 = .ok (.iload_n 2, 1) := by decide +kernel
theorem dX2_get_22 : decode cX2_get 22 = .ok (.ifCond .lt 24, 3) := by decide +kernel
theorem dX2_get_25 : decode cX2_get 25 = .ok (.iload_n 2, 1) := by decide +kernel
theorem dX2_get_26 : decode cX2_get 26 = .ok (.aload_n 0, 1) := by decide +kernel
theorem dX2_get_27 : decode cX2_get 27 = .ok (.getfield 15, 3) := by decide +kernel
theorem dX2_get_30 : decode cX2_get 30 = .ok (.if_icmp .ge 16, 3) := by decide +kernel
theorem dX2_get_33 : decode cX2_get 33 = .ok (.iload_n 3, 1) := by decide +kernel
theorem dX2_get_34 : decode cX2_get 34 = .ok (.ifCond .lt 12, 3) := by decide +kernel
theorem dX2_get_37 : decode cX2_get 37 = .ok (.iload_n 3, 1) := by decide +kernel
theorem dX2_get_38 : decode cX2_get 38 = .ok (.aload_n 0, 1) := by decide +kernel
theorem dX2_get_39 : decode cX2_get 39 = .ok (.getfield 24, 3) := by decide +kernel
theorem dX2_get_42 : decode cX2_get 42 = .ok (.arraylength, 1) := by decide +kernel
theorem dX2_get_43 : decode cX2_get 43 = .ok (.if_icmp .lt 5, 3) := by decide +kernel
theorem dX2_get_46 : decode cX2_get 46 = .ok (.iconst 0, 1) := by decide +kernel
theorem dX2_get_47 : decode cX2_get 47 = .ok (.ireturn, 1) := by decide +kernel
theorem dX2_get_48 : decode cX2_get 48 = .ok (.aload_n 0, 1) := by decide +kernel
theorem dX2_get_49 : decode cX2_get 49 = .ok (.getfield 24, 3) := by decide +kernel
theorem dX2_get_52 : decode cX2_get 52 = .ok (.iload_n 3, 1) := by decide +kernel
theorem dX2_get_53 : decode cX2_get 53 = .ok (.iaload, 1) := by decide +kernel
theorem dX2_get_54 : decode cX2_get 54 = .ok (.ireturn, 1) := by decide +kernel
theorem dX2_set_0 : decode cX2_set 0 = .ok (.iload_n 1, 1) := by decide +kernel
theorem dX2_set_1 : decode cX2_set 1 = .ok (.aload_n 0, 1) := by decide +kernel
theorem dX2_set_2 : decode cX2_set 2 = .ok (.getfield 15, 3) := by decide +kernel
theorem dX2_set_5 : decode cX2_set 5 = .ok (.imul, 1) := by decide +kernel
theorem dX2_set_6 : decode cX2_set 6 = .ok (.iload_n 2, 1) := by decide +kernel
theorem dX2_set_7 : decode cX2_set 7 = .ok (.iadd, 1) := by decide +kernel
theorem dX2_set_8 : decode cX2_set 8 = .ok (.istore 4, 2) := by decide +kernel
theorem dX2_set_10 : decode cX2_set 10 = .ok (.iload_n 1, 1) := by decide +kernel
theorem dX2_set_11 : decode cX2_set 11 = .ok (.ifCond .lt 38, 3) := by decide +kernel
theorem dX2_set_14 : decode cX2_set 14 = .ok (.iload_n 1, 1) := by decide +kernel
theorem dX2_set_15 : decode cX2_set 15 = .ok (.aload_n 0, 1) := by decide +kernel
theorem dX2_set_16 : decode cX2_set 16 = .ok (.getfield 28, 3) := by decide +kernel
theorem dX2_set_19 : decode cX2_set 19 = .ok (.if_icmp .ge 30, 3) := by decide +kernel
theorem dX2_set_22 : decode cX2_set 22 = .ok (.iload_n 2, 1) := by decide +kernel
theorem dX2_set_23 : decode cX2_set 23 = .ok (.ifCond .lt 26, 3) := by decide +kernel
theorem dX2_set_26 : decode cX2_set 26 = .ok (.iload_n 2, 1) := by decide +kernel
theorem dX2_set_27 : decode cX2_set 27 = .ok (.aload_n 0, 1) := by decide +kernel
theorem dX2_set_28 : decode cX2_set 28 = .ok (.getfield 15, 3) := by decide +kernel
theorem dX2_set_31 : decode cX2_set 31 = .ok (.if_icmp .ge 18, 3) := by decide +kernel
theorem dX2_set_34 : decode cX2_set 34 = .ok (.iload 4, 2) := by decide +kernel
theorem dX2_set_36 : decode cX2_set 36 = .ok (.ifCond .lt 13, 3) := by decide +kernel
theorem dX2_set_39 : decode cX2_set 39 = .ok (.iload 4, 2) := by decide +kernel
theorem dX2_set_41 : decode cX2_set 41 = .ok (.aload_n 0, 1) := by decide +kernel
theorem dX2_set_42 : decode cX2_set 42 = .ok (.getfield 24, 3) := by decide +kernel
theorem dX2_set_45 : decode cX2_set 45 = .ok (.arraylength, 1) := by decide +kernel
theorem dX2_set_46 : decode cX2_set 46 = .ok (.if_icmp .lt 4, 3) := by decide +kernel
theorem dX2_set_49 : decode cX2_set 49 = .ok (.return_, 1) := by decide +kernel
theorem dX2_set_50 : decode cX2_set 50 = .ok (.aload_n 0, 1) := by decide +kernel
theorem dX2_set_51 : decode cX2_set 51 = .ok (.getfield 24, 3) := by decide +kernel
theorem dX2_set_54 : decode cX2_set 54 = .ok (.iload 4, 2) := by decide +kernel
theorem dX2_set_56 : decode cX2_set 56 = .ok (.iload_n 3, 1) := by decide +kernel
theorem dX2_set_57 : decode cX2_set 57 = .ok (.iastore, 1) := by decide +kernel
theorem dX2_set_58 : decode cX2_set 58 = .ok (.return_, 1) := by decide +kernel
theorem dX2_increase_0 : decode cX2_increase 0 = .ok (.aload_n 0, 1) := by decide +kernel
theorem dX2_increase_1 : decode cX2_increase 1 = .ok (.iload_n 1, 1) := by decide +kernel
theorem dX2_increase_2 : decode cX2_increase 2 = .ok (.iload_n 2, 1) := by decide +kernel
theorem dX2_increase_3 : decode cX2_increase 3 = .ok (.aload_n 0, 1) := by decide +kernel
theorem dX2_increase_4 : decode cX2_increase 4 = .ok (.iload_n 1, 1) := by decide +kernel
theorem dX2_increase_5 : decode cX2_increase 5 = .ok (.iload_n 2, 1) := by decide +kernel
theorem dX2_increase_6 : decode cX2_increase 6 = .ok (.invokevirtual 31, 3) := by decide +kernel
theorem dX2_increase_9 : decode cX2_increase 9 = .ok (.iload_n 3, 1) := by decide +kernel
theorem dX2_increase_10 : decode cX2_increase 10 = .ok (.iadd, 1) := by decide +kernel
theorem dX2_increase_11 : decode cX2_increase 11 = .ok (.invokevirtual 34, 3) := by decide +kernel
theorem dX2_increase_14 : decode cX2_increase 14 = .ok (.return_, 1) := by decide +kernel
theorem dX2_addRow_0 : decode cX2_addRow 0 = .ok (.aload_n 0, 1) := by decide +kernel
theorem dX2_addRow_1 : decode cX2_addRow 1 = .ok (.invokevirtual 38, 3) := by decide +kernel
theorem dX2_addRow_4 : decode cX2_addRow 4 = .ok (.ifCond .eq 6, 3) := by decide +kernel
theorem dX2_addRow_7 : decode cX2_addRow 7 = .ok (.bipush (-3), 2) := by decide +kernel
theorem dX2_addRow_9 : decode cX2_addRow 9 = .ok (.ireturn, 1) := by decide +kernel
theorem dX2_addRow_10 : decode cX2_addRow 10 = .ok (.aload_n 0, 1) := by decide +kernel
theorem dX2_addRow_11 : decode cX2_addRow 11 = .ok (.getfield 28, 3) := by decide +kernel
theorem dX2_addRow_14 : decode cX2_addRow 14 = .ok (.istore_n 1, 1) := by decide +kernel
theorem dX2_addRow_15 : decode cX2_addRow 15 = .ok (.aload_n 0, 1) := by decide +kernel
theorem dX2_addRow_16 : decode cX2_addRow 16 = .ok (.dup, 1) := by decide +kernel
theorem dX2_addRow_17 : decode cX2_addRow 17 = .ok (.getfield 28, 3) := by decide +kernel
theorem dX2_addRow_20 : decode cX2_addRow 20 = .ok (.iconst 1, 1) := by decide +kernel
theorem dX2_addRow_21 : decode cX2_addRow 21 = .ok (.iadd, 1) := by decide +kernel
theorem dX2_addRow_22 : decode cX2_addRow 22 = .ok (.putfield 28, 3) := by decide +kernel
theorem dX2_addRow_25 : decode cX2_addRow 25 = .ok (.iconst 0, 1) := by decide +kernel
theorem dX2_addRow_26 : decode cX2_addRow 26 = .ok (.istore_n 2, 1) := by decide +kernel
theorem dX2_addRow_27 : decode cX2_addRow 27 = .ok (.iload_n 2, 1) := by decide +kernel
theorem dX2_addRow_28 : decode cX2_addRow 28 = .ok (.aload_n 0, 1) := by decide +kernel
theorem dX2_addRow_29 : decode cX2_addRow 29 = .ok (.getfield 15, 3) := by decide +kernel
theorem dX2_addRow_32 : decode cX2_addRow 32 = .ok (.if_icmp .ge 16, 3) := by decide +kernel
theorem dX2_addRow_35 : decode cX2_addRow 35 = .ok (.aload_n 0, 1) := by decide +kernel
theorem dX2_addRow_36 : decode cX2_addRow 36 = .ok (.iload_n 1, 1) := by decide +kernel
theorem dX2_addRow_37 : decode cX2_addRow 37 = .ok (.iload_n 2, 1) := by decide +kernel
theorem dX2_addRow_38 : decode cX2_addRow 38 = .ok (.iconst 0, 1) := by decide +kernel
theorem dX2_addRow_39 : decode cX2_addRow 39 = .ok (.invokevirtual 34, 3) := by decide +kernel
theorem dX2_addRow_42 : decode cX2_addRow 42 = .ok (.iinc 2 1, 3) := by decide +kernel
theorem dX2_addRow_45 : decode cX2_addRow 45 = .ok (.goto (-18), 3) := by decide +kernel
theorem dX2_addRow_48 : decode cX2_addRow 48 = .ok (.iload_n 1, 1) := by decide +kernel
theorem dX2_addRow_49 : decode cX2_addRow 49 = .ok (.ireturn, 1) := by decide +kernel
theorem dX2_removeRow_0 : decode cX2_removeRow 0 = .ok (.aload_n 0, 1) := by decide +kernel
theorem dX2_removeRow_1 : decode cX2_removeRow 1 = .ok (.iload_n 1, 1) := by decide +kernel
theorem dX2_removeRow_2 : decode cX2_removeRow 2 = .ok (.invokevirtual 42, 3) := by decide +kernel
theorem dX2_removeRow_5 : decode cX2_removeRow 5 = .ok (.ifCond .ne 4, 3) := by decide +kernel
theorem dX2_removeRow_8 : decode cX2_removeRow 8 = .ok (.return_, 1) := by decide +kernel
theorem dX2_removeRow_9 : decode cX2_removeRow 9 = .ok (.iload_n 1, 1) := by decide +kernel
theorem dX2_removeRow_10 : decode cX2_removeRow 10 = .ok (.iconst 1, 1) := by decide +kernel
theorem dX2_removeRow_11 : decode cX2_removeRow 11 = .ok (.iadd, 1) := by decide +kernel
theorem dX2_removeRow_12 : decode cX2_removeRow 12 = .ok (.istore_n 2, 1) := by decide +kernel
theorem dX2_removeRow_13 : decode cX2_removeRow 13 = .ok (.iload_n 2, 1) := by decide +kernel
theorem dX2_removeRow_14 : decode cX2_removeRow 14 = .ok (.aload_n 0, 1) := by decide +kernel
theorem dX2_removeRow_15 : decode cX2_removeRow 15 = .ok (.getfield 28, 3) := by decide +kernel
theorem dX2_removeRow_18 : decode cX2_removeRow 18 = .ok (.if_icmp .ge 39, 3) := by decide +kernel
theorem dX2_removeRow_21 : decode cX2_removeRow 21 = .ok (.iconst 0, 1) := by decide +kernel
theorem dX2_removeRow_22 : decode cX2_removeRow 22 = .ok (.istore_n 3, 1) := by decide +kernel
theorem dX2_removeRow_23 : decode cX2_removeRow 23 = .ok (.iload_n 3, 1) := by decide +kernel
theorem dX2_removeRow_24 : decode cX2_removeRow 24 = .ok (.aload_n 0, 1) := by decide +kernel
theorem dX2_removeRow_25 : decode cX2_removeRow 25 = .ok (.getfield 15, 3) := by decide +kernel
theorem dX2_removeRow_28 : decode cX2_removeRow 28 = .ok (.if_icmp .ge 23, 3) := by decide +kernel
theorem dX2_removeRow_31 : decode cX2_removeRow 31 = .ok (.aload_n 0, 1) := by decide +kernel
theorem dX2_removeRow_32 : decode cX2_removeRow 32 = .ok (.iload_n 2, 1) := by decide +kernel
theorem dX2_removeRow_33 : decode cX2_removeRow 33 = .ok (.iconst 1, 1) := by decide +kernel
theorem dX2_removeRow_34 : decode cX2_removeRow 34 = .ok (.isub, 1) := by decide +kernel
theorem dX2_removeRow_35 : decode cX2_removeRow 35 = .ok (.iload_n 3, 1) := by decide +kernel
theorem dX2_removeRow_36 : decode cX2_removeRow 36 = .ok (.aload_n 0, 1) := by decide +kernel
theorem dX2_removeRow_37 : decode cX2_removeRow 37 = .ok (.iload_n 2, 1) := by decide +kernel
theorem dX2_removeRow_38 : decode cX2_removeRow 38 = .ok (.iload_n 3, 1) := by decide +kernel
theorem dX2_removeRow_39 : decode cX2_removeRow 39 = .ok (.invokevirtual 31, 3) := by decide +kernel
theorem dX2_removeRow_42 : decode cX2_removeRow 42 = .ok (.invokevirtual 34, 3) := by decide +kernel
theorem dX2_removeRow_45 : decode cX2_removeRow 45 = .ok (.iinc 3 1, 3) := by decide +kernel
theorem dX2_removeRow_48 : decode cX2_removeRow 48 = .ok (.goto (-25), 3) := by decide +kernel
theorem dX2_removeRow_51 : decode cX2_removeRow 51 = .ok (.iinc 2 1, 3) := by decide +kernel
theorem dX2_removeRow_54 : decode cX2_removeRow 54 = .ok (.goto (-41), 3) := by decide +kernel
theorem dX2_removeRow_57 : decode cX2_removeRow 57 = .ok (.aload_n 0, 1) := by decide +kernel
theorem dX2_removeRow_58 : decode cX2_removeRow 58 = .ok (.dup, 1) := by decide +kernel
theorem dX2_removeRow_59 : decode cX2_removeRow 59 = .ok (.getfield 28, 3) := by decide +kernel
theorem dX2_removeRow_62 : decode cX2_removeRow 62 = .ok (.iconst 1, 1) := by decide +kernel
theorem dX2_removeRow_63 : decode cX2_removeRow 63 = .ok (.isub, 1) := by decide +kernel
theorem dX2_removeRow_64 : decode cX2_removeRow 64 = .ok (.putfield 28, 3) := by decide +kernel
theorem dX2_removeRow_67 : decode cX2_removeRow 67 = .ok (.return_, 1) := by decide +kernel
theorem dX2_countOf_0 : decode cX2_countOf 0 = .ok (.iconst 0, 1) := by decide +kernel
theorem dX2_countOf_1 : decode cX2_countOf 1 = .ok (.istore_n 3, 1) := by decide +kernel
theorem dX2_countOf_2 : decode cX2_countOf 2 = .ok (.iconst 0, 1) := by decide +kernel
theorem dX2_countOf_3 : decode cX2_countOf 3 = .ok (.istore 4, 2) := by decide +kernel
theorem dX2_countOf_5 : decode cX2_countOf 5 = .ok (.iload 4, 2) := by decide +kernel
theorem dX2_countOf_7 : decode cX2_countOf 7 = .ok (.aload_n 0, 1) := by decide +kernel
theorem dX2_countOf_8 : decode cX2_countOf 8 = .ok (.getfield 28, 3) := by decide +kernel
theorem dX2_countOf_11 : decode cX2_countOf 11 = .ok (.if_icmp .ge 23, 3) := by decide +kernel
theorem dX2_countOf_14 : decode cX2_countOf 14 = .ok (.aload_n 0, 1) := by decide +kernel
theorem dX2_countOf_15 : decode cX2_countOf 15 = .ok (.iload 4, 2) := by decide +kernel
theorem dX2_countOf_17 : decode cX2_countOf 17 = .ok (.iload_n 1, 1) := by decide +kernel
theorem dX2_countOf_18 : decode cX2_countOf 18 = .ok (.invokevirtual 31, 3) := by decide +kernel
theorem dX2_countOf_21 : decode cX2_countOf 21 = .ok (.iload_n 2, 1) := by decide +kernel
theorem dX2_countOf_22 : decode cX2_countOf 22 = .ok (.if_icmp .ne 6, 3) := by decide +kernel
theorem dX2_countOf_25 : decode cX2_countOf 25 = .ok (.iinc 3 1, 3) := by decide +kernel
theorem dX2_countOf_28 : decode cX2_countOf 28 = .ok (.iinc 4 1, 3) := by decide +kernel
theorem dX2_countOf_31 : decode cX2_countOf 31 = .ok (.goto (-26), 3) := by decide +kernel
theorem dX2_countOf_34 : decode cX2_countOf 34 = .ok (.iload_n 3, 1) := by decide +kernel
theorem dX2_countOf_35 : decode cX2_countOf 35 = .ok (.ireturn, 1) := by decide +kernel
theorem dX2_countBoth_0 : decode cX2_countBoth 0 = .ok (.iconst 0, 1) := by decide +kernel
theorem dX2_countBoth_1 : decode cX2_countBoth 1 = .ok (.istore 5, 2) := by decide +kernel
theorem dX2_countBoth_3 : decode cX2_countBoth 3 = .ok (.iconst 0, 1) := by decide +kernel
theorem dX2_countBoth_4 : decode cX2_countBoth 4 = .ok (.istore 6, 2) := by decide +kernel
theorem dX2_countBoth_6 : decode cX2_countBoth 6 = .ok (.iload 6, 2) := by decide +kernel
theorem dX2_countBoth_8 : decode cX2_countBoth 8 = .ok (.aload_n 0, 1) := by decide +kernel
theorem dX2_countBoth_9 : decode cX2_countBoth 9 = .ok (.getfield 28, 3) := by decide +kernel
theorem dX2_countBoth_12 : decode cX2_countBoth 12 = .ok (.if_icmp .ge 35, 3) := by decide +kernel
theorem dX2_countBoth_15 : decode cX2_countBoth 15 = .ok (.aload_n 0, 1) := by decide +kernel
theorem dX2_countBoth_16 : decode cX2_countBoth 16 = .ok (.iload 6, 2) := by decide +kernel
theorem dX2_countBoth_18 : decode cX2_countBoth 18 = .ok (.iload_n 1, 1) := by decide +kernel
theorem dX2_countBoth_19 : decode cX2_countBoth 19 = .ok (.invokevirtual 31, 3) := by decide +kernel
theorem dX2_countBoth_22 : decode cX2_countBoth 22 = .ok (.iload_n 2, 1) := by decide +kernel
theorem dX2_countBoth_23 : decode cX2_countBoth 23 = .ok (.if_icmp .ne 18, 3) := by decide +kernel
theorem dX2_countBoth_26 : decode cX2_countBoth 26 = .ok (.aload_n 0, 1) := by decide +kernel
theorem dX2_countBoth_27 : decode cX2_countBoth 27 = .ok (.iload 6, 2) := by decide +kernel
theorem dX2_countBoth_29 : decode cX2_countBoth 29 = .ok (.iload_n 3, 1) := by decide +kernel
theorem dX2_countBoth_30 : decode cX2_countBoth 30 = .ok (.invokevirtual 31, 3) := by decide +kernel
theorem dX2_countBoth_33 : decode cX2_countBoth 33 = .ok (.iload 4, 2) := by decide +kernel
theorem dX2_countBoth_35 : decode cX2_countBoth 35 = .ok (.if_icmp .ne 6, 3) := by decide +kernel
theorem dX2_countBoth_38 : decode cX2_countBoth 38 = .ok (.iinc 5 1, 3) := by decide +kernel
theorem dX2_countBoth_41 : decode cX2_countBoth 41 = .ok (.iinc 6 1, 3) := by decide +kernel
theorem dX2_countBoth_44 : decode cX2_countBoth 44 = .ok (.goto (-38), 3) := by decide +kernel
theorem dX2_countBoth_47 : decode cX2_countBoth 47 = .ok (.iload 5, 2) := by decide +kernel
theorem dX2_countBoth_49 : decode cX2_countBoth 49 = .ok (.ireturn, 1) := by decide +kernel
theorem dX2_sumOf_0 : decode cX2_sumOf 0 = .ok (.iconst 0, 1) := by decide +kernel
theorem dX2_sumOf_1 : decode cX2_sumOf 1 = .ok (.istore_n 2, 1) := by decide +kernel
theorem dX2_sumOf_2 : decode cX2_sumOf 2 = .ok (.iconst 0, 1) := by decide +kernel
theorem dX2_sumOf_3 : decode cX2_sumOf 3 = .ok (.istore_n 3, 1) := by decide +kernel
theorem dX2_sumOf_4 : decode cX2_sumOf 4 = .ok (.iload_n 3, 1) := by decide +kernel
theorem dX2_sumOf_5 : decode cX2_sumOf 5 = .ok (.aload_n 0, 1) := by decide +kernel
theorem dX2_sumOf_6 : decode cX2_sumOf 6 = .ok (.getfield 28, 3) := by decide +kernel
theorem dX2_sumOf_9 : decode cX2_sumOf 9 = .ok (.if_icmp .ge 18, 3) := by decide +kernel
theorem dX2_sumOf_12 : decode cX2_sumOf 12 = .ok (.iload_n 2, 1) := by decide +kernel
theorem dX2_sumOf_13 : decode cX2_sumOf 13 = .ok (.aload_n 0, 1) := by decide +kernel
theorem dX2_sumOf_14 : decode cX2_sumOf 14 = .ok (.iload_n 3, 1) := by decide +kernel
theorem dX2_sumOf_15 : decode cX2_sumOf 15 = .ok (.iload_n 1, 1) := by decide +kernel
theorem dX2_sumOf_16 : decode cX2_sumOf 16 = .ok (.invokevirtual 31, 3) := by decide +kernel
theorem dX2_sumOf_19 : decode cX2_sumOf 19 = .ok (.iadd, 1) := by decide +kernel
theorem dX2_sumOf_20 : decode cX2_sumOf 20 = .ok (.istore_n 2, 1) := by decide +kernel
theorem dX2_sumOf_21 : decode cX2_sumOf 21 = .ok (.iinc 3 1, 3) := by decide +kernel
theorem dX2_sumOf_24 : decode cX2_sumOf 24 = .ok (.goto (-20), 3) := by decide +kernel
theorem dX2_sumOf_27 : decode cX2_sumOf 27 = .ok (.iload_n 2, 1) := by decide +kernel
theorem dX2_sumOf_28 : decode cX2_sumOf 28 = .ok (.ireturn, 1) := by decide +kernel
theorem dX2_copyFrom_0 : decode cX2_copyFrom 0 = .ok (.aload_n 0, 1) := by decide +kernel
theorem dX2_copyFrom_1 : decode cX2_copyFrom 1 = .ok (.aload_n 1, 1) := by decide +kernel
theorem dX2_copyFrom_2 : decode cX2_copyFrom 2 = .ok (.getfield 28, 3) := by decide +kernel
theorem dX2_copyFrom_5 : decode cX2_copyFrom 5 = .ok (.aload_n 0, 1) := by decide +kernel
theorem dX2_copyFrom_6 : decode cX2_copyFrom 6 = .ok (.getfield 9, 3) := by decide +kernel
theorem dX2_copyFrom_9 : decode cX2_copyFrom 9 = .ok (.invokestatic 46, 3) := by decide +kernel
theorem dX2_copyFrom_12 : decode cX2_copyFrom 12 = .ok (.putfield 28, 3) := by decide +kernel
theorem dX2_copyFrom_15 : decode cX2_copyFrom 15 = .ok (.aload_n 1, 1) := by decide +kernel
theorem dX2_copyFrom_16 : decode cX2_copyFrom 16 = .ok (.getfield 24, 3) := by decide +kernel
theorem dX2_copyFrom_19 : decode cX2_copyFrom 19 = .ok (.iconst 0, 1) := by decide +kernel
theorem dX2_copyFrom_20 : decode cX2_copyFrom 20 = .ok (.aload_n 0, 1) := by decide +kernel
theorem dX2_copyFrom_21 : decode cX2_copyFrom 21 = .ok (.getfield 24, 3) := by decide +kernel
theorem dX2_copyFrom_24 : decode cX2_copyFrom 24 = .ok (.iconst 0, 1) := by decide +kernel
theorem dX2_copyFrom_25 : decode cX2_copyFrom 25 = .ok (.aload_n 1, 1) := by decide +kernel
theorem dX2_copyFrom_26 : decode cX2_copyFrom 26 = .ok (.getfield 24, 3) := by decide +kernel
theorem dX2_copyFrom_29 : decode cX2_copyFrom 29 = .ok (.arraylength, 1) := by decide +kernel
theorem dX2_copyFrom_30 : decode cX2_copyFrom 30 = .ok (.aload_n 0, 1) := by decide +kernel
theorem dX2_copyFrom_31 : decode cX2_copyFrom 31 = .ok (.getfield 24, 3) := by decide +kernel
theorem dX2_copyFrom_34 : decode cX2_copyFrom 34 = .ok (.arraylength, 1) := by decide +kernel
theorem dX2_copyFrom_35 : decode cX2_copyFrom 35 = .ok (.invokestatic 46, 3) := by decide +kernel
theorem dX2_copyFrom_38 : decode cX2_copyFrom 38 = .ok (.invokestatic 49, 3) := by decide +kernel
theorem dX2_copyFrom_41 : decode cX2_copyFrom 41 = .ok (.return_, 1) := by decide +kernel
theorem dX3_init_0 : decode cX3_init 0 = .ok (.aload_n 0, 1) := by decide +kernel
theorem dX3_init_1 : decode cX3_init 1 = .ok (.invokespecial 3, 3) := by decide +kernel
theorem dX3_init_4 : decode cX3_init 4 = .ok (.aload_n 0, 1) := by decide +kernel
theorem dX3_init_5 : decode cX3_init 5 = .ok (.bipush 60, 2) := by decide +kernel
theorem dX3_init_7 : decode cX3_init 7 = .ok (.newarray .char, 2) := by decide +kernel
theorem dX3_init_9 : decode cX3_init 9 = .ok (.putfield 9, 3) := by decide +kernel
theorem dX3_init_12 : decode cX3_init 12 = .ok (.aload_n 0, 1) := by decide +kernel
theorem dX3_init_13 : decode cX3_init 13 = .ok (.new 15, 3) := by decide +kernel
theorem dX3_init_16 : decode cX3_init 16 = .ok (.dup, 1) := by decide +kernel
theorem dX3_init_17 : decode cX3_init 17 = .ok (.bipush 15, 2) := by decide +kernel
theorem dX3_init_19 : decode cX3_init 19 = .ok (.iconst 2, 1) := by decide +kernel
theorem dX3_init_20 : decode cX3_init 20 = .ok (.invokespecial 17, 3) := by decide +kernel
theorem dX3_init_23 : decode cX3_init 23 = .ok (.putfield 20, 3) := by decide +kernel
theorem dX3_init_26 : decode cX3_init 26 = .ok (.return_, 1) := by decide +kernel
theorem dX3_length_0 : decode cX3_length 0 = .ok (.aload_n 0, 1) := by decide +kernel
theorem dX3_length_1 : decode cX3_length 1 = .ok (.getfield 24, 3) := by decide +kernel
theorem dX3_length_4 : decode cX3_length 4 = .ok (.ireturn, 1) := by decide +kernel
theorem dX4_init_0 : decode cX4_init 0 = .ok (.aload_n 0, 1) := by decide +kernel
theorem dX4_init_1 : decode cX4_init 1 = .ok (.invokespecial 3, 3) := by decide +kernel
theorem dX4_init_4 : decode cX4_init 4 = .ok (.aload_n 0, 1) := by decide +kernel
theorem dX4_init_5 : decode cX4_init 5 = .ok (.new 9, 3) := by decide +kernel
theorem dX4_init_8 : decode cX4_init 8 = .ok (.dup, 1) := by decide +kernel
theorem dX4_init_9 : decode cX4_init 9 = .ok (.invokespecial 11, 3) := by decide +kernel
theorem dX4_init_12 : decode cX4_init 12 = .ok (.putfield 12, 3) := by decide +kernel
theorem dX4_init_15 : decode cX4_init 15 = .ok (.aload_n 0, 1) := by decide +kernel
theorem dX4_init_16 : decode cX4_init 16 = .ok (.new 9, 3) := by decide +kernel
theorem dX4_init_19 : decode cX4_init 19 = .ok (.dup, 1) := by decide +kernel
theorem dX4_init_20 : decode cX4_init 20 = .ok (.invokespecial 11, 3) := by decide +kernel
theorem dX4_init_23 : decode cX4_init 23 = .ok (.putfield 16, 3) := by decide +kernel
theorem dX4_init_26 : decode cX4_init 26 = .ok (.aload_n 0, 1) := by decide +kernel
theorem dX4_init_27 : decode cX4_init 27 = .ok (.new 9, 3) := by decide +kernel
theorem dX4_init_30 : decode cX4_init 30 = .ok (.dup, 1) := by decide +kernel
theorem dX4_init_31 : decode cX4_init 31 = .ok (.invokespecial 11, 3) := by decide +kernel
theorem dX4_init_34 : decode cX4_init 34 = .ok (.putfield 19, 3) := by decide +kernel
theorem dX4_init_37 : decode cX4_init 37 = .ok (.aload_n 0, 1) := by decide +kernel
theorem dX4_init_38 : decode cX4_init 38 = .ok (.new 22, 3) := by decide +kernel
theorem dX4_init_41 : decode cX4_init 41 = .ok (.dup, 1) := by decide +kernel
theorem dX4_init_42 : decode cX4_init 42 = .ok (.invokespecial 24, 3) := by decide +kernel
theorem dX4_init_45 : decode cX4_init 45 = .ok (.putfield 25, 3) := by decide +kernel
theorem dX4_init_48 : decode cX4_init 48 = .ok (.aload_n 0, 1) := by decide +kernel
theorem dX4_init_49 : decode cX4_init 49 = .ok (.new 29, 3) := by decide +kernel
theorem dX4_init_52 : decode cX4_init 52 = .ok (.dup, 1) := by decide +kernel
theorem dX4_init_53 : decode cX4_init 53 = .ok (.invokespecial 31, 3) := by decide +kernel
theorem dX4_init_56 : decode cX4_init 56 = .ok (.putfield 32, 3) := by decide +kernel
theorem dX4_init_59 : decode cX4_init 59 = .ok (.aload_n 0, 1) := by decide +kernel
theorem dX4_init_60 : decode cX4_init 60 = .ok (.iconst 0, 1) := by decide +kernel
theorem dX4_init_61 : decode cX4_init 61 = .ok (.putfield 36, 3) := by decide +kernel
theorem dX4_init_64 : decode cX4_init 64 = .ok (.return_, 1) := by decide +kernel
theorem dX4_addMachine_0 : decode cX4_addMachine 0 = .ok (.iload_n 1, 1) := by decide +kernel
theorem dX4_addMachine_1 : decode cX4_addMachine 1 = .ok (.bipush 10, 2) := by decide +kernel
theorem dX4_addMachine_3 : decode cX4_addMachine 3 = .ok (.sipush 200, 3) := by decide +kernel
theorem dX4_addMachine_6 : decode cX4_addMachine 6 = .ok (.invokestatic 40, 3) := by decide +kernel
theorem dX4_addMachine_9 : decode cX4_addMachine 9 = .ok (.ifCond .eq 13, 3) := by decide +kernel
theorem dX4_addMachine_12 : decode cX4_addMachine 12 = .ok (.iload_n 2, 1) := by decide +kernel
theorem dX4_addMachine_13 : decode cX4_addMachine 13 = .ok (.iconst 0, 1) := by decide +kernel
theorem dX4_addMachine_14 : decode cX4_addMachine 14 = .ok (.bipush 12, 2) := by decide +kernel
theorem dX4_addMachine_16 : decode cX4_addMachine 16 = .ok (.invokestatic 40, 3) := by decide +kernel
theorem dX4_addMachine_19 : decode cX4_addMachine 19 = .ok (.ifCond .ne 6, 3) := by decide +kernel
theorem dX4_addMachine_22 : decode cX4_addMachine 22 = .ok (.bipush (-2), 2) := by decide +kernel
theorem dX4_addMachine_24 : decode cX4_addMachine 24 = .ok (.ireturn, 1) := by decide +kernel
theorem dX4_addMachine_25 : decode cX4_addMachine 25 = .ok (.aload_n 0, 1) := by decide +kernel
theorem dX4_addMachine_26 : decode cX4_addMachine 26 = .ok (.getfield 12, 3) := by decide +kernel
theorem dX4_addMachine_29 : decode cX4_addMachine 29 = .ok (.getfield 44, 3) := by decide +kernel
theorem dX4_addMachine_32 : decode cX4_addMachine 32 = .ok (.invokevirtual 48, 3) := by decide +kernel
theorem dX4_addMachine_35 : decode cX4_addMachine 35 = .ok (.ifCond .eq 6, 3) := by decide +kernel
theorem dX4_addMachine_38 : decode cX4_addMachine 38 = .ok (.bipush (-3), 2) := by decide +kernel
theorem dX4_addMachine_40 : decode cX4_addMachine 40 = .ok (.ireturn, 1) := by decide +kernel
theorem dX4_addMachine_41 : decode cX4_addMachine 41 = .ok (.aload_n 0, 1) := by decide +kernel
theorem dX4_addMachine_42 : decode cX4_addMachine 42 = .ok (.getfield 25, 3) := by decide +kernel
theorem dX4_addMachine_45 : decode cX4_addMachine 45 = .ok (.aload_n 0, 1) := by decide +kernel
theorem dX4_addMachine_46 : decode cX4_addMachine 46 = .ok (.getfield 12, 3) := by decide +kernel
theorem dX4_addMachine_49 : decode cX4_addMachine 49 = .ok (.invokevirtual 54, 3) := by decide +kernel
theorem dX4_addMachine_52 : decode cX4_addMachine 52 = .ok (.aload_n 0, 1) := by decide +kernel
theorem dX4_addMachine_53 : decode cX4_addMachine 53 = .ok (.getfield 12, 3) := by decide +kernel
theorem dX4_addMachine_56 : decode cX4_addMachine 56 = .ok (.iload_n 1, 1) := by decide +kernel
theorem dX4_addMachine_57 : decode cX4_addMachine 57 = .ok (.iload_n 2, 1) := by decide +kernel
theorem dX4_addMachine_58 : decode cX4_addMachine 58 = .ok (.invokevirtual 58, 3) := by decide +kernel
theorem dX4_addMachine_61 : decode cX4_addMachine 61 = .ok (.ireturn, 1) := by decide +kernel
theorem dX4_addMember_0 : decode cX4_addMember 0 = .ok (.aload_n 0, 1) := by decide +kernel
theorem dX4_addMember_1 : decode cX4_addMember 1 = .ok (.getfield 12, 3) := by decide +kernel
theorem dX4_addMember_4 : decode cX4_addMember 4 = .ok (.getfield 62, 3) := by decide +kernel
theorem dX4_addMember_7 : decode cX4_addMember 7 = .ok (.invokevirtual 48, 3) := by decide +kernel
theorem dX4_addMember_10 : decode cX4_addMember 10 = .ok (.ifCond .eq 6, 3) := by decide +kernel
theorem dX4_addMember_13 : decode cX4_addMember 13 = .ok (.bipush (-3), 2) := by decide +kernel
theorem dX4_addMember_15 : decode cX4_addMember 15 = .ok (.ireturn, 1) := by decide +kernel
theorem dX4_addMember_16 : decode cX4_addMember 16 = .ok (.aload_n 0, 1) := by decide +kernel
theorem dX4_addMember_17 : decode cX4_addMember 17 = .ok (.getfield 25, 3) := by decide +kernel
theorem dX4_addMember_20 : decode cX4_addMember 20 = .ok (.aload_n 0, 1) := by decide +kernel
theorem dX4_addMember_21 : decode cX4_addMember 21 = .ok (.getfield 12, 3) := by decide +kernel
theorem dX4_addMember_24 : decode cX4_addMember 24 = .ok (.invokevirtual 54, 3) := by decide +kernel
theorem dX4_addMember_27 : decode cX4_addMember 27 = .ok (.aload_n 0, 1) := by decide +kernel
theorem dX4_addMember_28 : decode cX4_addMember 28 = .ok (.getfield 12, 3) := by decide +kernel
theorem dX4_addMember_31 : decode cX4_addMember 31 = .ok (.getfield 62, 3) := by decide +kernel
theorem dX4_addMember_34 : decode cX4_addMember 34 = .ok (.invokevirtual 65, 3) := by decide +kernel
theorem dX4_addMember_37 : decode cX4_addMember 37 = .ok (.ireturn, 1) := by decide +kernel
theorem dX4_setWind_0 : decode cX4_setWind 0 = .ok (.aload_n 0, 1) := by decide +kernel
theorem dX4_setWind_1 : decode cX4_setWind 1 = .ok (.getfield 12, 3) := by decide +kernel
theorem dX4_setWind_4 : decode cX4_setWind 4 = .ok (.iload_n 1, 1) := by decide +kernel
theorem dX4_setWind_5 : decode cX4_setWind 5 = .ok (.invokevirtual 69, 3) := by decide +kernel
theorem dX4_setWind_8 : decode cX4_setWind 8 = .ok (.ifCond .ne 5, 3) := by decide +kernel
theorem dX4_setWind_11 : decode cX4_setWind 11 = .ok (.iconst (-1), 1) := by decide +kernel
theorem dX4_setWind_12 : decode cX4_setWind 12 = .ok (.ireturn, 1) := by decide +kernel
theorem dX4_setWind_13 : decode cX4_setWind 13 = .ok (.iload_n 2, 1) := by decide +kernel
theorem dX4_setWind_14 : decode cX4_setWind 14 = .ok (.iconst 0, 1) := by decide +kernel
theorem dX4_setWind_15 : decode cX4_setWind 15 = .ok (.bipush 99, 2) := by decide +kernel
theorem dX4_setWind_17 : decode cX4_setWind 17 = .ok (.invokestatic 40, 3) := by decide +kernel
theorem dX4_setWind_20 : decode cX4_setWind 20 = .ok (.ifCond .ne 6, 3) := by decide +kernel
theorem dX4_setWind_23 : decode cX4_setWind 23 = .ok (.bipush (-2), 2) := by decide +kernel
theorem dX4_setWind_25 : decode cX4_setWind 25 = .ok (.ireturn, 1) := by decide +kernel
theorem dX4_setWind_26 : decode cX4_setWind 26 = .ok (.aload_n 0, 1) := by decide +kernel
theorem dX4_setWind_27 : decode cX4_setWind 27 = .ok (.getfield 12, 3) := by decide +kernel
theorem dX4_setWind_30 : decode cX4_setWind 30 = .ok (.iload_n 1, 1) := by decide +kernel
theorem dX4_setWind_31 : decode cX4_setWind 31 = .ok (.invokevirtual 73, 3) := by decide +kernel
theorem dX4_setWind_34 : decode cX4_setWind 34 = .ok (.istore_n 3, 1) := by decide +kernel
theorem dX4_setWind_35 : decode cX4_setWind 35 = .ok (.iload_n 3, 1) := by decide +kernel
theorem dX4_setWind_36 : decode cX4_setWind 36 = .ok (.iload_n 2, 1) := by decide +kernel
theorem dX4_setWind_37 : decode cX4_setWind 37 = .ok (.if_icmp .ne 6, 3) := by decide +kernel
theorem dX4_setWind_40 : decode cX4_setWind 40 = .ok (.bipush (-5), 2) := by decide +kernel
theorem dX4_setWind_42 : decode cX4_setWind 42 = .ok (.ireturn, 1) := by decide +kernel
theorem dX4_setWind_43 : decode cX4_setWind 43 = .ok (.aload_n 0, 1) := by decide +kernel
theorem dX4_setWind_44 : decode cX4_setWind 44 = .ok (.getfield 25, 3) := by decide +kernel
theorem dX4_setWind_47 : decode cX4_setWind 47 = .ok (.aload_n 0, 1) := by decide +kernel
theorem dX4_setWind_48 : decode cX4_setWind 48 = .ok (.getfield 12, 3) := by decide +kernel
theorem dX4_setWind_51 : decode cX4_setWind 51 = .ok (.invokevirtual 54, 3) := by decide +kernel
theorem dX4_setWind_54 : decode cX4_setWind 54 = .ok (.aload_n 0, 1) := by decide +kernel
theorem dX4_setWind_55 : decode cX4_setWind 55 = .ok (.getfield 12, 3) := by decide +kernel
theorem dX4_setWind_58 : decode cX4_setWind 58 = .ok (.iload_n 1, 1) := by decide +kernel
theorem dX4_setWind_59 : decode cX4_setWind 59 = .ok (.iload_n 2, 1) := by decide +kernel
theorem dX4_setWind_60 : decode cX4_setWind 60 = .ok (.invokevirtual 77, 3) := by decide +kernel
theorem dX4_setWind_63 : decode cX4_setWind 63 = .ok (.iload_n 3, 1) := by decide +kernel
theorem dX4_setWind_64 : decode cX4_setWind 64 = .ok (.ireturn, 1) := by decide +kernel
theorem dX4_book_0 : decode cX4_book 0 = .ok (.aload_n 0, 1) := by decide +kernel
theorem dX4_book_1 : decode cX4_book 1 = .ok (.getfield 12, 3) := by decide +kernel
theorem dX4_book_4 : decode cX4_book 4 = .ok (.getfield 62, 3) := by decide +kernel
theorem dX4_book_7 : decode cX4_book 7 = .ok (.iload_n 1, 1) := by decide +kernel
theorem dX4_book_8 : decode cX4_book 8 = .ok (.invokevirtual 81, 3) := by decide +kernel
theorem dX4_book_11 : decode cX4_book 11 = .ok (.ifCond .eq 28, 3) := by decide +kernel
theorem dX4_book_14 : decode cX4_book 14 = .ok (.aload_n 0, 1) := by decide +kernel
theorem dX4_book_15 : decode cX4_book 15 = .ok (.getfield 12, 3) := by decide +kernel
theorem dX4_book_18 : decode cX4_book 18 = .ok (.getfield 44, 3) := by decide +kernel
theorem dX4_book_21 : decode cX4_book 21 = .ok (.iload_n 2, 1) := by decide +kernel
theorem dX4_book_22 : decode cX4_book 22 = .ok (.invokevirtual 81, 3) := by decide +kernel
theorem dX4_book_25 : decode cX4_book 25 = .ok (.ifCond .eq 14, 3) := by decide +kernel
theorem dX4_book_28 : decode cX4_book 28 = .ok (.aload_n 0, 1) := by decide +kernel
theorem dX4_book_29 : decode cX4_book 29 = .ok (.getfield 12, 3) := by decide +kernel
theorem dX4_book_32 : decode cX4_book 32 = .ok (.iload_n 3, 1) := by decide +kernel
theorem dX4_book_33 : decode cX4_book 33 = .ok (.invokevirtual 69, 3) := by decide +kernel
theorem dX4_book_36 : decode cX4_book 36 = .ok (.ifCond .ne 5, 3) := by decide +kernel
theorem dX4_book_39 : decode cX4_book 39 = .ok (.iconst (-1), 1) := by decide +kernel
theorem dX4_book_40 : decode cX4_book 40 = .ok (.ireturn, 1) := by decide +kernel
theorem dX4_book_41 : decode cX4_book 41 = .ok (.iload 4, 2) := by decide +kernel
theorem dX4_book_43 : decode cX4_book 43 = .ok (.iload 5, 2) := by decide +kernel
theorem dX4_book_45 : decode cX4_book 45 = .ok (.invokestatic 84, 3) := by decide +kernel
theorem dX4_book_48 : decode cX4_book 48 = .ok (.ifCond .ne 6, 3) := by decide +kernel
theorem dX4_book_51 : decode cX4_book 51 = .ok (.bipush (-2), 2) := by decide +kernel
theorem dX4_book_53 : decode cX4_book 53 = .ok (.ireturn, 1) := by decide +kernel
theorem dX4_book_54 : decode cX4_book 54 = .ok (.aload_n 0, 1) := by decide +kernel
theorem dX4_book_55 : decode cX4_book 55 = .ok (.getfield 12, 3) := by decide +kernel
theorem dX4_book_58 : decode cX4_book 58 = .ok (.iload_n 2, 1) := by decide +kernel
theorem dX4_book_59 : decode cX4_book 59 = .ok (.iload_n 3, 1) := by decide +kernel
theorem dX4_book_60 : decode cX4_book 60 = .ok (.iload 4, 2) := by decide +kernel
theorem dX4_book_62 : decode cX4_book 62 = .ok (.iload 5, 2) := by decide +kernel
theorem dX4_book_64 : decode cX4_book 64 = .ok (.invokevirtual 88, 3) := by decide +kernel
theorem dX4_book_67 : decode cX4_book 67 = .ok (.ifCond .ne 6, 3) := by decide +kernel
theorem dX4_book_70 : decode cX4_book 70 = .ok (.bipush (-4), 2) := by decide +kernel
theorem dX4_book_72 : decode cX4_book 72 = .ok (.ireturn, 1) := by decide +kernel
theorem dX4_book_73 : decode cX4_book 73 = .ok (.aload_n 0, 1) := by decide +kernel
theorem dX4_book_74 : decode cX4_book 74 = .ok (.getfield 12, 3) := by decide +kernel
theorem dX4_book_77 : decode cX4_book 77 = .ok (.getfield 92, 3) := by decide +kernel
theorem dX4_book_80 : decode cX4_book 80 = .ok (.invokevirtual 48, 3) := by decide +kernel
theorem dX4_book_83 : decode cX4_book 83 = .ok (.ifCond .eq 6, 3) := by decide +kernel
theorem dX4_book_86 : decode cX4_book 86 = .ok (.bipush (-3), 2) := by decide +kernel
theorem dX4_book_88 : decode cX4_book 88 = .ok (.ireturn, 1) := by decide +kernel
theorem dX4_book_89 : decode cX4_book 89 = .ok (.aload_n 0, 1) := by decide +kernel
theorem dX4_book_90 : decode cX4_book 90 = .ok (.getfield 25, 3) := by decide +kernel
theorem dX4_book_93 : decode cX4_book 93 = .ok (.aload_n 0, 1) := by decide +kernel
theorem dX4_book_94 : decode cX4_book 94 = .ok (.getfield 12, 3) := by decide +kernel
theorem dX4_book_97 : decode cX4_book 97 = .ok (.invokevirtual 54, 3) := by decide +kernel
theorem dX4_book_100 : decode cX4_book 100 = .ok (.aload_n 0, 1) := by decide +kernel
theorem dX4_book_101 : decode cX4_book 101 = .ok (.getfield 12, 3) := by decide +kernel
theorem dX4_book_104 : decode cX4_book 104 = .ok (.iload_n 1, 1) := by decide +kernel
theorem dX4_book_105 : decode cX4_book 105 = .ok (.iload 4, 2) := by decide +kernel
theorem dX4_book_107 : decode cX4_book 107 = .ok (.iload 5, 2) := by decide +kernel
theorem dX4_book_109 : decode cX4_book 109 = .ok (.invokevirtual 95, 3) := by decide +kernel
theorem dX4_book_112 : decode cX4_book 112 = .ok (.istore 6, 2) := by decide +kernel
theorem dX4_book_114 : decode cX4_book 114 = .ok (.aload_n 0, 1) := by decide +kernel
theorem dX4_book_115 : decode cX4_book 115 = .ok (.getfield 12, 3) := by decide +kernel
theorem dX4_book_118 : decode cX4_book 118 = .ok (.iload 6, 2) := by decide +kernel
theorem dX4_book_120 : decode cX4_book 120 = .ok (.iload_n 2, 1) := by decide +kernel
theorem dX4_book_121 : decode cX4_book 121 = .ok (.iload_n 3, 1) := by decide +kernel
theorem dX4_book_122 : decode cX4_book 122 = .ok (.invokevirtual 99, 3) := by decide +kernel
theorem dX4_book_125 : decode cX4_book 125 = .ok (.iload 6, 2) := by decide +kernel
theorem dX4_book_127 : decode cX4_book 127 = .ok (.ireturn, 1) := by decide +kernel
theorem dX4_cancel_0 : decode cX4_cancel 0 = .ok (.aload_n 0, 1) := by decide +kernel
theorem dX4_cancel_1 : decode cX4_cancel 1 = .ok (.getfield 12, 3) := by decide +kernel
theorem dX4_cancel_4 : decode cX4_cancel 4 = .ok (.getfield 92, 3) := by decide +kernel
theorem dX4_cancel_7 : decode cX4_cancel 7 = .ok (.iload_n 1, 1) := by decide +kernel
theorem dX4_cancel_8 : decode cX4_cancel 8 = .ok (.invokevirtual 81, 3) := by decide +kernel
theorem dX4_cancel_11 : decode cX4_cancel 11 = .ok (.ifCond .ne 5, 3) := by decide +kernel
theorem dX4_cancel_14 : decode cX4_cancel 14 = .ok (.iconst (-1), 1) := by decide +kernel
theorem dX4_cancel_15 : decode cX4_cancel 15 = .ok (.ireturn, 1) := by decide +kernel
theorem dX4_cancel_16 : decode cX4_cancel 16 = .ok (.aload_n 0, 1) := by decide +kernel
theorem dX4_cancel_17 : decode cX4_cancel 17 = .ok (.getfield 12, 3) := by decide +kernel
theorem dX4_cancel_20 : decode cX4_cancel 20 = .ok (.iload_n 1, 1) := by decide +kernel
theorem dX4_cancel_21 : decode cX4_cancel 21 = .ok (.invokevirtual 103, 3) := by decide +kernel
theorem dX4_cancel_24 : decode cX4_cancel 24 = .ok (.ifCond .ne 6, 3) := by decide +kernel
theorem dX4_cancel_27 : decode cX4_cancel 27 = .ok (.bipush (-4), 2) := by decide +kernel
theorem dX4_cancel_29 : decode cX4_cancel 29 = .ok (.ireturn, 1) := by decide +kernel
theorem dX4_cancel_30 : decode cX4_cancel 30 = .ok (.aload_n 0, 1) := by decide +kernel
theorem dX4_cancel_31 : decode cX4_cancel 31 = .ok (.getfield 25, 3) := by decide +kernel
theorem dX4_cancel_34 : decode cX4_cancel 34 = .ok (.aload_n 0, 1) := by decide +kernel
theorem dX4_cancel_35 : decode cX4_cancel 35 = .ok (.getfield 12, 3) := by decide +kernel
theorem dX4_cancel_38 : decode cX4_cancel 38 = .ok (.invokevirtual 54, 3) := by decide +kernel
theorem dX4_cancel_41 : decode cX4_cancel 41 = .ok (.aload_n 0, 1) := by decide +kernel
theorem dX4_cancel_42 : decode cX4_cancel 42 = .ok (.getfield 12, 3) := by decide +kernel
theorem dX4_cancel_45 : decode cX4_cancel 45 = .ok (.getfield 92, 3) := by decide +kernel
theorem dX4_cancel_48 : decode cX4_cancel 48 = .ok (.iload_n 1, 1) := by decide +kernel
theorem dX4_cancel_49 : decode cX4_cancel 49 = .ok (.iconst 2, 1) := by decide +kernel
theorem dX4_cancel_50 : decode cX4_cancel 50 = .ok (.invokevirtual 106, 3) := by decide +kernel
theorem dX4_cancel_53 : decode cX4_cancel 53 = .ok (.aload_n 0, 1) := by decide +kernel
theorem dX4_cancel_54 : decode cX4_cancel 54 = .ok (.getfield 12, 3) := by decide +kernel
theorem dX4_cancel_57 : decode cX4_cancel 57 = .ok (.getfield 109, 3) := by decide +kernel
theorem dX4_cancel_60 : decode cX4_cancel 60 = .ok (.if_icmp .ne 7, 3) := by decide +kernel
theorem dX4_cancel_63 : decode cX4_cancel 63 = .ok (.iconst 4, 1) := by decide +kernel
theorem dX4_cancel_64 : decode cX4_cancel 64 = .ok (.goto 4, 3) := by decide +kernel
theorem dX4_cancel_67 : decode cX4_cancel 67 = .ok (.iconst 0, 1) := by decide +kernel
theorem dX4_cancel_68 : decode cX4_cancel 68 = .ok (.istore_n 2, 1) := by decide +kernel
theorem dX4_cancel_69 : decode cX4_cancel 69 = .ok (.aload_n 0, 1) := by decide +kernel
theorem dX4_cancel_70 : decode cX4_cancel 70 = .ok (.getfield 12, 3) := by decide +kernel
theorem dX4_cancel_73 : decode cX4_cancel 73 = .ok (.aload_n 0, 1) := by decide +kernel
theorem dX4_cancel_74 : decode cX4_cancel 74 = .ok (.getfield 12, 3) := by decide +kernel
theorem dX4_cancel_77 : decode cX4_cancel 77 = .ok (.getfield 92, 3) := by decide +kernel
theorem dX4_cancel_80 : decode cX4_cancel 80 = .ok (.iload_n 1, 1) := by decide +kernel
theorem dX4_cancel_81 : decode cX4_cancel 81 = .ok (.iconst 0, 1) := by decide +kernel
theorem dX4_cancel_82 : decode cX4_cancel 82 = .ok (.invokevirtual 106, 3) := by decide +kernel
theorem dX4_cancel_85 : decode cX4_cancel 85 = .ok (.iload_n 2, 1) := by decide +kernel
theorem dX4_cancel_86 : decode cX4_cancel 86 = .ok (.invokevirtual 113, 3) := by decide +kernel
theorem dX4_cancel_89 : decode cX4_cancel 89 = .ok (.aload_n 0, 1) := by decide +kernel
theorem dX4_cancel_90 : decode cX4_cancel 90 = .ok (.getfield 12, 3) := by decide +kernel
theorem dX4_cancel_93 : decode cX4_cancel 93 = .ok (.getfield 92, 3) := by decide +kernel
theorem dX4_cancel_96 : decode cX4_cancel 96 = .ok (.iload_n 1, 1) := by decide +kernel
theorem dX4_cancel_97 : decode cX4_cancel 97 = .ok (.iconst 5, 1) := by decide +kernel
theorem dX4_cancel_98 : decode cX4_cancel 98 = .ok (.iconst 3, 1) := by decide +kernel
theorem dX4_cancel_99 : decode cX4_cancel 99 = .ok (.invokevirtual 116, 3) := by decide +kernel
theorem dX4_cancel_102 : decode cX4_cancel 102 = .ok (.iload_n 2, 1) := by decide +kernel
theorem dX4_cancel_103 : decode cX4_cancel 103 = .ok (.ireturn, 1) := by decide +kernel
theorem dX4_swap_0 : decode cX4_swap 0 = .ok (.aload_n 0, 1) := by decide +kernel
theorem dX4_swap_1 : decode cX4_swap 1 = .ok (.getfield 12, 3) := by decide +kernel
theorem dX4_swap_4 : decode cX4_swap 4 = .ok (.getfield 92, 3) := by decide +kernel
theorem dX4_swap_7 : decode cX4_swap 7 = .ok (.iload_n 1, 1) := by decide +kernel
theorem dX4_swap_8 : decode cX4_swap 8 = .ok (.invokevirtual 81, 3) := by decide +kernel
theorem dX4_swap_11 : decode cX4_swap 11 = .ok (.ifCond .eq 17, 3) := by decide +kernel
theorem dX4_swap_14 : decode cX4_swap 14 = .ok (.aload_n 0, 1) := by decide +kernel
theorem dX4_swap_15 : decode cX4_swap 15 = .ok (.getfield 12, 3) := by decide +kernel
theorem dX4_swap_18 : decode cX4_swap 18 = .ok (.getfield 92, 3) := by decide +kernel
theorem dX4_swap_21 : decode cX4_swap 21 = .ok (.iload_n 2, 1) := by decide +kernel
theorem dX4_swap_22 : decode cX4_swap 22 = .ok (.invokevirtual 81, 3) := by decide +kernel
theorem dX4_swap_25 : decode cX4_swap 25 = .ok (.ifCond .ne 5, 3) := by decide +kernel
theorem dX4_swap_28 : decode cX4_swap 28 = .ok (.iconst (-1), 1) := by decide +kernel
theorem dX4_swap_29 : decode cX4_swap 29 = .ok (.ireturn, 1) := by decide +kernel
theorem dX4_swap_30 : decode cX4_swap 30 = .ok (.iload_n 1, 1) := by decide +kernel
theorem dX4_swap_31 : decode cX4_swap 31 = .ok (.iload_n 2, 1) := by decide +kernel
theorem dX4_swap_32 : decode cX4_swap 32 = .ok (.if_icmp .ne 6, 3) := by decide +kernel
theorem dX4_swap_35 : decode cX4_swap 35 = .ok (.bipush (-2), 2) := by decide +kernel
theorem dX4_swap_37 : decode cX4_swap 37 = .ok (.ireturn, 1) := by decide +kernel
theorem dX4_swap_38 : decode cX4_swap 38 = .ok (.aload_n 0, 1) := by decide +kernel
theorem dX4_swap_39 : decode cX4_swap 39 = .ok (.getfield 12, 3) := by decide +kernel
theorem dX4_swap_42 : decode cX4_swap 42 = .ok (.iload_n 1, 1) := by decide +kernel
theorem dX4_swap_43 : decode cX4_swap 43 = .ok (.invokevirtual 103, 3) := by decide +kernel
theorem dX4_swap_46 : decode cX4_swap 46 = .ok (.ifCond .eq 14, 3) := by decide +kernel
theorem dX4_swap_49 : decode cX4_swap 49 = .ok (.aload_n 0, 1) := by decide +kernel
theorem dX4_swap_50 : decode cX4_swap 50 = .ok (.getfield 12, 3) := by decide +kernel
theorem dX4_swap_53 : decode cX4_swap 53 = .ok (.iload_n 2, 1) := by decide +kernel
theorem dX4_swap_54 : decode cX4_swap 54 = .ok (.invokevirtual 103, 3) := by decide +kernel
theorem dX4_swap_57 : decode cX4_swap 57 = .ok (.ifCond .ne 6, 3) := by decide +kernel
theorem dX4_swap_60 : decode cX4_swap 60 = .ok (.bipush (-4), 2) := by decide +kernel
theorem dX4_swap_62 : decode cX4_swap 62 = .ok (.ireturn, 1) := by decide +kernel
theorem dX4_swap_63 : decode cX4_swap 63 = .ok (.aload_n 0, 1) := by decide +kernel
theorem dX4_swap_64 : decode cX4_swap 64 = .ok (.getfield 12, 3) := by decide +kernel
theorem dX4_swap_67 : decode cX4_swap 67 = .ok (.getfield 92, 3) := by decide +kernel
theorem dX4_swap_70 : decode cX4_swap 70 = .ok (.iload_n 1, 1) := by decide +kernel
theorem dX4_swap_71 : decode cX4_swap 71 = .ok (.iconst 1, 1) := by decide +kernel
theorem dX4_swap_72 : decode cX4_swap 72 = .ok (.invokevirtual 106, 3) := by decide +kernel
theorem dX4_swap_75 : decode cX4_swap 75 = .ok (.istore_n 3, 1) := by decide +kernel
theorem dX4_swap_76 : decode cX4_swap 76 = .ok (.aload_n 0, 1) := by decide +kernel
theorem dX4_swap_77 : decode cX4_swap 77 = .ok (.getfield 12, 3) := by decide +kernel
theorem dX4_swap_80 : decode cX4_swap 80 = .ok (.getfield 92, 3) := by decide +kernel
theorem dX4_swap_83 : decode cX4_swap 83 = .ok (.iload_n 1, 1) := by decide +kernel
theorem dX4_swap_84 : decode cX4_swap 84 = .ok (.iconst 2, 1) := by decide +kernel
theorem dX4_swap_85 : decode cX4_swap 85 = .ok (.invokevirtual 106, 3) := by decide +kernel
theorem dX4_swap_88 : decode cX4_swap 88 = .ok (.istore 4, 2) := by decide +kernel
theorem dX4_swap_90 : decode cX4_swap 90 = .ok (.aload_n 0, 1) := by decide +kernel
theorem dX4_swap_91 : decode cX4_swap 91 = .ok (.getfield 12, 3) := by decide +kernel
theorem dX4_swap_94 : decode cX4_swap 94 = .ok (.getfield 92, 3) := by decide +kernel
theorem dX4_swap_97 : decode cX4_swap 97 = .ok (.iload_n 2, 1) := by decide +kernel
theorem dX4_swap_98 : decode cX4_swap 98 = .ok (.iconst 1, 1) := by decide +kernel
theorem dX4_swap_99 : decode cX4_swap 99 = .ok (.invokevirtual 106, 3) := by decide +kernel
theorem dX4_swap_102 : decode cX4_swap 102 = .ok (.istore 5, 2) := by decide +kernel
theorem dX4_swap_104 : decode cX4_swap 104 = .ok (.aload_n 0, 1) := by decide +kernel
theorem dX4_swap_105 : decode cX4_swap 105 = .ok (.getfield 12, 3) := by decide +kernel
theorem dX4_swap_108 : decode cX4_swap 108 = .ok (.getfield 92, 3) := by decide +kernel
theorem dX4_swap_111 : decode cX4_swap 111 = .ok (.iload_n 2, 1) := by decide +kernel
theorem dX4_swap_112 : decode cX4_swap 112 = .ok (.iconst 2, 1) := by decide +kernel
theorem dX4_swap_113 : decode cX4_swap 113 = .ok (.invokevirtual 106, 3) := by decide +kernel
theorem dX4_swap_116 : decode cX4_swap 116 = .ok (.istore 6, 2) := by decide +kernel
theorem dX4_swap_118 : decode cX4_swap 118 = .ok (.aload_n 0, 1) := by decide +kernel
theorem dX4_swap_119 : decode cX4_swap 119 = .ok (.getfield 12, 3) := by decide +kernel
theorem dX4_swap_122 : decode cX4_swap 122 = .ok (.iload 5, 2) := by decide +kernel
theorem dX4_swap_124 : decode cX4_swap 124 = .ok (.iload_n 1, 1) := by decide +kernel
theorem dX4_swap_125 : decode cX4_swap 125 = .ok (.invokevirtual 119, 3) := by decide +kernel
theorem dX4_swap_128 : decode cX4_swap 128 = .ok (.ifCond .eq 15, 3) := by decide +kernel
theorem dX4_swap_131 : decode cX4_swap 131 = .ok (.aload_n 0, 1) := by decide +kernel
theorem dX4_swap_132 : decode cX4_swap 132 = .ok (.getfield 12, 3) := by decide +kernel
theorem dX4_swap_135 : decode cX4_swap 135 = .ok (.iload_n 3, 1) := by decide +kernel
theorem dX4_swap_136 : decode cX4_swap 136 = .ok (.iload_n 2, 1) := by decide +kernel
theorem dX4_swap_137 : decode cX4_swap 137 = .ok (.invokevirtual 119, 3) := by decide +kernel
theorem dX4_swap_140 : decode cX4_swap 140 = .ok (.ifCond .ne 6, 3) := by decide +kernel
theorem dX4_swap_143 : decode cX4_swap 143 = .ok (.bipush (-4), 2) := by decide +kernel
theorem dX4_swap_145 : decode cX4_swap 145 = .ok (.ireturn, 1) := by decide +kernel
theorem dX4_swap_146 : decode cX4_swap 146 = .ok (.aload_n 0, 1) := by decide +kernel
theorem dX4_swap_147 : decode cX4_swap 147 = .ok (.getfield 25, 3) := by decide +kernel
theorem dX4_swap_150 : decode cX4_swap 150 = .ok (.aload_n 0, 1) := by decide +kernel
theorem dX4_swap_151 : decode cX4_swap 151 = .ok (.getfield 12, 3) := by decide +kernel
theorem dX4_swap_154 : decode cX4_swap 154 = .ok (.invokevirtual 54, 3) := by decide +kernel
theorem dX4_swap_157 : decode cX4_swap 157 = .ok (.aload_n 0, 1) := by decide +kernel
theorem dX4_swap_158 : decode cX4_swap 158 = .ok (.getfield 12, 3) := by decide +kernel
theorem dX4_swap_161 : decode cX4_swap 161 = .ok (.iload_n 1, 1) := by decide +kernel
theorem dX4_swap_162 : decode cX4_swap 162 = .ok (.iload 5, 2) := by decide +kernel
theorem dX4_swap_164 : decode cX4_swap 164 = .ok (.iload 6, 2) := by decide +kernel
theorem dX4_swap_166 : decode cX4_swap 166 = .ok (.invokevirtual 99, 3) := by decide +kernel
theorem dX4_swap_169 : decode cX4_swap 169 = .ok (.aload_n 0, 1) := by decide +kernel
theorem dX4_swap_170 : decode cX4_swap 170 = .ok (.getfield 12, 3) := by decide +kernel
theorem dX4_swap_173 : decode cX4_swap 173 = .ok (.iload_n 2, 1) := by decide +kernel
theorem dX4_swap_174 : decode cX4_swap 174 = .ok (.iload_n 3, 1) := by decide +kernel
theorem dX4_swap_175 : decode cX4_swap 175 = .ok (.iload 4, 2) := by decide +kernel
theorem dX4_swap_177 : decode cX4_swap 177 = .ok (.invokevirtual 99, 3) := by decide +kernel
theorem dX4_swap_180 : decode cX4_swap 180 = .ok (.iload 6, 2) := by decide +kernel
theorem dX4_swap_182 : decode cX4_swap 182 = .ok (.ireturn, 1) := by decide +kernel
theorem dX4_order_0 : decode cX4_order 0 = .ok (.aload_n 0, 1) := by decide +kernel
theorem dX4_order_1 : decode cX4_order 1 = .ok (.getfield 12, 3) := by decide +kernel
theorem dX4_order_4 : decode cX4_order 4 = .ok (.getfield 62, 3) := by decide +kernel
theorem dX4_order_7 : decode cX4_order 7 = .ok (.iload_n 1, 1) := by decide +kernel
theorem dX4_order_8 : decode cX4_order 8 = .ok (.invokevirtual 81, 3) := by decide +kernel
theorem dX4_order_11 : decode cX4_order 11 = .ok (.ifCond .eq 43, 3) := by decide +kernel
theorem dX4_order_14 : decode cX4_order 14 = .ok (.aload_n 0, 1) := by decide +kernel
theorem dX4_order_15 : decode cX4_order 15 = .ok (.getfield 12, 3) := by decide +kernel
theorem dX4_order_18 : decode cX4_order 18 = .ok (.getfield 44, 3) := by decide +kernel
theorem dX4_order_21 : decode cX4_order 21 = .ok (.iload_n 2, 1) := by decide +kernel
theorem dX4_order_22 : decode cX4_order 22 = .ok (.invokevirtual 81, 3) := by decide +kernel
theorem dX4_order_25 : decode cX4_order 25 = .ok (.ifCond .eq 29, 3) := by decide +kernel
theorem dX4_order_28 : decode cX4_order 28 = .ok (.aload_n 0, 1) := by decide +kernel
theorem dX4_order_29 : decode cX4_order 29 = .ok (.getfield 12, 3) := by decide +kernel
theorem dX4_order_32 : decode cX4_order 32 = .ok (.getfield 44, 3) := by decide +kernel
theorem dX4_order_35 : decode cX4_order 35 = .ok (.iload_n 3, 1) := by decide +kernel
theorem dX4_order_36 : decode cX4_order 36 = .ok (.invokevirtual 81, 3) := by decide +kernel
theorem dX4_order_39 : decode cX4_order 39 = .ok (.ifCond .eq 15, 3) := by decide +kernel
theorem dX4_order_42 : decode cX4_order 42 = .ok (.aload_n 0, 1) := by decide +kernel
theorem dX4_order_43 : decode cX4_order 43 = .ok (.getfield 12, 3) := by decide +kernel
theorem dX4_order_46 : decode cX4_order 46 = .ok (.iload 5, 2) := by decide +kernel
theorem dX4_order_48 : decode cX4_order 48 = .ok (.invokevirtual 69, 3) := by decide +kernel
theorem dX4_order_51 : decode cX4_order 51 = .ok (.ifCond .ne 5, 3) := by decide +kernel
theorem dX4_order_54 : decode cX4_order 54 = .ok (.iconst (-1), 1) := by decide +kernel
theorem dX4_order_55 : decode cX4_order 55 = .ok (.ireturn, 1) := by decide +kernel
theorem dX4_order_56 : decode cX4_order 56 = .ok (.iload 4, 2) := by decide +kernel
theorem dX4_order_58 : decode cX4_order 58 = .ok (.iconst 1, 1) := by decide +kernel
theorem dX4_order_59 : decode cX4_order 59 = .ok (.bipush 12, 2) := by decide +kernel
theorem dX4_order_61 : decode cX4_order 61 = .ok (.invokestatic 40, 3) := by decide +kernel
theorem dX4_order_64 : decode cX4_order 64 = .ok (.ifCond .eq 8, 3) := by decide +kernel
theorem dX4_order_67 : decode cX4_order 67 = .ok (.iload_n 2, 1) := by decide +kernel
theorem dX4_order_68 : decode cX4_order 68 = .ok (.iload_n 3, 1) := by decide +kernel
theorem dX4_order_69 : decode cX4_order 69 = .ok (.if_icmp .ne 6, 3) := by decide +kernel
theorem dX4_order_72 : decode cX4_order 72 = .ok (.bipush (-2), 2) := by decide +kernel
theorem dX4_order_74 : decode cX4_order 74 = .ok (.ireturn, 1) := by decide +kernel
theorem dX4_order_75 : decode cX4_order 75 = .ok (.aload_n 0, 1) := by decide +kernel
theorem dX4_order_76 : decode cX4_order 76 = .ok (.getfield 12, 3) := by decide +kernel
theorem dX4_order_79 : decode cX4_order 79 = .ok (.getfield 122, 3) := by decide +kernel
theorem dX4_order_82 : decode cX4_order 82 = .ok (.invokevirtual 48, 3) := by decide +kernel
theorem dX4_order_85 : decode cX4_order 85 = .ok (.ifCond .eq 6, 3) := by decide +kernel
theorem dX4_order_88 : decode cX4_order 88 = .ok (.bipush (-3), 2) := by decide +kernel
theorem dX4_order_90 : decode cX4_order 90 = .ok (.ireturn, 1) := by decide +kernel
theorem dX4_order_91 : decode cX4_order 91 = .ok (.aload_n 0, 1) := by decide +kernel
theorem dX4_order_92 : decode cX4_order 92 = .ok (.getfield 25, 3) := by decide +kernel
theorem dX4_order_95 : decode cX4_order 95 = .ok (.aload_n 0, 1) := by decide +kernel
theorem dX4_order_96 : decode cX4_order 96 = .ok (.getfield 12, 3) := by decide +kernel
theorem dX4_order_99 : decode cX4_order 99 = .ok (.invokevirtual 54, 3) := by decide +kernel
theorem dX4_order_102 : decode cX4_order 102 = .ok (.aload_n 0, 1) := by decide +kernel
theorem dX4_order_103 : decode cX4_order 103 = .ok (.getfield 12, 3) := by decide +kernel
theorem dX4_order_106 : decode cX4_order 106 = .ok (.iload_n 1, 1) := by decide +kernel
theorem dX4_order_107 : decode cX4_order 107 = .ok (.iload_n 2, 1) := by decide +kernel
theorem dX4_order_108 : decode cX4_order 108 = .ok (.iload_n 3, 1) := by decide +kernel
theorem dX4_order_109 : decode cX4_order 109 = .ok (.iload 4, 2) := by decide +kernel
theorem dX4_order_111 : decode cX4_order 111 = .ok (.iload 5, 2) := by decide +kernel
theorem dX4_order_113 : decode cX4_order 113 = .ok (.invokevirtual 125, 3) := by decide +kernel
theorem dX4_order_116 : decode cX4_order 116 = .ok (.ireturn, 1) := by decide +kernel
theorem dX4_takeBack_0 : decode cX4_takeBack 0 = .ok (.aload_n 0, 1) := by decide +kernel
theorem dX4_takeBack_1 : decode cX4_takeBack 1 = .ok (.getfield 12, 3) := by decide +kernel
theorem dX4_takeBack_4 : decode cX4_takeBack 4 = .ok (.getfield 122, 3) := by decide +kernel
theorem dX4_takeBack_7 : decode cX4_takeBack 7 = .ok (.iload_n 1, 1) := by decide +kernel
theorem dX4_takeBack_8 : decode cX4_takeBack 8 = .ok (.invokevirtual 81, 3) := by decide +kernel
theorem dX4_takeBack_11 : decode cX4_takeBack 11 = .ok (.ifCond .ne 5, 3) := by decide +kernel
theorem dX4_takeBack_14 : decode cX4_takeBack 14 = .ok (.iconst (-1), 1) := by decide +kernel
theorem dX4_takeBack_15 : decode cX4_takeBack 15 = .ok (.ireturn, 1) := by decide +kernel
theorem dX4_takeBack_16 : decode cX4_takeBack 16 = .ok (.aload_n 0, 1) := by decide +kernel
theorem dX4_takeBack_17 : decode cX4_takeBack 17 = .ok (.getfield 25, 3) := by decide +kernel
theorem dX4_takeBack_20 : decode cX4_takeBack 20 = .ok (.aload_n 0, 1) := by decide +kernel
theorem dX4_takeBack_21 : decode cX4_takeBack 21 = .ok (.getfield 12, 3) := by decide +kernel
theorem dX4_takeBack_24 : decode cX4_takeBack 24 = .ok (.invokevirtual 54, 3) := by decide +kernel
theorem dX4_takeBack_27 : decode cX4_takeBack 27 = .ok (.aload_n 0, 1) := by decide +kernel
theorem dX4_takeBack_28 : decode cX4_takeBack 28 = .ok (.getfield 12, 3) := by decide +kernel
theorem dX4_takeBack_31 : decode cX4_takeBack 31 = .ok (.getfield 122, 3) := by decide +kernel
theorem dX4_takeBack_34 : decode cX4_takeBack 34 = .ok (.iload_n 1, 1) := by decide +kernel
theorem dX4_takeBack_35 : decode cX4_takeBack 35 = .ok (.invokevirtual 129, 3) := by decide +kernel
theorem dX4_takeBack_38 : decode cX4_takeBack 38 = .ok (.aload_n 0, 1) := by decide +kernel
theorem dX4_takeBack_39 : decode cX4_takeBack 39 = .ok (.getfield 12, 3) := by decide +kernel
theorem dX4_takeBack_42 : decode cX4_takeBack 42 = .ok (.getfield 122, 3) := by decide +kernel
theorem dX4_takeBack_45 : decode cX4_takeBack 45 = .ok (.invokevirtual 133, 3) := by decide +kernel
theorem dX4_takeBack_48 : decode cX4_takeBack 48 = .ok (.ireturn, 1) := by decide +kernel
theorem dX4_pass_0 : decode cX4_pass 0 = .ok (.iload_n 1, 1) := by decide +kernel
theorem dX4_pass_1 : decode cX4_pass 1 = .ok (.iconst 1, 1) := by decide +kernel
theorem dX4_pass_2 : decode cX4_pass 2 = .ok (.bipush 20, 2) := by decide +kernel
theorem dX4_pass_4 : decode cX4_pass 4 = .ok (.invokestatic 40, 3) := by decide +kernel
theorem dX4_pass_7 : decode cX4_pass 7 = .ok (.ifCond .ne 6, 3) := by decide +kernel
theorem dX4_pass_10 : decode cX4_pass 10 = .ok (.bipush (-2), 2) := by decide +kernel
theorem dX4_pass_12 : decode cX4_pass 12 = .ok (.ireturn, 1) := by decide +kernel
theorem dX4_pass_13 : decode cX4_pass 13 = .ok (.aload_n 0, 1) := by decide +kernel
theorem dX4_pass_14 : decode cX4_pass 14 = .ok (.getfield 12, 3) := by decide +kernel
theorem dX4_pass_17 : decode cX4_pass 17 = .ok (.getfield 109, 3) := by decide +kernel
theorem dX4_pass_20 : decode cX4_pass 20 = .ok (.iload_n 1, 1) := by decide +kernel
theorem dX4_pass_21 : decode cX4_pass 21 = .ok (.iadd, 1) := by decide +kernel
theorem dX4_pass_22 : decode cX4_pass 22 = .ok (.sipush 200, 3) := by decide +kernel
theorem dX4_pass_25 : decode cX4_pass 25 = .ok (.if_icmp .lt 6, 3) := by decide +kernel
theorem dX4_pass_28 : decode cX4_pass 28 = .ok (.bipush (-4), 2) := by decide +kernel
theorem dX4_pass_30 : decode cX4_pass 30 = .ok (.ireturn, 1) := by decide +kernel
theorem dX4_pass_31 : decode cX4_pass 31 = .ok (.aload_n 0, 1) := by decide +kernel
theorem dX4_pass_32 : decode cX4_pass 32 = .ok (.getfield 25, 3) := by decide +kernel
theorem dX4_pass_35 : decode cX4_pass 35 = .ok (.aload_n 0, 1) := by decide +kernel
theorem dX4_pass_36 : decode cX4_pass 36 = .ok (.getfield 12, 3) := by decide +kernel
theorem dX4_pass_39 : decode cX4_pass 39 = .ok (.invokevirtual 54, 3) := by decide +kernel
theorem dX4_pass_42 : decode cX4_pass 42 = .ok (.iconst 0, 1) := by decide +kernel
theorem dX4_pass_43 : decode cX4_pass 43 = .ok (.istore_n 2, 1) := by decide +kernel
theorem dX4_pass_44 : decode cX4_pass 44 = .ok (.iconst 0, 1) := by decide +kernel
theorem dX4_pass_45 : decode cX4_pass 45 = .ok (.istore_n 3, 1) := by decide +kernel
theorem dX4_pass_46 : decode cX4_pass 46 = .ok (.iload_n 3, 1) := by decide +kernel
theorem dX4_pass_47 : decode cX4_pass 47 = .ok (.iload_n 1, 1) := by decide +kernel
theorem dX4_pass_48 : decode cX4_pass 48 = .ok (.if_icmp .ge 19, 3) := by decide +kernel
theorem dX4_pass_51 : decode cX4_pass 51 = .ok (.iload_n 2, 1) := by decide +kernel
theorem dX4_pass_52 : decode cX4_pass 52 = .ok (.aload_n 0, 1) := by decide +kernel
theorem dX4_pass_53 : decode cX4_pass 53 = .ok (.getfield 12, 3) := by decide +kernel
theorem dX4_pass_56 : decode cX4_pass 56 = .ok (.invokevirtual 136, 3) := by decide +kernel
theorem dX4_pass_59 : decode cX4_pass 59 = .ok (.iadd, 1) := by decide +kernel
theorem dX4_pass_60 : decode cX4_pass 60 = .ok (.istore_n 2, 1) := by decide +kernel
theorem dX4_pass_61 : decode cX4_pass 61 = .ok (.iinc 3 1, 3) := by decide +kernel
theorem dX4_pass_64 : decode cX4_pass 64 = .ok (.goto (-18), 3) := by decide +kernel
theorem dX4_pass_67 : decode cX4_pass 67 = .ok (.iload_n 2, 1) := by decide +kernel
theorem dX4_pass_68 : decode cX4_pass 68 = .ok (.ireturn, 1) := by decide +kernel
theorem dX4_undo_0 : decode cX4_undo 0 = .ok (.aload_n 0, 1) := by decide +kernel
theorem dX4_undo_1 : decode cX4_undo 1 = .ok (.getfield 25, 3) := by decide +kernel
theorem dX4_undo_4 : decode cX4_undo 4 = .ok (.invokevirtual 163, 3) := by decide +kernel
theorem dX4_undo_7 : decode cX4_undo 7 = .ok (.ifCond .ne 6, 3) := by decide +kernel
theorem dX4_undo_10 : decode cX4_undo 10 = .ok (.bipush (-5), 2) := by decide +kernel
theorem dX4_undo_12 : decode cX4_undo 12 = .ok (.ireturn, 1) := by decide +kernel
theorem dX4_undo_13 : decode cX4_undo 13 = .ok (.aload_n 0, 1) := by decide +kernel
theorem dX4_undo_14 : decode cX4_undo 14 = .ok (.getfield 25, 3) := by decide +kernel
theorem dX4_undo_17 : decode cX4_undo 17 = .ok (.aload_n 0, 1) := by decide +kernel
theorem dX4_undo_18 : decode cX4_undo 18 = .ok (.getfield 12, 3) := by decide +kernel
theorem dX4_undo_21 : decode cX4_undo 21 = .ok (.invokevirtual 164, 3) := by decide +kernel
theorem dX4_undo_24 : decode cX4_undo 24 = .ok (.aload_n 0, 1) := by decide +kernel
theorem dX4_undo_25 : decode cX4_undo 25 = .ok (.getfield 25, 3) := by decide +kernel
theorem dX4_undo_28 : decode cX4_undo 28 = .ok (.invokevirtual 163, 3) := by decide +kernel
theorem dX4_undo_31 : decode cX4_undo 31 = .ok (.ireturn, 1) := by decide +kernel
theorem dX4_keep_0 : decode cX4_keep 0 = .ok (.aload_n 0, 1) := by decide +kernel
theorem dX4_keep_1 : decode cX4_keep 1 = .ok (.getfield 16, 3) := by decide +kernel
theorem dX4_keep_4 : decode cX4_keep 4 = .ok (.aload_n 0, 1) := by decide +kernel
theorem dX4_keep_5 : decode cX4_keep 5 = .ok (.getfield 12, 3) := by decide +kernel
theorem dX4_keep_8 : decode cX4_keep 8 = .ok (.invokevirtual 167, 3) := by decide +kernel
theorem dX4_keep_11 : decode cX4_keep 11 = .ok (.aload_n 0, 1) := by decide +kernel
theorem dX4_keep_12 : decode cX4_keep 12 = .ok (.iconst 1, 1) := by decide +kernel
theorem dX4_keep_13 : decode cX4_keep 13 = .ok (.putfield 36, 3) := by decide +kernel
theorem dX4_keep_16 : decode cX4_keep 16 = .ok (.aload_n 0, 1) := by decide +kernel
theorem dX4_keep_17 : decode cX4_keep 17 = .ok (.getfield 12, 3) := by decide +kernel
theorem dX4_keep_20 : decode cX4_keep 20 = .ok (.getfield 109, 3) := by decide +kernel
theorem dX4_keep_23 : decode cX4_keep 23 = .ok (.ireturn, 1) := by decide +kernel
theorem dX4_restore_0 : decode cX4_restore 0 = .ok (.aload_n 0, 1) := by decide +kernel
theorem dX4_restore_1 : decode cX4_restore 1 = .ok (.getfield 36, 3) := by decide +kernel
theorem dX4_restore_4 : decode cX4_restore 4 = .ok (.ifCond .ne 6, 3) := by decide +kernel
theorem dX4_restore_7 : decode cX4_restore 7 = .ok (.bipush (-5), 2) := by decide +kernel
theorem dX4_restore_9 : decode cX4_restore 9 = .ok (.ireturn, 1) := by decide +kernel
theorem dX4_restore_10 : decode cX4_restore 10 = .ok (.aload_n 0, 1) := by decide +kernel
theorem dX4_restore_11 : decode cX4_restore 11 = .ok (.getfield 25, 3) := by decide +kernel
theorem dX4_restore_14 : decode cX4_restore 14 = .ok (.aload_n 0, 1) := by decide +kernel
theorem dX4_restore_15 : decode cX4_restore 15 = .ok (.getfield 12, 3) := by decide +kernel
theorem dX4_restore_18 : decode cX4_restore 18 = .ok (.invokevirtual 54, 3) := by decide +kernel
theorem dX4_restore_21 : decode cX4_restore 21 = .ok (.aload_n 0, 1) := by decide +kernel
theorem dX4_restore_22 : decode cX4_restore 22 = .ok (.getfield 12, 3) := by decide +kernel
theorem dX4_restore_25 : decode cX4_restore 25 = .ok (.aload_n 0, 1) := by decide +kernel
theorem dX4_restore_26 : decode cX4_restore 26 = .ok (.getfield 16, 3) := by decide +kernel
theorem dX4_restore_29 : decode cX4_restore 29 = .ok (.invokevirtual 167, 3) := by decide +kernel
theorem dX4_restore_32 : decode cX4_restore 32 = .ok (.aload_n 0, 1) := by decide +kernel
theorem dX4_restore_33 : decode cX4_restore 33 = .ok (.getfield 12, 3) := by decide +kernel
theorem dX4_restore_36 : decode cX4_restore 36 = .ok (.getfield 109, 3) := by decide +kernel
theorem dX4_restore_39 : decode cX4_restore 39 = .ok (.ireturn, 1) := by decide +kernel
theorem dX4_bears_0 : decode cX4_bears 0 = .ok (.aload_n 0, 1) := by decide +kernel
theorem dX4_bears_1 : decode cX4_bears 1 = .ok (.getfield 12, 3) := by decide +kernel
theorem dX4_bears_4 : decode cX4_bears 4 = .ok (.getfield 44, 3) := by decide +kernel
theorem dX4_bears_7 : decode cX4_bears 7 = .ok (.iload_n 1, 1) := by decide +kernel
theorem dX4_bears_8 : decode cX4_bears 8 = .ok (.invokevirtual 81, 3) := by decide +kernel
theorem dX4_bears_11 : decode cX4_bears 11 = .ok (.ifCond .ne 5, 3) := by decide +kernel
theorem dX4_bears_14 : decode cX4_bears 14 = .ok (.iconst (-1), 1) := by decide +kernel
theorem dX4_bears_15 : decode cX4_bears 15 = .ok (.ireturn, 1) := by decide +kernel
theorem dX4_bears_16 : decode cX4_bears 16 = .ok (.iload_n 2, 1) := by decide +kernel
theorem dX4_bears_17 : decode cX4_bears 17 = .ok (.invokestatic 170, 3) := by decide +kernel
theorem dX4_bears_20 : decode cX4_bears 20 = .ok (.ifCond .ne 6, 3) := by decide +kernel
theorem dX4_bears_23 : decode cX4_bears 23 = .ok (.bipush (-2), 2) := by decide +kernel
theorem dX4_bears_25 : decode cX4_bears 25 = .ok (.ireturn, 1) := by decide +kernel
theorem dX4_bears_26 : decode cX4_bears 26 = .ok (.aload_n 0, 1) := by decide +kernel
theorem dX4_bears_27 : decode cX4_bears 27 = .ok (.getfield 12, 3) := by decide +kernel
theorem dX4_bears_30 : decode cX4_bears 30 = .ok (.iload_n 1, 1) := by decide +kernel
theorem dX4_bears_31 : decode cX4_bears 31 = .ok (.iload_n 2, 1) := by decide +kernel
theorem dX4_bears_32 : decode cX4_bears 32 = .ok (.invokevirtual 173, 3) := by decide +kernel
theorem dX4_bears_35 : decode cX4_bears 35 = .ok (.ireturn, 1) := by decide +kernel
theorem dX4_willBear_0 : decode cX4_willBear 0 = .ok (.aload_n 0, 1) := by decide +kernel
theorem dX4_willBear_1 : decode cX4_willBear 1 = .ok (.getfield 12, 3) := by decide +kernel
theorem dX4_willBear_4 : decode cX4_willBear 4 = .ok (.getfield 44, 3) := by decide +kernel
theorem dX4_willBear_7 : decode cX4_willBear 7 = .ok (.iload_n 1, 1) := by decide +kernel
theorem dX4_willBear_8 : decode cX4_willBear 8 = .ok (.invokevirtual 81, 3) := by decide +kernel
theorem dX4_willBear_11 : decode cX4_willBear 11 = .ok (.ifCond .eq 14, 3) := by decide +kernel
theorem dX4_willBear_14 : decode cX4_willBear 14 = .ok (.aload_n 0, 1) := by decide +kernel
theorem dX4_willBear_15 : decode cX4_willBear 15 = .ok (.getfield 12, 3) := by decide +kernel
theorem dX4_willBear_18 : decode cX4_willBear 18 = .ok (.iload_n 3, 1) := by decide +kernel
theorem dX4_willBear_19 : decode cX4_willBear 19 = .ok (.invokevirtual 69, 3) := by decide +kernel
theorem dX4_willBear_22 : decode cX4_willBear 22 = .ok (.ifCond .ne 5, 3) := by decide +kernel
theorem dX4_willBear_25 : decode cX4_willBear 25 = .ok (.iconst (-1), 1) := by decide +kernel
theorem dX4_willBear_26 : decode cX4_willBear 26 = .ok (.ireturn, 1) := by decide +kernel
theorem dX4_willBear_27 : decode cX4_willBear 27 = .ok (.iload_n 2, 1) := by decide +kernel
theorem dX4_willBear_28 : decode cX4_willBear 28 = .ok (.invokestatic 170, 3) := by decide +kernel
theorem dX4_willBear_31 : decode cX4_willBear 31 = .ok (.ifCond .ne 6, 3) := by decide +kernel
theorem dX4_willBear_34 : decode cX4_willBear 34 = .ok (.bipush (-2), 2) := by decide +kernel
theorem dX4_willBear_36 : decode cX4_willBear 36 = .ok (.ireturn, 1) := by decide +kernel
theorem dX4_willBear_37 : decode cX4_willBear 37 = .ok (.aload_n 0, 1) := by decide +kernel
theorem dX4_willBear_38 : decode cX4_willBear 38 = .ok (.getfield 19, 3) := by decide +kernel
theorem dX4_willBear_41 : decode cX4_willBear 41 = .ok (.aload_n 0, 1) := by decide +kernel
theorem dX4_willBear_42 : decode cX4_willBear 42 = .ok (.getfield 12, 3) := by decide +kernel
theorem dX4_willBear_45 : decode cX4_willBear 45 = .ok (.invokevirtual 167, 3) := by decide +kernel
theorem dX4_willBear_48 : decode cX4_willBear 48 = .ok (.aload_n 0, 1) := by decide +kernel
theorem dX4_willBear_49 : decode cX4_willBear 49 = .ok (.getfield 19, 3) := by decide +kernel
theorem dX4_willBear_52 : decode cX4_willBear 52 = .ok (.iload_n 3, 1) := by decide +kernel
theorem dX4_willBear_53 : decode cX4_willBear 53 = .ok (.invokevirtual 176, 3) := by decide +kernel
theorem dX4_willBear_56 : decode cX4_willBear 56 = .ok (.aload_n 0, 1) := by decide +kernel
theorem dX4_willBear_57 : decode cX4_willBear 57 = .ok (.getfield 19, 3) := by decide +kernel
theorem dX4_willBear_60 : decode cX4_willBear 60 = .ok (.iload_n 1, 1) := by decide +kernel
theorem dX4_willBear_61 : decode cX4_willBear 61 = .ok (.iload_n 2, 1) := by decide +kernel
theorem dX4_willBear_62 : decode cX4_willBear 62 = .ok (.invokevirtual 173, 3) := by decide +kernel
theorem dX4_willBear_65 : decode cX4_willBear 65 = .ok (.ireturn, 1) := by decide +kernel
theorem dX4_windLimit_0 : decode cX4_windLimit 0 = .ok (.iload_n 1, 1) := by decide +kernel
theorem dX4_windLimit_1 : decode cX4_windLimit 1 = .ok (.iload_n 2, 1) := by decide +kernel
theorem dX4_windLimit_2 : decode cX4_windLimit 2 = .ok (.invokestatic 84, 3) := by decide +kernel
theorem dX4_windLimit_5 : decode cX4_windLimit 5 = .ok (.ifCond .ne 6, 3) := by decide +kernel
theorem dX4_windLimit_8 : decode cX4_windLimit 8 = .ok (.bipush (-2), 2) := by decide +kernel
theorem dX4_windLimit_10 : decode cX4_windLimit 10 = .ok (.ireturn, 1) := by decide +kernel
theorem dX4_windLimit_11 : decode cX4_windLimit 11 = .ok (.iload_n 1, 1) := by decide +kernel
theorem dX4_windLimit_12 : decode cX4_windLimit 12 = .ok (.iload_n 2, 1) := by decide +kernel
theorem dX4_windLimit_13 : decode cX4_windLimit 13 = .ok (.invokestatic 179, 3) := by decide +kernel
theorem dX4_windLimit_16 : decode cX4_windLimit 16 = .ok (.ireturn, 1) := by decide +kernel
theorem dX4_machine_0 : decode cX4_machine 0 = .ok (.aload_n 0, 1) := by decide +kernel
theorem dX4_machine_1 : decode cX4_machine 1 = .ok (.getfield 12, 3) := by decide +kernel
theorem dX4_machine_4 : decode cX4_machine 4 = .ok (.getfield 44, 3) := by decide +kernel
theorem dX4_machine_7 : decode cX4_machine 7 = .ok (.iload_n 1, 1) := by decide +kernel
theorem dX4_machine_8 : decode cX4_machine 8 = .ok (.invokevirtual 81, 3) := by decide +kernel
theorem dX4_machine_11 : decode cX4_machine 11 = .ok (.ifCond .ne 5, 3) := by decide +kernel
theorem dX4_machine_14 : decode cX4_machine 14 = .ok (.iconst (-1), 1) := by decide +kernel
theorem dX4_machine_15 : decode cX4_machine 15 = .ok (.ireturn, 1) := by decide +kernel
theorem dX4_machine_16 : decode cX4_machine 16 = .ok (.iload_n 2, 1) := by decide +kernel
theorem dX4_machine_17 : decode cX4_machine 17 = .ok (.tableswitch 138 0 6 #[43, 56, 69, 84, 97, 110, 123], 43) := by decide +kernel
theorem dX4_machine_60 : decode cX4_machine 60 = .ok (.aload_n 0, 1) := by decide +kernel
theorem dX4_machine_61 : decode cX4_machine 61 = .ok (.getfield 12, 3) := by decide +kernel
theorem dX4_machine_64 : decode cX4_machine 64 = .ok (.getfield 44, 3) := by decide +kernel
theorem dX4_machine_67 : decode cX4_machine 67 = .ok (.iload_n 1, 1) := by decide +kernel
theorem dX4_machine_68 : decode cX4_machine 68 = .ok (.iconst 0, 1) := by decide +kernel
theorem dX4_machine_69 : decode cX4_machine 69 = .ok (.invokevirtual 106, 3) := by decide +kernel
theorem dX4_machine_72 : decode cX4_machine 72 = .ok (.ireturn, 1) := by decide +kernel
theorem dX4_machine_73 : decode cX4_machine 73 = .ok (.aload_n 0, 1) := by decide +kernel
theorem dX4_machine_74 : decode cX4_machine 74 = .ok (.getfield 12, 3) := by decide +kernel
theorem dX4_machine_77 : decode cX4_machine 77 = .ok (.getfield 44, 3) := by decide +kernel
theorem dX4_machine_80 : decode cX4_machine 80 = .ok (.iload_n 1, 1) := by decide +kernel
theorem dX4_machine_81 : decode cX4_machine 81 = .ok (.iconst 1, 1) := by decide +kernel
theorem dX4_machine_82 : decode cX4_machine 82 = .ok (.invokevirtual 106, 3) := by decide +kernel
theorem dX4_machine_85 : decode cX4_machine 85 = .ok (.ireturn, 1) := by decide +kernel
theorem dX4_machine_86 : decode cX4_machine 86 = .ok (.aload_n 0, 1) := by decide +kernel
theorem dX4_machine_87 : decode cX4_machine 87 = .ok (.getfield 12, 3) := by decide +kernel
theorem dX4_machine_90 : decode cX4_machine 90 = .ok (.getfield 92, 3) := by decide +kernel
theorem dX4_machine_93 : decode cX4_machine 93 = .ok (.iconst 1, 1) := by decide +kernel
theorem dX4_machine_94 : decode cX4_machine 94 = .ok (.iload_n 1, 1) := by decide +kernel
theorem dX4_machine_95 : decode cX4_machine 95 = .ok (.iconst 5, 1) := by decide +kernel
theorem dX4_machine_96 : decode cX4_machine 96 = .ok (.iconst 0, 1) := by decide +kernel
theorem dX4_machine_97 : decode cX4_machine 97 = .ok (.invokevirtual 182, 3) := by decide +kernel
theorem dX4_machine_100 : decode cX4_machine 100 = .ok (.ireturn, 1) := by decide +kernel
theorem dX4_machine_101 : decode cX4_machine 101 = .ok (.aload_n 0, 1) := by decide +kernel
theorem dX4_machine_102 : decode cX4_machine 102 = .ok (.getfield 12, 3) := by decide +kernel
theorem dX4_machine_105 : decode cX4_machine 105 = .ok (.getfield 122, 3) := by decide +kernel
theorem dX4_machine_108 : decode cX4_machine 108 = .ok (.iconst 1, 1) := by decide +kernel
theorem dX4_machine_109 : decode cX4_machine 109 = .ok (.iload_n 1, 1) := by decide +kernel
theorem dX4_machine_110 : decode cX4_machine 110 = .ok (.invokevirtual 186, 3) := by decide +kernel
theorem dX4_machine_113 : decode cX4_machine 113 = .ok (.ireturn, 1) := by decide +kernel
theorem dX4_machine_114 : decode cX4_machine 114 = .ok (.aload_n 0, 1) := by decide +kernel
theorem dX4_machine_115 : decode cX4_machine 115 = .ok (.getfield 12, 3) := by decide +kernel
theorem dX4_machine_118 : decode cX4_machine 118 = .ok (.getfield 122, 3) := by decide +kernel
theorem dX4_machine_121 : decode cX4_machine 121 = .ok (.iconst 2, 1) := by decide +kernel
theorem dX4_machine_122 : decode cX4_machine 122 = .ok (.iload_n 1, 1) := by decide +kernel
theorem dX4_machine_123 : decode cX4_machine 123 = .ok (.invokevirtual 186, 3) := by decide +kernel
theorem dX4_machine_126 : decode cX4_machine 126 = .ok (.ireturn, 1) := by decide +kernel
theorem dX4_machine_127 : decode cX4_machine 127 = .ok (.aload_n 0, 1) := by decide +kernel
theorem dX4_machine_128 : decode cX4_machine 128 = .ok (.getfield 12, 3) := by decide +kernel
theorem dX4_machine_131 : decode cX4_machine 131 = .ok (.getfield 44, 3) := by decide +kernel
theorem dX4_machine_134 : decode cX4_machine 134 = .ok (.iload_n 1, 1) := by decide +kernel
theorem dX4_machine_135 : decode cX4_machine 135 = .ok (.iconst 2, 1) := by decide +kernel
theorem dX4_machine_136 : decode cX4_machine 136 = .ok (.invokevirtual 106, 3) := by decide +kernel
theorem dX4_machine_139 : decode cX4_machine 139 = .ok (.ireturn, 1) := by decide +kernel
theorem dX4_machine_140 : decode cX4_machine 140 = .ok (.aload_n 0, 1) := by decide +kernel
theorem dX4_machine_141 : decode cX4_machine 141 = .ok (.getfield 12, 3) := by decide +kernel
theorem dX4_machine_144 : decode cX4_machine 144 = .ok (.getfield 92, 3) := by decide +kernel
theorem dX4_machine_147 : decode cX4_machine 147 = .ok (.iconst 1, 1) := by decide +kernel
theorem dX4_machine_148 : decode cX4_machine 148 = .ok (.iload_n 1, 1) := by decide +kernel
theorem dX4_machine_149 : decode cX4_machine 149 = .ok (.iconst 5, 1) := by decide +kernel
theorem dX4_machine_150 : decode cX4_machine 150 = .ok (.iconst 1, 1) := by decide +kernel
theorem dX4_machine_151 : decode cX4_machine 151 = .ok (.invokevirtual 182, 3) := by decide +kernel
theorem dX4_machine_154 : decode cX4_machine 154 = .ok (.ireturn, 1) := by decide +kernel
theorem dX4_machine_155 : decode cX4_machine 155 = .ok (.bipush (-2), 2) := by decide +kernel
theorem dX4_machine_157 : decode cX4_machine 157 = .ok (.ireturn, 1) := by decide +kernel
theorem dX4_member_0 : decode cX4_member 0 = .ok (.aload_n 0, 1) := by decide +kernel
theorem dX4_member_1 : decode cX4_member 1 = .ok (.getfield 12, 3) := by decide +kernel
theorem dX4_member_4 : decode cX4_member 4 = .ok (.getfield 62, 3) := by decide +kernel
theorem dX4_member_7 : decode cX4_member 7 = .ok (.iload_n 1, 1) := by decide +kernel
theorem dX4_member_8 : decode cX4_member 8 = .ok (.invokevirtual 81, 3) := by decide +kernel
theorem dX4_member_11 : decode cX4_member 11 = .ok (.ifCond .ne 5, 3) := by decide +kernel
theorem dX4_member_14 : decode cX4_member 14 = .ok (.iconst (-1), 1) := by decide +kernel
theorem dX4_member_15 : decode cX4_member 15 = .ok (.ireturn, 1) := by decide +kernel
theorem dX4_member_16 : decode cX4_member 16 = .ok (.iload_n 2, 1) := by decide +kernel
theorem dX4_member_17 : decode cX4_member 17 = .ok (.tableswitch 142 0 6 #[43, 56, 71, 86, 101, 116, 129], 43) := by decide +kernel
theorem dX4_member_60 : decode cX4_member 60 = .ok (.aload_n 0, 1) := by decide +kernel
theorem dX4_member_61 : decode cX4_member 61 = .ok (.getfield 12, 3) := by decide +kernel
theorem dX4_member_64 : decode cX4_member 64 = .ok (.getfield 62, 3) := by decide +kernel
theorem dX4_member_67 : decode cX4_member 67 = .ok (.iload_n 1, 1) := by decide +kernel
theorem dX4_member_68 : decode cX4_member 68 = .ok (.iconst 0, 1) := by decide +kernel
theorem dX4_member_69 : decode cX4_member 69 = .ok (.invokevirtual 106, 3) := by decide +kernel
theorem dX4_member_72 : decode cX4_member 72 = .ok (.ireturn, 1) := by decide +kernel
theorem dX4_member_73 : decode cX4_member 73 = .ok (.aload_n 0, 1) := by decide +kernel
theorem dX4_member_74 : decode cX4_member 74 = .ok (.getfield 12, 3) := by decide +kernel
theorem dX4_member_77 : decode cX4_member 77 = .ok (.getfield 92, 3) := by decide +kernel
theorem dX4_member_80 : decode cX4_member 80 = .ok (.iconst 0, 1) := by decide +kernel
theorem dX4_member_81 : decode cX4_member 81 = .ok (.iload_n 1, 1) := by decide +kernel
theorem dX4_member_82 : decode cX4_member 82 = .ok (.iconst 5, 1) := by decide +kernel
theorem dX4_member_83 : decode cX4_member 83 = .ok (.iconst 0, 1) := by decide +kernel
theorem dX4_member_84 : decode cX4_member 84 = .ok (.invokevirtual 182, 3) := by decide +kernel
theorem dX4_member_87 : decode cX4_member 87 = .ok (.ireturn, 1) := by decide +kernel
theorem dX4_member_88 : decode cX4_member 88 = .ok (.aload_n 0, 1) := by decide +kernel
theorem dX4_member_89 : decode cX4_member 89 = .ok (.getfield 12, 3) := by decide +kernel
theorem dX4_member_92 : decode cX4_member 92 = .ok (.getfield 92, 3) := by decide +kernel
theorem dX4_member_95 : decode cX4_member 95 = .ok (.iconst 0, 1) := by decide +kernel
theorem dX4_member_96 : decode cX4_member 96 = .ok (.iload_n 1, 1) := by decide +kernel
theorem dX4_member_97 : decode cX4_member 97 = .ok (.iconst 5, 1) := by decide +kernel
theorem dX4_member_98 : decode cX4_member 98 = .ok (.iconst 1, 1) := by decide +kernel
theorem dX4_member_99 : decode cX4_member 99 = .ok (.invokevirtual 182, 3) := by decide +kernel
theorem dX4_member_102 : decode cX4_member 102 = .ok (.ireturn, 1) := by decide +kernel
theorem dX4_member_103 : decode cX4_member 103 = .ok (.aload_n 0, 1) := by decide +kernel
theorem dX4_member_104 : decode cX4_member 104 = .ok (.getfield 12, 3) := by decide +kernel
theorem dX4_member_107 : decode cX4_member 107 = .ok (.getfield 92, 3) := by decide +kernel
theorem dX4_member_110 : decode cX4_member 110 = .ok (.iconst 0, 1) := by decide +kernel
theorem dX4_member_111 : decode cX4_member 111 = .ok (.iload_n 1, 1) := by decide +kernel
theorem dX4_member_112 : decode cX4_member 112 = .ok (.iconst 5, 1) := by decide +kernel
theorem dX4_member_113 : decode cX4_member 113 = .ok (.iconst 2, 1) := by decide +kernel
theorem dX4_member_114 : decode cX4_member 114 = .ok (.invokevirtual 182, 3) := by decide +kernel
theorem dX4_member_117 : decode cX4_member 117 = .ok (.ireturn, 1) := by decide +kernel
theorem dX4_member_118 : decode cX4_member 118 = .ok (.aload_n 0, 1) := by decide +kernel
theorem dX4_member_119 : decode cX4_member 119 = .ok (.getfield 12, 3) := by decide +kernel
theorem dX4_member_122 : decode cX4_member 122 = .ok (.getfield 92, 3) := by decide +kernel
theorem dX4_member_125 : decode cX4_member 125 = .ok (.iconst 0, 1) := by decide +kernel
theorem dX4_member_126 : decode cX4_member 126 = .ok (.iload_n 1, 1) := by decide +kernel
theorem dX4_member_127 : decode cX4_member 127 = .ok (.iconst 5, 1) := by decide +kernel
theorem dX4_member_128 : decode cX4_member 128 = .ok (.iconst 3, 1) := by decide +kernel
theorem dX4_member_129 : decode cX4_member 129 = .ok (.invokevirtual 182, 3) := by decide +kernel
theorem dX4_member_132 : decode cX4_member 132 = .ok (.ireturn, 1) := by decide +kernel
theorem dX4_member_133 : decode cX4_member 133 = .ok (.aload_n 0, 1) := by decide +kernel
theorem dX4_member_134 : decode cX4_member 134 = .ok (.getfield 12, 3) := by decide +kernel
theorem dX4_member_137 : decode cX4_member 137 = .ok (.getfield 62, 3) := by decide +kernel
theorem dX4_member_140 : decode cX4_member 140 = .ok (.iload_n 1, 1) := by decide +kernel
theorem dX4_member_141 : decode cX4_member 141 = .ok (.iconst 1, 1) := by decide +kernel
theorem dX4_member_142 : decode cX4_member 142 = .ok (.invokevirtual 106, 3) := by decide +kernel
theorem dX4_member_145 : decode cX4_member 145 = .ok (.ireturn, 1) := by decide +kernel
theorem dX4_member_146 : decode cX4_member 146 = .ok (.aload_n 0, 1) := by decide +kernel
theorem dX4_member_147 : decode cX4_member 147 = .ok (.getfield 12, 3) := by decide +kernel
theorem dX4_member_150 : decode cX4_member 150 = .ok (.getfield 122, 3) := by decide +kernel
theorem dX4_member_153 : decode cX4_member 153 = .ok (.iconst 0, 1) := by decide +kernel
theorem dX4_member_154 : decode cX4_member 154 = .ok (.iload_n 1, 1) := by decide +kernel
theorem dX4_member_155 : decode cX4_member 155 = .ok (.invokevirtual 186, 3) := by decide +kernel
theorem dX4_member_158 : decode cX4_member 158 = .ok (.ireturn, 1) := by decide +kernel
theorem dX4_member_159 : decode cX4_member 159 = .ok (.bipush (-2), 2) := by decide +kernel
theorem dX4_member_161 : decode cX4_member 161 = .ok (.ireturn, 1) := by decide +kernel
theorem dX4_booking_0 : decode cX4_booking 0 = .ok (.aload_n 0, 1) := by decide +kernel
theorem dX4_booking_1 : decode cX4_booking 1 = .ok (.getfield 12, 3) := by decide +kernel
theorem dX4_booking_4 : decode cX4_booking 4 = .ok (.getfield 92, 3) := by decide +kernel
theorem dX4_booking_7 : decode cX4_booking 7 = .ok (.iload_n 1, 1) := by decide +kernel
theorem dX4_booking_8 : decode cX4_booking 8 = .ok (.invokevirtual 81, 3) := by decide +kernel
theorem dX4_booking_11 : decode cX4_booking 11 = .ok (.ifCond .ne 5, 3) := by decide +kernel
theorem dX4_booking_14 : decode cX4_booking 14 = .ok (.iconst (-1), 1) := by decide +kernel
theorem dX4_booking_15 : decode cX4_booking 15 = .ok (.ireturn, 1) := by decide +kernel
theorem dX4_booking_16 : decode cX4_booking 16 = .ok (.iload_n 2, 1) := by decide +kernel
theorem dX4_booking_17 : decode cX4_booking 17 = .ok (.bipush 8, 2) := by decide +kernel
theorem dX4_booking_19 : decode cX4_booking 19 = .ok (.if_icmp .ne 12, 3) := by decide +kernel
theorem dX4_booking_22 : decode cX4_booking 22 = .ok (.aload_n 0, 1) := by decide +kernel
theorem dX4_booking_23 : decode cX4_booking 23 = .ok (.getfield 12, 3) := by decide +kernel
theorem dX4_booking_26 : decode cX4_booking 26 = .ok (.iload_n 1, 1) := by decide +kernel
theorem dX4_booking_27 : decode cX4_booking 27 = .ok (.invokevirtual 189, 3) := by decide +kernel
theorem dX4_booking_30 : decode cX4_booking 30 = .ok (.ireturn, 1) := by decide +kernel
theorem dX4_booking_31 : decode cX4_booking 31 = .ok (.iload_n 2, 1) := by decide +kernel
theorem dX4_booking_32 : decode cX4_booking 32 = .ok (.iconst 0, 1) := by decide +kernel
theorem dX4_booking_33 : decode cX4_booking 33 = .ok (.bipush 7, 2) := by decide +kernel
theorem dX4_booking_35 : decode cX4_booking 35 = .ok (.invokestatic 40, 3) := by decide +kernel
theorem dX4_booking_38 : decode cX4_booking 38 = .ok (.ifCond .eq 18, 3) := by decide +kernel
theorem dX4_booking_41 : decode cX4_booking 41 = .ok (.aload_n 0, 1) := by decide +kernel
theorem dX4_booking_42 : decode cX4_booking 42 = .ok (.getfield 12, 3) := by decide +kernel
theorem dX4_booking_45 : decode cX4_booking 45 = .ok (.getfield 92, 3) := by decide +kernel
theorem dX4_booking_48 : decode cX4_booking 48 = .ok (.iload_n 1, 1) := by decide +kernel
theorem dX4_booking_49 : decode cX4_booking 49 = .ok (.iload_n 2, 1) := by decide +kernel
theorem dX4_booking_50 : decode cX4_booking 50 = .ok (.invokevirtual 106, 3) := by decide +kernel
theorem dX4_booking_53 : decode cX4_booking 53 = .ok (.goto 5, 3) := by decide +kernel
theorem dX4_booking_56 : decode cX4_booking 56 = .ok (.bipush (-2), 2) := by decide +kernel
theorem dX4_booking_58 : decode cX4_booking 58 = .ok (.ireturn, 1) := by decide +kernel
theorem dX4_move_0 : decode cX4_move 0 = .ok (.aload_n 0, 1) := by decide +kernel
theorem dX4_move_1 : decode cX4_move 1 = .ok (.getfield 12, 3) := by decide +kernel
theorem dX4_move_4 : decode cX4_move 4 = .ok (.getfield 122, 3) := by decide +kernel
theorem dX4_move_7 : decode cX4_move 7 = .ok (.iload_n 1, 1) := by decide +kernel
theorem dX4_move_8 : decode cX4_move 8 = .ok (.invokevirtual 81, 3) := by decide +kernel
theorem dX4_move_11 : decode cX4_move 11 = .ok (.ifCond .ne 5, 3) := by decide +kernel
theorem dX4_move_14 : decode cX4_move 14 = .ok (.iconst (-1), 1) := by decide +kernel
theorem dX4_move_15 : decode cX4_move 15 = .ok (.ireturn, 1) := by decide +kernel
theorem dX4_move_16 : decode cX4_move 16 = .ok (.iload_n 2, 1) := by decide +kernel
theorem dX4_move_17 : decode cX4_move 17 = .ok (.iconst 0, 1) := by decide +kernel
theorem dX4_move_18 : decode cX4_move 18 = .ok (.iconst 4, 1) := by decide +kernel
theorem dX4_move_19 : decode cX4_move 19 = .ok (.invokestatic 40, 3) := by decide +kernel
theorem dX4_move_22 : decode cX4_move 22 = .ok (.ifCond .eq 18, 3) := by decide +kernel
theorem dX4_move_25 : decode cX4_move 25 = .ok (.aload_n 0, 1) := by decide +kernel
theorem dX4_move_26 : decode cX4_move 26 = .ok (.getfield 12, 3) := by decide +kernel
theorem dX4_move_29 : decode cX4_move 29 = .ok (.getfield 122, 3) := by decide +kernel
theorem dX4_move_32 : decode cX4_move 32 = .ok (.iload_n 1, 1) := by decide +kernel
theorem dX4_move_33 : decode cX4_move 33 = .ok (.iload_n 2, 1) := by decide +kernel
theorem dX4_move_34 : decode cX4_move 34 = .ok (.invokevirtual 106, 3) := by decide +kernel
theorem dX4_move_37 : decode cX4_move 37 = .ok (.goto 5, 3) := by decide +kernel
theorem dX4_move_40 : decode cX4_move 40 = .ok (.bipush (-2), 2) := by decide +kernel
theorem dX4_move_42 : decode cX4_move 42 = .ok (.ireturn, 1) := by decide +kernel
theorem dX4_bookedAt_0 : decode cX4_bookedAt 0 = .ok (.aload_n 0, 1) := by decide +kernel
theorem dX4_bookedAt_1 : decode cX4_bookedAt 1 = .ok (.getfield 12, 3) := by decide +kernel
theorem dX4_bookedAt_4 : decode cX4_bookedAt 4 = .ok (.getfield 44, 3) := by decide +kernel
theorem dX4_bookedAt_7 : decode cX4_bookedAt 7 = .ok (.iload_n 1, 1) := by decide +kernel
theorem dX4_bookedAt_8 : decode cX4_bookedAt 8 = .ok (.invokevirtual 81, 3) := by decide +kernel
theorem dX4_bookedAt_11 : decode cX4_bookedAt 11 = .ok (.ifCond .eq 10, 3) := by decide +kernel
theorem dX4_bookedAt_14 : decode cX4_bookedAt 14 = .ok (.iload_n 2, 1) := by decide +kernel
theorem dX4_bookedAt_15 : decode cX4_bookedAt 15 = .ok (.invokestatic 192, 3) := by decide +kernel
theorem dX4_bookedAt_18 : decode cX4_bookedAt 18 = .ok (.ifCond .ne 5, 3) := by decide +kernel
theorem dX4_bookedAt_21 : decode cX4_bookedAt 21 = .ok (.iconst (-1), 1) := by decide +kernel
theorem dX4_bookedAt_22 : decode cX4_bookedAt 22 = .ok (.ireturn, 1) := by decide +kernel
theorem dX4_bookedAt_23 : decode cX4_bookedAt 23 = .ok (.aload_n 0, 1) := by decide +kernel
theorem dX4_bookedAt_24 : decode cX4_bookedAt 24 = .ok (.getfield 12, 3) := by decide +kernel
theorem dX4_bookedAt_27 : decode cX4_bookedAt 27 = .ok (.iload_n 1, 1) := by decide +kernel
theorem dX4_bookedAt_28 : decode cX4_bookedAt 28 = .ok (.iload_n 2, 1) := by decide +kernel
theorem dX4_bookedAt_29 : decode cX4_bookedAt 29 = .ok (.invokevirtual 195, 3) := by decide +kernel
theorem dX4_bookedAt_32 : decode cX4_bookedAt 32 = .ok (.ireturn, 1) := by decide +kernel
theorem dX4_machineFor_0 : decode cX4_machineFor 0 = .ok (.aload_n 0, 1) := by decide +kernel
theorem dX4_machineFor_1 : decode cX4_machineFor 1 = .ok (.getfield 12, 3) := by decide +kernel
theorem dX4_machineFor_4 : decode cX4_machineFor 4 = .ok (.iload_n 1, 1) := by decide +kernel
theorem dX4_machineFor_5 : decode cX4_machineFor 5 = .ok (.invokevirtual 69, 3) := by decide +kernel
theorem dX4_machineFor_8 : decode cX4_machineFor 8 = .ok (.ifCond .ne 5, 3) := by decide +kernel
theorem dX4_machineFor_11 : decode cX4_machineFor 11 = .ok (.iconst (-1), 1) := by decide +kernel
theorem dX4_machineFor_12 : decode cX4_machineFor 12 = .ok (.ireturn, 1) := by decide +kernel
theorem dX4_machineFor_13 : decode cX4_machineFor 13 = .ok (.iload_n 2, 1) := by decide +kernel
theorem dX4_machineFor_14 : decode cX4_machineFor 14 = .ok (.iload_n 3, 1) := by decide +kernel
theorem dX4_machineFor_15 : decode cX4_machineFor 15 = .ok (.invokestatic 84, 3) := by decide +kernel
theorem dX4_machineFor_18 : decode cX4_machineFor 18 = .ok (.ifCond .ne 6, 3) := by decide +kernel
theorem dX4_machineFor_21 : decode cX4_machineFor 21 = .ok (.bipush (-2), 2) := by decide +kernel
theorem dX4_machineFor_23 : decode cX4_machineFor 23 = .ok (.ireturn, 1) := by decide +kernel
theorem dX4_machineFor_24 : decode cX4_machineFor 24 = .ok (.iconst 0, 1) := by decide +kernel
theorem dX4_machineFor_25 : decode cX4_machineFor 25 = .ok (.istore 4, 2) := by decide +kernel
theorem dX4_machineFor_27 : decode cX4_machineFor 27 = .ok (.iload 4, 2) := by decide +kernel
theorem dX4_machineFor_29 : decode cX4_machineFor 29 = .ok (.aload_n 0, 1) := by decide +kernel
theorem dX4_machineFor_30 : decode cX4_machineFor 30 = .ok (.getfield 12, 3) := by decide +kernel
theorem dX4_machineFor_33 : decode cX4_machineFor 33 = .ok (.getfield 44, 3) := by decide +kernel
theorem dX4_machineFor_36 : decode cX4_machineFor 36 = .ok (.invokevirtual 133, 3) := by decide +kernel
theorem dX4_machineFor_39 : decode cX4_machineFor 39 = .ok (.if_icmp .ge 27, 3) := by decide +kernel
theorem dX4_machineFor_42 : decode cX4_machineFor 42 = .ok (.aload_n 0, 1) := by decide +kernel
theorem dX4_machineFor_43 : decode cX4_machineFor 43 = .ok (.getfield 12, 3) := by decide +kernel
theorem dX4_machineFor_46 : decode cX4_machineFor 46 = .ok (.iload 4, 2) := by decide +kernel
theorem dX4_machineFor_48 : decode cX4_machineFor 48 = .ok (.iload_n 1, 1) := by decide +kernel
theorem dX4_machineFor_49 : decode cX4_machineFor 49 = .ok (.iload_n 2, 1) := by decide +kernel
theorem dX4_machineFor_50 : decode cX4_machineFor 50 = .ok (.iload_n 3, 1) := by decide +kernel
theorem dX4_machineFor_51 : decode cX4_machineFor 51 = .ok (.invokevirtual 88, 3) := by decide +kernel
theorem dX4_machineFor_54 : decode cX4_machineFor 54 = .ok (.ifCond .eq 6, 3) := by decide +kernel
theorem dX4_machineFor_57 : decode cX4_machineFor 57 = .ok (.iload 4, 2) := by decide +kernel
theorem dX4_machineFor_59 : decode cX4_machineFor 59 = .ok (.ireturn, 1) := by decide +kernel
theorem dX4_machineFor_60 : decode cX4_machineFor 60 = .ok (.iinc 4 1, 3) := by decide +kernel
theorem dX4_machineFor_63 : decode cX4_machineFor 63 = .ok (.goto (-36), 3) := by decide +kernel
theorem dX4_machineFor_66 : decode cX4_machineFor 66 = .ok (.bipush (-5), 2) := by decide +kernel
theorem dX4_machineFor_68 : decode cX4_machineFor 68 = .ok (.ireturn, 1) := by decide +kernel
theorem dX4_fate_0 : decode cX4_fate 0 = .ok (.aload_n 0, 1) := by decide +kernel
theorem dX4_fate_1 : decode cX4_fate 1 = .ok (.getfield 12, 3) := by decide +kernel
theorem dX4_fate_4 : decode cX4_fate 4 = .ok (.getfield 92, 3) := by decide +kernel
theorem dX4_fate_7 : decode cX4_fate 7 = .ok (.iload_n 1, 1) := by decide +kernel
theorem dX4_fate_8 : decode cX4_fate 8 = .ok (.invokevirtual 81, 3) := by decide +kernel
theorem dX4_fate_11 : decode cX4_fate 11 = .ok (.ifCond .ne 5, 3) := by decide +kernel
theorem dX4_fate_14 : decode cX4_fate 14 = .ok (.iconst (-1), 1) := by decide +kernel
theorem dX4_fate_15 : decode cX4_fate 15 = .ok (.ireturn, 1) := by decide +kernel
theorem dX4_fate_16 : decode cX4_fate 16 = .ok (.aload_n 0, 1) := by decide +kernel
theorem dX4_fate_17 : decode cX4_fate 17 = .ok (.getfield 12, 3) := by decide +kernel
theorem dX4_fate_20 : decode cX4_fate 20 = .ok (.iload_n 1, 1) := by decide +kernel
theorem dX4_fate_21 : decode cX4_fate 21 = .ok (.invokevirtual 103, 3) := by decide +kernel
theorem dX4_fate_24 : decode cX4_fate 24 = .ok (.ifCond .ne 6, 3) := by decide +kernel
theorem dX4_fate_27 : decode cX4_fate 27 = .ok (.bipush (-4), 2) := by decide +kernel
theorem dX4_fate_29 : decode cX4_fate 29 = .ok (.ireturn, 1) := by decide +kernel
theorem dX4_fate_30 : decode cX4_fate 30 = .ok (.aload_n 0, 1) := by decide +kernel
theorem dX4_fate_31 : decode cX4_fate 31 = .ok (.getfield 19, 3) := by decide +kernel
theorem dX4_fate_34 : decode cX4_fate 34 = .ok (.aload_n 0, 1) := by decide +kernel
theorem dX4_fate_35 : decode cX4_fate 35 = .ok (.getfield 12, 3) := by decide +kernel
theorem dX4_fate_38 : decode cX4_fate 38 = .ok (.invokevirtual 167, 3) := by decide +kernel
theorem dX4_fate_41 : decode cX4_fate 41 = .ok (.aload_n 0, 1) := by decide +kernel
theorem dX4_fate_42 : decode cX4_fate 42 = .ok (.getfield 19, 3) := by decide +kernel
theorem dX4_fate_45 : decode cX4_fate 45 = .ok (.aload_n 0, 1) := by decide +kernel
theorem dX4_fate_46 : decode cX4_fate 46 = .ok (.getfield 12, 3) := by decide +kernel
theorem dX4_fate_49 : decode cX4_fate 49 = .ok (.getfield 92, 3) := by decide +kernel
theorem dX4_fate_52 : decode cX4_fate 52 = .ok (.iload_n 1, 1) := by decide +kernel
theorem dX4_fate_53 : decode cX4_fate 53 = .ok (.iconst 2, 1) := by decide +kernel
theorem dX4_fate_54 : decode cX4_fate 54 = .ok (.invokevirtual 106, 3) := by decide +kernel
theorem dX4_fate_57 : decode cX4_fate 57 = .ok (.invokevirtual 176, 3) := by decide +kernel
theorem dX4_fate_60 : decode cX4_fate 60 = .ok (.aload_n 0, 1) := by decide +kernel
theorem dX4_fate_61 : decode cX4_fate 61 = .ok (.getfield 19, 3) := by decide +kernel
theorem dX4_fate_64 : decode cX4_fate 64 = .ok (.iload_n 1, 1) := by decide +kernel
theorem dX4_fate_65 : decode cX4_fate 65 = .ok (.invokevirtual 198, 3) := by decide +kernel
theorem dX4_fate_68 : decode cX4_fate 68 = .ok (.ifCond .ne 5, 3) := by decide +kernel
theorem dX4_fate_71 : decode cX4_fate 71 = .ok (.iconst 0, 1) := by decide +kernel
theorem dX4_fate_72 : decode cX4_fate 72 = .ok (.ireturn, 1) := by decide +kernel
theorem dX4_fate_73 : decode cX4_fate 73 = .ok (.aload_n 0, 1) := by decide +kernel
theorem dX4_fate_74 : decode cX4_fate 74 = .ok (.getfield 19, 3) := by decide +kernel
theorem dX4_fate_77 : decode cX4_fate 77 = .ok (.iload_n 1, 1) := by decide +kernel
theorem dX4_fate_78 : decode cX4_fate 78 = .ok (.invokevirtual 201, 3) := by decide +kernel
theorem dX4_fate_81 : decode cX4_fate 81 = .ok (.bipush (-5), 2) := by decide +kernel
theorem dX4_fate_83 : decode cX4_fate 83 = .ok (.if_icmp .ne 7, 3) := by decide +kernel
theorem dX4_fate_86 : decode cX4_fate 86 = .ok (.iconst 2, 1) := by decide +kernel
theorem dX4_fate_87 : decode cX4_fate 87 = .ok (.goto 4, 3) := by decide +kernel
theorem dX4_fate_90 : decode cX4_fate 90 = .ok (.iconst 1, 1) := by decide +kernel
theorem dX4_fate_91 : decode cX4_fate 91 = .ok (.ireturn, 1) := by decide +kernel
theorem dX4_wind_0 : decode cX4_wind 0 = .ok (.iload_n 1, 1) := by decide +kernel
theorem dX4_wind_1 : decode cX4_wind 1 = .ok (.invokestatic 192, 3) := by decide +kernel
theorem dX4_wind_4 : decode cX4_wind 4 = .ok (.ifCond .eq 14, 3) := by decide +kernel
theorem dX4_wind_7 : decode cX4_wind 7 = .ok (.aload_n 0, 1) := by decide +kernel
theorem dX4_wind_8 : decode cX4_wind 8 = .ok (.getfield 12, 3) := by decide +kernel
theorem dX4_wind_11 : decode cX4_wind 11 = .ok (.iload_n 1, 1) := by decide +kernel
theorem dX4_wind_12 : decode cX4_wind 12 = .ok (.invokevirtual 73, 3) := by decide +kernel
theorem dX4_wind_15 : decode cX4_wind 15 = .ok (.goto 4, 3) := by decide +kernel
theorem dX4_wind_18 : decode cX4_wind 18 = .ok (.iconst (-1), 1) := by decide +kernel
theorem dX4_wind_19 : decode cX4_wind 19 = .ok (.ireturn, 1) := by decide +kernel
theorem dX4_count_0 : decode cX4_count 0 = .ok (.iload_n 1, 1) := by decide +kernel
theorem dX4_count_1 : decode cX4_count 1 = .ok (.tableswitch 263 0 16 #[83, 91, 102, 113, 124, 137, 150, 163, 176, 187, 195, 203, 215, 227, 235, 247, 255], 83) := by decide +kernel
theorem dX4_count_84 : decode cX4_count 84 = .ok (.aload_n 0, 1) := by decide +kernel
theorem dX4_count_85 : decode cX4_count 85 = .ok (.getfield 12, 3) := by decide +kernel
theorem dX4_count_88 : decode cX4_count 88 = .ok (.getfield 109, 3) := by decide +kernel
theorem dX4_count_91 : decode cX4_count 91 = .ok (.ireturn, 1) := by decide +kernel
theorem dX4_count_92 : decode cX4_count 92 = .ok (.aload_n 0, 1) := by decide +kernel
theorem dX4_count_93 : decode cX4_count 93 = .ok (.getfield 12, 3) := by decide +kernel
theorem dX4_count_96 : decode cX4_count 96 = .ok (.getfield 44, 3) := by decide +kernel
theorem dX4_count_99 : decode cX4_count 99 = .ok (.invokevirtual 133, 3) := by decide +kernel
theorem dX4_count_102 : decode cX4_count 102 = .ok (.ireturn, 1) := by decide +kernel
theorem dX4_count_103 : decode cX4_count 103 = .ok (.aload_n 0, 1) := by decide +kernel
theorem dX4_count_104 : decode cX4_count 104 = .ok (.getfield 12, 3) := by decide +kernel
theorem dX4_count_107 : decode cX4_count 107 = .ok (.getfield 62, 3) := by decide +kernel
theorem dX4_count_110 : decode cX4_count 110 = .ok (.invokevirtual 133, 3) := by decide +kernel
theorem dX4_count_113 : decode cX4_count 113 = .ok (.ireturn, 1) := by decide +kernel
theorem dX4_count_114 : decode cX4_count 114 = .ok (.aload_n 0, 1) := by decide +kernel
theorem dX4_count_115 : decode cX4_count 115 = .ok (.getfield 12, 3) := by decide +kernel
theorem dX4_count_118 : decode cX4_count 118 = .ok (.getfield 92, 3) := by decide +kernel
theorem dX4_count_121 : decode cX4_count 121 = .ok (.invokevirtual 133, 3) := by decide +kernel
theorem dX4_count_124 : decode cX4_count 124 = .ok (.ireturn, 1) := by decide +kernel
theorem dX4_count_125 : decode cX4_count 125 = .ok (.aload_n 0, 1) := by decide +kernel
theorem dX4_count_126 : decode cX4_count 126 = .ok (.getfield 12, 3) := by decide +kernel
theorem dX4_count_129 : decode cX4_count 129 = .ok (.getfield 92, 3) := by decide +kernel
theorem dX4_count_132 : decode cX4_count 132 = .ok (.iconst 5, 1) := by decide +kernel
theorem dX4_count_133 : decode cX4_count 133 = .ok (.iconst 0, 1) := by decide +kernel
theorem dX4_count_134 : decode cX4_count 134 = .ok (.invokevirtual 186, 3) := by decide +kernel
theorem dX4_count_137 : decode cX4_count 137 = .ok (.ireturn, 1) := by decide +kernel
theorem dX4_count_138 : decode cX4_count 138 = .ok (.aload_n 0, 1) := by decide +kernel
theorem dX4_count_139 : decode cX4_count 139 = .ok (.getfield 12, 3) := by decide +kernel
theorem dX4_count_142 : decode cX4_count 142 = .ok (.getfield 92, 3) := by decide +kernel
theorem dX4_count_145 : decode cX4_count 145 = .ok (.iconst 5, 1) := by decide +kernel
theorem dX4_count_146 : decode cX4_count 146 = .ok (.iconst 1, 1) := by decide +kernel
theorem dX4_count_147 : decode cX4_count 147 = .ok (.invokevirtual 186, 3) := by decide +kernel
theorem dX4_count_150 : decode cX4_count 150 = .ok (.ireturn, 1) := by decide +kernel
theorem dX4_count_151 : decode cX4_count 151 = .ok (.aload_n 0, 1) := by decide +kernel
theorem dX4_count_152 : decode cX4_count 152 = .ok (.getfield 12, 3) := by decide +kernel
theorem dX4_count_155 : decode cX4_count 155 = .ok (.getfield 92, 3) := by decide +kernel
theorem dX4_count_158 : decode cX4_count 158 = .ok (.iconst 5, 1) := by decide +kernel
theorem dX4_count_159 : decode cX4_count 159 = .ok (.iconst 2, 1) := by decide +kernel
theorem dX4_count_160 : decode cX4_count 160 = .ok (.invokevirtual 186, 3) := by decide +kernel
theorem dX4_count_163 : decode cX4_count 163 = .ok (.ireturn, 1) := by decide +kernel
theorem dX4_count_164 : decode cX4_count 164 = .ok (.aload_n 0, 1) := by decide +kernel
theorem dX4_count_165 : decode cX4_count 165 = .ok (.getfield 12, 3) := by decide +kernel
theorem dX4_count_168 : decode cX4_count 168 = .ok (.getfield 92, 3) := by decide +kernel
theorem dX4_count_171 : decode cX4_count 171 = .ok (.iconst 5, 1) := by decide +kernel
theorem dX4_count_172 : decode cX4_count 172 = .ok (.iconst 3, 1) := by decide +kernel
theorem dX4_count_173 : decode cX4_count 173 = .ok (.invokevirtual 186, 3) := by decide +kernel
theorem dX4_count_176 : decode cX4_count 176 = .ok (.ireturn, 1) := by decide +kernel
theorem dX4_count_177 : decode cX4_count 177 = .ok (.aload_n 0, 1) := by decide +kernel
theorem dX4_count_178 : decode cX4_count 178 = .ok (.getfield 12, 3) := by decide +kernel
theorem dX4_count_181 : decode cX4_count 181 = .ok (.getfield 122, 3) := by decide +kernel
theorem dX4_count_184 : decode cX4_count 184 = .ok (.invokevirtual 133, 3) := by decide +kernel
theorem dX4_count_187 : decode cX4_count 187 = .ok (.ireturn, 1) := by decide +kernel
theorem dX4_count_188 : decode cX4_count 188 = .ok (.aload_n 0, 1) := by decide +kernel
theorem dX4_count_189 : decode cX4_count 189 = .ok (.getfield 12, 3) := by decide +kernel
theorem dX4_count_192 : decode cX4_count 192 = .ok (.getfield 204, 3) := by decide +kernel
theorem dX4_count_195 : decode cX4_count 195 = .ok (.ireturn, 1) := by decide +kernel
theorem dX4_count_196 : decode cX4_count 196 = .ok (.aload_n 0, 1) := by decide +kernel
theorem dX4_count_197 : decode cX4_count 197 = .ok (.getfield 12, 3) := by decide +kernel
theorem dX4_count_200 : decode cX4_count 200 = .ok (.getfield 207, 3) := by decide +kernel
theorem dX4_count_203 : decode cX4_count 203 = .ok (.ireturn, 1) := by decide +kernel
theorem dX4_count_204 : decode cX4_count 204 = .ok (.aload_n 0, 1) := by decide +kernel
theorem dX4_count_205 : decode cX4_count 205 = .ok (.getfield 12, 3) := by decide +kernel
theorem dX4_count_208 : decode cX4_count 208 = .ok (.getfield 62, 3) := by decide +kernel
theorem dX4_count_211 : decode cX4_count 211 = .ok (.iconst 0, 1) := by decide +kernel
theorem dX4_count_212 : decode cX4_count 212 = .ok (.invokevirtual 210, 3) := by decide +kernel
theorem dX4_count_215 : decode cX4_count 215 = .ok (.ireturn, 1) := by decide +kernel
theorem dX4_count_216 : decode cX4_count 216 = .ok (.aload_n 0, 1) := by decide +kernel
theorem dX4_count_217 : decode cX4_count 217 = .ok (.getfield 12, 3) := by decide +kernel
theorem dX4_count_220 : decode cX4_count 220 = .ok (.getfield 62, 3) := by decide +kernel
theorem dX4_count_223 : decode cX4_count 223 = .ok (.iconst 1, 1) := by decide +kernel
theorem dX4_count_224 : decode cX4_count 224 = .ok (.invokevirtual 210, 3) := by decide +kernel
theorem dX4_count_227 : decode cX4_count 227 = .ok (.ireturn, 1) := by decide +kernel
theorem dX4_count_228 : decode cX4_count 228 = .ok (.aload_n 0, 1) := by decide +kernel
theorem dX4_count_229 : decode cX4_count 229 = .ok (.getfield 12, 3) := by decide +kernel
theorem dX4_count_232 : decode cX4_count 232 = .ok (.getfield 213, 3) := by decide +kernel
theorem dX4_count_235 : decode cX4_count 235 = .ok (.ireturn, 1) := by decide +kernel
theorem dX4_count_236 : decode cX4_count 236 = .ok (.aload_n 0, 1) := by decide +kernel
theorem dX4_count_237 : decode cX4_count 237 = .ok (.getfield 12, 3) := by decide +kernel
theorem dX4_count_240 : decode cX4_count 240 = .ok (.getfield 44, 3) := by decide +kernel
theorem dX4_count_243 : decode cX4_count 243 = .ok (.iconst 1, 1) := by decide +kernel
theorem dX4_count_244 : decode cX4_count 244 = .ok (.invokevirtual 210, 3) := by decide +kernel
theorem dX4_count_247 : decode cX4_count 247 = .ok (.ireturn, 1) := by decide +kernel
theorem dX4_count_248 : decode cX4_count 248 = .ok (.aload_n 0, 1) := by decide +kernel
theorem dX4_count_249 : decode cX4_count 249 = .ok (.getfield 25, 3) := by decide +kernel
theorem dX4_count_252 : decode cX4_count 252 = .ok (.invokevirtual 163, 3) := by decide +kernel
theorem dX4_count_255 : decode cX4_count 255 = .ok (.ireturn, 1) := by decide +kernel
theorem dX4_count_256 : decode cX4_count 256 = .ok (.aload_n 0, 1) := by decide +kernel
theorem dX4_count_257 : decode cX4_count 257 = .ok (.getfield 32, 3) := by decide +kernel
theorem dX4_count_260 : decode cX4_count 260 = .ok (.invokevirtual 143, 3) := by decide +kernel
theorem dX4_count_263 : decode cX4_count 263 = .ok (.ireturn, 1) := by decide +kernel
theorem dX4_count_264 : decode cX4_count 264 = .ok (.bipush (-2), 2) := by decide +kernel
theorem dX4_count_266 : decode cX4_count 266 = .ok (.ireturn, 1) := by decide +kernel
theorem dX4_isWithin_0 : decode cX4_isWithin 0 = .ok (.iload_n 0, 1) := by decide +kernel
theorem dX4_isWithin_1 : decode cX4_isWithin 1 = .ok (.iload_n 1, 1) := by decide +kernel
theorem dX4_isWithin_2 : decode cX4_isWithin 2 = .ok (.if_icmp .lt 12, 3) := by decide +kernel
theorem dX4_isWithin_5 : decode cX4_isWithin 5 = .ok (.iload_n 0, 1) := by decide +kernel
theorem dX4_isWithin_6 : decode cX4_isWithin 6 = .ok (.iload_n 2, 1) := by decide +kernel
theorem dX4_isWithin_7 : decode cX4_isWithin 7 = .ok (.if_icmp .gt 7, 3) := by decide +kernel
theorem dX4_isWithin_10 : decode cX4_isWithin 10 = .ok (.iconst 1, 1) := by decide +kernel
theorem dX4_isWithin_11 : decode cX4_isWithin 11 = .ok (.goto 4, 3) := by decide +kernel
theorem dX4_isWithin_14 : decode cX4_isWithin 14 = .ok (.iconst 0, 1) := by decide +kernel
theorem dX4_isWithin_15 : decode cX4_isWithin 15 = .ok (.ireturn, 1) := by decide +kernel
theorem dX4_isHalfDay_0 : decode cX4_isHalfDay 0 = .ok (.iload_n 0, 1) := by decide +kernel
theorem dX4_isHalfDay_1 : decode cX4_isHalfDay 1 = .ok (.iconst 0, 1) := by decide +kernel
theorem dX4_isHalfDay_2 : decode cX4_isHalfDay 2 = .ok (.sipush 199, 3) := by decide +kernel
theorem dX4_isHalfDay_5 : decode cX4_isHalfDay 5 = .ok (.invokestatic 40, 3) := by decide +kernel
theorem dX4_isHalfDay_8 : decode cX4_isHalfDay 8 = .ok (.ireturn, 1) := by decide +kernel
theorem dX4_isRadius_0 : decode cX4_isRadius 0 = .ok (.iload_n 0, 1) := by decide +kernel
theorem dX4_isRadius_1 : decode cX4_isRadius 1 = .ok (.iconst 2, 1) := by decide +kernel
theorem dX4_isRadius_2 : decode cX4_isRadius 2 = .ok (.bipush 60, 2) := by decide +kernel
theorem dX4_isRadius_4 : decode cX4_isRadius 4 = .ok (.invokestatic 40, 3) := by decide +kernel
theorem dX4_isRadius_7 : decode cX4_isRadius 7 = .ok (.ireturn, 1) := by decide +kernel
theorem dX4_isLift_0 : decode cX4_isLift 0 = .ok (.iload_n 0, 1) := by decide +kernel
theorem dX4_isLift_1 : decode cX4_isLift 1 = .ok (.iconst 1, 1) := by decide +kernel
theorem dX4_isLift_2 : decode cX4_isLift 2 = .ok (.sipush 2000, 3) := by decide +kernel
theorem dX4_isLift_5 : decode cX4_isLift 5 = .ok (.invokestatic 40, 3) := by decide +kernel
theorem dX4_isLift_8 : decode cX4_isLift 8 = .ok (.ifCond .eq 14, 3) := by decide +kernel
theorem dX4_isLift_11 : decode cX4_isLift 11 = .ok (.iload_n 1, 1) := by decide +kernel
theorem dX4_isLift_12 : decode cX4_isLift 12 = .ok (.invokestatic 170, 3) := by decide +kernel
theorem dX4_isLift_15 : decode cX4_isLift 15 = .ok (.ifCond .eq 7, 3) := by decide +kernel
theorem dX4_isLift_18 : decode cX4_isLift 18 = .ok (.iconst 1, 1) := by decide +kernel
theorem dX4_isLift_19 : decode cX4_isLift 19 = .ok (.goto 4, 3) := by decide +kernel
theorem dX4_isLift_22 : decode cX4_isLift 22 = .ok (.iconst 0, 1) := by decide +kernel
theorem dX4_isLift_23 : decode cX4_isLift 23 = .ok (.ireturn, 1) := by decide +kernel
theorem dX4_limitFor_0 : decode cX4_limitFor 0 = .ok (.bipush 60, 2) := by decide +kernel
theorem dX4_limitFor_2 : decode cX4_limitFor 2 = .ok (.iload_n 0, 1) := by decide +kernel
theorem dX4_limitFor_3 : decode cX4_limitFor 3 = .ok (.bipush 20, 2) := by decide +kernel
theorem dX4_limitFor_5 : decode cX4_limitFor 5 = .ok (.idiv, 1) := by decide +kernel
theorem dX4_limitFor_6 : decode cX4_limitFor 6 = .ok (.isub, 1) := by decide +kernel
theorem dX4_limitFor_7 : decode cX4_limitFor 7 = .ok (.iload_n 1, 1) := by decide +kernel
theorem dX4_limitFor_8 : decode cX4_limitFor 8 = .ok (.iconst 2, 1) := by decide +kernel
theorem dX4_limitFor_9 : decode cX4_limitFor 9 = .ok (.idiv, 1) := by decide +kernel
theorem dX4_limitFor_10 : decode cX4_limitFor 10 = .ok (.isub, 1) := by decide +kernel
theorem dX4_limitFor_11 : decode cX4_limitFor 11 = .ok (.bipush 10, 2) := by decide +kernel
theorem dX4_limitFor_13 : decode cX4_limitFor 13 = .ok (.invokestatic 216, 3) := by decide +kernel
theorem dX4_limitFor_16 : decode cX4_limitFor 16 = .ok (.ireturn, 1) := by decide +kernel
