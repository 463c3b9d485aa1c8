theorem dX0_init_0 : decode cX0_init 0 = .ok (.aload_n 0, 1) := by decide +kernel
theorem dX0_init_1 : decode cX0_init 1 = .ok (.invokespecial 3, 3) := by decide +kernel
theorem dX0_init_4 : decode cX0_init 4 = .ok (.aload_n 0, 1) := by decide +kernel
theorem dX0_init_5 : decode cX0_init 5 = .ok (.bipush 64, 2) := by decide +kernel
theorem dX0_init_7 : decode cX0_init 7 = .ok (.newarray .boolean, 2) := by decide +kernel
theorem dX0_init_9 : decode cX0_init 9 = .ok (.putfield 9, 3) := by decide +kernel
theorem dX0_init_12 : decode cX0_init 12 = .ok (.aload_n 0, 1) := by decide +kernel
theorem dX0_init_13 : decode cX0_init 13 = .ok (.bipush 64, 2) := by decide +kernel
theorem dX0_init_15 : decode cX0_init 15 = .ok (.newarray .int, 2) := by decide +kernel
theorem dX0_init_17 : decode cX0_init 17 = .ok (.putfield 15, 3) := by decide +kernel
theorem dX0_init_20 : decode cX0_init 20 = .ok (.aload_n 0, 1) := by decide +kernel
theorem dX0_init_21 : decode cX0_init 21 = .ok (.sipush 300, 3) := by decide +kernel
theorem dX0_init_24 : decode cX0_init 24 = .ok (.newarray .int, 2) := by decide +kernel
theorem dX0_init_26 : decode cX0_init 26 = .ok (.putfield 19, 3) := by decide +kernel
theorem dX0_init_29 : decode cX0_init 29 = .ok (.aload_n 0, 1) := by decide +kernel
theorem dX0_init_30 : decode cX0_init 30 = .ok (.iconst 0, 1) := by decide +kernel
theorem dX0_init_31 : decode cX0_init 31 = .ok (.putfield 22, 3) := by decide +kernel
theorem dX0_init_34 : decode cX0_init 34 = .ok (.aload_n 0, 1) := by decide +kernel
theorem dX0_init_35 : decode cX0_init 35 = .ok (.aload_n 1, 1) := by decide +kernel
theorem dX0_init_36 : decode cX0_init 36 = .ok (.putfield 26, 3) := by decide +kernel
theorem dX0_init_39 : decode cX0_init 39 = .ok (.aload_n 0, 1) := by decide +kernel
theorem dX0_init_40 : decode cX0_init 40 = .ok (.aload_n 2, 1) := by decide +kernel
theorem dX0_init_41 : decode cX0_init 41 = .ok (.putfield 30, 3) := by decide +kernel
theorem dX0_init_44 : decode cX0_init 44 = .ok (.return_, 1) := by decide +kernel
theorem dX0_spend_0 : decode cX0_spend 0 = .ok (.aload_n 0, 1) := by decide +kernel
theorem dX0_spend_1 : decode cX0_spend 1 = .ok (.iload_n 1, 1) := by decide +kernel
theorem dX0_spend_2 : decode cX0_spend 2 = .ok (.invokevirtual 34, 3) := by decide +kernel
theorem dX0_spend_5 : decode cX0_spend 5 = .ok (.istore_n 2, 1) := by decide +kernel
theorem dX0_spend_6 : decode cX0_spend 6 = .ok (.aload_n 0, 1) := by decide +kernel
theorem dX0_spend_7 : decode cX0_spend 7 = .ok (.invokevirtual 38, 3) := by decide +kernel
theorem dX0_spend_10 : decode cX0_spend 10 = .ok (.aload_n 0, 1) := by decide +kernel
theorem dX0_spend_11 : decode cX0_spend 11 = .ok (.invokevirtual 41, 3) := by decide +kernel
theorem dX0_spend_14 : decode cX0_spend 14 = .ok (.aload_n 0, 1) := by decide +kernel
theorem dX0_spend_15 : decode cX0_spend 15 = .ok (.getfield 26, 3) := by decide +kernel
theorem dX0_spend_18 : decode cX0_spend 18 = .ok (.invokevirtual 45, 3) := by decide +kernel
theorem dX0_spend_21 : decode cX0_spend 21 = .ok (.if_icmp .le 6, 3) := by decide +kernel
theorem dX0_spend_27 : decode cX0_spend 27 = .ok (.iconst 0, 1) := by decide +kernel
theorem dX0_spend_28 : decode cX0_spend 28 = .ok (.istore_n 3, 1) := by decide +kernel
theorem dX0_spend_29 : decode cX0_spend 29 = .ok (.iload_n 3, 1) := by decide +kernel
theorem dX0_spend_30 : decode cX0_spend 30 = .ok (.aload_n 0, 1) := by decide +kernel
theorem dX0_spend_31 : decode cX0_spend 31 = .ok (.getfield 22, 3) := by decide +kernel
theorem dX0_spend_34 : decode cX0_spend 34 = .ok (.if_icmp .ge 19, 3) := by decide +kernel
theorem dX0_spend_53 : decode cX0_spend 53 = .ok (.bipush 8, 2) := by decide +kernel
theorem dX0_spend_55 : decode cX0_spend 55 = .ok (.istore_n 3, 1) := by decide +kernel
theorem dX0_spend_56 : decode cX0_spend 56 = .ok (.iload_n 3, 1) := by decide +kernel
theorem dX0_spend_57 : decode cX0_spend 57 = .ok (.bipush 64, 2) := by decide +kernel
theorem dX0_spend_59 : decode cX0_spend 59 = .ok (.if_icmp .ge 26, 3) := by decide +kernel
theorem dX0_spend_62 : decode cX0_spend 62 = .ok (.aload_n 0, 1) := by decide +kernel
theorem dX0_spend_63 : decode cX0_spend 63 = .ok (.getfield 9, 3) := by decide +kernel
theorem dX0_spend_66 : decode cX0_spend 66 = .ok (.iload_n 3, 1) := by decide +kernel
theorem dX0_spend_67 : decode cX0_spend 67 = .ok (.baload, 1) := by decide +kernel
theorem dX0_spend_68 : decode cX0_spend 68 = .ok (.ifCond .eq 11, 3) := by decide +kernel
theorem dX0_spend_79 : decode cX0_spend 79 = .ok (.iinc 3 1, 3) := by decide +kernel
theorem dX0_spend_82 : decode cX0_spend 82 = .ok (.goto (-26), 3) := by decide +kernel
theorem dX0_spend_85 : decode cX0_spend 85 = .ok (.iload_n 2, 1) := by decide +kernel
theorem dX0_spend_86 : decode cX0_spend 86 = .ok (.ireturn, 1) := by decide +kernel
theorem dX0_choose_0 : decode cX0_choose 0 = .ok (.aload_n 0, 1) := by decide +kernel
theorem dX0_choose_1 : decode cX0_choose 1 = .ok (.invokevirtual 57, 3) := by decide +kernel
theorem dX0_choose_4 : decode cX0_choose 4 = .ok (.aload_n 0, 1) := by decide +kernel
theorem dX0_choose_5 : decode cX0_choose 5 = .ok (.invokevirtual 60, 3) := by decide +kernel
theorem dX0_choose_8 : decode cX0_choose 8 = .ok (.iconst 0, 1) := by decide +kernel
theorem dX0_choose_9 : decode cX0_choose 9 = .ok (.istore_n 2, 1) := by decide +kernel
theorem dX0_choose_10 : decode cX0_choose 10 = .ok (.iload_n 2, 1) := by decide +kernel
theorem dX0_choose_11 : decode cX0_choose 11 = .ok (.iload_n 1, 1) := by decide +kernel
theorem dX0_choose_12 : decode cX0_choose 12 = .ok (.if_icmp .ge 27, 3) := by decide +kernel
theorem dX0_choose_15 : decode cX0_choose 15 = .ok (.aload_n 0, 1) := by decide +kernel
theorem dX0_choose_16 : decode cX0_choose 16 = .ok (.invokevirtual 63, 3) := by decide +kernel
theorem dX0_choose_19 : decode cX0_choose 19 = .ok (.istore_n 3, 1) := by decide +kernel
theorem dX0_choose_20 : decode cX0_choose 20 = .ok (.iload_n 3, 1) := by decide +kernel
theorem dX0_choose_21 : decode cX0_choose 21 = .ok (.ifCond .ne 5, 3) := by decide +kernel
theorem dX0_choose_24 : decode cX0_choose 24 = .ok (.iload_n 2, 1) := by decide +kernel
theorem dX0_choose_25 : decode cX0_choose 25 = .ok (.ireturn, 1) := by decide +kernel
theorem dX0_forgetChosen_0 : decode cX0_forgetChosen 0 = .ok (.iconst 0, 1) := by decide +kernel
theorem dX0_forgetChosen_1 : decode cX0_forgetChosen 1 = .ok (.istore_n 1, 1) := by decide +kernel
theorem dX0_forgetChosen_2 : decode cX0_forgetChosen 2 = .ok (.iload_n 1, 1) := by decide +kernel
theorem dX0_forgetChosen_3 : decode cX0_forgetChosen 3 = .ok (.bipush 64, 2) := by decide +kernel
theorem dX0_forgetChosen_5 : decode cX0_forgetChosen 5 = .ok (.if_icmp .ge 16, 3) := by decide +kernel
theorem dX0_forgetChosen_8 : decode cX0_forgetChosen 8 = .ok (.aload_n 0, 1) := by decide +kernel
theorem dX0_forgetChosen_9 : decode cX0_forgetChosen 9 = .ok (.getfield 9, 3) := by decide +kernel
theorem dX0_forgetChosen_12 : decode cX0_forgetChosen 12 = .ok (.iload_n 1, 1) := by decide +kernel
theorem dX0_forgetChosen_13 : decode cX0_forgetChosen 13 = .ok (.iconst 0, 1) := by decide +kernel
theorem dX0_forgetChosen_14 : decode cX0_forgetChosen 14 = .ok (.bastore, 1) := by decide +kernel
theorem dX0_forgetChosen_15 : decode cX0_forgetChosen 15 = .ok (.iinc 1 1, 3) := by decide +kernel
theorem dX0_forgetChosen_18 : decode cX0_forgetChosen 18 = .ok (.goto (-16), 3) := by decide +kernel
theorem dX0_forgetChosen_21 : decode cX0_forgetChosen 21 = .ok (.return_, 1) := by decide +kernel
theorem dX0_weighLive_0 : decode cX0_weighLive 0 = .ok (.aload_n 0, 1) := by decide +kernel
theorem dX0_weighLive_1 : decode cX0_weighLive 1 = .ok (.getfield 15, 3) := by decide +kernel
theorem dX0_weighLive_4 : decode cX0_weighLive 4 = .ok (.iconst 0, 1) := by decide +kernel
theorem dX0_weighLive_5 : decode cX0_weighLive 5 = .ok (.invokestatic 66, 3) := by decide +kernel
theorem dX0_weighLive_8 : decode cX0_weighLive 8 = .ok (.iconst 0, 1) := by decide +kernel
theorem dX0_weighLive_9 : decode cX0_weighLive 9 = .ok (.istore_n 1, 1) := by decide +kernel
theorem dX0_weighLive_10 : decode cX0_weighLive 10 = .ok (.iload_n 1, 1) := by decide +kernel
theorem dX0_weighLive_11 : decode cX0_weighLive 11 = .ok (.sipush 300, 3) := by decide +kernel
theorem dX0_weighLive_14 : decode cX0_weighLive 14 = .ok (.if_icmp .ge 47, 3) := by decide +kernel
theorem dX0_weighLive_17 : decode cX0_weighLive 17 = .ok (.aload_n 0, 1) := by decide +kernel
theorem dX0_weighLive_18 : decode cX0_weighLive 18 = .ok (.getfield 30, 3) := by decide +kernel
theorem dX0_weighLive_21 : decode cX0_weighLive 21 = .ok (.iload_n 1, 1) := by decide +kernel
theorem dX0_weighLive_22 : decode cX0_weighLive 22 = .ok (.invokevirtual 72, 3) := by decide +kernel
theorem dX0_weighLive_25 : decode cX0_weighLive 25 = .ok (.ifCond .eq 30, 3) := by decide +kernel
theorem dX0_weighLive_55 : decode cX0_weighLive 55 = .ok (.iinc 1 1, 3) := by decide +kernel
theorem dX0_weighLive_58 : decode cX0_weighLive 58 = .ok (.goto (-48), 3) := by decide +kernel
theorem dX0_weighLive_61 : decode cX0_weighLive 61 = .ok (.return_, 1) := by decide +kernel
theorem dX0_bestLeft_0 : decode cX0_bestLeft 0 = .ok (.iconst 0, 1) := by decide +kernel
theorem dX0_bestLeft_1 : decode cX0_bestLeft 1 = .ok (.istore_n 1, 1) := by decide +kernel
theorem dX0_bestLeft_2 : decode cX0_bestLeft 2 = .ok (.bipush 8, 2) := by decide +kernel
theorem dX0_bestLeft_4 : decode cX0_bestLeft 4 = .ok (.istore_n 2, 1) := by decide +kernel
theorem dX0_bestLeft_5 : decode cX0_bestLeft 5 = .ok (.iload_n 2, 1) := by decide +kernel
theorem dX0_bestLeft_6 : decode cX0_bestLeft 6 = .ok (.bipush 64, 2) := by decide +kernel
theorem dX0_bestLeft_8 : decode cX0_bestLeft 8 = .ok (.if_icmp .ge 55, 3) := by decide +kernel
theorem dX0_bestLeft_11 : decode cX0_bestLeft 11 = .ok (.aload_n 0, 1) := by decide +kernel
theorem dX0_bestLeft_12 : decode cX0_bestLeft 12 = .ok (.getfield 26, 3) := by decide +kernel
theorem dX0_bestLeft_15 : decode cX0_bestLeft 15 = .ok (.iload_n 2, 1) := by decide +kernel
theorem dX0_bestLeft_16 : decode cX0_bestLeft 16 = .ok (.invokevirtual 84, 3) := by decide +kernel
theorem dX0_bestLeft_19 : decode cX0_bestLeft 19 = .ok (.iconst 1, 1) := by decide +kernel
theorem dX0_bestLeft_20 : decode cX0_bestLeft 20 = .ok (.if_icmp .ne 16, 3) := by decide +kernel
theorem dX0_bestLeft_36 : decode cX0_bestLeft 36 = .ok (.iconst 0, 1) := by decide +kernel
theorem dX0_bestLeft_37 : decode cX0_bestLeft 37 = .ok (.istore_n 3, 1) := by decide +kernel
theorem dX0_bestLeft_38 : decode cX0_bestLeft 38 = .ok (.iload_n 3, 1) := by decide +kernel
theorem dX0_bestLeft_39 : decode cX0_bestLeft 39 = .ok (.ifCond .eq 18, 3) := by decide +kernel
theorem dX0_bestLeft_57 : decode cX0_bestLeft 57 = .ok (.iinc 2 1, 3) := by decide +kernel
theorem dX0_bestLeft_60 : decode cX0_bestLeft 60 = .ok (.goto (-55), 3) := by decide +kernel
theorem dX0_bestLeft_63 : decode cX0_bestLeft 63 = .ok (.iload_n 1, 1) := by decide +kernel
theorem dX0_bestLeft_64 : decode cX0_bestLeft 64 = .ok (.ireturn, 1) := by decide +kernel
theorem dX0_gatherAged_0 : decode cX0_gatherAged 0 = .ok (.aload_n 0, 1) := by decide +kernel
theorem dX0_gatherAged_1 : decode cX0_gatherAged 1 = .ok (.iconst 0, 1) := by decide +kernel
theorem dX0_gatherAged_2 : decode cX0_gatherAged 2 = .ok (.putfield 22, 3) := by decide +kernel
theorem dX0_gatherAged_5 : decode cX0_gatherAged 5 = .ok (.iconst 0, 1) := by decide +kernel
theorem dX0_gatherAged_6 : decode cX0_gatherAged 6 = .ok (.istore_n 1, 1) := by decide +kernel
theorem dX0_gatherAged_7 : decode cX0_gatherAged 7 = .ok (.iload_n 1, 1) := by decide +kernel
theorem dX0_gatherAged_8 : decode cX0_gatherAged 8 = .ok (.sipush 300, 3) := by decide +kernel
theorem dX0_gatherAged_11 : decode cX0_gatherAged 11 = .ok (.if_icmp .ge 41, 3) := by decide +kernel
theorem dX0_gatherAged_14 : decode cX0_gatherAged 14 = .ok (.aload_n 0, 1) := by decide +kernel
theorem dX0_gatherAged_15 : decode cX0_gatherAged 15 = .ok (.getfield 30, 3) := by decide +kernel
theorem dX0_gatherAged_18 : decode cX0_gatherAged 18 = .ok (.iload_n 1, 1) := by decide +kernel
theorem dX0_gatherAged_19 : decode cX0_gatherAged 19 = .ok (.invokevirtual 72, 3) := by decide +kernel
theorem dX0_gatherAged_22 : decode cX0_gatherAged 22 = .ok (.ifCond .eq 24, 3) := by decide +kernel
theorem dX0_gatherAged_46 : decode cX0_gatherAged 46 = .ok (.iinc 1 1, 3) := by decide +kernel
theorem dX0_gatherAged_49 : decode cX0_gatherAged 49 = .ok (.goto (-42), 3) := by decide +kernel
theorem dX0_gatherAged_52 : decode cX0_gatherAged 52 = .ok (.return_, 1) := by decide +kernel
theorem dX0_countWanted_0 : decode cX0_countWanted 0 = .ok (.iconst 0, 1) := by decide +kernel
theorem dX0_countWanted_1 : decode cX0_countWanted 1 = .ok (.istore_n 1, 1) := by decide +kernel
theorem dX0_countWanted_2 : decode cX0_countWanted 2 = .ok (.aload_n 0, 1) := by decide +kernel
theorem dX0_countWanted_3 : decode cX0_countWanted 3 = .ok (.getfield 26, 3) := by decide +kernel
theorem dX0_countWanted_6 : decode cX0_countWanted 6 = .ok (.getfield 113, 3) := by decide +kernel
theorem dX0_countWanted_9 : decode cX0_countWanted 9 = .ok (.ifCond .ne 9, 3) := by decide +kernel
theorem dX0_countWanted_12 : decode cX0_countWanted 12 = .ok (.sipush 1024, 3) := by decide +kernel
theorem dX0_countWanted_15 : decode cX0_countWanted 15 = .ok (.goto 10, 3) := by decide +kernel
theorem dX0_countWanted_25 : decode cX0_countWanted 25 = .ok (.istore_n 2, 1) := by decide +kernel
theorem dX0_countWanted_26 : decode cX0_countWanted 26 = .ok (.iconst 0, 1) := by decide +kernel
theorem dX0_countWanted_27 : decode cX0_countWanted 27 = .ok (.istore_n 3, 1) := by decide +kernel
theorem dX0_countWanted_28 : decode cX0_countWanted 28 = .ok (.iload_n 3, 1) := by decide +kernel
theorem dX0_countWanted_29 : decode cX0_countWanted 29 = .ok (.aload_n 0, 1) := by decide +kernel
theorem dX0_countWanted_30 : decode cX0_countWanted 30 = .ok (.getfield 22, 3) := by decide +kernel
theorem dX0_countWanted_33 : decode cX0_countWanted 33 = .ok (.if_icmp .ge 48, 3) := by decide +kernel
theorem dX0_countWanted_81 : decode cX0_countWanted 81 = .ok (.iload_n 1, 1) := by decide +kernel
theorem dX0_countWanted_82 : decode cX0_countWanted 82 = .ok (.ireturn, 1) := by decide +kernel
theorem dX1_init_0 : decode cX1_init 0 = .ok (.aload_n 0, 1) := by decide +kernel
theorem dX1_init_1 : decode cX1_init 1 = .ok (.invokespecial 3, 3) := by decide +kernel
theorem dX1_init_4 : decode cX1_init 4 = .ok (.aload_n 0, 1) := by decide +kernel
theorem dX1_init_5 : decode cX1_init 5 = .ok (.ldc 9, 2) := by decide +kernel
theorem dX1_init_7 : decode cX1_init 7 = .ok (.newarray .byte, 2) := by decide +kernel
theorem dX1_init_9 : decode cX1_init 9 = .ok (.putfield 10, 3) := by decide +kernel
theorem dX1_init_12 : decode cX1_init 12 = .ok (.aload_n 0, 1) := by decide +kernel
theorem dX1_init_13 : decode cX1_init 13 = .ok (.sipush 1024, 3) := by decide +kernel
theorem dX1_init_16 : decode cX1_init 16 = .ok (.newarray .int, 2) := by decide +kernel
theorem dX1_init_18 : decode cX1_init 18 = .ok (.putfield 16, 3) := by decide +kernel
theorem dX1_init_21 : decode cX1_init 21 = .ok (.aload_n 0, 1) := by decide +kernel
theorem dX1_init_22 : decode cX1_init 22 = .ok (.iconst 0, 1) := by decide +kernel
theorem dX1_init_23 : decode cX1_init 23 = .ok (.putfield 20, 3) := by decide +kernel
theorem dX1_init_26 : decode cX1_init 26 = .ok (.aload_n 0, 1) := by decide +kernel
theorem dX1_init_27 : decode cX1_init 27 = .ok (.iconst 0, 1) := by decide +kernel
theorem dX1_init_28 : decode cX1_init 28 = .ok (.putfield 24, 3) := by decide +kernel
theorem dX1_init_31 : decode cX1_init 31 = .ok (.aload_n 0, 1) := by decide +kernel
theorem dX1_init_32 : decode cX1_init 32 = .ok (.iconst 0, 1) := by decide +kernel
theorem dX1_init_33 : decode cX1_init 33 = .ok (.putfield 27, 3) := by decide +kernel
theorem dX1_init_36 : decode cX1_init 36 = .ok (.return_, 1) := by decide +kernel
theorem dX1_cutAt_0 : decode cX1_cutAt 0 = .ok (.aload_n 0, 1) := by decide +kernel
theorem dX1_cutAt_1 : decode cX1_cutAt 1 = .ok (.iload_n 1, 1) := by decide +kernel
theorem dX1_cutAt_2 : decode cX1_cutAt 2 = .ok (.putfield 24, 3) := by decide +kernel
theorem dX1_cutAt_5 : decode cX1_cutAt 5 = .ok (.aload_n 0, 1) := by decide +kernel
theorem dX1_cutAt_6 : decode cX1_cutAt 6 = .ok (.iload_n 2, 1) := by decide +kernel
theorem dX1_cutAt_7 : decode cX1_cutAt 7 = .ok (.putfield 27, 3) := by decide +kernel
theorem dX1_cutAt_10 : decode cX1_cutAt 10 = .ok (.return_, 1) := by decide +kernel
theorem dX1_flip_0 : decode cX1_flip 0 = .ok (.aload_n 0, 1) := by decide +kernel
theorem dX1_flip_1 : decode cX1_flip 1 = .ok (.getfield 10, 3) := by decide +kernel
theorem dX1_flip_4 : decode cX1_flip 4 = .ok (.iload_n 1, 1) := by decide +kernel
theorem dX1_flip_5 : decode cX1_flip 5 = .ok (.iconst 1, 1) := by decide +kernel
theorem dX1_flip_6 : decode cX1_flip 6 = .ok (.aload_n 0, 1) := by decide +kernel
theorem dX1_flip_7 : decode cX1_flip 7 = .ok (.getfield 10, 3) := by decide +kernel
theorem dX1_flip_10 : decode cX1_flip 10 = .ok (.iload_n 1, 1) := by decide +kernel
theorem dX1_flip_11 : decode cX1_flip 11 = .ok (.iconst 1, 1) := by decide +kernel
theorem dX1_flip_12 : decode cX1_flip 12 = .ok (.invokestatic 30, 3) := by decide +kernel
theorem dX1_flip_15 : decode cX1_flip 15 = .ok (.iload_n 2, 1) := by decide +kernel
theorem dX1_flip_16 : decode cX1_flip 16 = .ok (.ixor, 1) := by decide +kernel
theorem dX1_flip_17 : decode cX1_flip 17 = .ok (.invokestatic 36, 3) := by decide +kernel
theorem dX1_flip_20 : decode cX1_flip 20 = .ok (.aload_n 0, 1) := by decide +kernel
theorem dX1_flip_21 : decode cX1_flip 21 = .ok (.getfield 10, 3) := by decide +kernel
theorem dX1_flip_24 : decode cX1_flip 24 = .ok (.iload_n 1, 1) := by decide +kernel
theorem dX1_flip_25 : decode cX1_flip 25 = .ok (.iconst 1, 1) := by decide +kernel
theorem dX1_flip_26 : decode cX1_flip 26 = .ok (.invokestatic 30, 3) := by decide +kernel
theorem dX1_flip_29 : decode cX1_flip 29 = .ok (.ireturn, 1) := by decide +kernel
theorem dX1_write_0 : decode cX1_write 0 = .ok (.iload_n 1, 1) := by decide +kernel
theorem dX1_write_1 : decode cX1_write 1 = .ok (.ifCond .lt 12, 3) := by decide +kernel
theorem dX1_write_4 : decode cX1_write 4 = .ok (.iload_n 1, 1) := by decide +kernel
theorem dX1_write_5 : decode cX1_write 5 = .ok (.aload_n 0, 1) := by decide +kernel
theorem dX1_write_6 : decode cX1_write 6 = .ok (.getfield 16, 3) := by decide +kernel
theorem dX1_write_9 : decode cX1_write 9 = .ok (.arraylength, 1) := by decide +kernel
theorem dX1_write_10 : decode cX1_write 10 = .ok (.if_icmp .lt 5, 3) := by decide +kernel
theorem dX1_write_15 : decode cX1_write 15 = .ok (.aload_n 0, 1) := by decide +kernel
theorem dX1_write_16 : decode cX1_write 16 = .ok (.getfield 24, 3) := by decide +kernel
theorem dX1_write_19 : decode cX1_write 19 = .ok (.iconst 1, 1) := by decide +kernel
theorem dX1_write_20 : decode cX1_write 20 = .ok (.if_icmp .eq 7, 3) := by decide +kernel
theorem dX1_write_23 : decode cX1_write 23 = .ok (.iconst 1, 1) := by decide +kernel
theorem dX1_write_24 : decode cX1_write 24 = .ok (.goto 4, 3) := by decide +kernel
theorem dX1_write_28 : decode cX1_write 28 = .ok (.istore 5, 2) := by decide +kernel
theorem dX1_write_30 : decode cX1_write 30 = .ok (.aload_n 0, 1) := by decide +kernel
theorem dX1_write_31 : decode cX1_write 31 = .ok (.getfield 24, 3) := by decide +kernel
theorem dX1_write_34 : decode cX1_write 34 = .ok (.ifCond .le 13, 3) := by decide +kernel
theorem dX1_write_47 : decode cX1_write 47 = .ok (.aload_n 2, 1) := by decide +kernel
theorem dX1_write_48 : decode cX1_write 48 = .ok (.iload_n 3, 1) := by decide +kernel
theorem dX1_write_49 : decode cX1_write 49 = .ok (.aload_n 0, 1) := by decide +kernel
theorem dX1_write_50 : decode cX1_write 50 = .ok (.getfield 10, 3) := by decide +kernel
theorem dX1_write_53 : decode cX1_write 53 = .ok (.iload_n 1, 1) := by decide +kernel
theorem dX1_write_54 : decode cX1_write 54 = .ok (.bipush 64, 2) := by decide +kernel
theorem dX1_write_56 : decode cX1_write 56 = .ok (.imul, 1) := by decide +kernel
theorem dX1_write_57 : decode cX1_write 57 = .ok (.iload 5, 2) := by decide +kernel
theorem dX1_write_59 : decode cX1_write 59 = .ok (.ifCond .eq 8, 3) := by decide +kernel
theorem dX1_write_62 : decode cX1_write 62 = .ok (.bipush 64, 2) := by decide +kernel
theorem dX1_write_64 : decode cX1_write 64 = .ok (.goto 7, 3) := by decide +kernel
theorem dX1_write_71 : decode cX1_write 71 = .ok (.invokestatic 60, 3) := by decide +kernel
theorem dX1_write_74 : decode cX1_write 74 = .ok (.iload 5, 2) := by decide +kernel
theorem dX1_write_76 : decode cX1_write 76 = .ok (.ifCond .eq 23, 3) := by decide +kernel
theorem dX1_write_79 : decode cX1_write 79 = .ok (.aload_n 0, 1) := by decide +kernel
theorem dX1_write_80 : decode cX1_write 80 = .ok (.getfield 16, 3) := by decide +kernel
theorem dX1_write_83 : decode cX1_write 83 = .ok (.iload_n 1, 1) := by decide +kernel
theorem dX1_write_84 : decode cX1_write 84 = .ok (.iconst 0, 1) := by decide +kernel
theorem dX1_write_85 : decode cX1_write 85 = .ok (.iastore, 1) := by decide +kernel
theorem dX1_write_86 : decode cX1_write 86 = .ok (.aload_n 0, 1) := by decide +kernel
theorem dX1_write_87 : decode cX1_write 87 = .ok (.dup, 1) := by decide +kernel
theorem dX1_write_88 : decode cX1_write 88 = .ok (.getfield 20, 3) := by decide +kernel
theorem dX1_write_91 : decode cX1_write 91 = .ok (.iconst 1, 1) := by decide +kernel
theorem dX1_write_92 : decode cX1_write 92 = .ok (.iadd, 1) := by decide +kernel
theorem dX1_write_93 : decode cX1_write 93 = .ok (.putfield 20, 3) := by decide +kernel
theorem dX1_write_96 : decode cX1_write 96 = .ok (.goto 34, 3) := by decide +kernel
theorem dX1_write_130 : decode cX1_write 130 = .ok (.iload 5, 2) := by decide +kernel
theorem dX1_write_132 : decode cX1_write 132 = .ok (.ireturn, 1) := by decide +kernel
theorem dX2_init_0 : decode cX2_init 0 = .ok (.aload_n 0, 1) := by decide +kernel
theorem dX2_init_1 : decode cX2_init 1 = .ok (.invokespecial 3, 3) := by decide +kernel
theorem dX2_init_4 : decode cX2_init 4 = .ok (.aload_n 0, 1) := by decide +kernel
theorem dX2_init_5 : decode cX2_init 5 = .ok (.sipush 300, 3) := by decide +kernel
theorem dX2_init_8 : decode cX2_init 8 = .ok (.newarray .int, 2) := by decide +kernel
theorem dX2_init_10 : decode cX2_init 10 = .ok (.putfield 9, 3) := by decide +kernel
theorem dX2_init_13 : decode cX2_init 13 = .ok (.aload_n 0, 1) := by decide +kernel
theorem dX2_init_14 : decode cX2_init 14 = .ok (.sipush 300, 3) := by decide +kernel
theorem dX2_init_17 : decode cX2_init 17 = .ok (.newarray .int, 2) := by decide +kernel
theorem dX2_init_19 : decode cX2_init 19 = .ok (.putfield 15, 3) := by decide +kernel
theorem dX2_init_22 : decode cX2_init 22 = .ok (.aload_n 0, 1) := by decide +kernel
theorem dX2_init_23 : decode cX2_init 23 = .ok (.iconst 0, 1) := by decide +kernel
theorem dX2_init_24 : decode cX2_init 24 = .ok (.putfield 18, 3) := by decide +kernel
theorem dX2_init_27 : decode cX2_init 27 = .ok (.return_, 1) := by decide +kernel
theorem dX2_has_0 : decode cX2_has 0 = .ok (.iload_n 1, 1) := by decide +kernel
theorem dX2_has_1 : decode cX2_has 1 = .ok (.invokestatic 22, 3) := by decide +kernel
theorem dX2_has_4 : decode cX2_has 4 = .ok (.ifCond .eq 19, 3) := by decide +kernel
theorem dX2_has_7 : decode cX2_has 7 = .ok (.aload_n 0, 1) := by decide +kernel
theorem dX2_has_8 : decode cX2_has 8 = .ok (.getfield 9, 3) := by decide +kernel
theorem dX2_has_11 : decode cX2_has 11 = .ok (.iload_n 1, 1) := by decide +kernel
theorem dX2_has_12 : decode cX2_has 12 = .ok (.iaload, 1) := by decide +kernel
theorem dX2_has_13 : decode cX2_has 13 = .ok (.invokestatic 26, 3) := by decide +kernel
theorem dX2_has_16 : decode cX2_has 16 = .ok (.ifCond .eq 7, 3) := by decide +kernel
theorem dX2_has_23 : decode cX2_has 23 = .ok (.iconst 0, 1) := by decide +kernel
theorem dX2_has_24 : decode cX2_has 24 = .ok (.ireturn, 1) := by decide +kernel
theorem dX2_follow_0 : decode cX2_follow 0 = .ok (.iload_n 2, 1) := by decide +kernel
theorem dX2_follow_1 : decode cX2_follow 1 = .ok (.invokestatic 22, 3) := by decide +kernel
theorem dX2_follow_4 : decode cX2_follow 4 = .ok (.ifCond .ne 4, 3) := by decide +kernel
theorem dX2_follow_8 : decode cX2_follow 8 = .ok (.aload_n 0, 1) := by decide +kernel
theorem dX2_follow_9 : decode cX2_follow 9 = .ok (.getfield 9, 3) := by decide +kernel
theorem dX2_follow_12 : decode cX2_follow 12 = .ok (.iload_n 2, 1) := by decide +kernel
theorem dX2_follow_13 : decode cX2_follow 13 = .ok (.iaload, 1) := by decide +kernel
theorem dX2_follow_14 : decode cX2_follow 14 = .ok (.ifCond .eq 13, 3) := by decide +kernel
theorem dX2_follow_27 : decode cX2_follow 27 = .ok (.aload_n 0, 1) := by decide +kernel
theorem dX2_follow_28 : decode cX2_follow 28 = .ok (.getfield 9, 3) := by decide +kernel
theorem dX2_follow_31 : decode cX2_follow 31 = .ok (.iload_n 2, 1) := by decide +kernel
theorem dX2_follow_32 : decode cX2_follow 32 = .ok (.iload_n 1, 1) := by decide +kernel
theorem dX2_follow_33 : decode cX2_follow 33 = .ok (.iconst 1, 1) := by decide +kernel
theorem dX2_follow_34 : decode cX2_follow 34 = .ok (.if_icmp .ne 7, 3) := by decide +kernel
theorem dX2_follow_37 : decode cX2_follow 37 = .ok (.iload_n 3, 1) := by decide +kernel
theorem dX2_follow_38 : decode cX2_follow 38 = .ok (.goto 4, 3) := by decide +kernel
theorem dX2_follow_42 : decode cX2_follow 42 = .ok (.iastore, 1) := by decide +kernel
theorem dX2_follow_43 : decode cX2_follow 43 = .ok (.aload_n 0, 1) := by decide +kernel
theorem dX2_follow_44 : decode cX2_follow 44 = .ok (.getfield 15, 3) := by decide +kernel
theorem dX2_follow_47 : decode cX2_follow 47 = .ok (.iload_n 2, 1) := by decide +kernel
theorem dX2_follow_48 : decode cX2_follow 48 = .ok (.iload_n 1, 1) := by decide +kernel
theorem dX2_follow_49 : decode cX2_follow 49 = .ok (.iconst 1, 1) := by decide +kernel
theorem dX2_follow_50 : decode cX2_follow 50 = .ok (.if_icmp .ne 8, 3) := by decide +kernel
theorem dX2_follow_53 : decode cX2_follow 53 = .ok (.iload 4, 2) := by decide +kernel
theorem dX2_follow_55 : decode cX2_follow 55 = .ok (.goto 4, 3) := by decide +kernel
theorem dX2_follow_59 : decode cX2_follow 59 = .ok (.iastore, 1) := by decide +kernel
theorem dX2_follow_60 : decode cX2_follow 60 = .ok (.aload_n 0, 1) := by decide +kernel
theorem dX2_follow_61 : decode cX2_follow 61 = .ok (.getfield 9, 3) := by decide +kernel
theorem dX2_follow_64 : decode cX2_follow 64 = .ok (.iload_n 2, 1) := by decide +kernel
theorem dX2_follow_65 : decode cX2_follow 65 = .ok (.iaload, 1) := by decide +kernel
theorem dX2_follow_66 : decode cX2_follow 66 = .ok (.ifCond .eq 13, 3) := by decide +kernel
theorem dX2_follow_69 : decode cX2_follow 69 = .ok (.aload_n 0, 1) := by decide +kernel
theorem dX2_follow_70 : decode cX2_follow 70 = .ok (.dup, 1) := by decide +kernel
theorem dX2_follow_71 : decode cX2_follow 71 = .ok (.getfield 18, 3) := by decide +kernel
theorem dX2_follow_74 : decode cX2_follow 74 = .ok (.iconst 1, 1) := by decide +kernel
theorem dX2_follow_75 : decode cX2_follow 75 = .ok (.iadd, 1) := by decide +kernel
theorem dX2_follow_76 : decode cX2_follow 76 = .ok (.putfield 18, 3) := by decide +kernel
theorem dX2_follow_79 : decode cX2_follow 79 = .ok (.return_, 1) := by decide +kernel
theorem dX2_clear_0 : decode cX2_clear 0 = .ok (.aload_n 0, 1) := by decide +kernel
theorem dX2_clear_1 : decode cX2_clear 1 = .ok (.getfield 9, 3) := by decide +kernel
theorem dX2_clear_4 : decode cX2_clear 4 = .ok (.iconst 0, 1) := by decide +kernel
theorem dX2_clear_5 : decode cX2_clear 5 = .ok (.invokestatic 29, 3) := by decide +kernel
theorem dX2_clear_8 : decode cX2_clear 8 = .ok (.aload_n 0, 1) := by decide +kernel
theorem dX2_clear_9 : decode cX2_clear 9 = .ok (.getfield 15, 3) := by decide +kernel
theorem dX2_clear_12 : decode cX2_clear 12 = .ok (.iconst 0, 1) := by decide +kernel
theorem dX2_clear_13 : decode cX2_clear 13 = .ok (.invokestatic 29, 3) := by decide +kernel
theorem dX2_clear_16 : decode cX2_clear 16 = .ok (.aload_n 0, 1) := by decide +kernel
theorem dX2_clear_17 : decode cX2_clear 17 = .ok (.iconst 0, 1) := by decide +kernel
theorem dX2_clear_18 : decode cX2_clear 18 = .ok (.putfield 18, 3) := by decide +kernel
theorem dX2_clear_21 : decode cX2_clear 21 = .ok (.return_, 1) := by decide +kernel
theorem dX3_init_0 : decode cX3_init 0 = .ok (.aload_n 0, 1) := by decide +kernel
theorem dX3_init_1 : decode cX3_init 1 = .ok (.invokespecial 3, 3) := by decide +kernel
theorem dX3_init_4 : decode cX3_init 4 = .ok (.aload_n 0, 1) := by decide +kernel
theorem dX3_init_5 : decode cX3_init 5 = .ok (.ldc 9, 2) := by decide +kernel
theorem dX3_init_7 : decode cX3_init 7 = .ok (.newarray .byte, 2) := by decide +kernel
theorem dX3_init_9 : decode cX3_init 9 = .ok (.putfield 10, 3) := by decide +kernel
theorem dX3_init_12 : decode cX3_init 12 = .ok (.aload_n 0, 1) := by decide +kernel
theorem dX3_init_13 : decode cX3_init 13 = .ok (.bipush 64, 2) := by decide +kernel
theorem dX3_init_15 : decode cX3_init 15 = .ok (.newarray .int, 2) := by decide +kernel
theorem dX3_init_17 : decode cX3_init 17 = .ok (.putfield 16, 3) := by decide +kernel
theorem dX3_init_20 : decode cX3_init 20 = .ok (.aload_n 0, 1) := by decide +kernel
theorem dX3_init_21 : decode cX3_init 21 = .ok (.bipush 64, 2) := by decide +kernel
theorem dX3_init_23 : decode cX3_init 23 = .ok (.newarray .boolean, 2) := by decide +kernel
theorem dX3_init_25 : decode cX3_init 25 = .ok (.putfield 20, 3) := by decide +kernel
theorem dX3_init_28 : decode cX3_init 28 = .ok (.aload_n 0, 1) := by decide +kernel
theorem dX3_init_29 : decode cX3_init 29 = .ok (.bipush 64, 2) := by decide +kernel
theorem dX3_init_31 : decode cX3_init 31 = .ok (.newarray .int, 2) := by decide +kernel
theorem dX3_init_33 : decode cX3_init 33 = .ok (.putfield 24, 3) := by decide +kernel
theorem dX3_init_36 : decode cX3_init 36 = .ok (.aload_n 0, 1) := by decide +kernel
theorem dX3_init_37 : decode cX3_init 37 = .ok (.bipush 64, 2) := by decide +kernel
theorem dX3_init_39 : decode cX3_init 39 = .ok (.newarray .int, 2) := by decide +kernel
theorem dX3_init_41 : decode cX3_init 41 = .ok (.putfield 27, 3) := by decide +kernel
theorem dX3_init_44 : decode cX3_init 44 = .ok (.aload_n 0, 1) := by decide +kernel
theorem dX3_init_45 : decode cX3_init 45 = .ok (.bipush 64, 2) := by decide +kernel
theorem dX3_init_47 : decode cX3_init 47 = .ok (.newarray .int, 2) := by decide +kernel
theorem dX3_init_49 : decode cX3_init 49 = .ok (.putfield 30, 3) := by decide +kernel
theorem dX3_init_52 : decode cX3_init 52 = .ok (.aload_n 0, 1) := by decide +kernel
theorem dX3_init_53 : decode cX3_init 53 = .ok (.bipush 64, 2) := by decide +kernel
theorem dX3_init_55 : decode cX3_init 55 = .ok (.newarray .int, 2) := by decide +kernel
theorem dX3_init_57 : decode cX3_init 57 = .ok (.putfield 33, 3) := by decide +kernel
theorem dX3_init_60 : decode cX3_init 60 = .ok (.aload_n 0, 1) := by decide +kernel
theorem dX3_init_61 : decode cX3_init 61 = .ok (.iconst 0, 1) := by decide +kernel
theorem dX3_init_62 : decode cX3_init 62 = .ok (.putfield 36, 3) := by decide +kernel
theorem dX3_init_65 : decode cX3_init 65 = .ok (.aload_n 0, 1) := by decide +kernel
theorem dX3_init_66 : decode cX3_init 66 = .ok (.iconst 0, 1) := by decide +kernel
theorem dX3_init_67 : decode cX3_init 67 = .ok (.putfield 40, 3) := by decide +kernel
theorem dX3_init_70 : decode cX3_init 70 = .ok (.aload_n 0, 1) := by decide +kernel
theorem dX3_init_71 : decode cX3_init 71 = .ok (.iconst 0, 1) := by decide +kernel
theorem dX3_init_72 : decode cX3_init 72 = .ok (.putfield 43, 3) := by decide +kernel
theorem dX3_init_75 : decode cX3_init 75 = .ok (.aload_n 0, 1) := by decide +kernel
theorem dX3_init_76 : decode cX3_init 76 = .ok (.iconst 0, 1) := by decide +kernel
theorem dX3_init_77 : decode cX3_init 77 = .ok (.putfield 46, 3) := by decide +kernel
theorem dX3_init_80 : decode cX3_init 80 = .ok (.aload_n 0, 1) := by decide +kernel
theorem dX3_init_81 : decode cX3_init 81 = .ok (.iconst 1, 1) := by decide +kernel
theorem dX3_init_82 : decode cX3_init 82 = .ok (.putfield 49, 3) := by decide +kernel
theorem dX3_init_85 : decode cX3_init 85 = .ok (.aload_n 0, 1) := by decide +kernel
theorem dX3_init_86 : decode cX3_init 86 = .ok (.iconst 0, 1) := by decide +kernel
theorem dX3_init_87 : decode cX3_init 87 = .ok (.putfield 52, 3) := by decide +kernel
theorem dX3_init_90 : decode cX3_init 90 = .ok (.aload_n 0, 1) := by decide +kernel
theorem dX3_init_91 : decode cX3_init 91 = .ok (.aload_n 1, 1) := by decide +kernel
theorem dX3_init_92 : decode cX3_init 92 = .ok (.putfield 55, 3) := by decide +kernel
theorem dX3_init_95 : decode cX3_init 95 = .ok (.return_, 1) := by decide +kernel
theorem dX3_setAsAtFirst_0 : decode cX3_setAsAtFirst 0 = .ok (.aload_n 0, 1) := by decide +kernel
theorem dX3_setAsAtFirst_1 : decode cX3_setAsAtFirst 1 = .ok (.getfield 16, 3) := by decide +kernel
theorem dX3_setAsAtFirst_4 : decode cX3_setAsAtFirst 4 = .ok (.iconst 0, 1) := by decide +kernel
theorem dX3_setAsAtFirst_5 : decode cX3_setAsAtFirst 5 = .ok (.invokestatic 59, 3) := by decide +kernel
theorem dX3_setAsAtFirst_8 : decode cX3_setAsAtFirst 8 = .ok (.aload_n 0, 1) := by decide +kernel
theorem dX3_setAsAtFirst_9 : decode cX3_setAsAtFirst 9 = .ok (.iconst 0, 1) := by decide +kernel
theorem dX3_setAsAtFirst_10 : decode cX3_setAsAtFirst 10 = .ok (.putfield 36, 3) := by decide +kernel
theorem dX3_setAsAtFirst_13 : decode cX3_setAsAtFirst 13 = .ok (.aload_n 0, 1) := by decide +kernel
theorem dX3_setAsAtFirst_14 : decode cX3_setAsAtFirst 14 = .ok (.iconst 0, 1) := by decide +kernel
theorem dX3_setAsAtFirst_15 : decode cX3_setAsAtFirst 15 = .ok (.putfield 40, 3) := by decide +kernel
theorem dX3_setAsAtFirst_18 : decode cX3_setAsAtFirst 18 = .ok (.aload_n 0, 1) := by decide +kernel
theorem dX3_setAsAtFirst_19 : decode cX3_setAsAtFirst 19 = .ok (.iconst 0, 1) := by decide +kernel
theorem dX3_setAsAtFirst_20 : decode cX3_setAsAtFirst 20 = .ok (.putfield 43, 3) := by decide +kernel
theorem dX3_setAsAtFirst_23 : decode cX3_setAsAtFirst 23 = .ok (.aload_n 0, 1) := by decide +kernel
theorem dX3_setAsAtFirst_24 : decode cX3_setAsAtFirst 24 = .ok (.iconst 0, 1) := by decide +kernel
theorem dX3_setAsAtFirst_25 : decode cX3_setAsAtFirst 25 = .ok (.putfield 46, 3) := by decide +kernel
theorem dX3_setAsAtFirst_28 : decode cX3_setAsAtFirst 28 = .ok (.aload_n 0, 1) := by decide +kernel
theorem dX3_setAsAtFirst_29 : decode cX3_setAsAtFirst 29 = .ok (.iconst 1, 1) := by decide +kernel
theorem dX3_setAsAtFirst_30 : decode cX3_setAsAtFirst 30 = .ok (.putfield 49, 3) := by decide +kernel
theorem dX3_setAsAtFirst_33 : decode cX3_setAsAtFirst 33 = .ok (.aload_n 0, 1) := by decide +kernel
theorem dX3_setAsAtFirst_34 : decode cX3_setAsAtFirst 34 = .ok (.iconst 0, 1) := by decide +kernel
theorem dX3_setAsAtFirst_35 : decode cX3_setAsAtFirst 35 = .ok (.putfield 52, 3) := by decide +kernel
theorem dX3_setAsAtFirst_38 : decode cX3_setAsAtFirst 38 = .ok (.return_, 1) := by decide +kernel
theorem dX3_stateOf_0 : decode cX3_stateOf 0 = .ok (.iload_n 1, 1) := by decide +kernel
theorem dX3_stateOf_1 : decode cX3_stateOf 1 = .ok (.invokestatic 65, 3) := by decide +kernel
theorem dX3_stateOf_4 : decode cX3_stateOf 4 = .ok (.ifCond .ne 5, 3) := by decide +kernel
theorem dX3_stateOf_9 : decode cX3_stateOf 9 = .ok (.iload_n 1, 1) := by decide +kernel
theorem dX3_stateOf_10 : decode cX3_stateOf 10 = .ok (.aload_n 0, 1) := by decide +kernel
theorem dX3_stateOf_11 : decode cX3_stateOf 11 = .ok (.getfield 40, 3) := by decide +kernel
theorem dX3_stateOf_14 : decode cX3_stateOf 14 = .ok (.if_icmp .ne 7, 3) := by decide +kernel
theorem dX3_stateOf_21 : decode cX3_stateOf 21 = .ok (.aload_n 0, 1) := by decide +kernel
theorem dX3_stateOf_22 : decode cX3_stateOf 22 = .ok (.getfield 16, 3) := by decide +kernel
theorem dX3_stateOf_25 : decode cX3_stateOf 25 = .ok (.iload_n 1, 1) := by decide +kernel
theorem dX3_stateOf_26 : decode cX3_stateOf 26 = .ok (.iaload, 1) := by decide +kernel
theorem dX3_stateOf_27 : decode cX3_stateOf 27 = .ok (.ireturn, 1) := by decide +kernel
theorem dX3_isUsed_0 : decode cX3_isUsed 0 = .ok (.iload_n 1, 1) := by decide +kernel
theorem dX3_isUsed_1 : decode cX3_isUsed 1 = .ok (.invokestatic 65, 3) := by decide +kernel
theorem dX3_isUsed_4 : decode cX3_isUsed 4 = .ok (.ifCond .eq 17, 3) := by decide +kernel
theorem dX3_isUsed_7 : decode cX3_isUsed 7 = .ok (.aload_n 0, 1) := by decide +kernel
theorem dX3_isUsed_8 : decode cX3_isUsed 8 = .ok (.getfield 16, 3) := by decide +kernel
theorem dX3_isUsed_11 : decode cX3_isUsed 11 = .ok (.iload_n 1, 1) := by decide +kernel
theorem dX3_isUsed_12 : decode cX3_isUsed 12 = .ok (.iaload, 1) := by decide +kernel
theorem dX3_isUsed_13 : decode cX3_isUsed 13 = .ok (.iconst 1, 1) := by decide +kernel
theorem dX3_isUsed_14 : decode cX3_isUsed 14 = .ok (.if_icmp .ne 7, 3) := by decide +kernel
theorem dX3_isUsed_21 : decode cX3_isUsed 21 = .ok (.iconst 0, 1) := by decide +kernel
theorem dX3_isUsed_22 : decode cX3_isUsed 22 = .ok (.ireturn, 1) := by decide +kernel
theorem dX3_use_0 : decode cX3_use 0 = .ok (.iload_n 1, 1) := by decide +kernel
theorem dX3_use_1 : decode cX3_use 1 = .ok (.invokestatic 65, 3) := by decide +kernel
theorem dX3_use_4 : decode cX3_use 4 = .ok (.ifCond .eq 10, 3) := by decide +kernel
theorem dX3_use_7 : decode cX3_use 7 = .ok (.aload_n 0, 1) := by decide +kernel
theorem dX3_use_8 : decode cX3_use 8 = .ok (.getfield 16, 3) := by decide +kernel
theorem dX3_use_11 : decode cX3_use 11 = .ok (.iload_n 1, 1) := by decide +kernel
theorem dX3_use_12 : decode cX3_use 12 = .ok (.iconst 1, 1) := by decide +kernel
theorem dX3_use_13 : decode cX3_use 13 = .ok (.iastore, 1) := by decide +kernel
theorem dX3_use_14 : decode cX3_use 14 = .ok (.return_, 1) := by decide +kernel
theorem dX3_freeSpent_0 : decode cX3_freeSpent 0 = .ok (.bipush 8, 2) := by decide +kernel
theorem dX3_freeSpent_2 : decode cX3_freeSpent 2 = .ok (.istore_n 1, 1) := by decide +kernel
theorem dX3_freeSpent_3 : decode cX3_freeSpent 3 = .ok (.iload_n 1, 1) := by decide +kernel
theorem dX3_freeSpent_4 : decode cX3_freeSpent 4 = .ok (.bipush 64, 2) := by decide +kernel
theorem dX3_freeSpent_6 : decode cX3_freeSpent 6 = .ok (.if_icmp .ge 26, 3) := by decide +kernel
theorem dX3_freeSpent_9 : decode cX3_freeSpent 9 = .ok (.aload_n 0, 1) := by decide +kernel
theorem dX3_freeSpent_10 : decode cX3_freeSpent 10 = .ok (.getfield 16, 3) := by decide +kernel
theorem dX3_freeSpent_13 : decode cX3_freeSpent 13 = .ok (.iload_n 1, 1) := by decide +kernel
theorem dX3_freeSpent_14 : decode cX3_freeSpent 14 = .ok (.iaload, 1) := by decide +kernel
theorem dX3_freeSpent_15 : decode cX3_freeSpent 15 = .ok (.iconst 3, 1) := by decide +kernel
theorem dX3_freeSpent_16 : decode cX3_freeSpent 16 = .ok (.if_icmp .ne 10, 3) := by decide +kernel
theorem dX3_freeSpent_26 : decode cX3_freeSpent 26 = .ok (.iinc 1 1, 3) := by decide +kernel
theorem dX3_freeSpent_29 : decode cX3_freeSpent 29 = .ok (.goto (-26), 3) := by decide +kernel
theorem dX3_freeSpent_32 : decode cX3_freeSpent 32 = .ok (.return_, 1) := by decide +kernel
theorem dX3_countFree_0 : decode cX3_countFree 0 = .ok (.iconst 0, 1) := by decide +kernel
theorem dX3_countFree_1 : decode cX3_countFree 1 = .ok (.istore_n 1, 1) := by decide +kernel
theorem dX3_countFree_2 : decode cX3_countFree 2 = .ok (.bipush 8, 2) := by decide +kernel
theorem dX3_countFree_4 : decode cX3_countFree 4 = .ok (.istore_n 2, 1) := by decide +kernel
theorem dX3_countFree_5 : decode cX3_countFree 5 = .ok (.iload_n 2, 1) := by decide +kernel
theorem dX3_countFree_6 : decode cX3_countFree 6 = .ok (.bipush 64, 2) := by decide +kernel
theorem dX3_countFree_8 : decode cX3_countFree 8 = .ok (.if_icmp .ge 21, 3) := by decide +kernel
theorem dX3_countFree_11 : decode cX3_countFree 11 = .ok (.aload_n 0, 1) := by decide +kernel
theorem dX3_countFree_12 : decode cX3_countFree 12 = .ok (.getfield 16, 3) := by decide +kernel
theorem dX3_countFree_15 : decode cX3_countFree 15 = .ok (.iload_n 2, 1) := by decide +kernel
theorem dX3_countFree_16 : decode cX3_countFree 16 = .ok (.iaload, 1) := by decide +kernel
theorem dX3_countFree_17 : decode cX3_countFree 17 = .ok (.ifCond .ne 6, 3) := by decide +kernel
theorem dX3_countFree_20 : decode cX3_countFree 20 = .ok (.iinc 1 1, 3) := by decide +kernel
theorem dX3_countFree_23 : decode cX3_countFree 23 = .ok (.iinc 2 1, 3) := by decide +kernel
theorem dX3_countFree_26 : decode cX3_countFree 26 = .ok (.goto (-21), 3) := by decide +kernel
theorem dX3_countFree_29 : decode cX3_countFree 29 = .ok (.iload_n 1, 1) := by decide +kernel
theorem dX3_countFree_30 : decode cX3_countFree 30 = .ok (.ireturn, 1) := by decide +kernel
theorem dX3_forgetTimes_0 : decode cX3_forgetTimes 0 = .ok (.iload_n 1, 1) := by decide +kernel
theorem dX3_forgetTimes_1 : decode cX3_forgetTimes 1 = .ok (.invokestatic 65, 3) := by decide +kernel
theorem dX3_forgetTimes_4 : decode cX3_forgetTimes 4 = .ok (.ifCond .eq 10, 3) := by decide +kernel
theorem dX3_forgetTimes_7 : decode cX3_forgetTimes 7 = .ok (.aload_n 0, 1) := by decide +kernel
theorem dX3_forgetTimes_8 : decode cX3_forgetTimes 8 = .ok (.getfield 20, 3) := by decide +kernel
theorem dX3_forgetTimes_11 : decode cX3_forgetTimes 11 = .ok (.iload_n 1, 1) := by decide +kernel
theorem dX3_forgetTimes_12 : decode cX3_forgetTimes 12 = .ok (.iconst 0, 1) := by decide +kernel
theorem dX3_forgetTimes_13 : decode cX3_forgetTimes 13 = .ok (.bastore, 1) := by decide +kernel
theorem dX3_forgetTimes_14 : decode cX3_forgetTimes 14 = .ok (.return_, 1) := by decide +kernel
theorem dX3_noteTime_0 : decode cX3_noteTime 0 = .ok (.iload_n 1, 1) := by decide +kernel
theorem dX3_noteTime_1 : decode cX3_noteTime 1 = .ok (.invokestatic 65, 3) := by decide +kernel
theorem dX3_noteTime_4 : decode cX3_noteTime 4 = .ok (.ifCond .ne 4, 3) := by decide +kernel
theorem dX3_noteTime_8 : decode cX3_noteTime 8 = .ok (.aload_n 0, 1) := by decide +kernel
theorem dX3_noteTime_9 : decode cX3_noteTime 9 = .ok (.getfield 20, 3) := by decide +kernel
theorem dX3_noteTime_12 : decode cX3_noteTime 12 = .ok (.iload_n 1, 1) := by decide +kernel
theorem dX3_noteTime_13 : decode cX3_noteTime 13 = .ok (.baload, 1) := by decide +kernel
theorem dX3_noteTime_14 : decode cX3_noteTime 14 = .ok (.ifCond .eq 13, 3) := by decide +kernel
theorem dX3_noteTime_27 : decode cX3_noteTime 27 = .ok (.aload_n 0, 1) := by decide +kernel
theorem dX3_noteTime_28 : decode cX3_noteTime 28 = .ok (.getfield 24, 3) := by decide +kernel
theorem dX3_noteTime_31 : decode cX3_noteTime 31 = .ok (.iload_n 1, 1) := by decide +kernel
theorem dX3_noteTime_32 : decode cX3_noteTime 32 = .ok (.iload_n 2, 1) := by decide +kernel
theorem dX3_noteTime_33 : decode cX3_noteTime 33 = .ok (.iastore, 1) := by decide +kernel
theorem dX3_noteTime_34 : decode cX3_noteTime 34 = .ok (.aload_n 0, 1) := by decide +kernel
theorem dX3_noteTime_35 : decode cX3_noteTime 35 = .ok (.getfield 20, 3) := by decide +kernel
theorem dX3_noteTime_38 : decode cX3_noteTime 38 = .ok (.iload_n 1, 1) := by decide +kernel
theorem dX3_noteTime_39 : decode cX3_noteTime 39 = .ok (.iconst 1, 1) := by decide +kernel
theorem dX3_noteTime_40 : decode cX3_noteTime 40 = .ok (.bastore, 1) := by decide +kernel
theorem dX3_noteTime_41 : decode cX3_noteTime 41 = .ok (.return_, 1) := by decide +kernel
theorem dX3_fits_0 : decode cX3_fits 0 = .ok (.aload_n 0, 1) := by decide +kernel
theorem dX3_fits_1 : decode cX3_fits 1 = .ok (.getfield 40, 3) := by decide +kernel
theorem dX3_fits_4 : decode cX3_fits 4 = .ok (.ifCond .eq 19, 3) := by decide +kernel
theorem dX3_fits_23 : decode cX3_fits 23 = .ok (.iconst 0, 1) := by decide +kernel
theorem dX3_fits_24 : decode cX3_fits 24 = .ok (.ireturn, 1) := by decide +kernel
theorem dX3_hasRoomFor_0 : decode cX3_hasRoomFor 0 = .ok (.aload_n 0, 1) := by decide +kernel
theorem dX3_hasRoomFor_1 : decode cX3_hasRoomFor 1 = .ok (.iload_n 1, 1) := by decide +kernel
theorem dX3_hasRoomFor_2 : decode cX3_hasRoomFor 2 = .ok (.invokevirtual 90, 3) := by decide +kernel
theorem dX3_hasRoomFor_5 : decode cX3_hasRoomFor 5 = .ok (.ifCond .ne 11, 3) := by decide +kernel
theorem dX3_hasRoomFor_8 : decode cX3_hasRoomFor 8 = .ok (.aload_n 0, 1) := by decide +kernel
theorem dX3_hasRoomFor_9 : decode cX3_hasRoomFor 9 = .ok (.invokevirtual 93, 3) := by decide +kernel
theorem dX3_hasRoomFor_12 : decode cX3_hasRoomFor 12 = .ok (.iconst 2, 1) := by decide +kernel
theorem dX3_hasRoomFor_13 : decode cX3_hasRoomFor 13 = .ok (.if_icmp .le 7, 3) := by decide +kernel
theorem dX3_hasRoomFor_16 : decode cX3_hasRoomFor 16 = .ok (.iconst 1, 1) := by decide +kernel
theorem dX3_hasRoomFor_17 : decode cX3_hasRoomFor 17 = .ok (.goto 4, 3) := by decide +kernel
theorem dX3_hasRoomFor_21 : decode cX3_hasRoomFor 21 = .ok (.ireturn, 1) := by decide +kernel
theorem dX3_append_0 : decode cX3_append 0 = .ok (.aload_n 0, 1) := by decide +kernel
theorem dX3_append_1 : decode cX3_append 1 = .ok (.bipush 16, 2) := by decide +kernel
theorem dX3_append_3 : decode cX3_append 3 = .ok (.iload 6, 2) := by decide +kernel
theorem dX3_append_5 : decode cX3_append 5 = .ok (.iadd, 1) := by decide +kernel
theorem dX3_append_6 : decode cX3_append 6 = .ok (.invokevirtual 90, 3) := by decide +kernel
theorem dX3_append_9 : decode cX3_append 9 = .ok (.ifCond .ne 7, 3) := by decide +kernel
theorem dX3_append_12 : decode cX3_append 12 = .ok (.aload_n 0, 1) := by decide +kernel
theorem dX3_append_13 : decode cX3_append 13 = .ok (.invokevirtual 97, 3) := by decide +kernel
theorem dX3_append_16 : decode cX3_append 16 = .ok (.aload_n 0, 1) := by decide +kernel
theorem dX3_append_17 : decode cX3_append 17 = .ok (.getfield 49, 3) := by decide +kernel
theorem dX3_append_20 : decode cX3_append 20 = .ok (.istore 7, 2) := by decide +kernel
theorem dX3_append_22 : decode cX3_append 22 = .ok (.aload_n 0, 1) := by decide +kernel
theorem dX3_append_23 : decode cX3_append 23 = .ok (.dup, 1) := by decide +kernel
theorem dX3_append_24 : decode cX3_append 24 = .ok (.getfield 49, 3) := by decide +kernel
theorem dX3_append_27 : decode cX3_append 27 = .ok (.iconst 1, 1) := by decide +kernel
theorem dX3_append_28 : decode cX3_append 28 = .ok (.iadd, 1) := by decide +kernel
theorem dX3_append_29 : decode cX3_append 29 = .ok (.putfield 49, 3) := by decide +kernel
theorem dX3_append_32 : decode cX3_append 32 = .ok (.aload_n 0, 1) := by decide +kernel
theorem dX3_append_33 : decode cX3_append 33 = .ok (.getfield 40, 3) := by decide +kernel
theorem dX3_append_36 : decode cX3_append 36 = .ok (.sipush 1024, 3) := by decide +kernel
theorem dX3_append_39 : decode cX3_append 39 = .ok (.imul, 1) := by decide +kernel
theorem dX3_append_40 : decode cX3_append 40 = .ok (.aload_n 0, 1) := by decide +kernel
theorem dX3_append_41 : decode cX3_append 41 = .ok (.getfield 43, 3) := by decide +kernel
theorem dX3_append_44 : decode cX3_append 44 = .ok (.iadd, 1) := by decide +kernel
theorem dX3_append_45 : decode cX3_append 45 = .ok (.istore 8, 2) := by decide +kernel
theorem dX3_append_47 : decode cX3_append 47 = .ok (.aload_n 0, 1) := by decide +kernel
theorem dX3_append_48 : decode cX3_append 48 = .ok (.getfield 10, 3) := by decide +kernel
theorem dX3_append_51 : decode cX3_append 51 = .ok (.iload 8, 2) := by decide +kernel
theorem dX3_append_53 : decode cX3_append 53 = .ok (.iconst 1, 1) := by decide +kernel
theorem dX3_append_54 : decode cX3_append 54 = .ok (.iload_n 1, 1) := by decide +kernel
theorem dX3_append_55 : decode cX3_append 55 = .ok (.invokestatic 100, 3) := by decide +kernel
theorem dX3_append_58 : decode cX3_append 58 = .ok (.aload_n 0, 1) := by decide +kernel
theorem dX3_append_59 : decode cX3_append 59 = .ok (.getfield 10, 3) := by decide +kernel
theorem dX3_append_62 : decode cX3_append 62 = .ok (.iload 8, 2) := by decide +kernel
theorem dX3_append_64 : decode cX3_append 64 = .ok (.iconst 1, 1) := by decide +kernel
theorem dX3_append_65 : decode cX3_append 65 = .ok (.iadd, 1) := by decide +kernel
theorem dX3_append_66 : decode cX3_append 66 = .ok (.iconst 2, 1) := by decide +kernel
theorem dX3_append_67 : decode cX3_append 67 = .ok (.iload_n 2, 1) := by decide +kernel
theorem dX3_append_68 : decode cX3_append 68 = .ok (.invokestatic 100, 3) := by decide +kernel
theorem dX3_append_71 : decode cX3_append 71 = .ok (.aload_n 0, 1) := by decide +kernel
theorem dX3_append_72 : decode cX3_append 72 = .ok (.getfield 10, 3) := by decide +kernel
theorem dX3_append_75 : decode cX3_append 75 = .ok (.iload 8, 2) := by decide +kernel
theorem dX3_append_77 : decode cX3_append 77 = .ok (.iconst 3, 1) := by decide +kernel
theorem dX3_append_78 : decode cX3_append 78 = .ok (.iadd, 1) := by decide +kernel
theorem dX3_append_79 : decode cX3_append 79 = .ok (.iconst 1, 1) := by decide +kernel
theorem dX3_append_80 : decode cX3_append 80 = .ok (.iload 6, 2) := by decide +kernel
theorem dX3_append_82 : decode cX3_append 82 = .ok (.invokestatic 100, 3) := by decide +kernel
theorem dX3_append_85 : decode cX3_append 85 = .ok (.aload_n 0, 1) := by decide +kernel
theorem dX3_append_86 : decode cX3_append 86 = .ok (.getfield 10, 3) := by decide +kernel
theorem dX3_append_89 : decode cX3_append 89 = .ok (.iload 8, 2) := by decide +kernel
theorem dX3_append_91 : decode cX3_append 91 = .ok (.iconst 4, 1) := by decide +kernel
theorem dX3_append_92 : decode cX3_append 92 = .ok (.iadd, 1) := by decide +kernel
theorem dX3_append_93 : decode cX3_append 93 = .ok (.iconst 4, 1) := by decide +kernel
theorem dX3_append_94 : decode cX3_append 94 = .ok (.iload 7, 2) := by decide +kernel
theorem dX3_append_96 : decode cX3_append 96 = .ok (.invokestatic 100, 3) := by decide +kernel
theorem dX3_append_99 : decode cX3_append 99 = .ok (.aload_n 0, 1) := by decide +kernel
theorem dX3_append_100 : decode cX3_append 100 = .ok (.getfield 10, 3) := by decide +kernel
theorem dX3_append_103 : decode cX3_append 103 = .ok (.iload 8, 2) := by decide +kernel
theorem dX3_append_105 : decode cX3_append 105 = .ok (.bipush 8, 2) := by decide +kernel
theorem dX3_append_107 : decode cX3_append 107 = .ok (.iadd, 1) := by decide +kernel
theorem dX3_append_108 : decode cX3_append 108 = .ok (.iconst 4, 1) := by decide +kernel
theorem dX3_append_109 : decode cX3_append 109 = .ok (.iload_n 3, 1) := by decide +kernel
theorem dX3_append_110 : decode cX3_append 110 = .ok (.invokestatic 100, 3) := by decide +kernel
theorem dX3_append_113 : decode cX3_append 113 = .ok (.aload 4, 2) := by decide +kernel
theorem dX3_append_115 : decode cX3_append 115 = .ok (.iload 5, 2) := by decide +kernel
theorem dX3_append_117 : decode cX3_append 117 = .ok (.aload_n 0, 1) := by decide +kernel
theorem dX3_append_118 : decode cX3_append 118 = .ok (.getfield 10, 3) := by decide +kernel
theorem dX3_append_121 : decode cX3_append 121 = .ok (.iload 8, 2) := by decide +kernel
theorem dX3_append_123 : decode cX3_append 123 = .ok (.bipush 12, 2) := by decide +kernel
theorem dX3_append_125 : decode cX3_append 125 = .ok (.iadd, 1) := by decide +kernel
theorem dX3_append_126 : decode cX3_append 126 = .ok (.iload 6, 2) := by decide +kernel
theorem dX3_append_128 : decode cX3_append 128 = .ok (.invokestatic 104, 3) := by decide +kernel
theorem dX3_append_131 : decode cX3_append 131 = .ok (.aload_n 0, 1) := by decide +kernel
theorem dX3_append_132 : decode cX3_append 132 = .ok (.getfield 10, 3) := by decide +kernel
theorem dX3_append_135 : decode cX3_append 135 = .ok (.iload 8, 2) := by decide +kernel
theorem dX3_append_137 : decode cX3_append 137 = .ok (.bipush 12, 2) := by decide +kernel
theorem dX3_append_139 : decode cX3_append 139 = .ok (.iload 6, 2) := by decide +kernel
theorem dX3_append_141 : decode cX3_append 141 = .ok (.iadd, 1) := by decide +kernel
theorem dX3_append_142 : decode cX3_append 142 = .ok (.invokestatic 108, 3) := by decide +kernel
theorem dX3_append_145 : decode cX3_append 145 = .ok (.aload_n 0, 1) := by decide +kernel
theorem dX3_append_146 : decode cX3_append 146 = .ok (.getfield 55, 3) := by decide +kernel
theorem dX3_append_149 : decode cX3_append 149 = .ok (.iload_n 1, 1) := by decide +kernel
theorem dX3_append_150 : decode cX3_append 150 = .ok (.iload_n 2, 1) := by decide +kernel
theorem dX3_append_151 : decode cX3_append 151 = .ok (.aload_n 0, 1) := by decide +kernel
theorem dX3_append_152 : decode cX3_append 152 = .ok (.getfield 40, 3) := by decide +kernel
theorem dX3_append_155 : decode cX3_append 155 = .ok (.aload_n 0, 1) := by decide +kernel
theorem dX3_append_156 : decode cX3_append 156 = .ok (.getfield 43, 3) := by decide +kernel
theorem dX3_append_159 : decode cX3_append 159 = .ok (.invokevirtual 112, 3) := by decide +kernel
theorem dX3_append_162 : decode cX3_append 162 = .ok (.aload_n 0, 1) := by decide +kernel
theorem dX3_append_163 : decode cX3_append 163 = .ok (.aload_n 0, 1) := by decide +kernel
theorem dX3_append_164 : decode cX3_append 164 = .ok (.getfield 40, 3) := by decide +kernel
theorem dX3_append_167 : decode cX3_append 167 = .ok (.iload_n 3, 1) := by decide +kernel
theorem dX3_append_168 : decode cX3_append 168 = .ok (.invokevirtual 116, 3) := by decide +kernel
theorem dX3_append_171 : decode cX3_append 171 = .ok (.aload_n 0, 1) := by decide +kernel
theorem dX3_append_172 : decode cX3_append 172 = .ok (.bipush 16, 2) := by decide +kernel
theorem dX3_append_174 : decode cX3_append 174 = .ok (.iload 6, 2) := by decide +kernel
theorem dX3_append_176 : decode cX3_append 176 = .ok (.iadd, 1) := by decide +kernel
theorem dX3_append_177 : decode cX3_append 177 = .ok (.invokevirtual 120, 3) := by decide +kernel
theorem dX3_append_180 : decode cX3_append 180 = .ok (.iload 7, 2) := by decide +kernel
theorem dX3_append_182 : decode cX3_append 182 = .ok (.ireturn, 1) := by decide +kernel
theorem dX3_openNext_0 : decode cX3_openNext 0 = .ok (.aload_n 0, 1) := by decide +kernel
theorem dX3_openNext_1 : decode cX3_openNext 1 = .ok (.invokevirtual 124, 3) := by decide +kernel
theorem dX3_openNext_4 : decode cX3_openNext 4 = .ok (.istore_n 1, 1) := by decide +kernel
theorem dX3_openNext_5 : decode cX3_openNext 5 = .ok (.iload_n 1, 1) := by decide +kernel
theorem dX3_openNext_6 : decode cX3_openNext 6 = .ok (.ifCond .ne 4, 3) := by decide +kernel
theorem dX3_openNext_10 : decode cX3_openNext 10 = .ok (.aload_n 0, 1) := by decide +kernel
theorem dX3_openNext_11 : decode cX3_openNext 11 = .ok (.iload_n 1, 1) := by decide +kernel
theorem dX3_openNext_12 : decode cX3_openNext 12 = .ok (.invokevirtual 127, 3) := by decide +kernel
theorem dX3_openNext_15 : decode cX3_openNext 15 = .ok (.aload_n 0, 1) := by decide +kernel
theorem dX3_openNext_16 : decode cX3_openNext 16 = .ok (.iload_n 1, 1) := by decide +kernel
theorem dX3_openNext_17 : decode cX3_openNext 17 = .ok (.invokevirtual 130, 3) := by decide +kernel
theorem dX3_openNext_20 : decode cX3_openNext 20 = .ok (.aload_n 0, 1) := by decide +kernel
theorem dX3_openNext_21 : decode cX3_openNext 21 = .ok (.iload_n 1, 1) := by decide +kernel
theorem dX3_openNext_22 : decode cX3_openNext 22 = .ok (.putfield 40, 3) := by decide +kernel
theorem dX3_openNext_25 : decode cX3_openNext 25 = .ok (.aload_n 0, 1) := by decide +kernel
theorem dX3_openNext_26 : decode cX3_openNext 26 = .ok (.iconst 0, 1) := by decide +kernel
theorem dX3_openNext_27 : decode cX3_openNext 27 = .ok (.putfield 43, 3) := by decide +kernel
theorem dX3_openNext_30 : decode cX3_openNext 30 = .ok (.aload_n 0, 1) := by decide +kernel
theorem dX3_openNext_31 : decode cX3_openNext 31 = .ok (.dup, 1) := by decide +kernel
theorem dX3_openNext_32 : decode cX3_openNext 32 = .ok (.getfield 46, 3) := by decide +kernel
theorem dX3_openNext_35 : decode cX3_openNext 35 = .ok (.iconst 1, 1) := by decide +kernel
theorem dX3_openNext_36 : decode cX3_openNext 36 = .ok (.iadd, 1) := by decide +kernel
theorem dX3_openNext_37 : decode cX3_openNext 37 = .ok (.putfield 46, 3) := by decide +kernel
theorem dX3_openNext_40 : decode cX3_openNext 40 = .ok (.iload_n 1, 1) := by decide +kernel
theorem dX3_openNext_41 : decode cX3_openNext 41 = .ok (.sipush 1024, 3) := by decide +kernel
theorem dX3_openNext_44 : decode cX3_openNext 44 = .ok (.imul, 1) := by decide +kernel
theorem dX3_openNext_45 : decode cX3_openNext 45 = .ok (.istore_n 2, 1) := by decide +kernel
theorem dX3_openNext_46 : decode cX3_openNext 46 = .ok (.aload_n 0, 1) := by decide +kernel
theorem dX3_openNext_47 : decode cX3_openNext 47 = .ok (.getfield 10, 3) := by decide +kernel
theorem dX3_openNext_50 : decode cX3_openNext 50 = .ok (.iload_n 2, 1) := by decide +kernel
theorem dX3_openNext_51 : decode cX3_openNext 51 = .ok (.sipush 1024, 3) := by decide +kernel
theorem dX3_openNext_54 : decode cX3_openNext 54 = .ok (.invokestatic 133, 3) := by decide +kernel
theorem dX3_openNext_57 : decode cX3_openNext 57 = .ok (.aload_n 0, 1) := by decide +kernel
theorem dX3_openNext_58 : decode cX3_openNext 58 = .ok (.getfield 10, 3) := by decide +kernel
theorem dX3_openNext_61 : decode cX3_openNext 61 = .ok (.iload_n 2, 1) := by decide +kernel
theorem dX3_openNext_62 : decode cX3_openNext 62 = .ok (.iconst 1, 1) := by decide +kernel
theorem dX3_openNext_63 : decode cX3_openNext 63 = .ok (.bipush 76, 2) := by decide +kernel
theorem dX3_openNext_65 : decode cX3_openNext 65 = .ok (.invokestatic 100, 3) := by decide +kernel
theorem dX3_openNext_68 : decode cX3_openNext 68 = .ok (.aload_n 0, 1) := by decide +kernel
theorem dX3_openNext_69 : decode cX3_openNext 69 = .ok (.getfield 10, 3) := by decide +kernel
theorem dX3_openNext_72 : decode cX3_openNext 72 = .ok (.iload_n 2, 1) := by decide +kernel
theorem dX3_openNext_73 : decode cX3_openNext 73 = .ok (.iconst 1, 1) := by decide +kernel
theorem dX3_openNext_74 : decode cX3_openNext 74 = .ok (.iadd, 1) := by decide +kernel
theorem dX3_openNext_75 : decode cX3_openNext 75 = .ok (.iconst 1, 1) := by decide +kernel
theorem dX3_openNext_76 : decode cX3_openNext 76 = .ok (.bipush 71, 2) := by decide +kernel
theorem dX3_openNext_78 : decode cX3_openNext 78 = .ok (.invokestatic 100, 3) := by decide +kernel
theorem dX3_openNext_81 : decode cX3_openNext 81 = .ok (.aload_n 0, 1) := by decide +kernel
theorem dX3_openNext_82 : decode cX3_openNext 82 = .ok (.getfield 10, 3) := by decide +kernel
theorem dX3_openNext_85 : decode cX3_openNext 85 = .ok (.iload_n 2, 1) := by decide +kernel
theorem dX3_openNext_86 : decode cX3_openNext 86 = .ok (.iconst 2, 1) := by decide +kernel
theorem dX3_openNext_87 : decode cX3_openNext 87 = .ok (.iadd, 1) := by decide +kernel
theorem dX3_openNext_88 : decode cX3_openNext 88 = .ok (.iconst 4, 1) := by decide +kernel
theorem dX3_openNext_89 : decode cX3_openNext 89 = .ok (.aload_n 0, 1) := by decide +kernel
theorem dX3_openNext_90 : decode cX3_openNext 90 = .ok (.getfield 46, 3) := by decide +kernel
theorem dX3_openNext_93 : decode cX3_openNext 93 = .ok (.invokestatic 100, 3) := by decide +kernel
theorem dX3_openNext_96 : decode cX3_openNext 96 = .ok (.aload_n 0, 1) := by decide +kernel
theorem dX3_openNext_97 : decode cX3_openNext 97 = .ok (.getfield 10, 3) := by decide +kernel
theorem dX3_openNext_100 : decode cX3_openNext 100 = .ok (.iload_n 2, 1) := by decide +kernel
theorem dX3_openNext_101 : decode cX3_openNext 101 = .ok (.bipush 6, 2) := by decide +kernel
theorem dX3_openNext_103 : decode cX3_openNext 103 = .ok (.invokestatic 108, 3) := by decide +kernel
theorem dX3_openNext_106 : decode cX3_openNext 106 = .ok (.aload_n 0, 1) := by decide +kernel
theorem dX3_openNext_107 : decode cX3_openNext 107 = .ok (.bipush 10, 2) := by decide +kernel
theorem dX3_openNext_109 : decode cX3_openNext 109 = .ok (.invokevirtual 120, 3) := by decide +kernel
theorem dX3_openNext_112 : decode cX3_openNext 112 = .ok (.return_, 1) := by decide +kernel
theorem dX3_leastFree_0 : decode cX3_leastFree 0 = .ok (.bipush 8, 2) := by decide +kernel
theorem dX3_leastFree_2 : decode cX3_leastFree 2 = .ok (.istore_n 1, 1) := by decide +kernel
theorem dX3_leastFree_3 : decode cX3_leastFree 3 = .ok (.iload_n 1, 1) := by decide +kernel
theorem dX3_leastFree_4 : decode cX3_leastFree 4 = .ok (.bipush 64, 2) := by decide +kernel
theorem dX3_leastFree_6 : decode cX3_leastFree 6 = .ok (.if_icmp .ge 20, 3) := by decide +kernel
theorem dX3_leastFree_9 : decode cX3_leastFree 9 = .ok (.aload_n 0, 1) := by decide +kernel
theorem dX3_leastFree_10 : decode cX3_leastFree 10 = .ok (.getfield 16, 3) := by decide +kernel
theorem dX3_leastFree_13 : decode cX3_leastFree 13 = .ok (.iload_n 1, 1) := by decide +kernel
theorem dX3_leastFree_14 : decode cX3_leastFree 14 = .ok (.iaload, 1) := by decide +kernel
theorem dX3_leastFree_15 : decode cX3_leastFree 15 = .ok (.ifCond .ne 5, 3) := by decide +kernel
theorem dX3_leastFree_18 : decode cX3_leastFree 18 = .ok (.iload_n 1, 1) := by decide +kernel
theorem dX3_leastFree_19 : decode cX3_leastFree 19 = .ok (.ireturn, 1) := by decide +kernel
theorem dX3_noteFresh_0 : decode cX3_noteFresh 0 = .ok (.aload_n 0, 1) := by decide +kernel
theorem dX3_noteFresh_1 : decode cX3_noteFresh 1 = .ok (.getfield 40, 3) := by decide +kernel
theorem dX3_noteFresh_4 : decode cX3_noteFresh 4 = .ok (.invokestatic 65, 3) := by decide +kernel
theorem dX3_noteFresh_7 : decode cX3_noteFresh 7 = .ok (.ifCond .ne 4, 3) := by decide +kernel
theorem dX3_noteFresh_11 : decode cX3_noteFresh 11 = .ok (.aload_n 0, 1) := by decide +kernel
theorem dX3_noteFresh_12 : decode cX3_noteFresh 12 = .ok (.getfield 36, 3) := by decide +kernel
theorem dX3_noteFresh_15 : decode cX3_noteFresh 15 = .ok (.ifCond .le 25, 3) := by decide +kernel
theorem dX3_noteFresh_18 : decode cX3_noteFresh 18 = .ok (.aload_n 0, 1) := by decide +kernel
theorem dX3_noteFresh_19 : decode cX3_noteFresh 19 = .ok (.getfield 27, 3) := by decide +kernel
theorem dX3_noteFresh_22 : decode cX3_noteFresh 22 = .ok (.aload_n 0, 1) := by decide +kernel
theorem dX3_noteFresh_23 : decode cX3_noteFresh 23 = .ok (.getfield 36, 3) := by decide +kernel
theorem dX3_noteFresh_26 : decode cX3_noteFresh 26 = .ok (.iconst 1, 1) := by decide +kernel
theorem dX3_noteFresh_27 : decode cX3_noteFresh 27 = .ok (.isub, 1) := by decide +kernel
theorem dX3_noteFresh_28 : decode cX3_noteFresh 28 = .ok (.iaload, 1) := by decide +kernel
theorem dX3_noteFresh_29 : decode cX3_noteFresh 29 = .ok (.aload_n 0, 1) := by decide +kernel
theorem dX3_noteFresh_30 : decode cX3_noteFresh 30 = .ok (.getfield 40, 3) := by decide +kernel
theorem dX3_noteFresh_33 : decode cX3_noteFresh 33 = .ok (.if_icmp .ne 7, 3) := by decide +kernel
theorem dX3_noteFresh_36 : decode cX3_noteFresh 36 = .ok (.iconst 1, 1) := by decide +kernel
theorem dX3_noteFresh_37 : decode cX3_noteFresh 37 = .ok (.goto 4, 3) := by decide +kernel
theorem dX3_noteFresh_40 : decode cX3_noteFresh 40 = .ok (.iconst 0, 1) := by decide +kernel
theorem dX3_noteFresh_41 : decode cX3_noteFresh 41 = .ok (.istore_n 2, 1) := by decide +kernel
theorem dX3_noteFresh_42 : decode cX3_noteFresh 42 = .ok (.iload_n 2, 1) := by decide +kernel
theorem dX3_noteFresh_43 : decode cX3_noteFresh 43 = .ok (.ifCond .ne 48, 3) := by decide +kernel
theorem dX3_noteFresh_46 : decode cX3_noteFresh 46 = .ok (.aload_n 0, 1) := by decide +kernel
theorem dX3_noteFresh_47 : decode cX3_noteFresh 47 = .ok (.getfield 36, 3) := by decide +kernel
theorem dX3_noteFresh_50 : decode cX3_noteFresh 50 = .ok (.bipush 64, 2) := by decide +kernel
theorem dX3_noteFresh_52 : decode cX3_noteFresh 52 = .ok (.if_icmp .ge 39, 3) := by decide +kernel
theorem dX3_noteFresh_55 : decode cX3_noteFresh 55 = .ok (.aload_n 0, 1) := by decide +kernel
theorem dX3_noteFresh_56 : decode cX3_noteFresh 56 = .ok (.getfield 27, 3) := by decide +kernel
theorem dX3_noteFresh_59 : decode cX3_noteFresh 59 = .ok (.aload_n 0, 1) := by decide +kernel
theorem dX3_noteFresh_60 : decode cX3_noteFresh 60 = .ok (.getfield 36, 3) := by decide +kernel
theorem dX3_noteFresh_63 : decode cX3_noteFresh 63 = .ok (.aload_n 0, 1) := by decide +kernel
theorem dX3_noteFresh_64 : decode cX3_noteFresh 64 = .ok (.getfield 40, 3) := by decide +kernel
theorem dX3_noteFresh_67 : decode cX3_noteFresh 67 = .ok (.iastore, 1) := by decide +kernel
theorem dX3_noteFresh_68 : decode cX3_noteFresh 68 = .ok (.aload_n 0, 1) := by decide +kernel
theorem dX3_noteFresh_69 : decode cX3_noteFresh 69 = .ok (.dup, 1) := by decide +kernel
theorem dX3_noteFresh_70 : decode cX3_noteFresh 70 = .ok (.getfield 36, 3) := by decide +kernel
theorem dX3_noteFresh_73 : decode cX3_noteFresh 73 = .ok (.iconst 1, 1) := by decide +kernel
theorem dX3_noteFresh_74 : decode cX3_noteFresh 74 = .ok (.iadd, 1) := by decide +kernel
theorem dX3_noteFresh_75 : decode cX3_noteFresh 75 = .ok (.putfield 36, 3) := by decide +kernel
theorem dX3_noteFresh_78 : decode cX3_noteFresh 78 = .ok (.aload_n 0, 1) := by decide +kernel
theorem dX3_noteFresh_79 : decode cX3_noteFresh 79 = .ok (.getfield 30, 3) := by decide +kernel
theorem dX3_noteFresh_82 : decode cX3_noteFresh 82 = .ok (.aload_n 0, 1) := by decide +kernel
theorem dX3_noteFresh_83 : decode cX3_noteFresh 83 = .ok (.getfield 40, 3) := by decide +kernel
theorem dX3_noteFresh_86 : decode cX3_noteFresh 86 = .ok (.aload_n 0, 1) := by decide +kernel
theorem dX3_noteFresh_87 : decode cX3_noteFresh 87 = .ok (.getfield 43, 3) := by decide +kernel
theorem dX3_noteFresh_90 : decode cX3_noteFresh 90 = .ok (.iastore, 1) := by decide +kernel
theorem dX3_noteFresh_91 : decode cX3_noteFresh 91 = .ok (.aload_n 0, 1) := by decide +kernel
theorem dX3_noteFresh_92 : decode cX3_noteFresh 92 = .ok (.dup, 1) := by decide +kernel
theorem dX3_noteFresh_93 : decode cX3_noteFresh 93 = .ok (.getfield 43, 3) := by decide +kernel
theorem dX3_noteFresh_96 : decode cX3_noteFresh 96 = .ok (.iload_n 1, 1) := by decide +kernel
theorem dX3_noteFresh_97 : decode cX3_noteFresh 97 = .ok (.iadd, 1) := by decide +kernel
theorem dX3_noteFresh_98 : decode cX3_noteFresh 98 = .ok (.putfield 43, 3) := by decide +kernel
theorem dX3_noteFresh_101 : decode cX3_noteFresh 101 = .ok (.aload_n 0, 1) := by decide +kernel
theorem dX3_noteFresh_102 : decode cX3_noteFresh 102 = .ok (.getfield 33, 3) := by decide +kernel
theorem dX3_noteFresh_105 : decode cX3_noteFresh 105 = .ok (.aload_n 0, 1) := by decide +kernel
theorem dX3_noteFresh_106 : decode cX3_noteFresh 106 = .ok (.getfield 40, 3) := by decide +kernel
theorem dX3_noteFresh_109 : decode cX3_noteFresh 109 = .ok (.aload_n 0, 1) := by decide +kernel
theorem dX3_noteFresh_110 : decode cX3_noteFresh 110 = .ok (.getfield 43, 3) := by decide +kernel
theorem dX3_noteFresh_113 : decode cX3_noteFresh 113 = .ok (.iastore, 1) := by decide +kernel
theorem dX3_noteFresh_114 : decode cX3_noteFresh 114 = .ok (.return_, 1) := by decide +kernel
theorem dX3_countFreshOctets_0 : decode cX3_countFreshOctets 0 = .ok (.iconst 0, 1) := by decide +kernel
theorem dX3_countFreshOctets_1 : decode cX3_countFreshOctets 1 = .ok (.istore_n 1, 1) := by decide +kernel
theorem dX3_countFreshOctets_2 : decode cX3_countFreshOctets 2 = .ok (.iconst 0, 1) := by decide +kernel
theorem dX3_countFreshOctets_3 : decode cX3_countFreshOctets 3 = .ok (.istore_n 2, 1) := by decide +kernel
theorem dX3_countFreshOctets_4 : decode cX3_countFreshOctets 4 = .ok (.iload_n 2, 1) := by decide +kernel
theorem dX3_countFreshOctets_5 : decode cX3_countFreshOctets 5 = .ok (.aload_n 0, 1) := by decide +kernel
theorem dX3_countFreshOctets_6 : decode cX3_countFreshOctets 6 = .ok (.getfield 36, 3) := by decide +kernel
theorem dX3_countFreshOctets_9 : decode cX3_countFreshOctets 9 = .ok (.if_icmp .ge 35, 3) := by decide +kernel
theorem dX3_countFreshOctets_44 : decode cX3_countFreshOctets 44 = .ok (.iload_n 1, 1) := by decide +kernel
theorem dX3_countFreshOctets_45 : decode cX3_countFreshOctets 45 = .ok (.ireturn, 1) := by decide +kernel
theorem dX3_writeFresh_0 : decode cX3_writeFresh 0 = .ok (.iconst 0, 1) := by decide +kernel
theorem dX3_writeFresh_1 : decode cX3_writeFresh 1 = .ok (.istore_n 2, 1) := by decide +kernel
theorem dX3_writeFresh_2 : decode cX3_writeFresh 2 = .ok (.iconst 0, 1) := by decide +kernel
theorem dX3_writeFresh_3 : decode cX3_writeFresh 3 = .ok (.istore_n 3, 1) := by decide +kernel
theorem dX3_writeFresh_4 : decode cX3_writeFresh 4 = .ok (.iload_n 3, 1) := by decide +kernel
theorem dX3_writeFresh_5 : decode cX3_writeFresh 5 = .ok (.aload_n 0, 1) := by decide +kernel
theorem dX3_writeFresh_6 : decode cX3_writeFresh 6 = .ok (.getfield 36, 3) := by decide +kernel
theorem dX3_writeFresh_9 : decode cX3_writeFresh 9 = .ok (.if_icmp .ge 37, 3) := by decide +kernel
theorem dX3_writeFresh_46 : decode cX3_writeFresh 46 = .ok (.aload_n 0, 1) := by decide +kernel
theorem dX3_writeFresh_47 : decode cX3_writeFresh 47 = .ok (.iconst 0, 1) := by decide +kernel
theorem dX3_writeFresh_48 : decode cX3_writeFresh 48 = .ok (.putfield 36, 3) := by decide +kernel
theorem dX3_writeFresh_51 : decode cX3_writeFresh 51 = .ok (.iload_n 2, 1) := by decide +kernel
theorem dX3_writeFresh_52 : decode cX3_writeFresh 52 = .ok (.ireturn, 1) := by decide +kernel
theorem dX3_loadMemory_0 : decode cX3_loadMemory 0 = .ok (.bipush 8, 2) := by decide +kernel
theorem dX3_loadMemory_2 : decode cX3_loadMemory 2 = .ok (.istore_n 2, 1) := by decide +kernel
theorem dX3_loadMemory_3 : decode cX3_loadMemory 3 = .ok (.iload_n 2, 1) := by decide +kernel
theorem dX3_loadMemory_4 : decode cX3_loadMemory 4 = .ok (.bipush 64, 2) := by decide +kernel
theorem dX3_loadMemory_6 : decode cX3_loadMemory 6 = .ok (.if_icmp .ge 39, 3) := by decide +kernel
theorem dX3_loadMemory_9 : decode cX3_loadMemory 9 = .ok (.iload_n 2, 1) := by decide +kernel
theorem dX3_loadMemory_10 : decode cX3_loadMemory 10 = .ok (.sipush 1024, 3) := by decide +kernel
theorem dX3_loadMemory_13 : decode cX3_loadMemory 13 = .ok (.imul, 1) := by decide +kernel
theorem dX3_loadMemory_14 : decode cX3_loadMemory 14 = .ok (.istore_n 3, 1) := by decide +kernel
theorem dX3_loadMemory_15 : decode cX3_loadMemory 15 = .ok (.aload_n 0, 1) := by decide +kernel
theorem dX3_loadMemory_16 : decode cX3_loadMemory 16 = .ok (.iload_n 2, 1) := by decide +kernel
theorem dX3_loadMemory_17 : decode cX3_loadMemory 17 = .ok (.invokevirtual 156, 3) := by decide +kernel
theorem dX3_loadMemory_20 : decode cX3_loadMemory 20 = .ok (.ifCond .eq 19, 3) := by decide +kernel
theorem dX3_loadMemory_39 : decode cX3_loadMemory 39 = .ok (.iinc 2 1, 3) := by decide +kernel
theorem dX3_loadMemory_42 : decode cX3_loadMemory 42 = .ok (.goto (-39), 3) := by decide +kernel
theorem dX3_loadMemory_45 : decode cX3_loadMemory 45 = .ok (.aload_n 0, 1) := by decide +kernel
theorem dX3_loadMemory_46 : decode cX3_loadMemory 46 = .ok (.getfield 40, 3) := by decide +kernel
theorem dX3_loadMemory_49 : decode cX3_loadMemory 49 = .ok (.ifCond .eq 31, 3) := by decide +kernel
theorem dX3_loadMemory_80 : decode cX3_loadMemory 80 = .ok (.return_, 1) := by decide +kernel
theorem dX4_isWithin_0 : decode cX4_isWithin 0 = .ok (.iload_n 1, 1) := by decide +kernel
theorem dX4_isWithin_1 : decode cX4_isWithin 1 = .ok (.ifCond .lt 25, 3) := by decide +kernel
theorem dX4_isWithin_4 : decode cX4_isWithin 4 = .ok (.iload_n 2, 1) := by decide +kernel
theorem dX4_isWithin_5 : decode cX4_isWithin 5 = .ok (.ifCond .lt 21, 3) := by decide +kernel
theorem dX4_isWithin_8 : decode cX4_isWithin 8 = .ok (.iload_n 2, 1) := by decide +kernel
theorem dX4_isWithin_9 : decode cX4_isWithin 9 = .ok (.aload_n 0, 1) := by decide +kernel
theorem dX4_isWithin_10 : decode cX4_isWithin 10 = .ok (.arraylength, 1) := by decide +kernel
theorem dX4_isWithin_11 : decode cX4_isWithin 11 = .ok (.if_icmp .gt 15, 3) := by decide +kernel
theorem dX4_isWithin_14 : decode cX4_isWithin 14 = .ok (.iload_n 1, 1) := by decide +kernel
theorem dX4_isWithin_15 : decode cX4_isWithin 15 = .ok (.aload_n 0, 1) := by decide +kernel
theorem dX4_isWithin_16 : decode cX4_isWithin 16 = .ok (.arraylength, 1) := by decide +kernel
theorem dX4_isWithin_17 : decode cX4_isWithin 17 = .ok (.iload_n 2, 1) := by decide +kernel
theorem dX4_isWithin_18 : decode cX4_isWithin 18 = .ok (.isub, 1) := by decide +kernel
theorem dX4_isWithin_19 : decode cX4_isWithin 19 = .ok (.if_icmp .gt 7, 3) := by decide +kernel
theorem dX4_isWithin_22 : decode cX4_isWithin 22 = .ok (.iconst 1, 1) := by decide +kernel
theorem dX4_isWithin_23 : decode cX4_isWithin 23 = .ok (.goto 4, 3) := by decide +kernel
theorem dX4_isWithin_27 : decode cX4_isWithin 27 = .ok (.ireturn, 1) := by decide +kernel
theorem dX4_number_0 : decode cX4_number 0 = .ok (.aload_n 0, 1) := by decide +kernel
theorem dX4_number_1 : decode cX4_number 1 = .ok (.iload_n 1, 1) := by decide +kernel
theorem dX4_number_2 : decode cX4_number 2 = .ok (.iload_n 2, 1) := by decide +kernel
theorem dX4_number_3 : decode cX4_number 3 = .ok (.invokestatic 7, 3) := by decide +kernel
theorem dX4_number_6 : decode cX4_number 6 = .ok (.ifCond .ne 5, 3) := by decide +kernel
theorem dX4_number_11 : decode cX4_number 11 = .ok (.iconst 0, 1) := by decide +kernel
theorem dX4_number_12 : decode cX4_number 12 = .ok (.istore_n 3, 1) := by decide +kernel
theorem dX4_number_13 : decode cX4_number 13 = .ok (.iload_n 1, 1) := by decide +kernel
theorem dX4_number_14 : decode cX4_number 14 = .ok (.istore 4, 2) := by decide +kernel
theorem dX4_number_16 : decode cX4_number 16 = .ok (.iload 4, 2) := by decide +kernel
theorem dX4_number_18 : decode cX4_number 18 = .ok (.iload_n 1, 1) := by decide +kernel
theorem dX4_number_19 : decode cX4_number 19 = .ok (.iload_n 2, 1) := by decide +kernel
theorem dX4_number_20 : decode cX4_number 20 = .ok (.iadd, 1) := by decide +kernel
theorem dX4_number_21 : decode cX4_number 21 = .ok (.if_icmp .ge 23, 3) := by decide +kernel
theorem dX4_number_24 : decode cX4_number 24 = .ok (.iload_n 3, 1) := by decide +kernel
theorem dX4_number_25 : decode cX4_number 25 = .ok (.bipush 8, 2) := by decide +kernel
theorem dX4_number_27 : decode cX4_number 27 = .ok (.ishl, 1) := by decide +kernel
theorem dX4_number_28 : decode cX4_number 28 = .ok (.aload_n 0, 1) := by decide +kernel
theorem dX4_number_29 : decode cX4_number 29 = .ok (.iload 4, 2) := by decide +kernel
theorem dX4_number_31 : decode cX4_number 31 = .ok (.baload, 1) := by decide +kernel
theorem dX4_number_32 : decode cX4_number 32 = .ok (.sipush 255, 3) := by decide +kernel
theorem dX4_number_35 : decode cX4_number 35 = .ok (.iand, 1) := by decide +kernel
theorem dX4_number_36 : decode cX4_number 36 = .ok (.ior, 1) := by decide +kernel
theorem dX4_number_37 : decode cX4_number 37 = .ok (.istore_n 3, 1) := by decide +kernel
theorem dX4_number_38 : decode cX4_number 38 = .ok (.iinc 4 1, 3) := by decide +kernel
theorem dX4_number_41 : decode cX4_number 41 = .ok (.goto (-25), 3) := by decide +kernel
theorem dX4_number_44 : decode cX4_number 44 = .ok (.iload_n 3, 1) := by decide +kernel
theorem dX4_number_45 : decode cX4_number 45 = .ok (.ireturn, 1) := by decide +kernel
theorem dX4_setNumber_0 : decode cX4_setNumber 0 = .ok (.aload_n 0, 1) := by decide +kernel
theorem dX4_setNumber_1 : decode cX4_setNumber 1 = .ok (.iload_n 1, 1) := by decide +kernel
theorem dX4_setNumber_2 : decode cX4_setNumber 2 = .ok (.iload_n 2, 1) := by decide +kernel
theorem dX4_setNumber_3 : decode cX4_setNumber 3 = .ok (.invokestatic 7, 3) := by decide +kernel
theorem dX4_setNumber_6 : decode cX4_setNumber 6 = .ok (.ifCond .ne 4, 3) := by decide +kernel
theorem dX4_setNumber_10 : decode cX4_setNumber 10 = .ok (.iload_n 3, 1) := by decide +kernel
theorem dX4_setNumber_11 : decode cX4_setNumber 11 = .ok (.istore 4, 2) := by decide +kernel
theorem dX4_setNumber_13 : decode cX4_setNumber 13 = .ok (.iload_n 1, 1) := by decide +kernel
theorem dX4_setNumber_14 : decode cX4_setNumber 14 = .ok (.iload_n 2, 1) := by decide +kernel
theorem dX4_setNumber_15 : decode cX4_setNumber 15 = .ok (.iadd, 1) := by decide +kernel
theorem dX4_setNumber_16 : decode cX4_setNumber 16 = .ok (.iconst 1, 1) := by decide +kernel
theorem dX4_setNumber_17 : decode cX4_setNumber 17 = .ok (.isub, 1) := by decide +kernel
theorem dX4_setNumber_18 : decode cX4_setNumber 18 = .ok (.istore 5, 2) := by decide +kernel
theorem dX4_setNumber_20 : decode cX4_setNumber 20 = .ok (.iload 5, 2) := by decide +kernel
theorem dX4_setNumber_22 : decode cX4_setNumber 22 = .ok (.iload_n 1, 1) := by decide +kernel
theorem dX4_setNumber_23 : decode cX4_setNumber 23 = .ok (.if_icmp .lt 23, 3) := by decide +kernel
theorem dX4_setNumber_26 : decode cX4_setNumber 26 = .ok (.aload_n 0, 1) := by decide +kernel
theorem dX4_setNumber_27 : decode cX4_setNumber 27 = .ok (.iload 5, 2) := by decide +kernel
theorem dX4_setNumber_29 : decode cX4_setNumber 29 = .ok (.iload 4, 2) := by decide +kernel
theorem dX4_setNumber_31 : decode cX4_setNumber 31 = .ok (.i2b, 1) := by decide +kernel
theorem dX4_setNumber_32 : decode cX4_setNumber 32 = .ok (.bastore, 1) := by decide +kernel
theorem dX4_setNumber_33 : decode cX4_setNumber 33 = .ok (.iload 4, 2) := by decide +kernel
theorem dX4_setNumber_35 : decode cX4_setNumber 35 = .ok (.bipush 8, 2) := by decide +kernel
theorem dX4_setNumber_37 : decode cX4_setNumber 37 = .ok (.iushr, 1) := by decide +kernel
theorem dX4_setNumber_38 : decode cX4_setNumber 38 = .ok (.istore 4, 2) := by decide +kernel
theorem dX4_setNumber_40 : decode cX4_setNumber 40 = .ok (.iinc 5 (-1), 3) := by decide +kernel
theorem dX4_setNumber_43 : decode cX4_setNumber 43 = .ok (.goto (-23), 3) := by decide +kernel
theorem dX4_setNumber_46 : decode cX4_setNumber 46 = .ok (.return_, 1) := by decide +kernel
theorem dX4_sum_0 : decode cX4_sum 0 = .ok (.aload_n 0, 1) := by decide +kernel
theorem dX4_sum_1 : decode cX4_sum 1 = .ok (.iload_n 1, 1) := by decide +kernel
theorem dX4_sum_2 : decode cX4_sum 2 = .ok (.iload_n 2, 1) := by decide +kernel
theorem dX4_sum_3 : decode cX4_sum 3 = .ok (.invokestatic 7, 3) := by decide +kernel
theorem dX4_sum_6 : decode cX4_sum 6 = .ok (.ifCond .ne 5, 3) := by decide +kernel
theorem dX4_sum_11 : decode cX4_sum 11 = .ok (.iconst 0, 1) := by decide +kernel
theorem dX4_sum_12 : decode cX4_sum 12 = .ok (.istore_n 3, 1) := by decide +kernel
theorem dX4_sum_13 : decode cX4_sum 13 = .ok (.iload_n 1, 1) := by decide +kernel
theorem dX4_sum_14 : decode cX4_sum 14 = .ok (.istore 4, 2) := by decide +kernel
theorem dX4_sum_16 : decode cX4_sum 16 = .ok (.iload 4, 2) := by decide +kernel
theorem dX4_sum_18 : decode cX4_sum 18 = .ok (.iload_n 1, 1) := by decide +kernel
theorem dX4_sum_19 : decode cX4_sum 19 = .ok (.iload_n 2, 1) := by decide +kernel
theorem dX4_sum_20 : decode cX4_sum 20 = .ok (.iadd, 1) := by decide +kernel
theorem dX4_sum_21 : decode cX4_sum 21 = .ok (.if_icmp .ge 27, 3) := by decide +kernel
theorem dX4_sum_24 : decode cX4_sum 24 = .ok (.iload_n 3, 1) := by decide +kernel
theorem dX4_sum_25 : decode cX4_sum 25 = .ok (.aload_n 0, 1) := by decide +kernel
theorem dX4_sum_26 : decode cX4_sum 26 = .ok (.iload 4, 2) := by decide +kernel
theorem dX4_sum_28 : decode cX4_sum 28 = .ok (.baload, 1) := by decide +kernel
theorem dX4_sum_29 : decode cX4_sum 29 = .ok (.sipush 255, 3) := by decide +kernel
theorem dX4_sum_32 : decode cX4_sum 32 = .ok (.iand, 1) := by decide +kernel
theorem dX4_sum_33 : decode cX4_sum 33 = .ok (.ixor, 1) := by decide +kernel
theorem dX4_sum_34 : decode cX4_sum 34 = .ok (.iconst 5, 1) := by decide +kernel
theorem dX4_sum_35 : decode cX4_sum 35 = .ok (.invokestatic 13, 3) := by decide +kernel
theorem dX4_sum_38 : decode cX4_sum 38 = .ok (.ldc 19, 2) := by decide +kernel
theorem dX4_sum_40 : decode cX4_sum 40 = .ok (.imul, 1) := by decide +kernel
theorem dX4_sum_41 : decode cX4_sum 41 = .ok (.istore_n 3, 1) := by decide +kernel
theorem dX4_sum_42 : decode cX4_sum 42 = .ok (.iinc 4 1, 3) := by decide +kernel
theorem dX4_sum_45 : decode cX4_sum 45 = .ok (.goto (-29), 3) := by decide +kernel
theorem dX4_sum_48 : decode cX4_sum 48 = .ok (.iload_n 3, 1) := by decide +kernel
theorem dX4_sum_49 : decode cX4_sum 49 = .ok (.ireturn, 1) := by decide +kernel
theorem dX4_setSum_0 : decode cX4_setSum 0 = .ok (.aload_n 0, 1) := by decide +kernel
theorem dX4_setSum_1 : decode cX4_setSum 1 = .ok (.iload_n 1, 1) := by decide +kernel
theorem dX4_setSum_2 : decode cX4_setSum 2 = .ok (.iload_n 2, 1) := by decide +kernel
theorem dX4_setSum_3 : decode cX4_setSum 3 = .ok (.iadd, 1) := by decide +kernel
theorem dX4_setSum_4 : decode cX4_setSum 4 = .ok (.iconst 4, 1) := by decide +kernel
theorem dX4_setSum_5 : decode cX4_setSum 5 = .ok (.aload_n 0, 1) := by decide +kernel
theorem dX4_setSum_6 : decode cX4_setSum 6 = .ok (.iload_n 1, 1) := by decide +kernel
theorem dX4_setSum_7 : decode cX4_setSum 7 = .ok (.iload_n 2, 1) := by decide +kernel
theorem dX4_setSum_8 : decode cX4_setSum 8 = .ok (.invokestatic 20, 3) := by decide +kernel
theorem dX4_setSum_11 : decode cX4_setSum 11 = .ok (.invokestatic 24, 3) := by decide +kernel
theorem dX4_setSum_14 : decode cX4_setSum 14 = .ok (.return_, 1) := by decide +kernel
theorem dX4_copy_0 : decode cX4_copy 0 = .ok (.aload_n 0, 1) := by decide +kernel
theorem dX4_copy_1 : decode cX4_copy 1 = .ok (.iload_n 1, 1) := by decide +kernel
theorem dX4_copy_2 : decode cX4_copy 2 = .ok (.iload 4, 2) := by decide +kernel
theorem dX4_copy_4 : decode cX4_copy 4 = .ok (.invokestatic 7, 3) := by decide +kernel
theorem dX4_copy_7 : decode cX4_copy 7 = .ok (.ifCond .eq 22, 3) := by decide +kernel
theorem dX4_copy_10 : decode cX4_copy 10 = .ok (.aload_n 2, 1) := by decide +kernel
theorem dX4_copy_11 : decode cX4_copy 11 = .ok (.iload_n 3, 1) := by decide +kernel
theorem dX4_copy_12 : decode cX4_copy 12 = .ok (.iload 4, 2) := by decide +kernel
theorem dX4_copy_14 : decode cX4_copy 14 = .ok (.invokestatic 7, 3) := by decide +kernel
theorem dX4_copy_17 : decode cX4_copy 17 = .ok (.ifCond .eq 12, 3) := by decide +kernel
theorem dX4_copy_20 : decode cX4_copy 20 = .ok (.aload_n 0, 1) := by decide +kernel
theorem dX4_copy_21 : decode cX4_copy 21 = .ok (.iload_n 1, 1) := by decide +kernel
theorem dX4_copy_22 : decode cX4_copy 22 = .ok (.aload_n 2, 1) := by decide +kernel
theorem dX4_copy_23 : decode cX4_copy 23 = .ok (.iload_n 3, 1) := by decide +kernel
theorem dX4_copy_24 : decode cX4_copy 24 = .ok (.iload 4, 2) := by decide +kernel
theorem dX4_copy_26 : decode cX4_copy 26 = .ok (.invokestatic 28, 3) := by decide +kernel
theorem dX4_copy_29 : decode cX4_copy 29 = .ok (.return_, 1) := by decide +kernel
theorem dX4_clear_0 : decode cX4_clear 0 = .ok (.aload_n 0, 1) := by decide +kernel
theorem dX4_clear_1 : decode cX4_clear 1 = .ok (.iload_n 1, 1) := by decide +kernel
theorem dX4_clear_2 : decode cX4_clear 2 = .ok (.iload_n 2, 1) := by decide +kernel
theorem dX4_clear_3 : decode cX4_clear 3 = .ok (.invokestatic 7, 3) := by decide +kernel
theorem dX4_clear_6 : decode cX4_clear 6 = .ok (.ifCond .ne 4, 3) := by decide +kernel
theorem dX4_clear_10 : decode cX4_clear 10 = .ok (.iload_n 1, 1) := by decide +kernel
theorem dX4_clear_11 : decode cX4_clear 11 = .ok (.istore_n 3, 1) := by decide +kernel
theorem dX4_clear_12 : decode cX4_clear 12 = .ok (.iload_n 3, 1) := by decide +kernel
theorem dX4_clear_13 : decode cX4_clear 13 = .ok (.iload_n 1, 1) := by decide +kernel
theorem dX4_clear_14 : decode cX4_clear 14 = .ok (.iload_n 2, 1) := by decide +kernel
theorem dX4_clear_15 : decode cX4_clear 15 = .ok (.iadd, 1) := by decide +kernel
theorem dX4_clear_16 : decode cX4_clear 16 = .ok (.if_icmp .ge 13, 3) := by decide +kernel
theorem dX4_clear_19 : decode cX4_clear 19 = .ok (.aload_n 0, 1) := by decide +kernel
theorem dX4_clear_20 : decode cX4_clear 20 = .ok (.iload_n 3, 1) := by decide +kernel
theorem dX4_clear_21 : decode cX4_clear 21 = .ok (.iconst 0, 1) := by decide +kernel
theorem dX4_clear_22 : decode cX4_clear 22 = .ok (.bastore, 1) := by decide +kernel
theorem dX4_clear_23 : decode cX4_clear 23 = .ok (.iinc 3 1, 3) := by decide +kernel
theorem dX4_clear_26 : decode cX4_clear 26 = .ok (.goto (-14), 3) := by decide +kernel
theorem dX4_clear_29 : decode cX4_clear 29 = .ok (.return_, 1) := by decide +kernel
theorem dX5_init_0 : decode cX5_init 0 = .ok (.aload_n 0, 1) := by decide +kernel
theorem dX5_init_1 : decode cX5_init 1 = .ok (.invokespecial 3, 3) := by decide +kernel
theorem dX5_init_4 : decode cX5_init 4 = .ok (.aload_n 0, 1) := by decide +kernel
theorem dX5_init_5 : decode cX5_init 5 = .ok (.aload_n 1, 1) := by decide +kernel
theorem dX5_init_6 : decode cX5_init 6 = .ok (.putfield 9, 3) := by decide +kernel
theorem dX5_init_9 : decode cX5_init 9 = .ok (.aload_n 0, 1) := by decide +kernel
theorem dX5_init_10 : decode cX5_init 10 = .ok (.aload_n 2, 1) := by decide +kernel
theorem dX5_init_11 : decode cX5_init 11 = .ok (.putfield 15, 3) := by decide +kernel
theorem dX5_init_14 : decode cX5_init 14 = .ok (.aload_n 0, 1) := by decide +kernel
theorem dX5_init_15 : decode cX5_init 15 = .ok (.aload_n 3, 1) := by decide +kernel
theorem dX5_init_16 : decode cX5_init 16 = .ok (.putfield 19, 3) := by decide +kernel
theorem dX5_init_19 : decode cX5_init 19 = .ok (.aload_n 0, 1) := by decide +kernel
theorem dX5_init_20 : decode cX5_init 20 = .ok (.aload 4, 2) := by decide +kernel
theorem dX5_init_22 : decode cX5_init 22 = .ok (.putfield 23, 3) := by decide +kernel
theorem dX5_init_25 : decode cX5_init 25 = .ok (.return_, 1) := by decide +kernel
theorem dX5_takeCheckpoint_0 : decode cX5_takeCheckpoint 0 = .ok (.aload_n 0, 1) := by decide +kernel
theorem dX5_takeCheckpoint_1 : decode cX5_takeCheckpoint 1 = .ok (.getfield 15, 3) := by decide +kernel
theorem dX5_takeCheckpoint_4 : decode cX5_takeCheckpoint 4 = .ok (.invokevirtual 27, 3) := by decide +kernel
theorem dX5_takeCheckpoint_7 : decode cX5_takeCheckpoint 7 = .ok (.aload_n 0, 1) := by decide +kernel
theorem dX5_takeCheckpoint_8 : decode cX5_takeCheckpoint 8 = .ok (.getfield 23, 3) := by decide +kernel
theorem dX5_takeCheckpoint_11 : decode cX5_takeCheckpoint 11 = .ok (.invokevirtual 32, 3) := by decide +kernel
theorem dX5_takeCheckpoint_14 : decode cX5_takeCheckpoint 14 = .ok (.aload_n 0, 1) := by decide +kernel
theorem dX5_takeCheckpoint_15 : decode cX5_takeCheckpoint 15 = .ok (.getfield 19, 3) := by decide +kernel
theorem dX5_takeCheckpoint_18 : decode cX5_takeCheckpoint 18 = .ok (.invokevirtual 35, 3) := by decide +kernel
theorem dX5_takeCheckpoint_21 : decode cX5_takeCheckpoint 21 = .ok (.aload_n 0, 1) := by decide +kernel
theorem dX5_takeCheckpoint_22 : decode cX5_takeCheckpoint 22 = .ok (.getfield 23, 3) := by decide +kernel
theorem dX5_takeCheckpoint_25 : decode cX5_takeCheckpoint 25 = .ok (.invokevirtual 40, 3) := by decide +kernel
theorem dX5_takeCheckpoint_28 : decode cX5_takeCheckpoint 28 = .ok (.istore_n 1, 1) := by decide +kernel
theorem dX5_takeCheckpoint_29 : decode cX5_takeCheckpoint 29 = .ok (.iload_n 1, 1) := by decide +kernel
theorem dX5_takeCheckpoint_30 : decode cX5_takeCheckpoint 30 = .ok (.ifCond .lt 16, 3) := by decide +kernel
theorem dX5_takeCheckpoint_46 : decode cX5_takeCheckpoint 46 = .ok (.return_, 1) := by decide +kernel
theorem dX5_goThrough_0 : decode cX5_goThrough 0 = .ok (.iconst 0, 1) := by decide +kernel
theorem dX5_goThrough_1 : decode cX5_goThrough 1 = .ok (.istore_n 1, 1) := by decide +kernel
theorem dX5_goThrough_2 : decode cX5_goThrough 2 = .ok (.iload_n 1, 1) := by decide +kernel
theorem dX5_goThrough_3 : decode cX5_goThrough 3 = .ok (.sipush 4096, 3) := by decide +kernel
theorem dX5_goThrough_6 : decode cX5_goThrough 6 = .ok (.if_icmp .ge 20, 3) := by decide +kernel
theorem dX5_goThrough_9 : decode cX5_goThrough 9 = .ok (.aload_n 0, 1) := by decide +kernel
theorem dX5_goThrough_10 : decode cX5_goThrough 10 = .ok (.invokevirtual 96, 3) := by decide +kernel
theorem dX5_goThrough_13 : decode cX5_goThrough 13 = .ok (.ifCond .eq 13, 3) := by decide +kernel
theorem dX5_goThrough_26 : decode cX5_goThrough 26 = .ok (.iload_n 1, 1) := by decide +kernel
theorem dX5_goThrough_27 : decode cX5_goThrough 27 = .ok (.ireturn, 1) := by decide +kernel
theorem dX5_findNext_0 : decode cX5_findNext 0 = .ok (.aload_n 0, 1) := by decide +kernel
theorem dX5_findNext_1 : decode cX5_findNext 1 = .ok (.aload_n 0, 1) := by decide +kernel
theorem dX5_findNext_2 : decode cX5_findNext 2 = .ok (.getfield 15, 3) := by decide +kernel
theorem dX5_findNext_5 : decode cX5_findNext 5 = .ok (.getfield 89, 3) := by decide +kernel
theorem dX5_findNext_8 : decode cX5_findNext 8 = .ok (.aload_n 0, 1) := by decide +kernel
theorem dX5_findNext_9 : decode cX5_findNext 9 = .ok (.getfield 15, 3) := by decide +kernel
theorem dX5_findNext_12 : decode cX5_findNext 12 = .ok (.getfield 93, 3) := by decide +kernel
theorem dX5_findNext_15 : decode cX5_findNext 15 = .ok (.invokevirtual 103, 3) := by decide +kernel
theorem dX5_findNext_18 : decode cX5_findNext 18 = .ok (.ifCond .eq 5, 3) := by decide +kernel
theorem dX5_findNext_23 : decode cX5_findNext 23 = .ok (.bipush 8, 2) := by decide +kernel
theorem dX5_findNext_25 : decode cX5_findNext 25 = .ok (.istore_n 1, 1) := by decide +kernel
theorem dX5_findNext_26 : decode cX5_findNext 26 = .ok (.iload_n 1, 1) := by decide +kernel
theorem dX5_findNext_27 : decode cX5_findNext 27 = .ok (.bipush 64, 2) := by decide +kernel
theorem dX5_findNext_29 : decode cX5_findNext 29 = .ok (.if_icmp .ge 78, 3) := by decide +kernel
theorem dX5_findNext_32 : decode cX5_findNext 32 = .ok (.aload_n 0, 1) := by decide +kernel
theorem dX5_findNext_33 : decode cX5_findNext 33 = .ok (.getfield 15, 3) := by decide +kernel
theorem dX5_findNext_36 : decode cX5_findNext 36 = .ok (.iload_n 1, 1) := by decide +kernel
theorem dX5_findNext_37 : decode cX5_findNext 37 = .ok (.invokevirtual 76, 3) := by decide +kernel
theorem dX5_findNext_40 : decode cX5_findNext 40 = .ok (.ifCond .ne 61, 3) := by decide +kernel
theorem dX5_findNext_43 : decode cX5_findNext 43 = .ok (.aload_n 0, 1) := by decide +kernel
theorem dX5_findNext_44 : decode cX5_findNext 44 = .ok (.iload_n 1, 1) := by decide +kernel
theorem dX5_findNext_45 : decode cX5_findNext 45 = .ok (.invokevirtual 107, 3) := by decide +kernel
theorem dX5_findNext_48 : decode cX5_findNext 48 = .ok (.ifCond .eq 53, 3) := by decide +kernel
theorem dX5_findNext_101 : decode cX5_findNext 101 = .ok (.iinc 1 1, 3) := by decide +kernel
theorem dX5_findNext_104 : decode cX5_findNext 104 = .ok (.goto (-78), 3) := by decide +kernel
theorem dX5_findNext_107 : decode cX5_findNext 107 = .ok (.iconst 0, 1) := by decide +kernel
theorem dX5_findNext_108 : decode cX5_findNext 108 = .ok (.ireturn, 1) := by decide +kernel
theorem dX5_isNext_0 : decode cX5_isNext 0 = .ok (.iload_n 1, 1) := by decide +kernel
theorem dX5_isNext_1 : decode cX5_isNext 1 = .ok (.sipush 1024, 3) := by decide +kernel
theorem dX5_isNext_4 : decode cX5_isNext 4 = .ok (.imul, 1) := by decide +kernel
theorem dX5_isNext_5 : decode cX5_isNext 5 = .ok (.iload_n 2, 1) := by decide +kernel
theorem dX5_isNext_6 : decode cX5_isNext 6 = .ok (.iadd, 1) := by decide +kernel
theorem dX5_isNext_7 : decode cX5_isNext 7 = .ok (.istore_n 3, 1) := by decide +kernel
theorem dX5_isNext_8 : decode cX5_isNext 8 = .ok (.aload_n 0, 1) := by decide +kernel
theorem dX5_isNext_9 : decode cX5_isNext 9 = .ok (.iload_n 1, 1) := by decide +kernel
theorem dX5_isNext_10 : decode cX5_isNext 10 = .ok (.iload_n 2, 1) := by decide +kernel
theorem dX5_isNext_11 : decode cX5_isNext 11 = .ok (.invokevirtual 73, 3) := by decide +kernel
theorem dX5_isNext_14 : decode cX5_isNext 14 = .ok (.ifCond .le 31, 3) := by decide +kernel
theorem dX5_isNext_45 : decode cX5_isNext 45 = .ok (.iconst 0, 1) := by decide +kernel
theorem dX5_isNext_46 : decode cX5_isNext 46 = .ok (.ireturn, 1) := by decide +kernel
theorem dX5_hasNextHead_0 : decode cX5_hasNextHead 0 = .ok (.iload_n 1, 1) := by decide +kernel
theorem dX5_hasNextHead_1 : decode cX5_hasNextHead 1 = .ok (.sipush 1024, 3) := by decide +kernel
theorem dX5_hasNextHead_4 : decode cX5_hasNextHead 4 = .ok (.imul, 1) := by decide +kernel
theorem dX5_hasNextHead_5 : decode cX5_hasNextHead 5 = .ok (.istore_n 2, 1) := by decide +kernel
theorem dX5_hasNextHead_6 : decode cX5_hasNextHead 6 = .ok (.aload_n 0, 1) := by decide +kernel
theorem dX5_hasNextHead_7 : decode cX5_hasNextHead 7 = .ok (.getfield 9, 3) := by decide +kernel
theorem dX5_hasNextHead_10 : decode cX5_hasNextHead 10 = .ok (.getfield 116, 3) := by decide +kernel
theorem dX5_hasNextHead_13 : decode cX5_hasNextHead 13 = .ok (.iload_n 2, 1) := by decide +kernel
theorem dX5_hasNextHead_14 : decode cX5_hasNextHead 14 = .ok (.iconst 1, 1) := by decide +kernel
theorem dX5_hasNextHead_15 : decode cX5_hasNextHead 15 = .ok (.invokestatic 122, 3) := by decide +kernel
theorem dX5_hasNextHead_18 : decode cX5_hasNextHead 18 = .ok (.bipush 76, 2) := by decide +kernel
theorem dX5_hasNextHead_20 : decode cX5_hasNextHead 20 = .ok (.if_icmp .ne 65, 3) := by decide +kernel
theorem dX5_hasNextHead_85 : decode cX5_hasNextHead 85 = .ok (.iconst 0, 1) := by decide +kernel
theorem dX5_hasNextHead_86 : decode cX5_hasNextHead 86 = .ok (.ireturn, 1) := by decide +kernel
theorem dX5_fillMemory_0 : decode cX5_fillMemory 0 = .ok (.aload_n 0, 1) := by decide +kernel
theorem dX5_fillMemory_1 : decode cX5_fillMemory 1 = .ok (.getfield 15, 3) := by decide +kernel
theorem dX5_fillMemory_4 : decode cX5_fillMemory 4 = .ok (.aload_n 0, 1) := by decide +kernel
theorem dX5_fillMemory_5 : decode cX5_fillMemory 5 = .ok (.getfield 9, 3) := by decide +kernel
theorem dX5_fillMemory_8 : decode cX5_fillMemory 8 = .ok (.invokevirtual 148, 3) := by decide +kernel
theorem dX5_fillMemory_11 : decode cX5_fillMemory 11 = .ok (.bipush 8, 2) := by decide +kernel
theorem dX5_fillMemory_13 : decode cX5_fillMemory 13 = .ok (.istore_n 1, 1) := by decide +kernel
theorem dX5_fillMemory_14 : decode cX5_fillMemory 14 = .ok (.iload_n 1, 1) := by decide +kernel
theorem dX5_fillMemory_15 : decode cX5_fillMemory 15 = .ok (.bipush 64, 2) := by decide +kernel
theorem dX5_fillMemory_17 : decode cX5_fillMemory 17 = .ok (.if_icmp .ge 33, 3) := by decide +kernel
theorem dX5_fillMemory_20 : decode cX5_fillMemory 20 = .ok (.aload_n 0, 1) := by decide +kernel
theorem dX5_fillMemory_21 : decode cX5_fillMemory 21 = .ok (.getfield 15, 3) := by decide +kernel
theorem dX5_fillMemory_24 : decode cX5_fillMemory 24 = .ok (.iload_n 1, 1) := by decide +kernel
theorem dX5_fillMemory_25 : decode cX5_fillMemory 25 = .ok (.invokevirtual 152, 3) := by decide +kernel
theorem dX5_fillMemory_28 : decode cX5_fillMemory 28 = .ok (.aload_n 0, 1) := by decide +kernel
theorem dX5_fillMemory_29 : decode cX5_fillMemory 29 = .ok (.getfield 15, 3) := by decide +kernel
theorem dX5_fillMemory_32 : decode cX5_fillMemory 32 = .ok (.iload_n 1, 1) := by decide +kernel
theorem dX5_fillMemory_33 : decode cX5_fillMemory 33 = .ok (.invokevirtual 76, 3) := by decide +kernel
theorem dX5_fillMemory_36 : decode cX5_fillMemory 36 = .ok (.ifCond .eq 8, 3) := by decide +kernel
theorem dX5_fillMemory_44 : decode cX5_fillMemory 44 = .ok (.iinc 1 1, 3) := by decide +kernel
theorem dX5_fillMemory_47 : decode cX5_fillMemory 47 = .ok (.goto (-33), 3) := by decide +kernel
theorem dX5_fillMemory_50 : decode cX5_fillMemory 50 = .ok (.return_, 1) := by decide +kernel
theorem dX5_rightLength_0 : decode cX5_rightLength 0 = .ok (.iload_n 1, 1) := by decide +kernel
theorem dX5_rightLength_1 : decode cX5_rightLength 1 = .ok (.invokestatic 162, 3) := by decide +kernel
theorem dX5_rightLength_4 : decode cX5_rightLength 4 = .ok (.ifCond .eq 16, 3) := by decide +kernel
theorem dX5_rightLength_20 : decode cX5_rightLength 20 = .ok (.iconst 0, 1) := by decide +kernel
theorem dX5_rightLength_21 : decode cX5_rightLength 21 = .ok (.ireturn, 1) := by decide +kernel
theorem dX6_init_0 : decode cX6_init 0 = .ok (.aload_n 0, 1) := by decide +kernel
theorem dX6_init_1 : decode cX6_init 1 = .ok (.invokespecial 3, 3) := by decide +kernel
theorem dX6_init_4 : decode cX6_init 4 = .ok (.aload_n 0, 1) := by decide +kernel
theorem dX6_init_5 : decode cX6_init 5 = .ok (.sipush 1600, 3) := by decide +kernel
theorem dX6_init_8 : decode cX6_init 8 = .ok (.newarray .byte, 2) := by decide +kernel
theorem dX6_init_10 : decode cX6_init 10 = .ok (.putfield 9, 3) := by decide +kernel
theorem dX6_init_13 : decode cX6_init 13 = .ok (.aload_n 0, 1) := by decide +kernel
theorem dX6_init_14 : decode cX6_init 14 = .ok (.iconst 0, 1) := by decide +kernel
theorem dX6_init_15 : decode cX6_init 15 = .ok (.putfield 15, 3) := by decide +kernel
theorem dX6_init_18 : decode cX6_init 18 = .ok (.aload_n 0, 1) := by decide +kernel
theorem dX6_init_19 : decode cX6_init 19 = .ok (.iconst 0, 1) := by decide +kernel
theorem dX6_init_20 : decode cX6_init 20 = .ok (.putfield 19, 3) := by decide +kernel
theorem dX6_init_23 : decode cX6_init 23 = .ok (.aload_n 0, 1) := by decide +kernel
theorem dX6_init_24 : decode cX6_init 24 = .ok (.aload_n 1, 1) := by decide +kernel
theorem dX6_init_25 : decode cX6_init 25 = .ok (.putfield 22, 3) := by decide +kernel
theorem dX6_init_28 : decode cX6_init 28 = .ok (.aload_n 0, 1) := by decide +kernel
theorem dX6_init_29 : decode cX6_init 29 = .ok (.aload_n 2, 1) := by decide +kernel
theorem dX6_init_30 : decode cX6_init 30 = .ok (.putfield 26, 3) := by decide +kernel
theorem dX6_init_33 : decode cX6_init 33 = .ok (.aload_n 0, 1) := by decide +kernel
theorem dX6_init_34 : decode cX6_init 34 = .ok (.aload_n 3, 1) := by decide +kernel
theorem dX6_init_35 : decode cX6_init 35 = .ok (.putfield 30, 3) := by decide +kernel
theorem dX6_init_38 : decode cX6_init 38 = .ok (.return_, 1) := by decide +kernel
theorem dX6_setAsAtFirst_0 : decode cX6_setAsAtFirst 0 = .ok (.aload_n 0, 1) := by decide +kernel
theorem dX6_setAsAtFirst_1 : decode cX6_setAsAtFirst 1 = .ok (.iconst 0, 1) := by decide +kernel
theorem dX6_setAsAtFirst_2 : decode cX6_setAsAtFirst 2 = .ok (.putfield 15, 3) := by decide +kernel
theorem dX6_setAsAtFirst_5 : decode cX6_setAsAtFirst 5 = .ok (.aload_n 0, 1) := by decide +kernel
theorem dX6_setAsAtFirst_6 : decode cX6_setAsAtFirst 6 = .ok (.iconst 0, 1) := by decide +kernel
theorem dX6_setAsAtFirst_7 : decode cX6_setAsAtFirst 7 = .ok (.putfield 19, 3) := by decide +kernel
theorem dX6_setAsAtFirst_10 : decode cX6_setAsAtFirst 10 = .ok (.return_, 1) := by decide +kernel
theorem dX6_write_0 : decode cX6_write 0 = .ok (.aload_n 0, 1) := by decide +kernel
theorem dX6_write_1 : decode cX6_write 1 = .ok (.invokevirtual 34, 3) := by decide +kernel
theorem dX6_write_4 : decode cX6_write 4 = .ok (.istore_n 1, 1) := by decide +kernel
theorem dX6_write_5 : decode cX6_write 5 = .ok (.iconst 0, 1) := by decide +kernel
theorem dX6_write_6 : decode cX6_write 6 = .ok (.istore_n 2, 1) := by decide +kernel
theorem dX6_write_7 : decode cX6_write 7 = .ok (.iload_n 2, 1) := by decide +kernel
theorem dX6_write_8 : decode cX6_write 8 = .ok (.bipush 64, 2) := by decide +kernel
theorem dX6_write_10 : decode cX6_write 10 = .ok (.imul, 1) := by decide +kernel
theorem dX6_write_11 : decode cX6_write 11 = .ok (.iload_n 1, 1) := by decide +kernel
theorem dX6_write_12 : decode cX6_write 12 = .ok (.if_icmp .ge 39, 3) := by decide +kernel
theorem dX6_write_15 : decode cX6_write 15 = .ok (.aload_n 0, 1) := by decide +kernel
theorem dX6_write_16 : decode cX6_write 16 = .ok (.getfield 22, 3) := by decide +kernel
theorem dX6_write_19 : decode cX6_write 19 = .ok (.aload_n 0, 1) := by decide +kernel
theorem dX6_write_20 : decode cX6_write 20 = .ok (.getfield 19, 3) := by decide +kernel
theorem dX6_write_23 : decode cX6_write 23 = .ok (.bipush 64, 2) := by decide +kernel
theorem dX6_write_25 : decode cX6_write 25 = .ok (.imul, 1) := by decide +kernel
theorem dX6_write_26 : decode cX6_write 26 = .ok (.iload_n 2, 1) := by decide +kernel
theorem dX6_write_27 : decode cX6_write 27 = .ok (.iadd, 1) := by decide +kernel
theorem dX6_write_28 : decode cX6_write 28 = .ok (.aload_n 0, 1) := by decide +kernel
theorem dX6_write_29 : decode cX6_write 29 = .ok (.getfield 9, 3) := by decide +kernel
theorem dX6_write_32 : decode cX6_write 32 = .ok (.iload_n 2, 1) := by decide +kernel
theorem dX6_write_33 : decode cX6_write 33 = .ok (.bipush 64, 2) := by decide +kernel
theorem dX6_write_35 : decode cX6_write 35 = .ok (.imul, 1) := by decide +kernel
theorem dX6_write_36 : decode cX6_write 36 = .ok (.iconst 0, 1) := by decide +kernel
theorem dX6_write_37 : decode cX6_write 37 = .ok (.invokevirtual 38, 3) := by decide +kernel
theorem dX6_write_40 : decode cX6_write 40 = .ok (.ifCond .ne 5, 3) := by decide +kernel
theorem dX6_write_45 : decode cX6_write 45 = .ok (.iinc 2 1, 3) := by decide +kernel
theorem dX6_write_48 : decode cX6_write 48 = .ok (.goto (-41), 3) := by decide +kernel
theorem dX6_write_51 : decode cX6_write 51 = .ok (.aload_n 0, 1) := by decide +kernel
theorem dX6_write_52 : decode cX6_write 52 = .ok (.dup, 1) := by decide +kernel
theorem dX6_write_53 : decode cX6_write 53 = .ok (.getfield 15, 3) := by decide +kernel
theorem dX6_write_56 : decode cX6_write 56 = .ok (.iconst 1, 1) := by decide +kernel
theorem dX6_write_57 : decode cX6_write 57 = .ok (.iadd, 1) := by decide +kernel
theorem dX6_write_58 : decode cX6_write 58 = .ok (.putfield 15, 3) := by decide +kernel
theorem dX6_write_61 : decode cX6_write 61 = .ok (.aload_n 0, 1) := by decide +kernel
theorem dX6_write_62 : decode cX6_write 62 = .ok (.iconst 1, 1) := by decide +kernel
theorem dX6_write_63 : decode cX6_write 63 = .ok (.aload_n 0, 1) := by decide +kernel
theorem dX6_write_64 : decode cX6_write 64 = .ok (.getfield 19, 3) := by decide +kernel
theorem dX6_write_67 : decode cX6_write 67 = .ok (.isub, 1) := by decide +kernel
theorem dX6_write_68 : decode cX6_write 68 = .ok (.putfield 19, 3) := by decide +kernel
theorem dX6_write_71 : decode cX6_write 71 = .ok (.iconst 1, 1) := by decide +kernel
theorem dX6_write_72 : decode cX6_write 72 = .ok (.ireturn, 1) := by decide +kernel
theorem dX6_fillRow_0 : decode cX6_fillRow 0 = .ok (.aload_n 0, 1) := by decide +kernel
theorem dX6_fillRow_1 : decode cX6_fillRow 1 = .ok (.getfield 9, 3) := by decide +kernel
theorem dX6_fillRow_4 : decode cX6_fillRow 4 = .ok (.iconst 0, 1) := by decide +kernel
theorem dX6_fillRow_5 : decode cX6_fillRow 5 = .ok (.invokestatic 44, 3) := by decide +kernel
theorem dX6_fillRow_8 : decode cX6_fillRow 8 = .ok (.aload_n 0, 1) := by decide +kernel
theorem dX6_fillRow_9 : decode cX6_fillRow 9 = .ok (.getfield 9, 3) := by decide +kernel
theorem dX6_fillRow_12 : decode cX6_fillRow 12 = .ok (.iconst 0, 1) := by decide +kernel
theorem dX6_fillRow_13 : decode cX6_fillRow 13 = .ok (.iconst 1, 1) := by decide +kernel
theorem dX6_fillRow_14 : decode cX6_fillRow 14 = .ok (.bipush 67, 2) := by decide +kernel
theorem dX6_fillRow_16 : decode cX6_fillRow 16 = .ok (.invokestatic 50, 3) := by decide +kernel
theorem dX6_fillRow_19 : decode cX6_fillRow 19 = .ok (.aload_n 0, 1) := by decide +kernel
theorem dX6_fillRow_20 : decode cX6_fillRow 20 = .ok (.getfield 9, 3) := by decide +kernel
theorem dX6_fillRow_23 : decode cX6_fillRow 23 = .ok (.iconst 1, 1) := by decide +kernel
theorem dX6_fillRow_24 : decode cX6_fillRow 24 = .ok (.iconst 1, 1) := by decide +kernel
theorem dX6_fillRow_25 : decode cX6_fillRow 25 = .ok (.bipush 80, 2) := by decide +kernel
theorem dX6_fillRow_27 : decode cX6_fillRow 27 = .ok (.invokestatic 50, 3) := by decide +kernel
theorem dX6_fillRow_30 : decode cX6_fillRow 30 = .ok (.aload_n 0, 1) := by decide +kernel
theorem dX6_fillRow_31 : decode cX6_fillRow 31 = .ok (.getfield 9, 3) := by decide +kernel
theorem dX6_fillRow_34 : decode cX6_fillRow 34 = .ok (.iconst 2, 1) := by decide +kernel
theorem dX6_fillRow_35 : decode cX6_fillRow 35 = .ok (.iconst 4, 1) := by decide +kernel
theorem dX6_fillRow_36 : decode cX6_fillRow 36 = .ok (.aload_n 0, 1) := by decide +kernel
theorem dX6_fillRow_37 : decode cX6_fillRow 37 = .ok (.getfield 15, 3) := by decide +kernel
theorem dX6_fillRow_40 : decode cX6_fillRow 40 = .ok (.iconst 1, 1) := by decide +kernel
theorem dX6_fillRow_41 : decode cX6_fillRow 41 = .ok (.iadd, 1) := by decide +kernel
theorem dX6_fillRow_42 : decode cX6_fillRow 42 = .ok (.invokestatic 50, 3) := by decide +kernel
theorem dX6_fillRow_45 : decode cX6_fillRow 45 = .ok (.aload_n 0, 1) := by decide +kernel
theorem dX6_fillRow_46 : decode cX6_fillRow 46 = .ok (.getfield 9, 3) := by decide +kernel
theorem dX6_fillRow_49 : decode cX6_fillRow 49 = .ok (.bipush 6, 2) := by decide +kernel
theorem dX6_fillRow_51 : decode cX6_fillRow 51 = .ok (.iconst 4, 1) := by decide +kernel
theorem dX6_fillRow_52 : decode cX6_fillRow 52 = .ok (.aload_n 0, 1) := by decide +kernel
theorem dX6_fillRow_53 : decode cX6_fillRow 53 = .ok (.getfield 26, 3) := by decide +kernel
theorem dX6_fillRow_56 : decode cX6_fillRow 56 = .ok (.getfield 56, 3) := by decide +kernel
theorem dX6_fillRow_59 : decode cX6_fillRow 59 = .ok (.invokestatic 50, 3) := by decide +kernel
theorem dX6_fillRow_62 : decode cX6_fillRow 62 = .ok (.aload_n 0, 1) := by decide +kernel
theorem dX6_fillRow_63 : decode cX6_fillRow 63 = .ok (.getfield 9, 3) := by decide +kernel
theorem dX6_fillRow_66 : decode cX6_fillRow 66 = .ok (.bipush 10, 2) := by decide +kernel
theorem dX6_fillRow_68 : decode cX6_fillRow 68 = .ok (.iconst 4, 1) := by decide +kernel
theorem dX6_fillRow_69 : decode cX6_fillRow 69 = .ok (.aload_n 0, 1) := by decide +kernel
theorem dX6_fillRow_70 : decode cX6_fillRow 70 = .ok (.getfield 26, 3) := by decide +kernel
theorem dX6_fillRow_73 : decode cX6_fillRow 73 = .ok (.getfield 61, 3) := by decide +kernel
theorem dX6_fillRow_76 : decode cX6_fillRow 76 = .ok (.invokestatic 50, 3) := by decide +kernel
theorem dX6_fillRow_79 : decode cX6_fillRow 79 = .ok (.aload_n 0, 1) := by decide +kernel
theorem dX6_fillRow_80 : decode cX6_fillRow 80 = .ok (.getfield 9, 3) := by decide +kernel
theorem dX6_fillRow_83 : decode cX6_fillRow 83 = .ok (.bipush 14, 2) := by decide +kernel
theorem dX6_fillRow_85 : decode cX6_fillRow 85 = .ok (.iconst 1, 1) := by decide +kernel
theorem dX6_fillRow_86 : decode cX6_fillRow 86 = .ok (.aload_n 0, 1) := by decide +kernel
theorem dX6_fillRow_87 : decode cX6_fillRow 87 = .ok (.getfield 26, 3) := by decide +kernel
theorem dX6_fillRow_90 : decode cX6_fillRow 90 = .ok (.getfield 64, 3) := by decide +kernel
theorem dX6_fillRow_93 : decode cX6_fillRow 93 = .ok (.invokestatic 50, 3) := by decide +kernel
theorem dX6_fillRow_96 : decode cX6_fillRow 96 = .ok (.aload_n 0, 1) := by decide +kernel
theorem dX6_fillRow_97 : decode cX6_fillRow 97 = .ok (.getfield 9, 3) := by decide +kernel
theorem dX6_fillRow_100 : decode cX6_fillRow 100 = .ok (.bipush 15, 2) := by decide +kernel
theorem dX6_fillRow_102 : decode cX6_fillRow 102 = .ok (.iconst 2, 1) := by decide +kernel
theorem dX6_fillRow_103 : decode cX6_fillRow 103 = .ok (.aload_n 0, 1) := by decide +kernel
theorem dX6_fillRow_104 : decode cX6_fillRow 104 = .ok (.getfield 26, 3) := by decide +kernel
theorem dX6_fillRow_107 : decode cX6_fillRow 107 = .ok (.getfield 67, 3) := by decide +kernel
theorem dX6_fillRow_110 : decode cX6_fillRow 110 = .ok (.invokestatic 50, 3) := by decide +kernel
theorem dX6_fillRow_113 : decode cX6_fillRow 113 = .ok (.aload_n 0, 1) := by decide +kernel
theorem dX6_fillRow_114 : decode cX6_fillRow 114 = .ok (.getfield 9, 3) := by decide +kernel
theorem dX6_fillRow_117 : decode cX6_fillRow 117 = .ok (.bipush 17, 2) := by decide +kernel
theorem dX6_fillRow_119 : decode cX6_fillRow 119 = .ok (.iconst 4, 1) := by decide +kernel
theorem dX6_fillRow_120 : decode cX6_fillRow 120 = .ok (.aload_n 0, 1) := by decide +kernel
theorem dX6_fillRow_121 : decode cX6_fillRow 121 = .ok (.getfield 26, 3) := by decide +kernel
theorem dX6_fillRow_124 : decode cX6_fillRow 124 = .ok (.getfield 70, 3) := by decide +kernel
theorem dX6_fillRow_127 : decode cX6_fillRow 127 = .ok (.invokestatic 50, 3) := by decide +kernel
theorem dX6_fillRow_130 : decode cX6_fillRow 130 = .ok (.aload_n 0, 1) := by decide +kernel
theorem dX6_fillRow_131 : decode cX6_fillRow 131 = .ok (.getfield 9, 3) := by decide +kernel
theorem dX6_fillRow_134 : decode cX6_fillRow 134 = .ok (.bipush 21, 2) := by decide +kernel
theorem dX6_fillRow_136 : decode cX6_fillRow 136 = .ok (.iconst 2, 1) := by decide +kernel
theorem dX6_fillRow_137 : decode cX6_fillRow 137 = .ok (.aload_n 0, 1) := by decide +kernel
theorem dX6_fillRow_138 : decode cX6_fillRow 138 = .ok (.getfield 30, 3) := by decide +kernel
theorem dX6_fillRow_141 : decode cX6_fillRow 141 = .ok (.getfield 73, 3) := by decide +kernel
theorem dX6_fillRow_144 : decode cX6_fillRow 144 = .ok (.invokestatic 50, 3) := by decide +kernel
theorem dX6_fillRow_147 : decode cX6_fillRow 147 = .ok (.bipush 23, 2) := by decide +kernel
theorem dX6_fillRow_149 : decode cX6_fillRow 149 = .ok (.istore_n 1, 1) := by decide +kernel
theorem dX6_fillRow_150 : decode cX6_fillRow 150 = .ok (.iconst 0, 1) := by decide +kernel
theorem dX6_fillRow_151 : decode cX6_fillRow 151 = .ok (.istore_n 2, 1) := by decide +kernel
theorem dX6_fillRow_152 : decode cX6_fillRow 152 = .ok (.iload_n 2, 1) := by decide +kernel
theorem dX6_fillRow_153 : decode cX6_fillRow 153 = .ok (.sipush 300, 3) := by decide +kernel
theorem dX6_fillRow_156 : decode cX6_fillRow 156 = .ok (.if_icmp .ge 71, 3) := by decide +kernel
theorem dX6_fillRow_159 : decode cX6_fillRow 159 = .ok (.aload_n 0, 1) := by decide +kernel
theorem dX6_fillRow_160 : decode cX6_fillRow 160 = .ok (.getfield 30, 3) := by decide +kernel
theorem dX6_fillRow_163 : decode cX6_fillRow 163 = .ok (.iload_n 2, 1) := by decide +kernel
theorem dX6_fillRow_164 : decode cX6_fillRow 164 = .ok (.invokevirtual 78, 3) := by decide +kernel
theorem dX6_fillRow_167 : decode cX6_fillRow 167 = .ok (.ifCond .eq 54, 3) := by decide +kernel
theorem dX6_fillRow_221 : decode cX6_fillRow 221 = .ok (.iinc 2 1, 3) := by decide +kernel
theorem dX6_fillRow_224 : decode cX6_fillRow 224 = .ok (.goto (-72), 3) := by decide +kernel
theorem dX6_fillRow_227 : decode cX6_fillRow 227 = .ok (.bipush 8, 2) := by decide +kernel
theorem dX6_fillRow_229 : decode cX6_fillRow 229 = .ok (.istore_n 2, 1) := by decide +kernel
theorem dX6_fillRow_230 : decode cX6_fillRow 230 = .ok (.iload_n 2, 1) := by decide +kernel
theorem dX6_fillRow_231 : decode cX6_fillRow 231 = .ok (.bipush 64, 2) := by decide +kernel
theorem dX6_fillRow_233 : decode cX6_fillRow 233 = .ok (.if_icmp .ge 37, 3) := by decide +kernel
theorem dX6_fillRow_236 : decode cX6_fillRow 236 = .ok (.aload_n 0, 1) := by decide +kernel
theorem dX6_fillRow_237 : decode cX6_fillRow 237 = .ok (.getfield 9, 3) := by decide +kernel
theorem dX6_fillRow_240 : decode cX6_fillRow 240 = .ok (.iload_n 1, 1) := by decide +kernel
theorem dX6_fillRow_241 : decode cX6_fillRow 241 = .ok (.iconst 1, 1) := by decide +kernel
theorem dX6_fillRow_242 : decode cX6_fillRow 242 = .ok (.aload_n 0, 1) := by decide +kernel
theorem dX6_fillRow_243 : decode cX6_fillRow 243 = .ok (.getfield 26, 3) := by decide +kernel
theorem dX6_fillRow_246 : decode cX6_fillRow 246 = .ok (.iload_n 2, 1) := by decide +kernel
theorem dX6_fillRow_247 : decode cX6_fillRow 247 = .ok (.invokevirtual 89, 3) := by decide +kernel
theorem dX6_fillRow_250 : decode cX6_fillRow 250 = .ok (.ifCond .eq 7, 3) := by decide +kernel
theorem dX6_fillRow_257 : decode cX6_fillRow 257 = .ok (.iconst 0, 1) := by decide +kernel
theorem dX6_fillRow_258 : decode cX6_fillRow 258 = .ok (.invokestatic 50, 3) := by decide +kernel
theorem dX6_fillRow_261 : decode cX6_fillRow 261 = .ok (.iinc 1 1, 3) := by decide +kernel
theorem dX6_fillRow_264 : decode cX6_fillRow 264 = .ok (.iinc 2 1, 3) := by decide +kernel
theorem dX6_fillRow_267 : decode cX6_fillRow 267 = .ok (.goto (-37), 3) := by decide +kernel
theorem dX6_fillRow_270 : decode cX6_fillRow 270 = .ok (.aload_n 0, 1) := by decide +kernel
theorem dX6_fillRow_271 : decode cX6_fillRow 271 = .ok (.getfield 9, 3) := by decide +kernel
theorem dX6_fillRow_274 : decode cX6_fillRow 274 = .ok (.iconst 0, 1) := by decide +kernel
theorem dX6_fillRow_275 : decode cX6_fillRow 275 = .ok (.iload_n 1, 1) := by decide +kernel
theorem dX6_fillRow_276 : decode cX6_fillRow 276 = .ok (.invokestatic 92, 3) := by decide +kernel
theorem dX6_fillRow_279 : decode cX6_fillRow 279 = .ok (.iload_n 1, 1) := by decide +kernel
theorem dX6_fillRow_280 : decode cX6_fillRow 280 = .ok (.iconst 4, 1) := by decide +kernel
theorem dX6_fillRow_281 : decode cX6_fillRow 281 = .ok (.iadd, 1) := by decide +kernel
theorem dX6_fillRow_282 : decode cX6_fillRow 282 = .ok (.ireturn, 1) := by decide +kernel
theorem dX6_newest_0 : decode cX6_newest 0 = .ok (.aload_n 0, 1) := by decide +kernel
theorem dX6_newest_1 : decode cX6_newest 1 = .ok (.iconst 0, 1) := by decide +kernel
theorem dX6_newest_2 : decode cX6_newest 2 = .ok (.invokevirtual 96, 3) := by decide +kernel
theorem dX6_newest_5 : decode cX6_newest 5 = .ok (.istore_n 1, 1) := by decide +kernel
theorem dX6_newest_6 : decode cX6_newest 6 = .ok (.aload_n 0, 1) := by decide +kernel
theorem dX6_newest_7 : decode cX6_newest 7 = .ok (.iconst 1, 1) := by decide +kernel
theorem dX6_newest_8 : decode cX6_newest 8 = .ok (.invokevirtual 96, 3) := by decide +kernel
theorem dX6_newest_11 : decode cX6_newest 11 = .ok (.istore_n 2, 1) := by decide +kernel
theorem dX6_newest_12 : decode cX6_newest 12 = .ok (.iload_n 1, 1) := by decide +kernel
theorem dX6_newest_13 : decode cX6_newest 13 = .ok (.ifCond .eq 30, 3) := by decide +kernel
theorem dX6_newest_43 : decode cX6_newest 43 = .ok (.iload_n 1, 1) := by decide +kernel
theorem dX6_newest_44 : decode cX6_newest 44 = .ok (.ifCond .eq 5, 3) := by decide +kernel
theorem dX6_newest_49 : decode cX6_newest 49 = .ok (.iload_n 2, 1) := by decide +kernel
theorem dX6_newest_50 : decode cX6_newest 50 = .ok (.ifCond .eq 7, 3) := by decide +kernel
theorem dX6_newest_57 : decode cX6_newest 57 = .ok (.iconst (-1), 1) := by decide +kernel
theorem dX6_newest_58 : decode cX6_newest 58 = .ok (.ireturn, 1) := by decide +kernel
theorem dX6_numberAt_0 : decode cX6_numberAt 0 = .ok (.aload_n 0, 1) := by decide +kernel
theorem dX6_numberAt_1 : decode cX6_numberAt 1 = .ok (.getfield 22, 3) := by decide +kernel
theorem dX6_numberAt_4 : decode cX6_numberAt 4 = .ok (.getfield 103, 3) := by decide +kernel
theorem dX6_numberAt_7 : decode cX6_numberAt 7 = .ok (.iload_n 1, 1) := by decide +kernel
theorem dX6_numberAt_8 : decode cX6_numberAt 8 = .ok (.sipush 4096, 3) := by decide +kernel
theorem dX6_numberAt_11 : decode cX6_numberAt 11 = .ok (.imul, 1) := by decide +kernel
theorem dX6_numberAt_12 : decode cX6_numberAt 12 = .ok (.iload_n 2, 1) := by decide +kernel
theorem dX6_numberAt_13 : decode cX6_numberAt 13 = .ok (.iadd, 1) := by decide +kernel
theorem dX6_numberAt_14 : decode cX6_numberAt 14 = .ok (.iload_n 3, 1) := by decide +kernel
theorem dX6_numberAt_15 : decode cX6_numberAt 15 = .ok (.invokestatic 104, 3) := by decide +kernel
theorem dX6_numberAt_18 : decode cX6_numberAt 18 = .ok (.ireturn, 1) := by decide +kernel
theorem dX6_isRight_0 : decode cX6_isRight 0 = .ok (.aload_n 0, 1) := by decide +kernel
theorem dX6_isRight_1 : decode cX6_isRight 1 = .ok (.iload_n 1, 1) := by decide +kernel
theorem dX6_isRight_2 : decode cX6_isRight 2 = .ok (.bipush 21, 2) := by decide +kernel
theorem dX6_isRight_4 : decode cX6_isRight 4 = .ok (.iconst 2, 1) := by decide +kernel
theorem dX6_isRight_5 : decode cX6_isRight 5 = .ok (.invokevirtual 99, 3) := by decide +kernel
theorem dX6_isRight_8 : decode cX6_isRight 8 = .ok (.istore_n 2, 1) := by decide +kernel
theorem dX6_isRight_9 : decode cX6_isRight 9 = .ok (.bipush 23, 2) := by decide +kernel
theorem dX6_isRight_11 : decode cX6_isRight 11 = .ok (.iload_n 2, 1) := by decide +kernel
theorem dX6_isRight_12 : decode cX6_isRight 12 = .ok (.iconst 5, 1) := by decide +kernel
theorem dX6_isRight_13 : decode cX6_isRight 13 = .ok (.imul, 1) := by decide +kernel
theorem dX6_isRight_14 : decode cX6_isRight 14 = .ok (.iadd, 1) := by decide +kernel
theorem dX6_isRight_15 : decode cX6_isRight 15 = .ok (.istore_n 3, 1) := by decide +kernel
theorem dX6_isRight_16 : decode cX6_isRight 16 = .ok (.aload_n 0, 1) := by decide +kernel
theorem dX6_isRight_17 : decode cX6_isRight 17 = .ok (.iload_n 1, 1) := by decide +kernel
theorem dX6_isRight_18 : decode cX6_isRight 18 = .ok (.iconst 0, 1) := by decide +kernel
theorem dX6_isRight_19 : decode cX6_isRight 19 = .ok (.iconst 1, 1) := by decide +kernel
theorem dX6_isRight_20 : decode cX6_isRight 20 = .ok (.invokevirtual 99, 3) := by decide +kernel
theorem dX6_isRight_23 : decode cX6_isRight 23 = .ok (.bipush 67, 2) := by decide +kernel
theorem dX6_isRight_25 : decode cX6_isRight 25 = .ok (.if_icmp .ne 82, 3) := by decide +kernel
theorem dX6_isRight_107 : decode cX6_isRight 107 = .ok (.iconst 0, 1) := by decide +kernel
theorem dX6_isRight_108 : decode cX6_isRight 108 = .ok (.ireturn, 1) := by decide +kernel
theorem dX7_init_0 : decode cX7_init 0 = .ok (.aload_n 0, 1) := by decide +kernel
theorem dX7_init_1 : decode cX7_init 1 = .ok (.invokespecial 1, 3) := by decide +kernel
theorem dX7_init_4 : decode cX7_init 4 = .ok (.aload_n 0, 1) := by decide +kernel
theorem dX7_init_5 : decode cX7_init 5 = .ok (.new 7, 3) := by decide +kernel
theorem dX7_init_8 : decode cX7_init 8 = .ok (.dup, 1) := by decide +kernel
theorem dX7_init_9 : decode cX7_init 9 = .ok (.invokespecial 9, 3) := by decide +kernel
theorem dX7_init_12 : decode cX7_init 12 = .ok (.putfield 10, 3) := by decide +kernel
theorem dX7_init_15 : decode cX7_init 15 = .ok (.aload_n 0, 1) := by decide +kernel
theorem dX7_init_16 : decode cX7_init 16 = .ok (.new 16, 3) := by decide +kernel
theorem dX7_init_19 : decode cX7_init 19 = .ok (.dup, 1) := by decide +kernel
theorem dX7_init_20 : decode cX7_init 20 = .ok (.invokespecial 18, 3) := by decide +kernel
theorem dX7_init_23 : decode cX7_init 23 = .ok (.putfield 19, 3) := by decide +kernel
theorem dX7_init_26 : decode cX7_init 26 = .ok (.aload_n 0, 1) := by decide +kernel
theorem dX7_init_27 : decode cX7_init 27 = .ok (.new 23, 3) := by decide +kernel
theorem dX7_init_30 : decode cX7_init 30 = .ok (.dup, 1) := by decide +kernel
theorem dX7_init_31 : decode cX7_init 31 = .ok (.aload_n 0, 1) := by decide +kernel
theorem dX7_init_32 : decode cX7_init 32 = .ok (.getfield 19, 3) := by decide +kernel
theorem dX7_init_35 : decode cX7_init 35 = .ok (.invokespecial 25, 3) := by decide +kernel
theorem dX7_init_38 : decode cX7_init 38 = .ok (.putfield 28, 3) := by decide +kernel
theorem dX7_init_41 : decode cX7_init 41 = .ok (.aload_n 0, 1) := by decide +kernel
theorem dX7_init_42 : decode cX7_init 42 = .ok (.new 32, 3) := by decide +kernel
theorem dX7_init_45 : decode cX7_init 45 = .ok (.dup, 1) := by decide +kernel
theorem dX7_init_46 : decode cX7_init 46 = .ok (.aload_n 0, 1) := by decide +kernel
theorem dX7_init_47 : decode cX7_init 47 = .ok (.getfield 28, 3) := by decide +kernel
theorem dX7_init_50 : decode cX7_init 50 = .ok (.aload_n 0, 1) := by decide +kernel
theorem dX7_init_51 : decode cX7_init 51 = .ok (.getfield 19, 3) := by decide +kernel
theorem dX7_init_54 : decode cX7_init 54 = .ok (.invokespecial 34, 3) := by decide +kernel
theorem dX7_init_57 : decode cX7_init 57 = .ok (.putfield 37, 3) := by decide +kernel
theorem dX7_init_60 : decode cX7_init 60 = .ok (.aload_n 0, 1) := by decide +kernel
theorem dX7_init_61 : decode cX7_init 61 = .ok (.new 41, 3) := by decide +kernel
theorem dX7_init_64 : decode cX7_init 64 = .ok (.dup, 1) := by decide +kernel
theorem dX7_init_65 : decode cX7_init 65 = .ok (.aload_n 0, 1) := by decide +kernel
theorem dX7_init_66 : decode cX7_init 66 = .ok (.getfield 10, 3) := by decide +kernel
theorem dX7_init_69 : decode cX7_init 69 = .ok (.aload_n 0, 1) := by decide +kernel
theorem dX7_init_70 : decode cX7_init 70 = .ok (.getfield 28, 3) := by decide +kernel
theorem dX7_init_73 : decode cX7_init 73 = .ok (.aload_n 0, 1) := by decide +kernel
theorem dX7_init_74 : decode cX7_init 74 = .ok (.getfield 19, 3) := by decide +kernel
theorem dX7_init_77 : decode cX7_init 77 = .ok (.invokespecial 43, 3) := by decide +kernel
theorem dX7_init_80 : decode cX7_init 80 = .ok (.putfield 46, 3) := by decide +kernel
theorem dX7_init_83 : decode cX7_init 83 = .ok (.aload_n 0, 1) := by decide +kernel
theorem dX7_init_84 : decode cX7_init 84 = .ok (.new 50, 3) := by decide +kernel
theorem dX7_init_87 : decode cX7_init 87 = .ok (.dup, 1) := by decide +kernel
theorem dX7_init_88 : decode cX7_init 88 = .ok (.aload_n 0, 1) := by decide +kernel
theorem dX7_init_89 : decode cX7_init 89 = .ok (.getfield 10, 3) := by decide +kernel
theorem dX7_init_92 : decode cX7_init 92 = .ok (.aload_n 0, 1) := by decide +kernel
theorem dX7_init_93 : decode cX7_init 93 = .ok (.getfield 28, 3) := by decide +kernel
theorem dX7_init_96 : decode cX7_init 96 = .ok (.aload_n 0, 1) := by decide +kernel
theorem dX7_init_97 : decode cX7_init 97 = .ok (.getfield 19, 3) := by decide +kernel
theorem dX7_init_100 : decode cX7_init 100 = .ok (.aload_n 0, 1) := by decide +kernel
theorem dX7_init_101 : decode cX7_init 101 = .ok (.getfield 46, 3) := by decide +kernel
theorem dX7_init_104 : decode cX7_init 104 = .ok (.invokespecial 52, 3) := by decide +kernel
theorem dX7_init_107 : decode cX7_init 107 = .ok (.putfield 55, 3) := by decide +kernel
theorem dX7_init_110 : decode cX7_init 110 = .ok (.aload_n 0, 1) := by decide +kernel
theorem dX7_init_111 : decode cX7_init 111 = .ok (.bipush 100, 2) := by decide +kernel
theorem dX7_init_113 : decode cX7_init 113 = .ok (.newarray .byte, 2) := by decide +kernel
theorem dX7_init_115 : decode cX7_init 115 = .ok (.putfield 59, 3) := by decide +kernel
theorem dX7_init_118 : decode cX7_init 118 = .ok (.aload_n 0, 1) := by decide +kernel
theorem dX7_init_119 : decode cX7_init 119 = .ok (.iconst 0, 1) := by decide +kernel
theorem dX7_init_120 : decode cX7_init 120 = .ok (.putfield 63, 3) := by decide +kernel
theorem dX7_init_123 : decode cX7_init 123 = .ok (.aload_n 0, 1) := by decide +kernel
theorem dX7_init_124 : decode cX7_init 124 = .ok (.iconst 0, 1) := by decide +kernel
theorem dX7_init_125 : decode cX7_init 125 = .ok (.putfield 67, 3) := by decide +kernel
theorem dX7_init_128 : decode cX7_init 128 = .ok (.return_, 1) := by decide +kernel
theorem dX7_feed_0 : decode cX7_feed 0 = .ok (.iload_n 3, 1) := by decide +kernel
theorem dX7_feed_1 : decode cX7_feed 1 = .ok (.ifCond .lt 9, 3) := by decide +kernel
theorem dX7_feed_4 : decode cX7_feed 4 = .ok (.iload_n 3, 1) := by decide +kernel
theorem dX7_feed_5 : decode cX7_feed 5 = .ok (.bipush 8, 2) := by decide +kernel
theorem dX7_feed_7 : decode cX7_feed 7 = .ok (.if_icmp .le 6, 3) := by decide +kernel
theorem dX7_feed_10 : decode cX7_feed 10 = .ok (.bipush (-2), 2) := by decide +kernel
theorem dX7_feed_12 : decode cX7_feed 12 = .ok (.ireturn, 1) := by decide +kernel
theorem dX7_feed_13 : decode cX7_feed 13 = .ok (.iload_n 3, 1) := by decide +kernel
theorem dX7_feed_14 : decode cX7_feed 14 = .ok (.ifCond .ne 10, 3) := by decide +kernel
theorem dX7_feed_17 : decode cX7_feed 17 = .ok (.aload_n 0, 1) := by decide +kernel
theorem dX7_feed_18 : decode cX7_feed 18 = .ok (.iconst 0, 1) := by decide +kernel
theorem dX7_feed_19 : decode cX7_feed 19 = .ok (.putfield 63, 3) := by decide +kernel
theorem dX7_feed_22 : decode cX7_feed 22 = .ok (.iconst 0, 1) := by decide +kernel
theorem dX7_feed_23 : decode cX7_feed 23 = .ok (.ireturn, 1) := by decide +kernel
theorem dX7_feed_24 : decode cX7_feed 24 = .ok (.aload_n 0, 1) := by decide +kernel
theorem dX7_feed_25 : decode cX7_feed 25 = .ok (.getfield 63, 3) := by decide +kernel
theorem dX7_feed_28 : decode cX7_feed 28 = .ok (.iload_n 3, 1) := by decide +kernel
theorem dX7_feed_29 : decode cX7_feed 29 = .ok (.iadd, 1) := by decide +kernel
theorem dX7_feed_30 : decode cX7_feed 30 = .ok (.bipush 100, 2) := by decide +kernel
theorem dX7_feed_32 : decode cX7_feed 32 = .ok (.if_icmp .le 6, 3) := by decide +kernel
theorem dX7_feed_38 : decode cX7_feed 38 = .ok (.iload_n 3, 1) := by decide +kernel
theorem dX7_feed_39 : decode cX7_feed 39 = .ok (.iconst 1, 1) := by decide +kernel
theorem dX7_feed_40 : decode cX7_feed 40 = .ok (.isub, 1) := by decide +kernel
theorem dX7_feed_41 : decode cX7_feed 41 = .ok (.istore 4, 2) := by decide +kernel
theorem dX7_feed_43 : decode cX7_feed 43 = .ok (.iload 4, 2) := by decide +kernel
theorem dX7_feed_45 : decode cX7_feed 45 = .ok (.ifCond .lt 37, 3) := by decide +kernel
theorem dX7_feed_48 : decode cX7_feed 48 = .ok (.aload_n 0, 1) := by decide +kernel
theorem dX7_feed_49 : decode cX7_feed 49 = .ok (.getfield 59, 3) := by decide +kernel
theorem dX7_feed_52 : decode cX7_feed 52 = .ok (.aload_n 0, 1) := by decide +kernel
theorem dX7_feed_53 : decode cX7_feed 53 = .ok (.getfield 63, 3) := by decide +kernel
theorem dX7_feed_56 : decode cX7_feed 56 = .ok (.lload_n 1, 1) := by decide +kernel
theorem dX7_feed_57 : decode cX7_feed 57 = .ok (.bipush 8, 2) := by decide +kernel
theorem dX7_feed_59 : decode cX7_feed 59 = .ok (.iload 4, 2) := by decide +kernel
theorem dX7_feed_61 : decode cX7_feed 61 = .ok (.imul, 1) := by decide +kernel
theorem dX7_feed_62 : decode cX7_feed 62 = .ok (.lushr, 1) := by decide +kernel
theorem dX7_feed_63 : decode cX7_feed 63 = .ok (.l2i, 1) := by decide +kernel
theorem dX7_feed_64 : decode cX7_feed 64 = .ok (.i2b, 1) := by decide +kernel
theorem dX7_feed_65 : decode cX7_feed 65 = .ok (.bastore, 1) := by decide +kernel
theorem dX7_feed_66 : decode cX7_feed 66 = .ok (.aload_n 0, 1) := by decide +kernel
theorem dX7_feed_67 : decode cX7_feed 67 = .ok (.dup, 1) := by decide +kernel
theorem dX7_feed_68 : decode cX7_feed 68 = .ok (.getfield 63, 3) := by decide +kernel
theorem dX7_feed_71 : decode cX7_feed 71 = .ok (.iconst 1, 1) := by decide +kernel
theorem dX7_feed_72 : decode cX7_feed 72 = .ok (.iadd, 1) := by decide +kernel
theorem dX7_feed_73 : decode cX7_feed 73 = .ok (.putfield 63, 3) := by decide +kernel
theorem dX7_feed_76 : decode cX7_feed 76 = .ok (.iinc 4 (-1), 3) := by decide +kernel
theorem dX7_feed_79 : decode cX7_feed 79 = .ok (.goto (-36), 3) := by decide +kernel
theorem dX7_feed_82 : decode cX7_feed 82 = .ok (.aload_n 0, 1) := by decide +kernel
theorem dX7_feed_83 : decode cX7_feed 83 = .ok (.getfield 63, 3) := by decide +kernel
theorem dX7_feed_86 : decode cX7_feed 86 = .ok (.ireturn, 1) := by decide +kernel
theorem dX7_put_0 : decode cX7_put 0 = .ok (.aload_n 0, 1) := by decide +kernel
theorem dX7_put_1 : decode cX7_put 1 = .ok (.getfield 67, 3) := by decide +kernel
theorem dX7_put_4 : decode cX7_put 4 = .ok (.ifCond .eq 6, 3) := by decide +kernel
theorem dX7_put_10 : decode cX7_put 10 = .ok (.iload_n 1, 1) := by decide +kernel
theorem dX7_put_11 : decode cX7_put 11 = .ok (.invokestatic 71, 3) := by decide +kernel
theorem dX7_put_14 : decode cX7_put 14 = .ok (.ifCond .ne 6, 3) := by decide +kernel
theorem dX7_put_17 : decode cX7_put 17 = .ok (.bipush (-2), 2) := by decide +kernel
theorem dX7_put_19 : decode cX7_put 19 = .ok (.ireturn, 1) := by decide +kernel
theorem dX7_put_20 : decode cX7_put 20 = .ok (.aload_n 0, 1) := by decide +kernel
theorem dX7_put_21 : decode cX7_put 21 = .ok (.getfield 28, 3) := by decide +kernel
theorem dX7_put_24 : decode cX7_put 24 = .ok (.bipush 16, 2) := by decide +kernel
theorem dX7_put_26 : decode cX7_put 26 = .ok (.aload_n 0, 1) := by decide +kernel
theorem dX7_put_27 : decode cX7_put 27 = .ok (.getfield 63, 3) := by decide +kernel
theorem dX7_put_30 : decode cX7_put 30 = .ok (.iadd, 1) := by decide +kernel
theorem dX7_put_31 : decode cX7_put 31 = .ok (.invokevirtual 75, 3) := by decide +kernel
theorem dX7_put_34 : decode cX7_put 34 = .ok (.ifCond .ne 6, 3) := by decide +kernel
theorem dX7_put_40 : decode cX7_put 40 = .ok (.aload_n 0, 1) := by decide +kernel
theorem dX7_put_41 : decode cX7_put 41 = .ok (.getfield 28, 3) := by decide +kernel
theorem dX7_put_44 : decode cX7_put 44 = .ok (.iconst 1, 1) := by decide +kernel
theorem dX7_put_45 : decode cX7_put 45 = .ok (.iload_n 1, 1) := by decide +kernel
theorem dX7_put_46 : decode cX7_put 46 = .ok (.aload_n 0, 1) := by decide +kernel
theorem dX7_put_47 : decode cX7_put 47 = .ok (.getfield 28, 3) := by decide +kernel
theorem dX7_put_50 : decode cX7_put 50 = .ok (.getfield 78, 3) := by decide +kernel
theorem dX7_put_53 : decode cX7_put 53 = .ok (.aload_n 0, 1) := by decide +kernel
theorem dX7_put_54 : decode cX7_put 54 = .ok (.getfield 59, 3) := by decide +kernel
theorem dX7_put_57 : decode cX7_put 57 = .ok (.iconst 0, 1) := by decide +kernel
theorem dX7_put_58 : decode cX7_put 58 = .ok (.aload_n 0, 1) := by decide +kernel
theorem dX7_put_59 : decode cX7_put 59 = .ok (.getfield 63, 3) := by decide +kernel
theorem dX7_put_62 : decode cX7_put 62 = .ok (.invokevirtual 81, 3) := by decide +kernel
theorem dX7_put_65 : decode cX7_put 65 = .ok (.istore_n 2, 1) := by decide +kernel
theorem dX7_put_66 : decode cX7_put 66 = .ok (.aload_n 0, 1) := by decide +kernel
theorem dX7_put_67 : decode cX7_put 67 = .ok (.iconst 0, 1) := by decide +kernel
theorem dX7_put_68 : decode cX7_put 68 = .ok (.putfield 63, 3) := by decide +kernel
theorem dX7_put_71 : decode cX7_put 71 = .ok (.iload_n 2, 1) := by decide +kernel
theorem dX7_put_72 : decode cX7_put 72 = .ok (.ireturn, 1) := by decide +kernel
theorem dX7_remove_0 : decode cX7_remove 0 = .ok (.aload_n 0, 1) := by decide +kernel
theorem dX7_remove_1 : decode cX7_remove 1 = .ok (.getfield 67, 3) := by decide +kernel
theorem dX7_remove_4 : decode cX7_remove 4 = .ok (.ifCond .eq 6, 3) := by decide +kernel
theorem dX7_remove_10 : decode cX7_remove 10 = .ok (.aload_n 0, 1) := by decide +kernel
theorem dX7_remove_11 : decode cX7_remove 11 = .ok (.getfield 19, 3) := by decide +kernel
theorem dX7_remove_14 : decode cX7_remove 14 = .ok (.iload_n 1, 1) := by decide +kernel
theorem dX7_remove_15 : decode cX7_remove 15 = .ok (.invokevirtual 85, 3) := by decide +kernel
theorem dX7_remove_18 : decode cX7_remove 18 = .ok (.ifCond .ne 5, 3) := by decide +kernel
theorem dX7_remove_21 : decode cX7_remove 21 = .ok (.iconst (-1), 1) := by decide +kernel
theorem dX7_remove_22 : decode cX7_remove 22 = .ok (.ireturn, 1) := by decide +kernel
theorem dX7_size_0 : decode cX7_size 0 = .ok (.aload_n 0, 1) := by decide +kernel
theorem dX7_size_1 : decode cX7_size 1 = .ok (.getfield 67, 3) := by decide +kernel
theorem dX7_size_4 : decode cX7_size 4 = .ok (.ifCond .eq 6, 3) := by decide +kernel
theorem dX7_size_10 : decode cX7_size 10 = .ok (.aload_n 0, 1) := by decide +kernel
theorem dX7_size_11 : decode cX7_size 11 = .ok (.getfield 19, 3) := by decide +kernel
theorem dX7_size_14 : decode cX7_size 14 = .ok (.iload_n 1, 1) := by decide +kernel
theorem dX7_size_15 : decode cX7_size 15 = .ok (.invokevirtual 85, 3) := by decide +kernel
theorem dX7_size_18 : decode cX7_size 18 = .ok (.ifCond .eq 14, 3) := by decide +kernel
theorem dX7_size_32 : decode cX7_size 32 = .ok (.iconst (-1), 1) := by decide +kernel
theorem dX7_size_33 : decode cX7_size 33 = .ok (.ireturn, 1) := by decide +kernel
theorem dX7_value_0 : decode cX7_value 0 = .ok (.aload_n 0, 1) := by decide +kernel
theorem dX7_value_1 : decode cX7_value 1 = .ok (.getfield 67, 3) := by decide +kernel
theorem dX7_value_4 : decode cX7_value 4 = .ok (.ifCond .eq 6, 3) := by decide +kernel
theorem dX7_value_10 : decode cX7_value 10 = .ok (.aload_n 0, 1) := by decide +kernel
theorem dX7_value_11 : decode cX7_value 11 = .ok (.getfield 19, 3) := by decide +kernel
theorem dX7_value_14 : decode cX7_value 14 = .ok (.iload_n 1, 1) := by decide +kernel
theorem dX7_value_15 : decode cX7_value 15 = .ok (.invokevirtual 85, 3) := by decide +kernel
theorem dX7_value_18 : decode cX7_value 18 = .ok (.ifCond .eq 19, 3) := by decide +kernel
theorem dX7_value_37 : decode cX7_value 37 = .ok (.iconst (-1), 1) := by decide +kernel
theorem dX7_value_38 : decode cX7_value 38 = .ok (.ireturn, 1) := by decide +kernel
theorem dX7_sync_0 : decode cX7_sync 0 = .ok (.aload_n 0, 1) := by decide +kernel
theorem dX7_sync_1 : decode cX7_sync 1 = .ok (.getfield 67, 3) := by decide +kernel
theorem dX7_sync_4 : decode cX7_sync 4 = .ok (.ifCond .eq 6, 3) := by decide +kernel
theorem dX7_sync_10 : decode cX7_sync 10 = .ok (.aload_n 0, 1) := by decide +kernel
theorem dX7_sync_11 : decode cX7_sync 11 = .ok (.getfield 28, 3) := by decide +kernel
theorem dX7_sync_14 : decode cX7_sync 14 = .ok (.aload_n 0, 1) := by decide +kernel
theorem dX7_sync_15 : decode cX7_sync 15 = .ok (.getfield 10, 3) := by decide +kernel
theorem dX7_sync_18 : decode cX7_sync 18 = .ok (.invokevirtual 104, 3) := by decide +kernel
theorem dX7_sync_21 : decode cX7_sync 21 = .ok (.istore_n 1, 1) := by decide +kernel
theorem dX7_sync_22 : decode cX7_sync 22 = .ok (.aload_n 0, 1) := by decide +kernel
theorem dX7_sync_23 : decode cX7_sync 23 = .ok (.iload_n 1, 1) := by decide +kernel
theorem dX7_sync_24 : decode cX7_sync 24 = .ok (.bipush (-5), 2) := by decide +kernel
theorem dX7_sync_26 : decode cX7_sync 26 = .ok (.if_icmp .ne 7, 3) := by decide +kernel
theorem dX7_sync_33 : decode cX7_sync 33 = .ok (.iconst 0, 1) := by decide +kernel
theorem dX7_sync_34 : decode cX7_sync 34 = .ok (.putfield 67, 3) := by decide +kernel
theorem dX7_sync_37 : decode cX7_sync 37 = .ok (.iload_n 1, 1) := by decide +kernel
theorem dX7_sync_38 : decode cX7_sync 38 = .ok (.ireturn, 1) := by decide +kernel
theorem dX7_checkpoint_0 : decode cX7_checkpoint 0 = .ok (.aload_n 0, 1) := by decide +kernel
theorem dX7_checkpoint_1 : decode cX7_checkpoint 1 = .ok (.getfield 67, 3) := by decide +kernel
theorem dX7_checkpoint_4 : decode cX7_checkpoint 4 = .ok (.ifCond .eq 6, 3) := by decide +kernel
theorem dX7_checkpoint_10 : decode cX7_checkpoint 10 = .ok (.aload_n 0, 1) := by decide +kernel
theorem dX7_checkpoint_11 : decode cX7_checkpoint 11 = .ok (.getfield 28, 3) := by decide +kernel
theorem dX7_checkpoint_14 : decode cX7_checkpoint 14 = .ok (.aload_n 0, 1) := by decide +kernel
theorem dX7_checkpoint_15 : decode cX7_checkpoint 15 = .ok (.getfield 10, 3) := by decide +kernel
theorem dX7_checkpoint_18 : decode cX7_checkpoint 18 = .ok (.invokevirtual 104, 3) := by decide +kernel
theorem dX7_checkpoint_21 : decode cX7_checkpoint 21 = .ok (.bipush (-5), 2) := by decide +kernel
theorem dX7_checkpoint_23 : decode cX7_checkpoint 23 = .ok (.if_icmp .eq 13, 3) := by decide +kernel
theorem dX7_checkpoint_26 : decode cX7_checkpoint 26 = .ok (.aload_n 0, 1) := by decide +kernel
theorem dX7_checkpoint_27 : decode cX7_checkpoint 27 = .ok (.getfield 46, 3) := by decide +kernel
theorem dX7_checkpoint_30 : decode cX7_checkpoint 30 = .ok (.invokevirtual 108, 3) := by decide +kernel
theorem dX7_checkpoint_33 : decode cX7_checkpoint 33 = .ok (.ifCond .ne 11, 3) := by decide +kernel
theorem dX7_checkpoint_44 : decode cX7_checkpoint 44 = .ok (.aload_n 0, 1) := by decide +kernel
theorem dX7_checkpoint_45 : decode cX7_checkpoint 45 = .ok (.getfield 28, 3) := by decide +kernel
theorem dX7_checkpoint_48 : decode cX7_checkpoint 48 = .ok (.invokevirtual 112, 3) := by decide +kernel
theorem dX7_checkpoint_51 : decode cX7_checkpoint 51 = .ok (.aload_n 0, 1) := by decide +kernel
theorem dX7_checkpoint_52 : decode cX7_checkpoint 52 = .ok (.getfield 46, 3) := by decide +kernel
theorem dX7_checkpoint_55 : decode cX7_checkpoint 55 = .ok (.getfield 115, 3) := by decide +kernel
theorem dX7_checkpoint_58 : decode cX7_checkpoint 58 = .ok (.ireturn, 1) := by decide +kernel
theorem dX7_clean_0 : decode cX7_clean 0 = .ok (.aload_n 0, 1) := by decide +kernel
theorem dX7_clean_1 : decode cX7_clean 1 = .ok (.getfield 67, 3) := by decide +kernel
theorem dX7_clean_4 : decode cX7_clean 4 = .ok (.ifCond .eq 6, 3) := by decide +kernel
theorem dX7_clean_10 : decode cX7_clean 10 = .ok (.iload_n 1, 1) := by decide +kernel
theorem dX7_clean_11 : decode cX7_clean 11 = .ok (.iconst 1, 1) := by decide +kernel
theorem dX7_clean_12 : decode cX7_clean 12 = .ok (.if_icmp .lt 9, 3) := by decide +kernel
theorem dX7_clean_15 : decode cX7_clean 15 = .ok (.iload_n 1, 1) := by decide +kernel
theorem dX7_clean_16 : decode cX7_clean 16 = .ok (.bipush 8, 2) := by decide +kernel
theorem dX7_clean_18 : decode cX7_clean 18 = .ok (.if_icmp .le 6, 3) := by decide +kernel
theorem dX7_clean_21 : decode cX7_clean 21 = .ok (.bipush (-2), 2) := by decide +kernel
theorem dX7_clean_23 : decode cX7_clean 23 = .ok (.ireturn, 1) := by decide +kernel
theorem dX7_clean_24 : decode cX7_clean 24 = .ok (.aload_n 0, 1) := by decide +kernel
theorem dX7_clean_25 : decode cX7_clean 25 = .ok (.getfield 37, 3) := by decide +kernel
theorem dX7_clean_28 : decode cX7_clean 28 = .ok (.iload_n 1, 1) := by decide +kernel
theorem dX7_clean_29 : decode cX7_clean 29 = .ok (.invokevirtual 117, 3) := by decide +kernel
theorem dX7_clean_32 : decode cX7_clean 32 = .ok (.ireturn, 1) := by decide +kernel
theorem dX7_tick_0 : decode cX7_tick 0 = .ok (.aload_n 0, 1) := by decide +kernel
theorem dX7_tick_1 : decode cX7_tick 1 = .ok (.getfield 67, 3) := by decide +kernel
theorem dX7_tick_4 : decode cX7_tick 4 = .ok (.ifCond .eq 6, 3) := by decide +kernel
theorem dX7_tick_10 : decode cX7_tick 10 = .ok (.iload_n 1, 1) := by decide +kernel
theorem dX7_tick_11 : decode cX7_tick 11 = .ok (.ifCond .lt 9, 3) := by decide +kernel
theorem dX7_tick_14 : decode cX7_tick 14 = .ok (.iload_n 1, 1) := by decide +kernel
theorem dX7_tick_15 : decode cX7_tick 15 = .ok (.ldc 120, 2) := by decide +kernel
theorem dX7_tick_17 : decode cX7_tick 17 = .ok (.if_icmp .le 6, 3) := by decide +kernel
theorem dX7_tick_20 : decode cX7_tick 20 = .ok (.bipush (-2), 2) := by decide +kernel
theorem dX7_tick_22 : decode cX7_tick 22 = .ok (.ireturn, 1) := by decide +kernel
theorem dX7_tick_23 : decode cX7_tick 23 = .ok (.aload_n 0, 1) := by decide +kernel
theorem dX7_tick_24 : decode cX7_tick 24 = .ok (.getfield 28, 3) := by decide +kernel
theorem dX7_tick_27 : decode cX7_tick 27 = .ok (.dup, 1) := by decide +kernel
theorem dX7_tick_28 : decode cX7_tick 28 = .ok (.getfield 78, 3) := by decide +kernel
theorem dX7_tick_31 : decode cX7_tick 31 = .ok (.iload_n 1, 1) := by decide +kernel
theorem dX7_tick_32 : decode cX7_tick 32 = .ok (.iadd, 1) := by decide +kernel
theorem dX7_tick_33 : decode cX7_tick 33 = .ok (.putfield 78, 3) := by decide +kernel
theorem dX7_tick_36 : decode cX7_tick 36 = .ok (.aload_n 0, 1) := by decide +kernel
theorem dX7_tick_37 : decode cX7_tick 37 = .ok (.getfield 28, 3) := by decide +kernel
theorem dX7_tick_40 : decode cX7_tick 40 = .ok (.getfield 78, 3) := by decide +kernel
theorem dX7_tick_43 : decode cX7_tick 43 = .ok (.ireturn, 1) := by decide +kernel
theorem dX7_cut_0 : decode cX7_cut 0 = .ok (.aload_n 0, 1) := by decide +kernel
theorem dX7_cut_1 : decode cX7_cut 1 = .ok (.getfield 67, 3) := by decide +kernel
theorem dX7_cut_4 : decode cX7_cut 4 = .ok (.ifCond .eq 6, 3) := by decide +kernel
theorem dX7_cut_10 : decode cX7_cut 10 = .ok (.iload_n 1, 1) := by decide +kernel
theorem dX7_cut_11 : decode cX7_cut 11 = .ok (.ifCond .lt 20, 3) := by decide +kernel
theorem dX7_cut_14 : decode cX7_cut 14 = .ok (.iload_n 1, 1) := by decide +kernel
theorem dX7_cut_15 : decode cX7_cut 15 = .ok (.sipush 10000, 3) := by decide +kernel
theorem dX7_cut_18 : decode cX7_cut 18 = .ok (.if_icmp .gt 13, 3) := by decide +kernel
theorem dX7_cut_21 : decode cX7_cut 21 = .ok (.iload_n 2, 1) := by decide +kernel
theorem dX7_cut_22 : decode cX7_cut 22 = .ok (.ifCond .lt 9, 3) := by decide +kernel
theorem dX7_cut_25 : decode cX7_cut 25 = .ok (.iload_n 2, 1) := by decide +kernel
theorem dX7_cut_26 : decode cX7_cut 26 = .ok (.bipush 64, 2) := by decide +kernel
theorem dX7_cut_28 : decode cX7_cut 28 = .ok (.if_icmp .lt 6, 3) := by decide +kernel
theorem dX7_cut_31 : decode cX7_cut 31 = .ok (.bipush (-2), 2) := by decide +kernel
theorem dX7_cut_33 : decode cX7_cut 33 = .ok (.ireturn, 1) := by decide +kernel
theorem dX7_cut_34 : decode cX7_cut 34 = .ok (.aload_n 0, 1) := by decide +kernel
theorem dX7_cut_35 : decode cX7_cut 35 = .ok (.getfield 10, 3) := by decide +kernel
theorem dX7_cut_38 : decode cX7_cut 38 = .ok (.iload_n 1, 1) := by decide +kernel
theorem dX7_cut_39 : decode cX7_cut 39 = .ok (.iload_n 2, 1) := by decide +kernel
theorem dX7_cut_40 : decode cX7_cut 40 = .ok (.invokevirtual 121, 3) := by decide +kernel
theorem dX7_cut_43 : decode cX7_cut 43 = .ok (.iconst 1, 1) := by decide +kernel
theorem dX7_cut_44 : decode cX7_cut 44 = .ok (.ireturn, 1) := by decide +kernel
theorem dX7_start_0 : decode cX7_start 0 = .ok (.aload_n 0, 1) := by decide +kernel
theorem dX7_start_1 : decode cX7_start 1 = .ok (.getfield 10, 3) := by decide +kernel
theorem dX7_start_4 : decode cX7_start 4 = .ok (.iconst 0, 1) := by decide +kernel
theorem dX7_start_5 : decode cX7_start 5 = .ok (.iconst 0, 1) := by decide +kernel
theorem dX7_start_6 : decode cX7_start 6 = .ok (.invokevirtual 121, 3) := by decide +kernel
theorem dX7_start_9 : decode cX7_start 9 = .ok (.aload_n 0, 1) := by decide +kernel
theorem dX7_start_10 : decode cX7_start 10 = .ok (.iconst 0, 1) := by decide +kernel
theorem dX7_start_11 : decode cX7_start 11 = .ok (.putfield 67, 3) := by decide +kernel
theorem dX7_start_14 : decode cX7_start 14 = .ok (.aload_n 0, 1) := by decide +kernel
theorem dX7_start_15 : decode cX7_start 15 = .ok (.getfield 55, 3) := by decide +kernel
theorem dX7_start_18 : decode cX7_start 18 = .ok (.invokevirtual 125, 3) := by decide +kernel
theorem dX7_start_21 : decode cX7_start 21 = .ok (.aload_n 0, 1) := by decide +kernel
theorem dX7_start_22 : decode cX7_start 22 = .ok (.getfield 55, 3) := by decide +kernel
theorem dX7_start_25 : decode cX7_start 25 = .ok (.invokevirtual 128, 3) := by decide +kernel
theorem dX7_start_28 : decode cX7_start 28 = .ok (.istore_n 1, 1) := by decide +kernel
theorem dX7_start_29 : decode cX7_start 29 = .ok (.aload_n 0, 1) := by decide +kernel
theorem dX7_start_30 : decode cX7_start 30 = .ok (.getfield 55, 3) := by decide +kernel
theorem dX7_start_33 : decode cX7_start 33 = .ok (.invokevirtual 132, 3) := by decide +kernel
theorem dX7_start_36 : decode cX7_start 36 = .ok (.iload_n 1, 1) := by decide +kernel
theorem dX7_start_37 : decode cX7_start 37 = .ok (.ireturn, 1) := by decide +kernel
theorem dX7_disk_0 : decode cX7_disk 0 = .ok (.iload_n 1, 1) := by decide +kernel
theorem dX7_disk_1 : decode cX7_disk 1 = .ok (.iload_n 2, 1) := by decide +kernel
theorem dX7_disk_2 : decode cX7_disk 2 = .ok (.invokestatic 135, 3) := by decide +kernel
theorem dX7_disk_5 : decode cX7_disk 5 = .ok (.ifCond .ne 5, 3) := by decide +kernel
theorem dX7_disk_8 : decode cX7_disk 8 = .ok (.iconst (-1), 1) := by decide +kernel
theorem dX7_disk_9 : decode cX7_disk 9 = .ok (.ireturn, 1) := by decide +kernel
theorem dX7_disk_10 : decode cX7_disk 10 = .ok (.aload_n 0, 1) := by decide +kernel
theorem dX7_disk_11 : decode cX7_disk 11 = .ok (.getfield 10, 3) := by decide +kernel
theorem dX7_disk_14 : decode cX7_disk 14 = .ok (.getfield 139, 3) := by decide +kernel
theorem dX7_disk_17 : decode cX7_disk 17 = .ok (.iload_n 1, 1) := by decide +kernel
theorem dX7_disk_18 : decode cX7_disk 18 = .ok (.sipush 1024, 3) := by decide +kernel
theorem dX7_disk_21 : decode cX7_disk 21 = .ok (.imul, 1) := by decide +kernel
theorem dX7_disk_22 : decode cX7_disk 22 = .ok (.iload_n 2, 1) := by decide +kernel
theorem dX7_disk_23 : decode cX7_disk 23 = .ok (.iadd, 1) := by decide +kernel
theorem dX7_disk_24 : decode cX7_disk 24 = .ok (.iconst 1, 1) := by decide +kernel
theorem dX7_disk_25 : decode cX7_disk 25 = .ok (.invokestatic 98, 3) := by decide +kernel
theorem dX7_disk_28 : decode cX7_disk 28 = .ok (.ireturn, 1) := by decide +kernel
theorem dX7_poke_0 : decode cX7_poke 0 = .ok (.iload_n 1, 1) := by decide +kernel
theorem dX7_poke_1 : decode cX7_poke 1 = .ok (.iload_n 2, 1) := by decide +kernel
theorem dX7_poke_2 : decode cX7_poke 2 = .ok (.invokestatic 135, 3) := by decide +kernel
theorem dX7_poke_5 : decode cX7_poke 5 = .ok (.ifCond .ne 5, 3) := by decide +kernel
theorem dX7_poke_8 : decode cX7_poke 8 = .ok (.iconst (-1), 1) := by decide +kernel
theorem dX7_poke_9 : decode cX7_poke 9 = .ok (.ireturn, 1) := by decide +kernel
theorem dX7_poke_10 : decode cX7_poke 10 = .ok (.iload_n 3, 1) := by decide +kernel
theorem dX7_poke_11 : decode cX7_poke 11 = .ok (.ifCond .lt 10, 3) := by decide +kernel
theorem dX7_poke_14 : decode cX7_poke 14 = .ok (.iload_n 3, 1) := by decide +kernel
theorem dX7_poke_15 : decode cX7_poke 15 = .ok (.sipush 255, 3) := by decide +kernel
theorem dX7_poke_18 : decode cX7_poke 18 = .ok (.if_icmp .le 6, 3) := by decide +kernel
theorem dX7_poke_21 : decode cX7_poke 21 = .ok (.bipush (-2), 2) := by decide +kernel
theorem dX7_poke_23 : decode cX7_poke 23 = .ok (.ireturn, 1) := by decide +kernel
theorem dX7_poke_24 : decode cX7_poke 24 = .ok (.aload_n 0, 1) := by decide +kernel
theorem dX7_poke_25 : decode cX7_poke 25 = .ok (.getfield 10, 3) := by decide +kernel
theorem dX7_poke_28 : decode cX7_poke 28 = .ok (.iload_n 1, 1) := by decide +kernel
theorem dX7_poke_29 : decode cX7_poke 29 = .ok (.sipush 1024, 3) := by decide +kernel
theorem dX7_poke_32 : decode cX7_poke 32 = .ok (.imul, 1) := by decide +kernel
theorem dX7_poke_33 : decode cX7_poke 33 = .ok (.iload_n 2, 1) := by decide +kernel
theorem dX7_poke_34 : decode cX7_poke 34 = .ok (.iadd, 1) := by decide +kernel
theorem dX7_poke_35 : decode cX7_poke 35 = .ok (.iload_n 3, 1) := by decide +kernel
theorem dX7_poke_36 : decode cX7_poke 36 = .ok (.invokevirtual 142, 3) := by decide +kernel
theorem dX7_poke_39 : decode cX7_poke 39 = .ok (.ireturn, 1) := by decide +kernel
theorem dX7_segment_0 : decode cX7_segment 0 = .ok (.aload_n 0, 1) := by decide +kernel
theorem dX7_segment_1 : decode cX7_segment 1 = .ok (.getfield 67, 3) := by decide +kernel
theorem dX7_segment_4 : decode cX7_segment 4 = .ok (.ifCond .eq 6, 3) := by decide +kernel
theorem dX7_segment_10 : decode cX7_segment 10 = .ok (.iload_n 1, 1) := by decide +kernel
theorem dX7_segment_11 : decode cX7_segment 11 = .ok (.invokestatic 146, 3) := by decide +kernel
theorem dX7_segment_14 : decode cX7_segment 14 = .ok (.ifCond .ne 5, 3) := by decide +kernel
theorem dX7_segment_17 : decode cX7_segment 17 = .ok (.iconst (-1), 1) := by decide +kernel
theorem dX7_segment_18 : decode cX7_segment 18 = .ok (.ireturn, 1) := by decide +kernel
theorem dX7_segment_19 : decode cX7_segment 19 = .ok (.iload_n 2, 1) := by decide +kernel
theorem dX7_segment_20 : decode cX7_segment 20 = .ok (.tableswitch 113 0 3 #[32, 41, 65, 89], 32) := by decide +kernel
theorem dX7_segment_52 : decode cX7_segment 52 = .ok (.aload_n 0, 1) := by decide +kernel
theorem dX7_segment_53 : decode cX7_segment 53 = .ok (.getfield 28, 3) := by decide +kernel
theorem dX7_segment_56 : decode cX7_segment 56 = .ok (.iload_n 1, 1) := by decide +kernel
theorem dX7_segment_57 : decode cX7_segment 57 = .ok (.invokevirtual 149, 3) := by decide +kernel
theorem dX7_segment_60 : decode cX7_segment 60 = .ok (.ireturn, 1) := by decide +kernel
theorem dX7_segment_61 : decode cX7_segment 61 = .ok (.aload_n 0, 1) := by decide +kernel
theorem dX7_segment_62 : decode cX7_segment 62 = .ok (.getfield 28, 3) := by decide +kernel
theorem dX7_segment_65 : decode cX7_segment 65 = .ok (.iload_n 1, 1) := by decide +kernel
theorem dX7_segment_66 : decode cX7_segment 66 = .ok (.invokevirtual 152, 3) := by decide +kernel
theorem dX7_segment_69 : decode cX7_segment 69 = .ok (.ifCond .eq 14, 3) := by decide +kernel
theorem dX7_segment_83 : decode cX7_segment 83 = .ok (.iconst 0, 1) := by decide +kernel
theorem dX7_segment_84 : decode cX7_segment 84 = .ok (.ireturn, 1) := by decide +kernel
theorem dX7_segment_85 : decode cX7_segment 85 = .ok (.aload_n 0, 1) := by decide +kernel
theorem dX7_segment_86 : decode cX7_segment 86 = .ok (.getfield 28, 3) := by decide +kernel
theorem dX7_segment_89 : decode cX7_segment 89 = .ok (.iload_n 1, 1) := by decide +kernel
theorem dX7_segment_90 : decode cX7_segment 90 = .ok (.invokevirtual 152, 3) := by decide +kernel
theorem dX7_segment_93 : decode cX7_segment 93 = .ok (.ifCond .eq 14, 3) := by decide +kernel
theorem dX7_segment_107 : decode cX7_segment 107 = .ok (.iconst 0, 1) := by decide +kernel
theorem dX7_segment_108 : decode cX7_segment 108 = .ok (.ireturn, 1) := by decide +kernel
theorem dX7_segment_109 : decode cX7_segment 109 = .ok (.aload_n 0, 1) := by decide +kernel
theorem dX7_segment_110 : decode cX7_segment 110 = .ok (.getfield 28, 3) := by decide +kernel
theorem dX7_segment_113 : decode cX7_segment 113 = .ok (.iload_n 1, 1) := by decide +kernel
theorem dX7_segment_114 : decode cX7_segment 114 = .ok (.invokevirtual 152, 3) := by decide +kernel
theorem dX7_segment_117 : decode cX7_segment 117 = .ok (.ifCond .eq 14, 3) := by decide +kernel
theorem dX7_segment_131 : decode cX7_segment 131 = .ok (.iconst 0, 1) := by decide +kernel
theorem dX7_segment_132 : decode cX7_segment 132 = .ok (.ireturn, 1) := by decide +kernel
theorem dX7_segment_133 : decode cX7_segment 133 = .ok (.bipush (-2), 2) := by decide +kernel
theorem dX7_segment_135 : decode cX7_segment 135 = .ok (.ireturn, 1) := by decide +kernel
theorem dX7_where_0 : decode cX7_where 0 = .ok (.aload_n 0, 1) := by decide +kernel
theorem dX7_where_1 : decode cX7_where 1 = .ok (.getfield 67, 3) := by decide +kernel
theorem dX7_where_4 : decode cX7_where 4 = .ok (.ifCond .eq 6, 3) := by decide +kernel
theorem dX7_where_10 : decode cX7_where 10 = .ok (.aload_n 0, 1) := by decide +kernel
theorem dX7_where_11 : decode cX7_where 11 = .ok (.getfield 19, 3) := by decide +kernel
theorem dX7_where_14 : decode cX7_where 14 = .ok (.iload_n 1, 1) := by decide +kernel
theorem dX7_where_15 : decode cX7_where 15 = .ok (.invokevirtual 85, 3) := by decide +kernel
theorem dX7_where_18 : decode cX7_where 18 = .ok (.ifCond .ne 5, 3) := by decide +kernel
theorem dX7_where_21 : decode cX7_where 21 = .ok (.iconst (-1), 1) := by decide +kernel
theorem dX7_where_22 : decode cX7_where 22 = .ok (.ireturn, 1) := by decide +kernel
theorem dX7_told_0 : decode cX7_told 0 = .ok (.iload_n 1, 1) := by decide +kernel
theorem dX7_told_1 : decode cX7_told 1 = .ok (.ifCond .lt 9, 3) := by decide +kernel
theorem dX7_told_4 : decode cX7_told 4 = .ok (.iload_n 1, 1) := by decide +kernel
theorem dX7_told_5 : decode cX7_told 5 = .ok (.bipush 9, 2) := by decide +kernel
theorem dX7_told_7 : decode cX7_told 7 = .ok (.if_icmp .le 6, 3) := by decide +kernel
theorem dX7_told_10 : decode cX7_told 10 = .ok (.bipush (-2), 2) := by decide +kernel
theorem dX7_told_12 : decode cX7_told 12 = .ok (.ireturn, 1) := by decide +kernel
theorem dX7_told_13 : decode cX7_told 13 = .ok (.iload_n 1, 1) := by decide +kernel
theorem dX7_told_14 : decode cX7_told 14 = .ok (.bipush 9, 2) := by decide +kernel
theorem dX7_told_16 : decode cX7_told 16 = .ok (.if_icmp .ne 16, 3) := by decide +kernel
theorem dX7_told_19 : decode cX7_told 19 = .ok (.aload_n 0, 1) := by decide +kernel
theorem dX7_told_20 : decode cX7_told 20 = .ok (.getfield 67, 3) := by decide +kernel
theorem dX7_told_23 : decode cX7_told 23 = .ok (.ifCond .eq 7, 3) := by decide +kernel
theorem dX7_told_30 : decode cX7_told 30 = .ok (.iconst 0, 1) := by decide +kernel
theorem dX7_told_31 : decode cX7_told 31 = .ok (.ireturn, 1) := by decide +kernel
theorem dX7_told_32 : decode cX7_told 32 = .ok (.iload_n 1, 1) := by decide +kernel
theorem dX7_told_33 : decode cX7_told 33 = .ok (.bipush 8, 2) := by decide +kernel
theorem dX7_told_35 : decode cX7_told 35 = .ok (.if_icmp .ne 11, 3) := by decide +kernel
theorem dX7_told_38 : decode cX7_told 38 = .ok (.aload_n 0, 1) := by decide +kernel
theorem dX7_told_39 : decode cX7_told 39 = .ok (.getfield 10, 3) := by decide +kernel
theorem dX7_told_42 : decode cX7_told 42 = .ok (.getfield 176, 3) := by decide +kernel
theorem dX7_told_45 : decode cX7_told 45 = .ok (.ireturn, 1) := by decide +kernel
theorem dX7_told_46 : decode cX7_told 46 = .ok (.aload_n 0, 1) := by decide +kernel
theorem dX7_told_47 : decode cX7_told 47 = .ok (.getfield 67, 3) := by decide +kernel
theorem dX7_told_50 : decode cX7_told 50 = .ok (.ifCond .eq 7, 3) := by decide +kernel
theorem dX7_told_57 : decode cX7_told 57 = .ok (.aload_n 0, 1) := by decide +kernel
theorem dX7_told_58 : decode cX7_told 58 = .ok (.iload_n 1, 1) := by decide +kernel
theorem dX7_told_59 : decode cX7_told 59 = .ok (.invokevirtual 179, 3) := by decide +kernel
theorem dX7_told_62 : decode cX7_told 62 = .ok (.ireturn, 1) := by decide +kernel
theorem dX7_toldWhileUp_0 : decode cX7_toldWhileUp 0 = .ok (.iload_n 1, 1) := by decide +kernel
theorem dX7_toldWhileUp_1 : decode cX7_toldWhileUp 1 = .ok (.tableswitch 99 0 6 #[43, 51, 59, 67, 75, 83, 91], 43) := by decide +kernel
theorem dX7_toldWhileUp_44 : decode cX7_toldWhileUp 44 = .ok (.aload_n 0, 1) := by decide +kernel
theorem dX7_toldWhileUp_45 : decode cX7_toldWhileUp 45 = .ok (.getfield 28, 3) := by decide +kernel
theorem dX7_toldWhileUp_48 : decode cX7_toldWhileUp 48 = .ok (.getfield 182, 3) := by decide +kernel
theorem dX7_toldWhileUp_51 : decode cX7_toldWhileUp 51 = .ok (.ireturn, 1) := by decide +kernel
theorem dX7_toldWhileUp_52 : decode cX7_toldWhileUp 52 = .ok (.aload_n 0, 1) := by decide +kernel
theorem dX7_toldWhileUp_53 : decode cX7_toldWhileUp 53 = .ok (.getfield 28, 3) := by decide +kernel
theorem dX7_toldWhileUp_56 : decode cX7_toldWhileUp 56 = .ok (.getfield 78, 3) := by decide +kernel
theorem dX7_toldWhileUp_59 : decode cX7_toldWhileUp 59 = .ok (.ireturn, 1) := by decide +kernel
theorem dX7_toldWhileUp_60 : decode cX7_toldWhileUp 60 = .ok (.aload_n 0, 1) := by decide +kernel
theorem dX7_toldWhileUp_61 : decode cX7_toldWhileUp 61 = .ok (.getfield 28, 3) := by decide +kernel
theorem dX7_toldWhileUp_64 : decode cX7_toldWhileUp 64 = .ok (.getfield 185, 3) := by decide +kernel
theorem dX7_toldWhileUp_67 : decode cX7_toldWhileUp 67 = .ok (.ireturn, 1) := by decide +kernel
theorem dX7_toldWhileUp_68 : decode cX7_toldWhileUp 68 = .ok (.aload_n 0, 1) := by decide +kernel
theorem dX7_toldWhileUp_69 : decode cX7_toldWhileUp 69 = .ok (.getfield 28, 3) := by decide +kernel
theorem dX7_toldWhileUp_72 : decode cX7_toldWhileUp 72 = .ok (.getfield 188, 3) := by decide +kernel
theorem dX7_toldWhileUp_75 : decode cX7_toldWhileUp 75 = .ok (.ireturn, 1) := by decide +kernel
theorem dX7_toldWhileUp_76 : decode cX7_toldWhileUp 76 = .ok (.aload_n 0, 1) := by decide +kernel
theorem dX7_toldWhileUp_77 : decode cX7_toldWhileUp 77 = .ok (.getfield 28, 3) := by decide +kernel
theorem dX7_toldWhileUp_80 : decode cX7_toldWhileUp 80 = .ok (.invokevirtual 191, 3) := by decide +kernel
theorem dX7_toldWhileUp_83 : decode cX7_toldWhileUp 83 = .ok (.ireturn, 1) := by decide +kernel
theorem dX7_toldWhileUp_84 : decode cX7_toldWhileUp 84 = .ok (.aload_n 0, 1) := by decide +kernel
theorem dX7_toldWhileUp_85 : decode cX7_toldWhileUp 85 = .ok (.getfield 19, 3) := by decide +kernel
theorem dX7_toldWhileUp_88 : decode cX7_toldWhileUp 88 = .ok (.getfield 194, 3) := by decide +kernel
theorem dX7_toldWhileUp_91 : decode cX7_toldWhileUp 91 = .ok (.ireturn, 1) := by decide +kernel
theorem dX7_toldWhileUp_92 : decode cX7_toldWhileUp 92 = .ok (.aload_n 0, 1) := by decide +kernel
theorem dX7_toldWhileUp_93 : decode cX7_toldWhileUp 93 = .ok (.getfield 28, 3) := by decide +kernel
theorem dX7_toldWhileUp_96 : decode cX7_toldWhileUp 96 = .ok (.invokevirtual 197, 3) := by decide +kernel
theorem dX7_toldWhileUp_99 : decode cX7_toldWhileUp 99 = .ok (.ireturn, 1) := by decide +kernel
theorem dX7_toldWhileUp_100 : decode cX7_toldWhileUp 100 = .ok (.aload_n 0, 1) := by decide +kernel
theorem dX7_toldWhileUp_101 : decode cX7_toldWhileUp 101 = .ok (.getfield 46, 3) := by decide +kernel
theorem dX7_toldWhileUp_104 : decode cX7_toldWhileUp 104 = .ok (.getfield 115, 3) := by decide +kernel
theorem dX7_toldWhileUp_107 : decode cX7_toldWhileUp 107 = .ok (.ireturn, 1) := by decide +kernel
theorem dX7_isKey_0 : decode cX7_isKey 0 = .ok (.iload_n 0, 1) := by decide +kernel
theorem dX7_isKey_1 : decode cX7_isKey 1 = .ok (.ifCond .lt 14, 3) := by decide +kernel
theorem dX7_isKey_4 : decode cX7_isKey 4 = .ok (.iload_n 0, 1) := by decide +kernel
theorem dX7_isKey_5 : decode cX7_isKey 5 = .ok (.sipush 300, 3) := by decide +kernel
theorem dX7_isKey_8 : decode cX7_isKey 8 = .ok (.if_icmp .ge 7, 3) := by decide +kernel
theorem dX7_isKey_11 : decode cX7_isKey 11 = .ok (.iconst 1, 1) := by decide +kernel
theorem dX7_isKey_12 : decode cX7_isKey 12 = .ok (.goto 4, 3) := by decide +kernel
theorem dX7_isKey_15 : decode cX7_isKey 15 = .ok (.iconst 0, 1) := by decide +kernel
theorem dX7_isKey_16 : decode cX7_isKey 16 = .ok (.ireturn, 1) := by decide +kernel
theorem dX7_isOfLog_0 : decode cX7_isOfLog 0 = .ok (.iload_n 0, 1) := by decide +kernel
theorem dX7_isOfLog_1 : decode cX7_isOfLog 1 = .ok (.bipush 8, 2) := by decide +kernel
theorem dX7_isOfLog_3 : decode cX7_isOfLog 3 = .ok (.if_icmp .lt 13, 3) := by decide +kernel
theorem dX7_isOfLog_6 : decode cX7_isOfLog 6 = .ok (.iload_n 0, 1) := by decide +kernel
theorem dX7_isOfLog_7 : decode cX7_isOfLog 7 = .ok (.bipush 64, 2) := by decide +kernel
theorem dX7_isOfLog_9 : decode cX7_isOfLog 9 = .ok (.if_icmp .ge 7, 3) := by decide +kernel
theorem dX7_isOfLog_12 : decode cX7_isOfLog 12 = .ok (.iconst 1, 1) := by decide +kernel
theorem dX7_isOfLog_13 : decode cX7_isOfLog 13 = .ok (.goto 4, 3) := by decide +kernel
theorem dX7_isOfLog_16 : decode cX7_isOfLog 16 = .ok (.iconst 0, 1) := by decide +kernel
theorem dX7_isOfLog_17 : decode cX7_isOfLog 17 = .ok (.ireturn, 1) := by decide +kernel
theorem dX7_isOctet_0 : decode cX7_isOctet 0 = .ok (.iload_n 0, 1) := by decide +kernel
theorem dX7_isOctet_1 : decode cX7_isOctet 1 = .ok (.ifCond .lt 24, 3) := by decide +kernel
theorem dX7_isOctet_4 : decode cX7_isOctet 4 = .ok (.iload_n 0, 1) := by decide +kernel
theorem dX7_isOctet_5 : decode cX7_isOctet 5 = .ok (.bipush 64, 2) := by decide +kernel
theorem dX7_isOctet_7 : decode cX7_isOctet 7 = .ok (.if_icmp .ge 18, 3) := by decide +kernel
theorem dX7_isOctet_10 : decode cX7_isOctet 10 = .ok (.iload_n 1, 1) := by decide +kernel
theorem dX7_isOctet_11 : decode cX7_isOctet 11 = .ok (.ifCond .lt 14, 3) := by decide +kernel
theorem dX7_isOctet_14 : decode cX7_isOctet 14 = .ok (.iload_n 1, 1) := by decide +kernel
theorem dX7_isOctet_15 : decode cX7_isOctet 15 = .ok (.sipush 1024, 3) := by decide +kernel
theorem dX7_isOctet_18 : decode cX7_isOctet 18 = .ok (.if_icmp .ge 7, 3) := by decide +kernel
theorem dX7_isOctet_21 : decode cX7_isOctet 21 = .ok (.iconst 1, 1) := by decide +kernel
theorem dX7_isOctet_22 : decode cX7_isOctet 22 = .ok (.goto 4, 3) := by decide +kernel
theorem dX7_isOctet_25 : decode cX7_isOctet 25 = .ok (.iconst 0, 1) := by decide +kernel
theorem dX7_isOctet_26 : decode cX7_isOctet 26 = .ok (.ireturn, 1) := by decide +kernel
theorem dX8_init_0 : decode cX8_init 0 = .ok (.aload_n 0, 1) := by decide +kernel
theorem dX8_init_1 : decode cX8_init 1 = .ok (.invokespecial 1, 3) := by decide +kernel
theorem dX8_init_4 : decode cX8_init 4 = .ok (.aload_n 0, 1) := by decide +kernel
theorem dX8_init_5 : decode cX8_init 5 = .ok (.ldc 7, 2) := by decide +kernel
theorem dX8_init_7 : decode cX8_init 7 = .ok (.newarray .byte, 2) := by decide +kernel
theorem dX8_init_9 : decode cX8_init 9 = .ok (.putfield 8, 3) := by decide +kernel
theorem dX8_init_12 : decode cX8_init 12 = .ok (.aload_n 0, 1) := by decide +kernel
theorem dX8_init_13 : decode cX8_init 13 = .ok (.ldc 7, 2) := by decide +kernel
theorem dX8_init_15 : decode cX8_init 15 = .ok (.newarray .byte, 2) := by decide +kernel
theorem dX8_init_17 : decode cX8_init 17 = .ok (.putfield 14, 3) := by decide +kernel
theorem dX8_init_20 : decode cX8_init 20 = .ok (.aload_n 0, 1) := by decide +kernel
theorem dX8_init_21 : decode cX8_init 21 = .ok (.ldc 7, 2) := by decide +kernel
theorem dX8_init_23 : decode cX8_init 23 = .ok (.newarray .boolean, 2) := by decide +kernel
theorem dX8_init_25 : decode cX8_init 25 = .ok (.putfield 17, 3) := by decide +kernel
theorem dX8_init_28 : decode cX8_init 28 = .ok (.aload_n 0, 1) := by decide +kernel
theorem dX8_init_29 : decode cX8_init 29 = .ok (.bipush 64, 2) := by decide +kernel
theorem dX8_init_31 : decode cX8_init 31 = .ok (.newarray .int, 2) := by decide +kernel
theorem dX8_init_33 : decode cX8_init 33 = .ok (.putfield 21, 3) := by decide +kernel
theorem dX8_init_36 : decode cX8_init 36 = .ok (.aload_n 0, 1) := by decide +kernel
theorem dX8_init_37 : decode cX8_init 37 = .ok (.iconst 1, 1) := by decide +kernel
theorem dX8_init_38 : decode cX8_init 38 = .ok (.putfield 25, 3) := by decide +kernel
theorem dX8_init_41 : decode cX8_init 41 = .ok (.aload_n 0, 1) := by decide +kernel
theorem dX8_init_42 : decode cX8_init 42 = .ok (.sipush 300, 3) := by decide +kernel
theorem dX8_init_45 : decode cX8_init 45 = .ok (.newarray .int, 2) := by decide +kernel
theorem dX8_init_47 : decode cX8_init 47 = .ok (.putfield 29, 3) := by decide +kernel
theorem dX8_init_50 : decode cX8_init 50 = .ok (.aload_n 0, 1) := by decide +kernel
theorem dX8_init_51 : decode cX8_init 51 = .ok (.sipush 300, 3) := by decide +kernel
theorem dX8_init_54 : decode cX8_init 54 = .ok (.newarray .int, 2) := by decide +kernel
theorem dX8_init_56 : decode cX8_init 56 = .ok (.putfield 32, 3) := by decide +kernel
theorem dX8_init_59 : decode cX8_init 59 = .ok (.aload_n 0, 1) := by decide +kernel
theorem dX8_init_60 : decode cX8_init 60 = .ok (.sipush 128, 3) := by decide +kernel
theorem dX8_init_63 : decode cX8_init 63 = .ok (.newarray .int, 2) := by decide +kernel
theorem dX8_init_65 : decode cX8_init 65 = .ok (.putfield 35, 3) := by decide +kernel
theorem dX8_init_68 : decode cX8_init 68 = .ok (.aload_n 0, 1) := by decide +kernel
theorem dX8_init_69 : decode cX8_init 69 = .ok (.sipush 128, 3) := by decide +kernel
theorem dX8_init_72 : decode cX8_init 72 = .ok (.newarray .int, 2) := by decide +kernel
theorem dX8_init_74 : decode cX8_init 74 = .ok (.putfield 38, 3) := by decide +kernel
theorem dX8_init_77 : decode cX8_init 77 = .ok (.aload_n 0, 1) := by decide +kernel
theorem dX8_init_78 : decode cX8_init 78 = .ok (.sipush 128, 3) := by decide +kernel
theorem dX8_init_81 : decode cX8_init 81 = .ok (.newarray .int, 2) := by decide +kernel
theorem dX8_init_83 : decode cX8_init 83 = .ok (.putfield 41, 3) := by decide +kernel
theorem dX8_init_86 : decode cX8_init 86 = .ok (.aload_n 0, 1) := by decide +kernel
theorem dX8_init_87 : decode cX8_init 87 = .ok (.bipush 100, 2) := by decide +kernel
theorem dX8_init_89 : decode cX8_init 89 = .ok (.newarray .byte, 2) := by decide +kernel
theorem dX8_init_91 : decode cX8_init 91 = .ok (.putfield 44, 3) := by decide +kernel
theorem dX8_init_94 : decode cX8_init 94 = .ok (.aload_n 0, 1) := by decide +kernel
theorem dX8_init_95 : decode cX8_init 95 = .ok (.sipush 4096, 3) := by decide +kernel
theorem dX8_init_98 : decode cX8_init 98 = .ok (.newarray .byte, 2) := by decide +kernel
theorem dX8_init_100 : decode cX8_init 100 = .ok (.putfield 47, 3) := by decide +kernel
theorem dX8_init_103 : decode cX8_init 103 = .ok (.aload_n 0, 1) := by decide +kernel
theorem dX8_init_104 : decode cX8_init 104 = .ok (.bipush 64, 2) := by decide +kernel
theorem dX8_init_106 : decode cX8_init 106 = .ok (.newarray .int, 2) := by decide +kernel
theorem dX8_init_108 : decode cX8_init 108 = .ok (.putfield 50, 3) := by decide +kernel
theorem dX8_init_111 : decode cX8_init 111 = .ok (.aload_n 0, 1) := by decide +kernel
theorem dX8_init_112 : decode cX8_init 112 = .ok (.bipush 100, 2) := by decide +kernel
theorem dX8_init_114 : decode cX8_init 114 = .ok (.newarray .byte, 2) := by decide +kernel
theorem dX8_init_116 : decode cX8_init 116 = .ok (.putfield 53, 3) := by decide +kernel
theorem dX8_init_119 : decode cX8_init 119 = .ok (.aload_n 0, 1) := by decide +kernel
theorem dX8_init_120 : decode cX8_init 120 = .ok (.bipush 64, 2) := by decide +kernel
theorem dX8_init_122 : decode cX8_init 122 = .ok (.newarray .boolean, 2) := by decide +kernel
theorem dX8_init_124 : decode cX8_init 124 = .ok (.putfield 56, 3) := by decide +kernel
theorem dX8_init_127 : decode cX8_init 127 = .ok (.aload_n 0, 1) := by decide +kernel
theorem dX8_init_128 : decode cX8_init 128 = .ok (.sipush 300, 3) := by decide +kernel
theorem dX8_init_131 : decode cX8_init 131 = .ok (.newarray .int, 2) := by decide +kernel
theorem dX8_init_133 : decode cX8_init 133 = .ok (.putfield 59, 3) := by decide +kernel
theorem dX8_init_136 : decode cX8_init 136 = .ok (.aload_n 0, 1) := by decide +kernel
theorem dX8_init_137 : decode cX8_init 137 = .ok (.iconst 0, 1) := by decide +kernel
theorem dX8_init_138 : decode cX8_init 138 = .ok (.putfield 62, 3) := by decide +kernel
theorem dX8_init_141 : decode cX8_init 141 = .ok (.return_, 1) := by decide +kernel
theorem dX8_in_0 : decode cX8_in 0 = .ok (.iload_n 0, 1) := by decide +kernel
theorem dX8_in_1 : decode cX8_in 1 = .ok (.iload_n 1, 1) := by decide +kernel
theorem dX8_in_2 : decode cX8_in 2 = .ok (.if_icmp .lt 12, 3) := by decide +kernel
theorem dX8_in_5 : decode cX8_in 5 = .ok (.iload_n 0, 1) := by decide +kernel
theorem dX8_in_6 : decode cX8_in 6 = .ok (.iload_n 2, 1) := by decide +kernel
theorem dX8_in_7 : decode cX8_in 7 = .ok (.if_icmp .gt 7, 3) := by decide +kernel
theorem dX8_in_10 : decode cX8_in 10 = .ok (.iconst 1, 1) := by decide +kernel
theorem dX8_in_11 : decode cX8_in 11 = .ok (.goto 4, 3) := by decide +kernel
theorem dX8_in_14 : decode cX8_in 14 = .ok (.iconst 0, 1) := by decide +kernel
theorem dX8_in_15 : decode cX8_in 15 = .ok (.ireturn, 1) := by decide +kernel
theorem dX8_sum_0 : decode cX8_sum 0 = .ok (.iconst 0, 1) := by decide +kernel
theorem dX8_sum_1 : decode cX8_sum 1 = .ok (.istore_n 3, 1) := by decide +kernel
theorem dX8_sum_2 : decode cX8_sum 2 = .ok (.iconst 0, 1) := by decide +kernel
theorem dX8_sum_3 : decode cX8_sum 3 = .ok (.istore 4, 2) := by decide +kernel
theorem dX8_sum_5 : decode cX8_sum 5 = .ok (.iload 4, 2) := by decide +kernel
theorem dX8_sum_7 : decode cX8_sum 7 = .ok (.iload_n 2, 1) := by decide +kernel
theorem dX8_sum_8 : decode cX8_sum 8 = .ok (.if_icmp .ge 37, 3) := by decide +kernel
theorem dX8_sum_11 : decode cX8_sum 11 = .ok (.iload_n 3, 1) := by decide +kernel
theorem dX8_sum_12 : decode cX8_sum 12 = .ok (.aload_n 0, 1) := by decide +kernel
theorem dX8_sum_13 : decode cX8_sum 13 = .ok (.iload_n 1, 1) := by decide +kernel
theorem dX8_sum_14 : decode cX8_sum 14 = .ok (.iload 4, 2) := by decide +kernel
theorem dX8_sum_16 : decode cX8_sum 16 = .ok (.iadd, 1) := by decide +kernel
theorem dX8_sum_17 : decode cX8_sum 17 = .ok (.baload, 1) := by decide +kernel
theorem dX8_sum_18 : decode cX8_sum 18 = .ok (.sipush 255, 3) := by decide +kernel
theorem dX8_sum_21 : decode cX8_sum 21 = .ok (.iand, 1) := by decide +kernel
theorem dX8_sum_22 : decode cX8_sum 22 = .ok (.ixor, 1) := by decide +kernel
theorem dX8_sum_23 : decode cX8_sum 23 = .ok (.istore 5, 2) := by decide +kernel
theorem dX8_sum_25 : decode cX8_sum 25 = .ok (.iload 5, 2) := by decide +kernel
theorem dX8_sum_27 : decode cX8_sum 27 = .ok (.iconst 5, 1) := by decide +kernel
theorem dX8_sum_28 : decode cX8_sum 28 = .ok (.ishl, 1) := by decide +kernel
theorem dX8_sum_29 : decode cX8_sum 29 = .ok (.iload 5, 2) := by decide +kernel
theorem dX8_sum_31 : decode cX8_sum 31 = .ok (.bipush 27, 2) := by decide +kernel
theorem dX8_sum_33 : decode cX8_sum 33 = .ok (.iushr, 1) := by decide +kernel
theorem dX8_sum_34 : decode cX8_sum 34 = .ok (.ior, 1) := by decide +kernel
theorem dX8_sum_35 : decode cX8_sum 35 = .ok (.ldc 68, 2) := by decide +kernel
theorem dX8_sum_37 : decode cX8_sum 37 = .ok (.imul, 1) := by decide +kernel
theorem dX8_sum_38 : decode cX8_sum 38 = .ok (.istore_n 3, 1) := by decide +kernel
theorem dX8_sum_39 : decode cX8_sum 39 = .ok (.iinc 4 1, 3) := by decide +kernel
theorem dX8_sum_42 : decode cX8_sum 42 = .ok (.goto (-37), 3) := by decide +kernel
theorem dX8_sum_45 : decode cX8_sum 45 = .ok (.iload_n 3, 1) := by decide +kernel
theorem dX8_sum_46 : decode cX8_sum 46 = .ok (.ireturn, 1) := by decide +kernel
theorem dX8_number_0 : decode cX8_number 0 = .ok (.iconst 0, 1) := by decide +kernel
theorem dX8_number_1 : decode cX8_number 1 = .ok (.istore_n 3, 1) := by decide +kernel
theorem dX8_number_2 : decode cX8_number 2 = .ok (.iconst 0, 1) := by decide +kernel
theorem dX8_number_3 : decode cX8_number 3 = .ok (.istore 4, 2) := by decide +kernel
theorem dX8_number_5 : decode cX8_number 5 = .ok (.iload 4, 2) := by decide +kernel
theorem dX8_number_7 : decode cX8_number 7 = .ok (.iload_n 2, 1) := by decide +kernel
theorem dX8_number_8 : decode cX8_number 8 = .ok (.if_icmp .ge 25, 3) := by decide +kernel
theorem dX8_number_11 : decode cX8_number 11 = .ok (.iload_n 3, 1) := by decide +kernel
theorem dX8_number_12 : decode cX8_number 12 = .ok (.bipush 8, 2) := by decide +kernel
theorem dX8_number_14 : decode cX8_number 14 = .ok (.ishl, 1) := by decide +kernel
theorem dX8_number_15 : decode cX8_number 15 = .ok (.aload_n 0, 1) := by decide +kernel
theorem dX8_number_16 : decode cX8_number 16 = .ok (.iload_n 1, 1) := by decide +kernel
theorem dX8_number_17 : decode cX8_number 17 = .ok (.iload 4, 2) := by decide +kernel
theorem dX8_number_19 : decode cX8_number 19 = .ok (.iadd, 1) := by decide +kernel
theorem dX8_number_20 : decode cX8_number 20 = .ok (.baload, 1) := by decide +kernel
theorem dX8_number_21 : decode cX8_number 21 = .ok (.sipush 255, 3) := by decide +kernel
theorem dX8_number_24 : decode cX8_number 24 = .ok (.iand, 1) := by decide +kernel
theorem dX8_number_25 : decode cX8_number 25 = .ok (.ior, 1) := by decide +kernel
theorem dX8_number_26 : decode cX8_number 26 = .ok (.istore_n 3, 1) := by decide +kernel
theorem dX8_number_27 : decode cX8_number 27 = .ok (.iinc 4 1, 3) := by decide +kernel
theorem dX8_number_30 : decode cX8_number 30 = .ok (.goto (-25), 3) := by decide +kernel
theorem dX8_number_33 : decode cX8_number 33 = .ok (.iload_n 3, 1) := by decide +kernel
theorem dX8_number_34 : decode cX8_number 34 = .ok (.ireturn, 1) := by decide +kernel
theorem dX8_octets_0 : decode cX8_octets 0 = .ok (.iload_n 2, 1) := by decide +kernel
theorem dX8_octets_1 : decode cX8_octets 1 = .ok (.iconst 1, 1) := by decide +kernel
theorem dX8_octets_2 : decode cX8_octets 2 = .ok (.isub, 1) := by decide +kernel
theorem dX8_octets_3 : decode cX8_octets 3 = .ok (.istore_n 3, 1) := by decide +kernel
theorem dX8_octets_4 : decode cX8_octets 4 = .ok (.iload_n 3, 1) := by decide +kernel
theorem dX8_octets_5 : decode cX8_octets 5 = .ok (.ifCond .lt 35, 3) := by decide +kernel
theorem dX8_octets_8 : decode cX8_octets 8 = .ok (.aload_n 0, 1) := by decide +kernel
theorem dX8_octets_9 : decode cX8_octets 9 = .ok (.getfield 47, 3) := by decide +kernel
theorem dX8_octets_12 : decode cX8_octets 12 = .ok (.aload_n 0, 1) := by decide +kernel
theorem dX8_octets_13 : decode cX8_octets 13 = .ok (.getfield 69, 3) := by decide +kernel
theorem dX8_octets_16 : decode cX8_octets 16 = .ok (.iload_n 1, 1) := by decide +kernel
theorem dX8_octets_17 : decode cX8_octets 17 = .ok (.bipush 8, 2) := by decide +kernel
theorem dX8_octets_19 : decode cX8_octets 19 = .ok (.iload_n 3, 1) := by decide +kernel
theorem dX8_octets_20 : decode cX8_octets 20 = .ok (.imul, 1) := by decide +kernel
theorem dX8_octets_21 : decode cX8_octets 21 = .ok (.ishr, 1) := by decide +kernel
theorem dX8_octets_22 : decode cX8_octets 22 = .ok (.i2b, 1) := by decide +kernel
theorem dX8_octets_23 : decode cX8_octets 23 = .ok (.bastore, 1) := by decide +kernel
theorem dX8_octets_24 : decode cX8_octets 24 = .ok (.aload_n 0, 1) := by decide +kernel
theorem dX8_octets_25 : decode cX8_octets 25 = .ok (.dup, 1) := by decide +kernel
theorem dX8_octets_26 : decode cX8_octets 26 = .ok (.getfield 69, 3) := by decide +kernel
theorem dX8_octets_29 : decode cX8_octets 29 = .ok (.iconst 1, 1) := by decide +kernel
theorem dX8_octets_30 : decode cX8_octets 30 = .ok (.iadd, 1) := by decide +kernel
theorem dX8_octets_31 : decode cX8_octets 31 = .ok (.putfield 69, 3) := by decide +kernel
theorem dX8_octets_34 : decode cX8_octets 34 = .ok (.iinc 3 (-1), 3) := by decide +kernel
theorem dX8_octets_37 : decode cX8_octets 37 = .ok (.goto (-33), 3) := by decide +kernel
theorem dX8_octets_40 : decode cX8_octets 40 = .ok (.return_, 1) := by decide +kernel
theorem dX8_at_0 : decode cX8_at 0 = .ok (.sipush 1024, 3) := by decide +kernel
theorem dX8_at_3 : decode cX8_at 3 = .ok (.iload_n 0, 1) := by decide +kernel
theorem dX8_at_4 : decode cX8_at 4 = .ok (.imul, 1) := by decide +kernel
theorem dX8_at_5 : decode cX8_at 5 = .ok (.iload_n 1, 1) := by decide +kernel
theorem dX8_at_6 : decode cX8_at 6 = .ok (.iadd, 1) := by decide +kernel
theorem dX8_at_7 : decode cX8_at 7 = .ok (.ireturn, 1) := by decide +kernel
theorem dX8_frees_0 : decode cX8_frees 0 = .ok (.iconst 0, 1) := by decide +kernel
theorem dX8_frees_1 : decode cX8_frees 1 = .ok (.istore_n 1, 1) := by decide +kernel
theorem dX8_frees_2 : decode cX8_frees 2 = .ok (.bipush 8, 2) := by decide +kernel
theorem dX8_frees_4 : decode cX8_frees 4 = .ok (.istore_n 2, 1) := by decide +kernel
theorem dX8_frees_5 : decode cX8_frees 5 = .ok (.iload_n 2, 1) := by decide +kernel
theorem dX8_frees_6 : decode cX8_frees 6 = .ok (.bipush 64, 2) := by decide +kernel
theorem dX8_frees_8 : decode cX8_frees 8 = .ok (.if_icmp .ge 26, 3) := by decide +kernel
theorem dX8_frees_11 : decode cX8_frees 11 = .ok (.iload_n 1, 1) := by decide +kernel
theorem dX8_frees_12 : decode cX8_frees 12 = .ok (.aload_n 0, 1) := by decide +kernel
theorem dX8_frees_13 : decode cX8_frees 13 = .ok (.getfield 21, 3) := by decide +kernel
theorem dX8_frees_16 : decode cX8_frees 16 = .ok (.iload_n 2, 1) := by decide +kernel
theorem dX8_frees_17 : decode cX8_frees 17 = .ok (.iaload, 1) := by decide +kernel
theorem dX8_frees_18 : decode cX8_frees 18 = .ok (.ifCond .ne 7, 3) := by decide +kernel
theorem dX8_frees_21 : decode cX8_frees 21 = .ok (.iconst 1, 1) := by decide +kernel
theorem dX8_frees_22 : decode cX8_frees 22 = .ok (.goto 4, 3) := by decide +kernel
theorem dX8_frees_26 : decode cX8_frees 26 = .ok (.iadd, 1) := by decide +kernel
theorem dX8_frees_27 : decode cX8_frees 27 = .ok (.istore_n 1, 1) := by decide +kernel
theorem dX8_frees_28 : decode cX8_frees 28 = .ok (.iinc 2 1, 3) := by decide +kernel
theorem dX8_frees_31 : decode cX8_frees 31 = .ok (.goto (-26), 3) := by decide +kernel
theorem dX8_frees_34 : decode cX8_frees 34 = .ok (.iload_n 1, 1) := by decide +kernel
theorem dX8_frees_35 : decode cX8_frees 35 = .ok (.ireturn, 1) := by decide +kernel
theorem dX8_came_0 : decode cX8_came 0 = .ok (.aload_n 0, 1) := by decide +kernel
theorem dX8_came_1 : decode cX8_came 1 = .ok (.getfield 104, 3) := by decide +kernel
theorem dX8_came_4 : decode cX8_came 4 = .ok (.ifCond .le 31, 3) := by decide +kernel
theorem dX8_came_7 : decode cX8_came 7 = .ok (.aload_n 0, 1) := by decide +kernel
theorem dX8_came_8 : decode cX8_came 8 = .ok (.getfield 35, 3) := by decide +kernel
theorem dX8_came_11 : decode cX8_came 11 = .ok (.aload_n 0, 1) := by decide +kernel
theorem dX8_came_12 : decode cX8_came 12 = .ok (.getfield 104, 3) := by decide +kernel
theorem dX8_came_15 : decode cX8_came 15 = .ok (.iconst 1, 1) := by decide +kernel
theorem dX8_came_16 : decode cX8_came 16 = .ok (.isub, 1) := by decide +kernel
theorem dX8_came_17 : decode cX8_came 17 = .ok (.iaload, 1) := by decide +kernel
theorem dX8_came_18 : decode cX8_came 18 = .ok (.iload_n 1, 1) := by decide +kernel
theorem dX8_came_19 : decode cX8_came 19 = .ok (.if_icmp .ne 16, 3) := by decide +kernel
theorem dX8_came_22 : decode cX8_came 22 = .ok (.aload_n 0, 1) := by decide +kernel
theorem dX8_came_23 : decode cX8_came 23 = .ok (.getfield 41, 3) := by decide +kernel
theorem dX8_came_26 : decode cX8_came 26 = .ok (.aload_n 0, 1) := by decide +kernel
theorem dX8_came_27 : decode cX8_came 27 = .ok (.getfield 104, 3) := by decide +kernel
theorem dX8_came_30 : decode cX8_came 30 = .ok (.iconst 1, 1) := by decide +kernel
theorem dX8_came_31 : decode cX8_came 31 = .ok (.isub, 1) := by decide +kernel
theorem dX8_came_32 : decode cX8_came 32 = .ok (.iload_n 3, 1) := by decide +kernel
theorem dX8_came_33 : decode cX8_came 33 = .ok (.iastore, 1) := by decide +kernel
theorem dX8_came_34 : decode cX8_came 34 = .ok (.return_, 1) := by decide +kernel
theorem dX8_came_35 : decode cX8_came 35 = .ok (.aload_n 0, 1) := by decide +kernel
theorem dX8_came_36 : decode cX8_came 36 = .ok (.getfield 35, 3) := by decide +kernel
theorem dX8_came_39 : decode cX8_came 39 = .ok (.aload_n 0, 1) := by decide +kernel
theorem dX8_came_40 : decode cX8_came 40 = .ok (.getfield 104, 3) := by decide +kernel
theorem dX8_came_43 : decode cX8_came 43 = .ok (.iload_n 1, 1) := by decide +kernel
theorem dX8_came_44 : decode cX8_came 44 = .ok (.iastore, 1) := by decide +kernel
theorem dX8_came_45 : decode cX8_came 45 = .ok (.aload_n 0, 1) := by decide +kernel
theorem dX8_came_46 : decode cX8_came 46 = .ok (.getfield 38, 3) := by decide +kernel
theorem dX8_came_49 : decode cX8_came 49 = .ok (.aload_n 0, 1) := by decide +kernel
theorem dX8_came_50 : decode cX8_came 50 = .ok (.getfield 104, 3) := by decide +kernel
theorem dX8_came_53 : decode cX8_came 53 = .ok (.iload_n 2, 1) := by decide +kernel
theorem dX8_came_54 : decode cX8_came 54 = .ok (.iastore, 1) := by decide +kernel
theorem dX8_came_55 : decode cX8_came 55 = .ok (.aload_n 0, 1) := by decide +kernel
theorem dX8_came_56 : decode cX8_came 56 = .ok (.getfield 41, 3) := by decide +kernel
theorem dX8_came_59 : decode cX8_came 59 = .ok (.aload_n 0, 1) := by decide +kernel
theorem dX8_came_60 : decode cX8_came 60 = .ok (.getfield 104, 3) := by decide +kernel
theorem dX8_came_63 : decode cX8_came 63 = .ok (.iload_n 3, 1) := by decide +kernel
theorem dX8_came_64 : decode cX8_came 64 = .ok (.iastore, 1) := by decide +kernel
theorem dX8_came_65 : decode cX8_came 65 = .ok (.aload_n 0, 1) := by decide +kernel
theorem dX8_came_66 : decode cX8_came 66 = .ok (.dup, 1) := by decide +kernel
theorem dX8_came_67 : decode cX8_came 67 = .ok (.getfield 104, 3) := by decide +kernel
theorem dX8_came_70 : decode cX8_came 70 = .ok (.iconst 1, 1) := by decide +kernel
theorem dX8_came_71 : decode cX8_came 71 = .ok (.iadd, 1) := by decide +kernel
theorem dX8_came_72 : decode cX8_came 72 = .ok (.putfield 104, 3) := by decide +kernel
theorem dX8_came_75 : decode cX8_came 75 = .ok (.return_, 1) := by decide +kernel
theorem dX8_openNext_0 : decode cX8_openNext 0 = .ok (.bipush 8, 2) := by decide +kernel
theorem dX8_openNext_2 : decode cX8_openNext 2 = .ok (.istore_n 1, 1) := by decide +kernel
theorem dX8_openNext_3 : decode cX8_openNext 3 = .ok (.aload_n 0, 1) := by decide +kernel
theorem dX8_openNext_4 : decode cX8_openNext 4 = .ok (.getfield 21, 3) := by decide +kernel
theorem dX8_openNext_7 : decode cX8_openNext 7 = .ok (.iload_n 1, 1) := by decide +kernel
theorem dX8_openNext_8 : decode cX8_openNext 8 = .ok (.iaload, 1) := by decide +kernel
theorem dX8_openNext_9 : decode cX8_openNext 9 = .ok (.ifCond .eq 9, 3) := by decide +kernel
theorem dX8_openNext_18 : decode cX8_openNext 18 = .ok (.aload_n 0, 1) := by decide +kernel
theorem dX8_openNext_19 : decode cX8_openNext 19 = .ok (.getfield 87, 3) := by decide +kernel
theorem dX8_openNext_22 : decode cX8_openNext 22 = .ok (.ifCond .le 13, 3) := by decide +kernel
theorem dX8_openNext_35 : decode cX8_openNext 35 = .ok (.aload_n 0, 1) := by decide +kernel
theorem dX8_openNext_36 : decode cX8_openNext 36 = .ok (.getfield 21, 3) := by decide +kernel
theorem dX8_openNext_39 : decode cX8_openNext 39 = .ok (.iload_n 1, 1) := by decide +kernel
theorem dX8_openNext_40 : decode cX8_openNext 40 = .ok (.iconst 2, 1) := by decide +kernel
theorem dX8_openNext_41 : decode cX8_openNext 41 = .ok (.iastore, 1) := by decide +kernel
theorem dX8_openNext_42 : decode cX8_openNext 42 = .ok (.aload_n 0, 1) := by decide +kernel
theorem dX8_openNext_43 : decode cX8_openNext 43 = .ok (.iload_n 1, 1) := by decide +kernel
theorem dX8_openNext_44 : decode cX8_openNext 44 = .ok (.putfield 87, 3) := by decide +kernel
theorem dX8_openNext_47 : decode cX8_openNext 47 = .ok (.aload_n 0, 1) := by decide +kernel
theorem dX8_openNext_48 : decode cX8_openNext 48 = .ok (.dup, 1) := by decide +kernel
theorem dX8_openNext_49 : decode cX8_openNext 49 = .ok (.getfield 107, 3) := by decide +kernel
theorem dX8_openNext_52 : decode cX8_openNext 52 = .ok (.iconst 1, 1) := by decide +kernel
theorem dX8_openNext_53 : decode cX8_openNext 53 = .ok (.iadd, 1) := by decide +kernel
theorem dX8_openNext_54 : decode cX8_openNext 54 = .ok (.putfield 107, 3) := by decide +kernel
theorem dX8_openNext_57 : decode cX8_openNext 57 = .ok (.iconst 0, 1) := by decide +kernel
theorem dX8_openNext_58 : decode cX8_openNext 58 = .ok (.istore_n 2, 1) := by decide +kernel
theorem dX8_openNext_59 : decode cX8_openNext 59 = .ok (.iload_n 2, 1) := by decide +kernel
theorem dX8_openNext_60 : decode cX8_openNext 60 = .ok (.sipush 1024, 3) := by decide +kernel
theorem dX8_openNext_63 : decode cX8_openNext 63 = .ok (.if_icmp .ge 20, 3) := by decide +kernel
theorem dX8_openNext_66 : decode cX8_openNext 66 = .ok (.aload_n 0, 1) := by decide +kernel
theorem dX8_openNext_67 : decode cX8_openNext 67 = .ok (.getfield 14, 3) := by decide +kernel
theorem dX8_openNext_70 : decode cX8_openNext 70 = .ok (.iload_n 1, 1) := by decide +kernel
theorem dX8_openNext_71 : decode cX8_openNext 71 = .ok (.iload_n 2, 1) := by decide +kernel
theorem dX8_openNext_72 : decode cX8_openNext 72 = .ok (.invokestatic 72, 3) := by decide +kernel
theorem dX8_openNext_75 : decode cX8_openNext 75 = .ok (.iconst 0, 1) := by decide +kernel
theorem dX8_openNext_76 : decode cX8_openNext 76 = .ok (.bastore, 1) := by decide +kernel
theorem dX8_openNext_77 : decode cX8_openNext 77 = .ok (.iinc 2 1, 3) := by decide +kernel
theorem dX8_openNext_80 : decode cX8_openNext 80 = .ok (.goto (-21), 3) := by decide +kernel
theorem dX8_openNext_83 : decode cX8_openNext 83 = .ok (.aload_n 0, 1) := by decide +kernel
theorem dX8_openNext_84 : decode cX8_openNext 84 = .ok (.iconst 0, 1) := by decide +kernel
theorem dX8_openNext_85 : decode cX8_openNext 85 = .ok (.putfield 69, 3) := by decide +kernel
theorem dX8_openNext_88 : decode cX8_openNext 88 = .ok (.aload_n 0, 1) := by decide +kernel
theorem dX8_openNext_89 : decode cX8_openNext 89 = .ok (.bipush 76, 2) := by decide +kernel
theorem dX8_openNext_91 : decode cX8_openNext 91 = .ok (.iconst 1, 1) := by decide +kernel
theorem dX8_openNext_92 : decode cX8_openNext 92 = .ok (.invokevirtual 110, 3) := by decide +kernel
theorem dX8_openNext_95 : decode cX8_openNext 95 = .ok (.aload_n 0, 1) := by decide +kernel
theorem dX8_openNext_96 : decode cX8_openNext 96 = .ok (.bipush 71, 2) := by decide +kernel
theorem dX8_openNext_98 : decode cX8_openNext 98 = .ok (.iconst 1, 1) := by decide +kernel
theorem dX8_openNext_99 : decode cX8_openNext 99 = .ok (.invokevirtual 110, 3) := by decide +kernel
theorem dX8_openNext_102 : decode cX8_openNext 102 = .ok (.aload_n 0, 1) := by decide +kernel
theorem dX8_openNext_103 : decode cX8_openNext 103 = .ok (.aload_n 0, 1) := by decide +kernel
theorem dX8_openNext_104 : decode cX8_openNext 104 = .ok (.getfield 107, 3) := by decide +kernel
theorem dX8_openNext_107 : decode cX8_openNext 107 = .ok (.iconst 4, 1) := by decide +kernel
theorem dX8_openNext_108 : decode cX8_openNext 108 = .ok (.invokevirtual 110, 3) := by decide +kernel
theorem dX8_openNext_111 : decode cX8_openNext 111 = .ok (.aload_n 0, 1) := by decide +kernel
theorem dX8_openNext_112 : decode cX8_openNext 112 = .ok (.aload_n 0, 1) := by decide +kernel
theorem dX8_openNext_113 : decode cX8_openNext 113 = .ok (.getfield 47, 3) := by decide +kernel
theorem dX8_openNext_116 : decode cX8_openNext 116 = .ok (.iconst 0, 1) := by decide +kernel
theorem dX8_openNext_117 : decode cX8_openNext 117 = .ok (.bipush 6, 2) := by decide +kernel
theorem dX8_openNext_119 : decode cX8_openNext 119 = .ok (.invokestatic 84, 3) := by decide +kernel
theorem dX8_openNext_122 : decode cX8_openNext 122 = .ok (.iconst 4, 1) := by decide +kernel
theorem dX8_openNext_123 : decode cX8_openNext 123 = .ok (.invokevirtual 110, 3) := by decide +kernel
theorem dX8_openNext_126 : decode cX8_openNext 126 = .ok (.iconst 0, 1) := by decide +kernel
theorem dX8_openNext_127 : decode cX8_openNext 127 = .ok (.istore_n 2, 1) := by decide +kernel
theorem dX8_openNext_128 : decode cX8_openNext 128 = .ok (.iload_n 2, 1) := by decide +kernel
theorem dX8_openNext_129 : decode cX8_openNext 129 = .ok (.bipush 10, 2) := by decide +kernel
theorem dX8_openNext_131 : decode cX8_openNext 131 = .ok (.if_icmp .ge 25, 3) := by decide +kernel
theorem dX8_openNext_134 : decode cX8_openNext 134 = .ok (.aload_n 0, 1) := by decide +kernel
theorem dX8_openNext_135 : decode cX8_openNext 135 = .ok (.getfield 14, 3) := by decide +kernel
theorem dX8_openNext_138 : decode cX8_openNext 138 = .ok (.iload_n 1, 1) := by decide +kernel
theorem dX8_openNext_139 : decode cX8_openNext 139 = .ok (.iload_n 2, 1) := by decide +kernel
theorem dX8_openNext_140 : decode cX8_openNext 140 = .ok (.invokestatic 72, 3) := by decide +kernel
theorem dX8_openNext_143 : decode cX8_openNext 143 = .ok (.aload_n 0, 1) := by decide +kernel
theorem dX8_openNext_144 : decode cX8_openNext 144 = .ok (.getfield 47, 3) := by decide +kernel
theorem dX8_openNext_147 : decode cX8_openNext 147 = .ok (.iload_n 2, 1) := by decide +kernel
theorem dX8_openNext_148 : decode cX8_openNext 148 = .ok (.baload, 1) := by decide +kernel
theorem dX8_openNext_149 : decode cX8_openNext 149 = .ok (.bastore, 1) := by decide +kernel
theorem dX8_openNext_150 : decode cX8_openNext 150 = .ok (.iinc 2 1, 3) := by decide +kernel
theorem dX8_openNext_153 : decode cX8_openNext 153 = .ok (.goto (-25), 3) := by decide +kernel
theorem dX8_openNext_156 : decode cX8_openNext 156 = .ok (.aload_n 0, 1) := by decide +kernel
theorem dX8_openNext_157 : decode cX8_openNext 157 = .ok (.bipush 10, 2) := by decide +kernel
theorem dX8_openNext_159 : decode cX8_openNext 159 = .ok (.putfield 90, 3) := by decide +kernel
theorem dX8_openNext_162 : decode cX8_openNext 162 = .ok (.aload_n 0, 1) := by decide +kernel
theorem dX8_openNext_163 : decode cX8_openNext 163 = .ok (.getfield 50, 3) := by decide +kernel
theorem dX8_openNext_166 : decode cX8_openNext 166 = .ok (.iload_n 1, 1) := by decide +kernel
theorem dX8_openNext_167 : decode cX8_openNext 167 = .ok (.iconst 0, 1) := by decide +kernel
theorem dX8_openNext_168 : decode cX8_openNext 168 = .ok (.iastore, 1) := by decide +kernel
theorem dX8_openNext_169 : decode cX8_openNext 169 = .ok (.aload_n 0, 1) := by decide +kernel
theorem dX8_openNext_170 : decode cX8_openNext 170 = .ok (.iload_n 1, 1) := by decide +kernel
theorem dX8_openNext_171 : decode cX8_openNext 171 = .ok (.iconst 0, 1) := by decide +kernel
theorem dX8_openNext_172 : decode cX8_openNext 172 = .ok (.bipush 10, 2) := by decide +kernel
theorem dX8_openNext_174 : decode cX8_openNext 174 = .ok (.invokevirtual 114, 3) := by decide +kernel
theorem dX8_openNext_177 : decode cX8_openNext 177 = .ok (.return_, 1) := by decide +kernel
theorem dX8_opens_0 : decode cX8_opens 0 = .ok (.aload_n 0, 1) := by decide +kernel
theorem dX8_opens_1 : decode cX8_opens 1 = .ok (.getfield 87, 3) := by decide +kernel
theorem dX8_opens_4 : decode cX8_opens 4 = .ok (.ifCond .eq 15, 3) := by decide +kernel
theorem dX8_opens_19 : decode cX8_opens 19 = .ok (.iconst 1, 1) := by decide +kernel
theorem dX8_opens_20 : decode cX8_opens 20 = .ok (.goto 4, 3) := by decide +kernel
theorem dX8_opens_24 : decode cX8_opens 24 = .ok (.ireturn, 1) := by decide +kernel
theorem dX8_record_0 : decode cX8_record 0 = .ok (.aload_n 0, 1) := by decide +kernel
theorem dX8_record_1 : decode cX8_record 1 = .ok (.bipush 16, 2) := by decide +kernel
theorem dX8_record_3 : decode cX8_record 3 = .ok (.iload_n 3, 1) := by decide +kernel
theorem dX8_record_4 : decode cX8_record 4 = .ok (.iadd, 1) := by decide +kernel
theorem dX8_record_5 : decode cX8_record 5 = .ok (.invokevirtual 118, 3) := by decide +kernel
theorem dX8_record_8 : decode cX8_record 8 = .ok (.ifCond .eq 7, 3) := by decide +kernel
theorem dX8_record_11 : decode cX8_record 11 = .ok (.aload_n 0, 1) := by decide +kernel
theorem dX8_record_12 : decode cX8_record 12 = .ok (.invokevirtual 122, 3) := by decide +kernel
theorem dX8_record_15 : decode cX8_record 15 = .ok (.aload_n 0, 1) := by decide +kernel
theorem dX8_record_16 : decode cX8_record 16 = .ok (.iconst 0, 1) := by decide +kernel
theorem dX8_record_17 : decode cX8_record 17 = .ok (.putfield 69, 3) := by decide +kernel
theorem dX8_record_20 : decode cX8_record 20 = .ok (.aload_n 0, 1) := by decide +kernel
theorem dX8_record_21 : decode cX8_record 21 = .ok (.iload_n 1, 1) := by decide +kernel
theorem dX8_record_22 : decode cX8_record 22 = .ok (.iconst 1, 1) := by decide +kernel
theorem dX8_record_23 : decode cX8_record 23 = .ok (.invokevirtual 110, 3) := by decide +kernel
theorem dX8_record_26 : decode cX8_record 26 = .ok (.aload_n 0, 1) := by decide +kernel
theorem dX8_record_27 : decode cX8_record 27 = .ok (.iload_n 2, 1) := by decide +kernel
theorem dX8_record_28 : decode cX8_record 28 = .ok (.iconst 2, 1) := by decide +kernel
theorem dX8_record_29 : decode cX8_record 29 = .ok (.invokevirtual 110, 3) := by decide +kernel
theorem dX8_record_32 : decode cX8_record 32 = .ok (.aload_n 0, 1) := by decide +kernel
theorem dX8_record_33 : decode cX8_record 33 = .ok (.iload_n 3, 1) := by decide +kernel
theorem dX8_record_34 : decode cX8_record 34 = .ok (.iconst 1, 1) := by decide +kernel
theorem dX8_record_35 : decode cX8_record 35 = .ok (.invokevirtual 110, 3) := by decide +kernel
theorem dX8_record_38 : decode cX8_record 38 = .ok (.aload_n 0, 1) := by decide +kernel
theorem dX8_record_39 : decode cX8_record 39 = .ok (.aload_n 0, 1) := by decide +kernel
theorem dX8_record_40 : decode cX8_record 40 = .ok (.getfield 25, 3) := by decide +kernel
theorem dX8_record_43 : decode cX8_record 43 = .ok (.iconst 4, 1) := by decide +kernel
theorem dX8_record_44 : decode cX8_record 44 = .ok (.invokevirtual 110, 3) := by decide +kernel
theorem dX8_record_47 : decode cX8_record 47 = .ok (.aload_n 0, 1) := by decide +kernel
theorem dX8_record_48 : decode cX8_record 48 = .ok (.iload 4, 2) := by decide +kernel
theorem dX8_record_50 : decode cX8_record 50 = .ok (.iconst 4, 1) := by decide +kernel
theorem dX8_record_51 : decode cX8_record 51 = .ok (.invokevirtual 110, 3) := by decide +kernel
theorem dX8_record_54 : decode cX8_record 54 = .ok (.iconst 0, 1) := by decide +kernel
theorem dX8_record_55 : decode cX8_record 55 = .ok (.istore 5, 2) := by decide +kernel
theorem dX8_record_57 : decode cX8_record 57 = .ok (.iload 5, 2) := by decide +kernel
theorem dX8_record_59 : decode cX8_record 59 = .ok (.iload_n 3, 1) := by decide +kernel
theorem dX8_record_60 : decode cX8_record 60 = .ok (.if_icmp .ge 21, 3) := by decide +kernel
theorem dX8_record_81 : decode cX8_record 81 = .ok (.aload_n 0, 1) := by decide +kernel
theorem dX8_record_82 : decode cX8_record 82 = .ok (.aload_n 0, 1) := by decide +kernel
theorem dX8_record_83 : decode cX8_record 83 = .ok (.getfield 47, 3) := by decide +kernel
theorem dX8_record_86 : decode cX8_record 86 = .ok (.iconst 0, 1) := by decide +kernel
theorem dX8_record_87 : decode cX8_record 87 = .ok (.aload_n 0, 1) := by decide +kernel
theorem dX8_record_88 : decode cX8_record 88 = .ok (.getfield 69, 3) := by decide +kernel
theorem dX8_record_91 : decode cX8_record 91 = .ok (.invokestatic 84, 3) := by decide +kernel
theorem dX8_record_94 : decode cX8_record 94 = .ok (.iconst 4, 1) := by decide +kernel
theorem dX8_record_95 : decode cX8_record 95 = .ok (.invokevirtual 110, 3) := by decide +kernel
theorem dX8_record_98 : decode cX8_record 98 = .ok (.iconst 0, 1) := by decide +kernel
theorem dX8_record_99 : decode cX8_record 99 = .ok (.istore 5, 2) := by decide +kernel
theorem dX8_record_101 : decode cX8_record 101 = .ok (.iload 5, 2) := by decide +kernel
theorem dX8_record_103 : decode cX8_record 103 = .ok (.aload_n 0, 1) := by decide +kernel
theorem dX8_record_104 : decode cX8_record 104 = .ok (.getfield 69, 3) := by decide +kernel
theorem dX8_record_107 : decode cX8_record 107 = .ok (.if_icmp .ge 35, 3) := by decide +kernel
theorem dX8_record_110 : decode cX8_record 110 = .ok (.aload_n 0, 1) := by decide +kernel
theorem dX8_record_111 : decode cX8_record 111 = .ok (.getfield 14, 3) := by decide +kernel
theorem dX8_record_114 : decode cX8_record 114 = .ok (.aload_n 0, 1) := by decide +kernel
theorem dX8_record_115 : decode cX8_record 115 = .ok (.getfield 87, 3) := by decide +kernel
theorem dX8_record_118 : decode cX8_record 118 = .ok (.aload_n 0, 1) := by decide +kernel
theorem dX8_record_119 : decode cX8_record 119 = .ok (.getfield 90, 3) := by decide +kernel
theorem dX8_record_122 : decode cX8_record 122 = .ok (.iload 5, 2) := by decide +kernel
theorem dX8_record_124 : decode cX8_record 124 = .ok (.iadd, 1) := by decide +kernel
theorem dX8_record_125 : decode cX8_record 125 = .ok (.invokestatic 72, 3) := by decide +kernel
theorem dX8_record_128 : decode cX8_record 128 = .ok (.aload_n 0, 1) := by decide +kernel
theorem dX8_record_129 : decode cX8_record 129 = .ok (.getfield 47, 3) := by decide +kernel
theorem dX8_record_132 : decode cX8_record 132 = .ok (.iload 5, 2) := by decide +kernel
theorem dX8_record_134 : decode cX8_record 134 = .ok (.baload, 1) := by decide +kernel
theorem dX8_record_135 : decode cX8_record 135 = .ok (.bastore, 1) := by decide +kernel
theorem dX8_record_136 : decode cX8_record 136 = .ok (.iinc 5 1, 3) := by decide +kernel
theorem dX8_record_139 : decode cX8_record 139 = .ok (.goto (-38), 3) := by decide +kernel
theorem dX8_record_142 : decode cX8_record 142 = .ok (.aload_n 0, 1) := by decide +kernel
theorem dX8_record_143 : decode cX8_record 143 = .ok (.getfield 29, 3) := by decide +kernel
theorem dX8_record_146 : decode cX8_record 146 = .ok (.iload_n 2, 1) := by decide +kernel
theorem dX8_record_147 : decode cX8_record 147 = .ok (.iload_n 1, 1) := by decide +kernel
theorem dX8_record_148 : decode cX8_record 148 = .ok (.iconst 1, 1) := by decide +kernel
theorem dX8_record_149 : decode cX8_record 149 = .ok (.if_icmp .ne 10, 3) := by decide +kernel
theorem dX8_record_152 : decode cX8_record 152 = .ok (.aload_n 0, 1) := by decide +kernel
theorem dX8_record_153 : decode cX8_record 153 = .ok (.getfield 87, 3) := by decide +kernel
theorem dX8_record_156 : decode cX8_record 156 = .ok (.goto 4, 3) := by decide +kernel
theorem dX8_record_160 : decode cX8_record 160 = .ok (.iastore, 1) := by decide +kernel
theorem dX8_record_161 : decode cX8_record 161 = .ok (.aload_n 0, 1) := by decide +kernel
theorem dX8_record_162 : decode cX8_record 162 = .ok (.getfield 32, 3) := by decide +kernel
theorem dX8_record_165 : decode cX8_record 165 = .ok (.iload_n 2, 1) := by decide +kernel
theorem dX8_record_166 : decode cX8_record 166 = .ok (.aload_n 0, 1) := by decide +kernel
theorem dX8_record_167 : decode cX8_record 167 = .ok (.getfield 90, 3) := by decide +kernel
theorem dX8_record_170 : decode cX8_record 170 = .ok (.iastore, 1) := by decide +kernel
theorem dX8_record_171 : decode cX8_record 171 = .ok (.aload_n 0, 1) := by decide +kernel
theorem dX8_record_172 : decode cX8_record 172 = .ok (.aload_n 0, 1) := by decide +kernel
theorem dX8_record_173 : decode cX8_record 173 = .ok (.getfield 87, 3) := by decide +kernel
theorem dX8_record_176 : decode cX8_record 176 = .ok (.aload_n 0, 1) := by decide +kernel
theorem dX8_record_177 : decode cX8_record 177 = .ok (.getfield 90, 3) := by decide +kernel
theorem dX8_record_180 : decode cX8_record 180 = .ok (.aload_n 0, 1) := by decide +kernel
theorem dX8_record_181 : decode cX8_record 181 = .ok (.getfield 90, 3) := by decide +kernel
theorem dX8_record_184 : decode cX8_record 184 = .ok (.aload_n 0, 1) := by decide +kernel
theorem dX8_record_185 : decode cX8_record 185 = .ok (.getfield 69, 3) := by decide +kernel
theorem dX8_record_188 : decode cX8_record 188 = .ok (.iadd, 1) := by decide +kernel
theorem dX8_record_189 : decode cX8_record 189 = .ok (.invokevirtual 114, 3) := by decide +kernel
theorem dX8_record_192 : decode cX8_record 192 = .ok (.aload_n 0, 1) := by decide +kernel
theorem dX8_record_193 : decode cX8_record 193 = .ok (.getfield 50, 3) := by decide +kernel
theorem dX8_record_196 : decode cX8_record 196 = .ok (.aload_n 0, 1) := by decide +kernel
theorem dX8_record_197 : decode cX8_record 197 = .ok (.getfield 87, 3) := by decide +kernel
theorem dX8_record_200 : decode cX8_record 200 = .ok (.iload 4, 2) := by decide +kernel
theorem dX8_record_202 : decode cX8_record 202 = .ok (.aload_n 0, 1) := by decide +kernel
theorem dX8_record_203 : decode cX8_record 203 = .ok (.getfield 50, 3) := by decide +kernel
theorem dX8_record_206 : decode cX8_record 206 = .ok (.aload_n 0, 1) := by decide +kernel
theorem dX8_record_207 : decode cX8_record 207 = .ok (.getfield 87, 3) := by decide +kernel
theorem dX8_record_210 : decode cX8_record 210 = .ok (.iaload, 1) := by decide +kernel
theorem dX8_record_211 : decode cX8_record 211 = .ok (.if_icmp .le 8, 3) := by decide +kernel
theorem dX8_record_219 : decode cX8_record 219 = .ok (.aload_n 0, 1) := by decide +kernel
theorem dX8_record_220 : decode cX8_record 220 = .ok (.getfield 50, 3) := by decide +kernel
theorem dX8_record_223 : decode cX8_record 223 = .ok (.aload_n 0, 1) := by decide +kernel
theorem dX8_record_224 : decode cX8_record 224 = .ok (.getfield 87, 3) := by decide +kernel
theorem dX8_record_227 : decode cX8_record 227 = .ok (.iaload, 1) := by decide +kernel
theorem dX8_record_228 : decode cX8_record 228 = .ok (.iastore, 1) := by decide +kernel
theorem dX8_record_229 : decode cX8_record 229 = .ok (.aload_n 0, 1) := by decide +kernel
theorem dX8_record_230 : decode cX8_record 230 = .ok (.dup, 1) := by decide +kernel
theorem dX8_record_231 : decode cX8_record 231 = .ok (.getfield 90, 3) := by decide +kernel
theorem dX8_record_234 : decode cX8_record 234 = .ok (.aload_n 0, 1) := by decide +kernel
theorem dX8_record_235 : decode cX8_record 235 = .ok (.getfield 69, 3) := by decide +kernel
theorem dX8_record_238 : decode cX8_record 238 = .ok (.iadd, 1) := by decide +kernel
theorem dX8_record_239 : decode cX8_record 239 = .ok (.putfield 90, 3) := by decide +kernel
theorem dX8_record_242 : decode cX8_record 242 = .ok (.aload_n 0, 1) := by decide +kernel
theorem dX8_record_243 : decode cX8_record 243 = .ok (.dup, 1) := by decide +kernel
theorem dX8_record_244 : decode cX8_record 244 = .ok (.getfield 25, 3) := by decide +kernel
theorem dX8_record_247 : decode cX8_record 247 = .ok (.iconst 1, 1) := by decide +kernel
theorem dX8_record_248 : decode cX8_record 248 = .ok (.iadd, 1) := by decide +kernel
theorem dX8_record_249 : decode cX8_record 249 = .ok (.putfield 25, 3) := by decide +kernel
theorem dX8_record_252 : decode cX8_record 252 = .ok (.return_, 1) := by decide +kernel
theorem dX8_feed_0 : decode cX8_feed 0 = .ok (.aload_n 0, 1) := by decide +kernel
theorem dX8_feed_1 : decode cX8_feed 1 = .ok (.iconst 0, 1) := by decide +kernel
theorem dX8_feed_2 : decode cX8_feed 2 = .ok (.putfield 65, 3) := by decide +kernel
theorem dX8_feed_5 : decode cX8_feed 5 = .ok (.iload_n 3, 1) := by decide +kernel
theorem dX8_feed_6 : decode cX8_feed 6 = .ok (.iconst 0, 1) := by decide +kernel
theorem dX8_feed_7 : decode cX8_feed 7 = .ok (.bipush 8, 2) := by decide +kernel
theorem dX8_feed_9 : decode cX8_feed 9 = .ok (.invokestatic 125, 3) := by decide +kernel
theorem dX8_feed_12 : decode cX8_feed 12 = .ok (.ifCond .ne 6, 3) := by decide +kernel
theorem dX8_feed_15 : decode cX8_feed 15 = .ok (.bipush (-2), 2) := by decide +kernel
theorem dX8_feed_17 : decode cX8_feed 17 = .ok (.ireturn, 1) := by decide +kernel
theorem dX8_feed_18 : decode cX8_feed 18 = .ok (.iload_n 3, 1) := by decide +kernel
theorem dX8_feed_19 : decode cX8_feed 19 = .ok (.ifCond .ne 10, 3) := by decide +kernel
theorem dX8_feed_22 : decode cX8_feed 22 = .ok (.aload_n 0, 1) := by decide +kernel
theorem dX8_feed_23 : decode cX8_feed 23 = .ok (.iconst 0, 1) := by decide +kernel
theorem dX8_feed_24 : decode cX8_feed 24 = .ok (.putfield 129, 3) := by decide +kernel
theorem dX8_feed_27 : decode cX8_feed 27 = .ok (.iconst 0, 1) := by decide +kernel
theorem dX8_feed_28 : decode cX8_feed 28 = .ok (.ireturn, 1) := by decide +kernel
theorem dX8_feed_29 : decode cX8_feed 29 = .ok (.aload_n 0, 1) := by decide +kernel
theorem dX8_feed_30 : decode cX8_feed 30 = .ok (.getfield 129, 3) := by decide +kernel
theorem dX8_feed_33 : decode cX8_feed 33 = .ok (.iload_n 3, 1) := by decide +kernel
theorem dX8_feed_34 : decode cX8_feed 34 = .ok (.iadd, 1) := by decide +kernel
theorem dX8_feed_35 : decode cX8_feed 35 = .ok (.bipush 100, 2) := by decide +kernel
theorem dX8_feed_37 : decode cX8_feed 37 = .ok (.if_icmp .le 6, 3) := by decide +kernel
theorem dX8_feed_43 : decode cX8_feed 43 = .ok (.iload_n 3, 1) := by decide +kernel
theorem dX8_feed_44 : decode cX8_feed 44 = .ok (.iconst 1, 1) := by decide +kernel
theorem dX8_feed_45 : decode cX8_feed 45 = .ok (.isub, 1) := by decide +kernel
theorem dX8_feed_46 : decode cX8_feed 46 = .ok (.istore 4, 2) := by decide +kernel
theorem dX8_feed_48 : decode cX8_feed 48 = .ok (.iload 4, 2) := by decide +kernel
theorem dX8_feed_50 : decode cX8_feed 50 = .ok (.ifCond .lt 37, 3) := by decide +kernel
theorem dX8_feed_53 : decode cX8_feed 53 = .ok (.aload_n 0, 1) := by decide +kernel
theorem dX8_feed_54 : decode cX8_feed 54 = .ok (.getfield 44, 3) := by decide +kernel
theorem dX8_feed_57 : decode cX8_feed 57 = .ok (.aload_n 0, 1) := by decide +kernel
theorem dX8_feed_58 : decode cX8_feed 58 = .ok (.getfield 129, 3) := by decide +kernel
theorem dX8_feed_61 : decode cX8_feed 61 = .ok (.lload_n 1, 1) := by decide +kernel
theorem dX8_feed_62 : decode cX8_feed 62 = .ok (.bipush 8, 2) := by decide +kernel
theorem dX8_feed_64 : decode cX8_feed 64 = .ok (.iload 4, 2) := by decide +kernel
theorem dX8_feed_66 : decode cX8_feed 66 = .ok (.imul, 1) := by decide +kernel
theorem dX8_feed_67 : decode cX8_feed 67 = .ok (.lshr, 1) := by decide +kernel
theorem dX8_feed_68 : decode cX8_feed 68 = .ok (.l2i, 1) := by decide +kernel
theorem dX8_feed_69 : decode cX8_feed 69 = .ok (.i2b, 1) := by decide +kernel
theorem dX8_feed_70 : decode cX8_feed 70 = .ok (.bastore, 1) := by decide +kernel
theorem dX8_feed_71 : decode cX8_feed 71 = .ok (.aload_n 0, 1) := by decide +kernel
theorem dX8_feed_72 : decode cX8_feed 72 = .ok (.dup, 1) := by decide +kernel
theorem dX8_feed_73 : decode cX8_feed 73 = .ok (.getfield 129, 3) := by decide +kernel
theorem dX8_feed_76 : decode cX8_feed 76 = .ok (.iconst 1, 1) := by decide +kernel
theorem dX8_feed_77 : decode cX8_feed 77 = .ok (.iadd, 1) := by decide +kernel
theorem dX8_feed_78 : decode cX8_feed 78 = .ok (.putfield 129, 3) := by decide +kernel
theorem dX8_feed_81 : decode cX8_feed 81 = .ok (.iinc 4 (-1), 3) := by decide +kernel
theorem dX8_feed_84 : decode cX8_feed 84 = .ok (.goto (-36), 3) := by decide +kernel
theorem dX8_feed_87 : decode cX8_feed 87 = .ok (.aload_n 0, 1) := by decide +kernel
theorem dX8_feed_88 : decode cX8_feed 88 = .ok (.getfield 129, 3) := by decide +kernel
theorem dX8_feed_91 : decode cX8_feed 91 = .ok (.ireturn, 1) := by decide +kernel
theorem dX8_put_0 : decode cX8_put 0 = .ok (.aload_n 0, 1) := by decide +kernel
theorem dX8_put_1 : decode cX8_put 1 = .ok (.iconst 0, 1) := by decide +kernel
theorem dX8_put_2 : decode cX8_put 2 = .ok (.putfield 65, 3) := by decide +kernel
theorem dX8_put_5 : decode cX8_put 5 = .ok (.aload_n 0, 1) := by decide +kernel
theorem dX8_put_6 : decode cX8_put 6 = .ok (.getfield 132, 3) := by decide +kernel
theorem dX8_put_9 : decode cX8_put 9 = .ok (.ifCond .eq 6, 3) := by decide +kernel
theorem dX8_put_15 : decode cX8_put 15 = .ok (.iload_n 1, 1) := by decide +kernel
theorem dX8_put_16 : decode cX8_put 16 = .ok (.iconst 0, 1) := by decide +kernel
theorem dX8_put_17 : decode cX8_put 17 = .ok (.sipush 299, 3) := by decide +kernel
theorem dX8_put_20 : decode cX8_put 20 = .ok (.invokestatic 125, 3) := by decide +kernel
theorem dX8_put_23 : decode cX8_put 23 = .ok (.ifCond .ne 6, 3) := by decide +kernel
theorem dX8_put_26 : decode cX8_put 26 = .ok (.bipush (-2), 2) := by decide +kernel
theorem dX8_put_28 : decode cX8_put 28 = .ok (.ireturn, 1) := by decide +kernel
theorem dX8_put_29 : decode cX8_put 29 = .ok (.aload_n 0, 1) := by decide +kernel
theorem dX8_put_30 : decode cX8_put 30 = .ok (.bipush 16, 2) := by decide +kernel
theorem dX8_put_32 : decode cX8_put 32 = .ok (.aload_n 0, 1) := by decide +kernel
theorem dX8_put_33 : decode cX8_put 33 = .ok (.getfield 129, 3) := by decide +kernel
theorem dX8_put_36 : decode cX8_put 36 = .ok (.iadd, 1) := by decide +kernel
theorem dX8_put_37 : decode cX8_put 37 = .ok (.invokevirtual 118, 3) := by decide +kernel
theorem dX8_put_40 : decode cX8_put 40 = .ok (.ifCond .eq 14, 3) := by decide +kernel
theorem dX8_put_43 : decode cX8_put 43 = .ok (.aload_n 0, 1) := by decide +kernel
theorem dX8_put_44 : decode cX8_put 44 = .ok (.invokevirtual 136, 3) := by decide +kernel
theorem dX8_put_47 : decode cX8_put 47 = .ok (.iconst 2, 1) := by decide +kernel
theorem dX8_put_48 : decode cX8_put 48 = .ok (.if_icmp .gt 6, 3) := by decide +kernel
theorem dX8_put_54 : decode cX8_put 54 = .ok (.iconst 0, 1) := by decide +kernel
theorem dX8_put_55 : decode cX8_put 55 = .ok (.istore_n 2, 1) := by decide +kernel
theorem dX8_put_56 : decode cX8_put 56 = .ok (.iload_n 2, 1) := by decide +kernel
theorem dX8_put_57 : decode cX8_put 57 = .ok (.aload_n 0, 1) := by decide +kernel
theorem dX8_put_58 : decode cX8_put 58 = .ok (.getfield 129, 3) := by decide +kernel
theorem dX8_put_61 : decode cX8_put 61 = .ok (.if_icmp .ge 21, 3) := by decide +kernel
theorem dX8_put_82 : decode cX8_put 82 = .ok (.aload_n 0, 1) := by decide +kernel
theorem dX8_put_83 : decode cX8_put 83 = .ok (.iconst 1, 1) := by decide +kernel
theorem dX8_put_84 : decode cX8_put 84 = .ok (.iload_n 1, 1) := by decide +kernel
theorem dX8_put_85 : decode cX8_put 85 = .ok (.aload_n 0, 1) := by decide +kernel
theorem dX8_put_86 : decode cX8_put 86 = .ok (.getfield 129, 3) := by decide +kernel
theorem dX8_put_89 : decode cX8_put 89 = .ok (.aload_n 0, 1) := by decide +kernel
theorem dX8_put_90 : decode cX8_put 90 = .ok (.getfield 140, 3) := by decide +kernel
theorem dX8_put_93 : decode cX8_put 93 = .ok (.invokevirtual 143, 3) := by decide +kernel
theorem dX8_put_96 : decode cX8_put 96 = .ok (.aload_n 0, 1) := by decide +kernel
theorem dX8_put_97 : decode cX8_put 97 = .ok (.iconst 0, 1) := by decide +kernel
theorem dX8_put_98 : decode cX8_put 98 = .ok (.putfield 129, 3) := by decide +kernel
theorem dX8_put_101 : decode cX8_put 101 = .ok (.aload_n 0, 1) := by decide +kernel
theorem dX8_put_102 : decode cX8_put 102 = .ok (.getfield 25, 3) := by decide +kernel
theorem dX8_put_105 : decode cX8_put 105 = .ok (.iconst 1, 1) := by decide +kernel
theorem dX8_put_106 : decode cX8_put 106 = .ok (.isub, 1) := by decide +kernel
theorem dX8_put_107 : decode cX8_put 107 = .ok (.ireturn, 1) := by decide +kernel
theorem dX8_none_0 : decode cX8_none 0 = .ok (.iload_n 1, 1) := by decide +kernel
theorem dX8_none_1 : decode cX8_none 1 = .ok (.iconst 0, 1) := by decide +kernel
theorem dX8_none_2 : decode cX8_none 2 = .ok (.sipush 299, 3) := by decide +kernel
theorem dX8_none_5 : decode cX8_none 5 = .ok (.invokestatic 125, 3) := by decide +kernel
theorem dX8_none_8 : decode cX8_none 8 = .ok (.ifCond .eq 12, 3) := by decide +kernel
theorem dX8_none_11 : decode cX8_none 11 = .ok (.aload_n 0, 1) := by decide +kernel
theorem dX8_none_12 : decode cX8_none 12 = .ok (.getfield 29, 3) := by decide +kernel
theorem dX8_none_15 : decode cX8_none 15 = .ok (.iload_n 1, 1) := by decide +kernel
theorem dX8_none_16 : decode cX8_none 16 = .ok (.iaload, 1) := by decide +kernel
theorem dX8_none_17 : decode cX8_none 17 = .ok (.ifCond .ne 7, 3) := by decide +kernel
theorem dX8_none_20 : decode cX8_none 20 = .ok (.iconst 1, 1) := by decide +kernel
theorem dX8_none_21 : decode cX8_none 21 = .ok (.goto 4, 3) := by decide +kernel
theorem dX8_none_25 : decode cX8_none 25 = .ok (.ireturn, 1) := by decide +kernel
theorem dX8_remove_0 : decode cX8_remove 0 = .ok (.aload_n 0, 1) := by decide +kernel
theorem dX8_remove_1 : decode cX8_remove 1 = .ok (.iconst 0, 1) := by decide +kernel
theorem dX8_remove_2 : decode cX8_remove 2 = .ok (.putfield 65, 3) := by decide +kernel
theorem dX8_remove_5 : decode cX8_remove 5 = .ok (.aload_n 0, 1) := by decide +kernel
theorem dX8_remove_6 : decode cX8_remove 6 = .ok (.getfield 132, 3) := by decide +kernel
theorem dX8_remove_9 : decode cX8_remove 9 = .ok (.ifCond .eq 6, 3) := by decide +kernel
theorem dX8_remove_15 : decode cX8_remove 15 = .ok (.aload_n 0, 1) := by decide +kernel
theorem dX8_remove_16 : decode cX8_remove 16 = .ok (.iload_n 1, 1) := by decide +kernel
theorem dX8_remove_17 : decode cX8_remove 17 = .ok (.invokevirtual 147, 3) := by decide +kernel
theorem dX8_remove_20 : decode cX8_remove 20 = .ok (.ifCond .eq 5, 3) := by decide +kernel
theorem dX8_remove_23 : decode cX8_remove 23 = .ok (.iconst (-1), 1) := by decide +kernel
theorem dX8_remove_24 : decode cX8_remove 24 = .ok (.ireturn, 1) := by decide +kernel
theorem dX8_size_0 : decode cX8_size 0 = .ok (.aload_n 0, 1) := by decide +kernel
theorem dX8_size_1 : decode cX8_size 1 = .ok (.iconst 0, 1) := by decide +kernel
theorem dX8_size_2 : decode cX8_size 2 = .ok (.putfield 65, 3) := by decide +kernel
theorem dX8_size_5 : decode cX8_size 5 = .ok (.aload_n 0, 1) := by decide +kernel
theorem dX8_size_6 : decode cX8_size 6 = .ok (.getfield 132, 3) := by decide +kernel
theorem dX8_size_9 : decode cX8_size 9 = .ok (.ifCond .eq 8, 3) := by decide +kernel
theorem dX8_size_17 : decode cX8_size 17 = .ok (.aload_n 0, 1) := by decide +kernel
theorem dX8_size_18 : decode cX8_size 18 = .ok (.iload_n 1, 1) := by decide +kernel
theorem dX8_size_19 : decode cX8_size 19 = .ok (.invokevirtual 147, 3) := by decide +kernel
theorem dX8_size_22 : decode cX8_size 22 = .ok (.ifCond .eq 7, 3) := by decide +kernel
theorem dX8_size_25 : decode cX8_size 25 = .ok (.iconst (-1), 1) := by decide +kernel
theorem dX8_size_26 : decode cX8_size 26 = .ok (.goto 11, 3) := by decide +kernel
theorem dX8_size_37 : decode cX8_size 37 = .ok (.ireturn, 1) := by decide +kernel
theorem dX8_value_0 : decode cX8_value 0 = .ok (.aload_n 0, 1) := by decide +kernel
theorem dX8_value_1 : decode cX8_value 1 = .ok (.iconst 0, 1) := by decide +kernel
theorem dX8_value_2 : decode cX8_value 2 = .ok (.putfield 65, 3) := by decide +kernel
theorem dX8_value_5 : decode cX8_value 5 = .ok (.aload_n 0, 1) := by decide +kernel
theorem dX8_value_6 : decode cX8_value 6 = .ok (.getfield 132, 3) := by decide +kernel
theorem dX8_value_9 : decode cX8_value 9 = .ok (.ifCond .eq 6, 3) := by decide +kernel
theorem dX8_value_15 : decode cX8_value 15 = .ok (.aload_n 0, 1) := by decide +kernel
theorem dX8_value_16 : decode cX8_value 16 = .ok (.iload_n 1, 1) := by decide +kernel
theorem dX8_value_17 : decode cX8_value 17 = .ok (.invokevirtual 147, 3) := by decide +kernel
theorem dX8_value_20 : decode cX8_value 20 = .ok (.ifCond .ne 19, 3) := by decide +kernel
theorem dX8_value_39 : decode cX8_value 39 = .ok (.iconst (-1), 1) := by decide +kernel
theorem dX8_value_40 : decode cX8_value 40 = .ok (.goto 32, 3) := by decide +kernel
theorem dX8_value_72 : decode cX8_value 72 = .ok (.ireturn, 1) := by decide +kernel
theorem dX8_write_0 : decode cX8_write 0 = .ok (.aload_n 0, 1) := by decide +kernel
theorem dX8_write_1 : decode cX8_write 1 = .ok (.getfield 150, 3) := by decide +kernel
theorem dX8_write_4 : decode cX8_write 4 = .ok (.iconst 1, 1) := by decide +kernel
theorem dX8_write_5 : decode cX8_write 5 = .ok (.if_icmp .ne 7, 3) := by decide +kernel
theorem dX8_write_12 : decode cX8_write 12 = .ok (.iconst 0, 1) := by decide +kernel
theorem dX8_write_13 : decode cX8_write 13 = .ok (.istore 5, 2) := by decide +kernel
theorem dX8_write_15 : decode cX8_write 15 = .ok (.aload_n 0, 1) := by decide +kernel
theorem dX8_write_16 : decode cX8_write 16 = .ok (.dup, 1) := by decide +kernel
theorem dX8_write_17 : decode cX8_write 17 = .ok (.getfield 153, 3) := by decide +kernel
theorem dX8_write_20 : decode cX8_write 20 = .ok (.iload 5, 2) := by decide +kernel
theorem dX8_write_22 : decode cX8_write 22 = .ok (.ifCond .eq 7, 3) := by decide +kernel
theorem dX8_write_29 : decode cX8_write 29 = .ok (.iconst 1, 1) := by decide +kernel
theorem dX8_write_30 : decode cX8_write 30 = .ok (.iadd, 1) := by decide +kernel
theorem dX8_write_31 : decode cX8_write 31 = .ok (.putfield 153, 3) := by decide +kernel
theorem dX8_write_34 : decode cX8_write 34 = .ok (.iconst 0, 1) := by decide +kernel
theorem dX8_write_35 : decode cX8_write 35 = .ok (.istore 6, 2) := by decide +kernel
theorem dX8_write_37 : decode cX8_write 37 = .ok (.iload 6, 2) := by decide +kernel
theorem dX8_write_39 : decode cX8_write 39 = .ok (.bipush 64, 2) := by decide +kernel
theorem dX8_write_41 : decode cX8_write 41 = .ok (.if_icmp .ge 38, 3) := by decide +kernel
theorem dX8_write_44 : decode cX8_write 44 = .ok (.iload 5, 2) := by decide +kernel
theorem dX8_write_46 : decode cX8_write 46 = .ok (.ifCond .eq 12, 3) := by decide +kernel
theorem dX8_write_58 : decode cX8_write 58 = .ok (.aload_n 0, 1) := by decide +kernel
theorem dX8_write_59 : decode cX8_write 59 = .ok (.getfield 8, 3) := by decide +kernel
theorem dX8_write_62 : decode cX8_write 62 = .ok (.iload_n 3, 1) := by decide +kernel
theorem dX8_write_63 : decode cX8_write 63 = .ok (.iload 6, 2) := by decide +kernel
theorem dX8_write_65 : decode cX8_write 65 = .ok (.iadd, 1) := by decide +kernel
theorem dX8_write_66 : decode cX8_write 66 = .ok (.aload_n 1, 1) := by decide +kernel
theorem dX8_write_67 : decode cX8_write 67 = .ok (.iload_n 2, 1) := by decide +kernel
theorem dX8_write_68 : decode cX8_write 68 = .ok (.iload 6, 2) := by decide +kernel
theorem dX8_write_70 : decode cX8_write 70 = .ok (.iadd, 1) := by decide +kernel
theorem dX8_write_71 : decode cX8_write 71 = .ok (.baload, 1) := by decide +kernel
theorem dX8_write_72 : decode cX8_write 72 = .ok (.bastore, 1) := by decide +kernel
theorem dX8_write_73 : decode cX8_write 73 = .ok (.iinc 6 1, 3) := by decide +kernel
theorem dX8_write_76 : decode cX8_write 76 = .ok (.goto (-39), 3) := by decide +kernel
theorem dX8_write_79 : decode cX8_write 79 = .ok (.iconst 0, 1) := by decide +kernel
theorem dX8_write_80 : decode cX8_write 80 = .ok (.istore 6, 2) := by decide +kernel
theorem dX8_write_82 : decode cX8_write 82 = .ok (.iload 6, 2) := by decide +kernel
theorem dX8_write_84 : decode cX8_write 84 = .ok (.bipush 64, 2) := by decide +kernel
theorem dX8_write_86 : decode cX8_write 86 = .ok (.if_icmp .ge 56, 3) := by decide +kernel
theorem dX8_write_89 : decode cX8_write 89 = .ok (.aload_n 0, 1) := by decide +kernel
theorem dX8_write_90 : decode cX8_write 90 = .ok (.getfield 17, 3) := by decide +kernel
theorem dX8_write_93 : decode cX8_write 93 = .ok (.iload_n 3, 1) := by decide +kernel
theorem dX8_write_94 : decode cX8_write 94 = .ok (.iload 6, 2) := by decide +kernel
theorem dX8_write_96 : decode cX8_write 96 = .ok (.iadd, 1) := by decide +kernel
theorem dX8_write_97 : decode cX8_write 97 = .ok (.iload 5, 2) := by decide +kernel
theorem dX8_write_99 : decode cX8_write 99 = .ok (.ifCond .eq 35, 3) := by decide +kernel
theorem dX8_write_134 : decode cX8_write 134 = .ok (.iconst 0, 1) := by decide +kernel
theorem dX8_write_135 : decode cX8_write 135 = .ok (.bastore, 1) := by decide +kernel
theorem dX8_write_136 : decode cX8_write 136 = .ok (.iinc 6 1, 3) := by decide +kernel
theorem dX8_write_139 : decode cX8_write 139 = .ok (.goto (-57), 3) := by decide +kernel
theorem dX8_write_142 : decode cX8_write 142 = .ok (.aload_n 0, 1) := by decide +kernel
theorem dX8_write_143 : decode cX8_write 143 = .ok (.dup, 1) := by decide +kernel
theorem dX8_write_144 : decode cX8_write 144 = .ok (.getfield 150, 3) := by decide +kernel
theorem dX8_write_147 : decode cX8_write 147 = .ok (.aload_n 0, 1) := by decide +kernel
theorem dX8_write_148 : decode cX8_write 148 = .ok (.getfield 150, 3) := by decide +kernel
theorem dX8_write_151 : decode cX8_write 151 = .ok (.ifCond .le 7, 3) := by decide +kernel
theorem dX8_write_158 : decode cX8_write 158 = .ok (.iconst 0, 1) := by decide +kernel
theorem dX8_write_159 : decode cX8_write 159 = .ok (.isub, 1) := by decide +kernel
theorem dX8_write_160 : decode cX8_write 160 = .ok (.putfield 150, 3) := by decide +kernel
theorem dX8_write_163 : decode cX8_write 163 = .ok (.aload_n 0, 1) := by decide +kernel
theorem dX8_write_164 : decode cX8_write 164 = .ok (.aload_n 0, 1) := by decide +kernel
theorem dX8_write_165 : decode cX8_write 165 = .ok (.getfield 132, 3) := by decide +kernel
theorem dX8_write_168 : decode cX8_write 168 = .ok (.ifCond .ne 8, 3) := by decide +kernel
theorem dX8_write_171 : decode cX8_write 171 = .ok (.iload 5, 2) := by decide +kernel
theorem dX8_write_173 : decode cX8_write 173 = .ok (.ifCond .eq 7, 3) := by decide +kernel
theorem dX8_write_180 : decode cX8_write 180 = .ok (.iconst 0, 1) := by decide +kernel
theorem dX8_write_181 : decode cX8_write 181 = .ok (.putfield 132, 3) := by decide +kernel
theorem dX8_write_184 : decode cX8_write 184 = .ok (.iload 5, 2) := by decide +kernel
theorem dX8_write_186 : decode cX8_write 186 = .ok (.ireturn, 1) := by decide +kernel
theorem dX8_syncAll_0 : decode cX8_syncAll 0 = .ok (.iconst 0, 1) := by decide +kernel
theorem dX8_syncAll_1 : decode cX8_syncAll 1 = .ok (.istore_n 1, 1) := by decide +kernel
theorem dX8_syncAll_2 : decode cX8_syncAll 2 = .ok (.iconst 0, 1) := by decide +kernel
theorem dX8_syncAll_3 : decode cX8_syncAll 3 = .ok (.istore_n 2, 1) := by decide +kernel
theorem dX8_syncAll_4 : decode cX8_syncAll 4 = .ok (.iload_n 2, 1) := by decide +kernel
theorem dX8_syncAll_5 : decode cX8_syncAll 5 = .ok (.aload_n 0, 1) := by decide +kernel
theorem dX8_syncAll_6 : decode cX8_syncAll 6 = .ok (.getfield 104, 3) := by decide +kernel
theorem dX8_syncAll_9 : decode cX8_syncAll 9 = .ok (.if_icmp .ge 145, 3) := by decide +kernel
theorem dX8_syncAll_154 : decode cX8_syncAll 154 = .ok (.aload_n 0, 1) := by decide +kernel
theorem dX8_syncAll_155 : decode cX8_syncAll 155 = .ok (.iconst 0, 1) := by decide +kernel
theorem dX8_syncAll_156 : decode cX8_syncAll 156 = .ok (.putfield 104, 3) := by decide +kernel
theorem dX8_syncAll_159 : decode cX8_syncAll 159 = .ok (.iload_n 1, 1) := by decide +kernel
theorem dX8_syncAll_160 : decode cX8_syncAll 160 = .ok (.ireturn, 1) := by decide +kernel
theorem dX8_sync_0 : decode cX8_sync 0 = .ok (.aload_n 0, 1) := by decide +kernel
theorem dX8_sync_1 : decode cX8_sync 1 = .ok (.iconst 0, 1) := by decide +kernel
theorem dX8_sync_2 : decode cX8_sync 2 = .ok (.putfield 65, 3) := by decide +kernel
theorem dX8_sync_5 : decode cX8_sync 5 = .ok (.aload_n 0, 1) := by decide +kernel
theorem dX8_sync_6 : decode cX8_sync 6 = .ok (.getfield 132, 3) := by decide +kernel
theorem dX8_sync_9 : decode cX8_sync 9 = .ok (.ifCond .eq 8, 3) := by decide +kernel
theorem dX8_sync_17 : decode cX8_sync 17 = .ok (.aload_n 0, 1) := by decide +kernel
theorem dX8_sync_18 : decode cX8_sync 18 = .ok (.invokevirtual 163, 3) := by decide +kernel
theorem dX8_sync_21 : decode cX8_sync 21 = .ok (.ireturn, 1) := by decide +kernel
theorem dX8_checkpoint_0 : decode cX8_checkpoint 0 = .ok (.aload_n 0, 1) := by decide +kernel
theorem dX8_checkpoint_1 : decode cX8_checkpoint 1 = .ok (.iconst 0, 1) := by decide +kernel
theorem dX8_checkpoint_2 : decode cX8_checkpoint 2 = .ok (.putfield 65, 3) := by decide +kernel
theorem dX8_checkpoint_5 : decode cX8_checkpoint 5 = .ok (.aload_n 0, 1) := by decide +kernel
theorem dX8_checkpoint_6 : decode cX8_checkpoint 6 = .ok (.getfield 132, 3) := by decide +kernel
theorem dX8_checkpoint_9 : decode cX8_checkpoint 9 = .ok (.ifCond .eq 6, 3) := by decide +kernel
theorem dX8_checkpoint_15 : decode cX8_checkpoint 15 = .ok (.aload_n 0, 1) := by decide +kernel
theorem dX8_checkpoint_16 : decode cX8_checkpoint 16 = .ok (.invokevirtual 163, 3) := by decide +kernel
theorem dX8_checkpoint_19 : decode cX8_checkpoint 19 = .ok (.bipush (-5), 2) := by decide +kernel
theorem dX8_checkpoint_21 : decode cX8_checkpoint 21 = .ok (.if_icmp .ne 6, 3) := by decide +kernel
theorem dX8_checkpoint_27 : decode cX8_checkpoint 27 = .ok (.aload_n 0, 1) := by decide +kernel
theorem dX8_checkpoint_28 : decode cX8_checkpoint 28 = .ok (.iconst 0, 1) := by decide +kernel
theorem dX8_checkpoint_29 : decode cX8_checkpoint 29 = .ok (.putfield 69, 3) := by decide +kernel
theorem dX8_checkpoint_32 : decode cX8_checkpoint 32 = .ok (.aload_n 0, 1) := by decide +kernel
theorem dX8_checkpoint_33 : decode cX8_checkpoint 33 = .ok (.bipush 67, 2) := by decide +kernel
theorem dX8_checkpoint_35 : decode cX8_checkpoint 35 = .ok (.iconst 1, 1) := by decide +kernel
theorem dX8_checkpoint_36 : decode cX8_checkpoint 36 = .ok (.invokevirtual 110, 3) := by decide +kernel
theorem dX8_checkpoint_39 : decode cX8_checkpoint 39 = .ok (.aload_n 0, 1) := by decide +kernel
theorem dX8_checkpoint_40 : decode cX8_checkpoint 40 = .ok (.bipush 80, 2) := by decide +kernel
theorem dX8_checkpoint_42 : decode cX8_checkpoint 42 = .ok (.iconst 1, 1) := by decide +kernel
theorem dX8_checkpoint_43 : decode cX8_checkpoint 43 = .ok (.invokevirtual 110, 3) := by decide +kernel
theorem dX8_checkpoint_46 : decode cX8_checkpoint 46 = .ok (.aload_n 0, 1) := by decide +kernel
theorem dX8_checkpoint_47 : decode cX8_checkpoint 47 = .ok (.aload_n 0, 1) := by decide +kernel
theorem dX8_checkpoint_48 : decode cX8_checkpoint 48 = .ok (.getfield 166, 3) := by decide +kernel
theorem dX8_checkpoint_51 : decode cX8_checkpoint 51 = .ok (.iconst 1, 1) := by decide +kernel
theorem dX8_checkpoint_52 : decode cX8_checkpoint 52 = .ok (.iadd, 1) := by decide +kernel
theorem dX8_checkpoint_53 : decode cX8_checkpoint 53 = .ok (.iconst 4, 1) := by decide +kernel
theorem dX8_checkpoint_54 : decode cX8_checkpoint 54 = .ok (.invokevirtual 110, 3) := by decide +kernel
theorem dX8_checkpoint_57 : decode cX8_checkpoint 57 = .ok (.aload_n 0, 1) := by decide +kernel
theorem dX8_checkpoint_58 : decode cX8_checkpoint 58 = .ok (.aload_n 0, 1) := by decide +kernel
theorem dX8_checkpoint_59 : decode cX8_checkpoint 59 = .ok (.getfield 25, 3) := by decide +kernel
theorem dX8_checkpoint_62 : decode cX8_checkpoint 62 = .ok (.iconst 4, 1) := by decide +kernel
theorem dX8_checkpoint_63 : decode cX8_checkpoint 63 = .ok (.invokevirtual 110, 3) := by decide +kernel
theorem dX8_checkpoint_66 : decode cX8_checkpoint 66 = .ok (.aload_n 0, 1) := by decide +kernel
theorem dX8_checkpoint_67 : decode cX8_checkpoint 67 = .ok (.aload_n 0, 1) := by decide +kernel
theorem dX8_checkpoint_68 : decode cX8_checkpoint 68 = .ok (.getfield 140, 3) := by decide +kernel
theorem dX8_checkpoint_71 : decode cX8_checkpoint 71 = .ok (.iconst 4, 1) := by decide +kernel
theorem dX8_checkpoint_72 : decode cX8_checkpoint 72 = .ok (.invokevirtual 110, 3) := by decide +kernel
theorem dX8_checkpoint_75 : decode cX8_checkpoint 75 = .ok (.aload_n 0, 1) := by decide +kernel
theorem dX8_checkpoint_76 : decode cX8_checkpoint 76 = .ok (.aload_n 0, 1) := by decide +kernel
theorem dX8_checkpoint_77 : decode cX8_checkpoint 77 = .ok (.getfield 87, 3) := by decide +kernel
theorem dX8_checkpoint_80 : decode cX8_checkpoint 80 = .ok (.iconst 1, 1) := by decide +kernel
theorem dX8_checkpoint_81 : decode cX8_checkpoint 81 = .ok (.invokevirtual 110, 3) := by decide +kernel
theorem dX8_checkpoint_84 : decode cX8_checkpoint 84 = .ok (.aload_n 0, 1) := by decide +kernel
theorem dX8_checkpoint_85 : decode cX8_checkpoint 85 = .ok (.aload_n 0, 1) := by decide +kernel
theorem dX8_checkpoint_86 : decode cX8_checkpoint 86 = .ok (.getfield 87, 3) := by decide +kernel
theorem dX8_checkpoint_89 : decode cX8_checkpoint 89 = .ok (.ifCond .ne 7, 3) := by decide +kernel
theorem dX8_checkpoint_92 : decode cX8_checkpoint 92 = .ok (.iconst 0, 1) := by decide +kernel
theorem dX8_checkpoint_93 : decode cX8_checkpoint 93 = .ok (.goto 7, 3) := by decide +kernel
theorem dX8_checkpoint_100 : decode cX8_checkpoint 100 = .ok (.iconst 2, 1) := by decide +kernel
theorem dX8_checkpoint_101 : decode cX8_checkpoint 101 = .ok (.invokevirtual 110, 3) := by decide +kernel
theorem dX8_checkpoint_104 : decode cX8_checkpoint 104 = .ok (.aload_n 0, 1) := by decide +kernel
theorem dX8_checkpoint_105 : decode cX8_checkpoint 105 = .ok (.aload_n 0, 1) := by decide +kernel
theorem dX8_checkpoint_106 : decode cX8_checkpoint 106 = .ok (.getfield 107, 3) := by decide +kernel
theorem dX8_checkpoint_109 : decode cX8_checkpoint 109 = .ok (.iconst 4, 1) := by decide +kernel
theorem dX8_checkpoint_110 : decode cX8_checkpoint 110 = .ok (.invokevirtual 110, 3) := by decide +kernel
theorem dX8_checkpoint_113 : decode cX8_checkpoint 113 = .ok (.aload_n 0, 1) := by decide +kernel
theorem dX8_checkpoint_114 : decode cX8_checkpoint 114 = .ok (.aload_n 0, 1) := by decide +kernel
theorem dX8_checkpoint_115 : decode cX8_checkpoint 115 = .ok (.invokevirtual 168, 3) := by decide +kernel
theorem dX8_checkpoint_118 : decode cX8_checkpoint 118 = .ok (.iconst 2, 1) := by decide +kernel
theorem dX8_checkpoint_119 : decode cX8_checkpoint 119 = .ok (.invokevirtual 110, 3) := by decide +kernel
theorem dX8_checkpoint_122 : decode cX8_checkpoint 122 = .ok (.iconst 0, 1) := by decide +kernel
theorem dX8_checkpoint_123 : decode cX8_checkpoint 123 = .ok (.istore_n 1, 1) := by decide +kernel
theorem dX8_checkpoint_124 : decode cX8_checkpoint 124 = .ok (.iload_n 1, 1) := by decide +kernel
theorem dX8_checkpoint_125 : decode cX8_checkpoint 125 = .ok (.sipush 300, 3) := by decide +kernel
theorem dX8_checkpoint_128 : decode cX8_checkpoint 128 = .ok (.if_icmp .ge 46, 3) := by decide +kernel
theorem dX8_checkpoint_131 : decode cX8_checkpoint 131 = .ok (.aload_n 0, 1) := by decide +kernel
theorem dX8_checkpoint_132 : decode cX8_checkpoint 132 = .ok (.getfield 29, 3) := by decide +kernel
theorem dX8_checkpoint_135 : decode cX8_checkpoint 135 = .ok (.iload_n 1, 1) := by decide +kernel
theorem dX8_checkpoint_136 : decode cX8_checkpoint 136 = .ok (.iaload, 1) := by decide +kernel
theorem dX8_checkpoint_137 : decode cX8_checkpoint 137 = .ok (.ifCond .le 31, 3) := by decide +kernel
theorem dX8_checkpoint_168 : decode cX8_checkpoint 168 = .ok (.iinc 1 1, 3) := by decide +kernel
theorem dX8_checkpoint_171 : decode cX8_checkpoint 171 = .ok (.goto (-47), 3) := by decide +kernel
theorem dX8_checkpoint_174 : decode cX8_checkpoint 174 = .ok (.bipush 8, 2) := by decide +kernel
theorem dX8_checkpoint_176 : decode cX8_checkpoint 176 = .ok (.istore_n 1, 1) := by decide +kernel
theorem dX8_checkpoint_177 : decode cX8_checkpoint 177 = .ok (.iload_n 1, 1) := by decide +kernel
theorem dX8_checkpoint_178 : decode cX8_checkpoint 178 = .ok (.bipush 64, 2) := by decide +kernel
theorem dX8_checkpoint_180 : decode cX8_checkpoint 180 = .ok (.if_icmp .ge 39, 3) := by decide +kernel
theorem dX8_checkpoint_183 : decode cX8_checkpoint 183 = .ok (.aload_n 0, 1) := by decide +kernel
theorem dX8_checkpoint_184 : decode cX8_checkpoint 184 = .ok (.aload_n 0, 1) := by decide +kernel
theorem dX8_checkpoint_185 : decode cX8_checkpoint 185 = .ok (.getfield 21, 3) := by decide +kernel
theorem dX8_checkpoint_188 : decode cX8_checkpoint 188 = .ok (.iload_n 1, 1) := by decide +kernel
theorem dX8_checkpoint_189 : decode cX8_checkpoint 189 = .ok (.iaload, 1) := by decide +kernel
theorem dX8_checkpoint_190 : decode cX8_checkpoint 190 = .ok (.iconst 1, 1) := by decide +kernel
theorem dX8_checkpoint_191 : decode cX8_checkpoint 191 = .ok (.if_icmp .eq 13, 3) := by decide +kernel
theorem dX8_checkpoint_194 : decode cX8_checkpoint 194 = .ok (.aload_n 0, 1) := by decide +kernel
theorem dX8_checkpoint_195 : decode cX8_checkpoint 195 = .ok (.getfield 21, 3) := by decide +kernel
theorem dX8_checkpoint_198 : decode cX8_checkpoint 198 = .ok (.iload_n 1, 1) := by decide +kernel
theorem dX8_checkpoint_199 : decode cX8_checkpoint 199 = .ok (.iaload, 1) := by decide +kernel
theorem dX8_checkpoint_200 : decode cX8_checkpoint 200 = .ok (.iconst 2, 1) := by decide +kernel
theorem dX8_checkpoint_201 : decode cX8_checkpoint 201 = .ok (.if_icmp .ne 7, 3) := by decide +kernel
theorem dX8_checkpoint_208 : decode cX8_checkpoint 208 = .ok (.iconst 0, 1) := by decide +kernel
theorem dX8_checkpoint_209 : decode cX8_checkpoint 209 = .ok (.iconst 1, 1) := by decide +kernel
theorem dX8_checkpoint_210 : decode cX8_checkpoint 210 = .ok (.invokevirtual 110, 3) := by decide +kernel
theorem dX8_checkpoint_213 : decode cX8_checkpoint 213 = .ok (.iinc 1 1, 3) := by decide +kernel
theorem dX8_checkpoint_216 : decode cX8_checkpoint 216 = .ok (.goto (-39), 3) := by decide +kernel
theorem dX8_checkpoint_219 : decode cX8_checkpoint 219 = .ok (.aload_n 0, 1) := by decide +kernel
theorem dX8_checkpoint_220 : decode cX8_checkpoint 220 = .ok (.aload_n 0, 1) := by decide +kernel
theorem dX8_checkpoint_221 : decode cX8_checkpoint 221 = .ok (.getfield 47, 3) := by decide +kernel
theorem dX8_checkpoint_224 : decode cX8_checkpoint 224 = .ok (.iconst 0, 1) := by decide +kernel
theorem dX8_checkpoint_225 : decode cX8_checkpoint 225 = .ok (.aload_n 0, 1) := by decide +kernel
theorem dX8_checkpoint_226 : decode cX8_checkpoint 226 = .ok (.getfield 69, 3) := by decide +kernel
theorem dX8_checkpoint_229 : decode cX8_checkpoint 229 = .ok (.invokestatic 84, 3) := by decide +kernel
theorem dX8_checkpoint_232 : decode cX8_checkpoint 232 = .ok (.iconst 4, 1) := by decide +kernel
theorem dX8_checkpoint_233 : decode cX8_checkpoint 233 = .ok (.invokevirtual 110, 3) := by decide +kernel
theorem dX8_checkpoint_236 : decode cX8_checkpoint 236 = .ok (.aload_n 0, 1) := by decide +kernel
theorem dX8_checkpoint_237 : decode cX8_checkpoint 237 = .ok (.getfield 69, 3) := by decide +kernel
theorem dX8_checkpoint_240 : decode cX8_checkpoint 240 = .ok (.istore_n 1, 1) := by decide +kernel
theorem dX8_checkpoint_241 : decode cX8_checkpoint 241 = .ok (.aload_n 0, 1) := by decide +kernel
theorem dX8_checkpoint_242 : decode cX8_checkpoint 242 = .ok (.getfield 69, 3) := by decide +kernel
theorem dX8_checkpoint_245 : decode cX8_checkpoint 245 = .ok (.bipush 64, 2) := by decide +kernel
theorem dX8_checkpoint_247 : decode cX8_checkpoint 247 = .ok (.irem, 1) := by decide +kernel
theorem dX8_checkpoint_248 : decode cX8_checkpoint 248 = .ok (.ifCond .eq 12, 3) := by decide +kernel
theorem dX8_checkpoint_251 : decode cX8_checkpoint 251 = .ok (.aload_n 0, 1) := by decide +kernel
theorem dX8_checkpoint_252 : decode cX8_checkpoint 252 = .ok (.iconst 0, 1) := by decide +kernel
theorem dX8_checkpoint_253 : decode cX8_checkpoint 253 = .ok (.iconst 1, 1) := by decide +kernel
theorem dX8_checkpoint_254 : decode cX8_checkpoint 254 = .ok (.invokevirtual 110, 3) := by decide +kernel
theorem dX8_checkpoint_257 : decode cX8_checkpoint 257 = .ok (.goto (-16), 3) := by decide +kernel
theorem dX8_checkpoint_260 : decode cX8_checkpoint 260 = .ok (.iconst 0, 1) := by decide +kernel
theorem dX8_checkpoint_261 : decode cX8_checkpoint 261 = .ok (.istore_n 2, 1) := by decide +kernel
theorem dX8_checkpoint_262 : decode cX8_checkpoint 262 = .ok (.iload_n 2, 1) := by decide +kernel
theorem dX8_checkpoint_263 : decode cX8_checkpoint 263 = .ok (.bipush 64, 2) := by decide +kernel
theorem dX8_checkpoint_265 : decode cX8_checkpoint 265 = .ok (.imul, 1) := by decide +kernel
theorem dX8_checkpoint_266 : decode cX8_checkpoint 266 = .ok (.iload_n 1, 1) := by decide +kernel
theorem dX8_checkpoint_267 : decode cX8_checkpoint 267 = .ok (.if_icmp .ge 41, 3) := by decide +kernel
theorem dX8_checkpoint_270 : decode cX8_checkpoint 270 = .ok (.aload_n 0, 1) := by decide +kernel
theorem dX8_checkpoint_271 : decode cX8_checkpoint 271 = .ok (.aload_n 0, 1) := by decide +kernel
theorem dX8_checkpoint_272 : decode cX8_checkpoint 272 = .ok (.getfield 47, 3) := by decide +kernel
theorem dX8_checkpoint_275 : decode cX8_checkpoint 275 = .ok (.bipush 64, 2) := by decide +kernel
theorem dX8_checkpoint_277 : decode cX8_checkpoint 277 = .ok (.iload_n 2, 1) := by decide +kernel
theorem dX8_checkpoint_278 : decode cX8_checkpoint 278 = .ok (.imul, 1) := by decide +kernel
theorem dX8_checkpoint_279 : decode cX8_checkpoint 279 = .ok (.sipush 4096, 3) := by decide +kernel
theorem dX8_checkpoint_282 : decode cX8_checkpoint 282 = .ok (.aload_n 0, 1) := by decide +kernel
theorem dX8_checkpoint_283 : decode cX8_checkpoint 283 = .ok (.getfield 62, 3) := by decide +kernel
theorem dX8_checkpoint_286 : decode cX8_checkpoint 286 = .ok (.imul, 1) := by decide +kernel
theorem dX8_checkpoint_287 : decode cX8_checkpoint 287 = .ok (.bipush 64, 2) := by decide +kernel
theorem dX8_checkpoint_289 : decode cX8_checkpoint 289 = .ok (.iload_n 2, 1) := by decide +kernel
theorem dX8_checkpoint_290 : decode cX8_checkpoint 290 = .ok (.imul, 1) := by decide +kernel
theorem dX8_checkpoint_291 : decode cX8_checkpoint 291 = .ok (.iadd, 1) := by decide +kernel
theorem dX8_checkpoint_292 : decode cX8_checkpoint 292 = .ok (.iconst 0, 1) := by decide +kernel
theorem dX8_checkpoint_293 : decode cX8_checkpoint 293 = .ok (.invokevirtual 159, 3) := by decide +kernel
theorem dX8_checkpoint_296 : decode cX8_checkpoint 296 = .ok (.ifCond .eq 6, 3) := by decide +kernel
theorem dX8_checkpoint_302 : decode cX8_checkpoint 302 = .ok (.iinc 2 1, 3) := by decide +kernel
theorem dX8_checkpoint_305 : decode cX8_checkpoint 305 = .ok (.goto (-43), 3) := by decide +kernel
theorem dX8_checkpoint_308 : decode cX8_checkpoint 308 = .ok (.aload_n 0, 1) := by decide +kernel
theorem dX8_checkpoint_309 : decode cX8_checkpoint 309 = .ok (.dup, 1) := by decide +kernel
theorem dX8_checkpoint_310 : decode cX8_checkpoint 310 = .ok (.getfield 166, 3) := by decide +kernel
theorem dX8_checkpoint_313 : decode cX8_checkpoint 313 = .ok (.iconst 1, 1) := by decide +kernel
theorem dX8_checkpoint_314 : decode cX8_checkpoint 314 = .ok (.iadd, 1) := by decide +kernel
theorem dX8_checkpoint_315 : decode cX8_checkpoint 315 = .ok (.putfield 166, 3) := by decide +kernel
theorem dX8_checkpoint_318 : decode cX8_checkpoint 318 = .ok (.aload_n 0, 1) := by decide +kernel
theorem dX8_checkpoint_319 : decode cX8_checkpoint 319 = .ok (.iconst 1, 1) := by decide +kernel
theorem dX8_checkpoint_320 : decode cX8_checkpoint 320 = .ok (.aload_n 0, 1) := by decide +kernel
theorem dX8_checkpoint_321 : decode cX8_checkpoint 321 = .ok (.getfield 62, 3) := by decide +kernel
theorem dX8_checkpoint_324 : decode cX8_checkpoint 324 = .ok (.isub, 1) := by decide +kernel
theorem dX8_checkpoint_325 : decode cX8_checkpoint 325 = .ok (.putfield 62, 3) := by decide +kernel
theorem dX8_checkpoint_328 : decode cX8_checkpoint 328 = .ok (.bipush 8, 2) := by decide +kernel
theorem dX8_checkpoint_330 : decode cX8_checkpoint 330 = .ok (.istore_n 2, 1) := by decide +kernel
theorem dX8_checkpoint_331 : decode cX8_checkpoint 331 = .ok (.iload_n 2, 1) := by decide +kernel
theorem dX8_checkpoint_332 : decode cX8_checkpoint 332 = .ok (.bipush 64, 2) := by decide +kernel
theorem dX8_checkpoint_334 : decode cX8_checkpoint 334 = .ok (.if_icmp .ge 35, 3) := by decide +kernel
theorem dX8_checkpoint_337 : decode cX8_checkpoint 337 = .ok (.aload_n 0, 1) := by decide +kernel
theorem dX8_checkpoint_338 : decode cX8_checkpoint 338 = .ok (.getfield 21, 3) := by decide +kernel
theorem dX8_checkpoint_341 : decode cX8_checkpoint 341 = .ok (.iload_n 2, 1) := by decide +kernel
theorem dX8_checkpoint_342 : decode cX8_checkpoint 342 = .ok (.aload_n 0, 1) := by decide +kernel
theorem dX8_checkpoint_343 : decode cX8_checkpoint 343 = .ok (.getfield 21, 3) := by decide +kernel
theorem dX8_checkpoint_346 : decode cX8_checkpoint 346 = .ok (.iload_n 2, 1) := by decide +kernel
theorem dX8_checkpoint_347 : decode cX8_checkpoint 347 = .ok (.iaload, 1) := by decide +kernel
theorem dX8_checkpoint_348 : decode cX8_checkpoint 348 = .ok (.iconst 3, 1) := by decide +kernel
theorem dX8_checkpoint_349 : decode cX8_checkpoint 349 = .ok (.if_icmp .ne 7, 3) := by decide +kernel
theorem dX8_checkpoint_356 : decode cX8_checkpoint 356 = .ok (.aload_n 0, 1) := by decide +kernel
theorem dX8_checkpoint_357 : decode cX8_checkpoint 357 = .ok (.getfield 21, 3) := by decide +kernel
theorem dX8_checkpoint_360 : decode cX8_checkpoint 360 = .ok (.iload_n 2, 1) := by decide +kernel
theorem dX8_checkpoint_361 : decode cX8_checkpoint 361 = .ok (.iaload, 1) := by decide +kernel
theorem dX8_checkpoint_362 : decode cX8_checkpoint 362 = .ok (.iastore, 1) := by decide +kernel
theorem dX8_checkpoint_363 : decode cX8_checkpoint 363 = .ok (.iinc 2 1, 3) := by decide +kernel
theorem dX8_checkpoint_366 : decode cX8_checkpoint 366 = .ok (.goto (-35), 3) := by decide +kernel
theorem dX8_checkpoint_369 : decode cX8_checkpoint 369 = .ok (.aload_n 0, 1) := by decide +kernel
theorem dX8_checkpoint_370 : decode cX8_checkpoint 370 = .ok (.getfield 166, 3) := by decide +kernel
theorem dX8_checkpoint_373 : decode cX8_checkpoint 373 = .ok (.ireturn, 1) := by decide +kernel
theorem dX8_keys_0 : decode cX8_keys 0 = .ok (.iconst 0, 1) := by decide +kernel
theorem dX8_keys_1 : decode cX8_keys 1 = .ok (.istore_n 1, 1) := by decide +kernel
theorem dX8_keys_2 : decode cX8_keys 2 = .ok (.iconst 0, 1) := by decide +kernel
theorem dX8_keys_3 : decode cX8_keys 3 = .ok (.istore_n 2, 1) := by decide +kernel
theorem dX8_keys_4 : decode cX8_keys 4 = .ok (.iload_n 2, 1) := by decide +kernel
theorem dX8_keys_5 : decode cX8_keys 5 = .ok (.sipush 300, 3) := by decide +kernel
theorem dX8_keys_8 : decode cX8_keys 8 = .ok (.if_icmp .ge 26, 3) := by decide +kernel
theorem dX8_keys_11 : decode cX8_keys 11 = .ok (.iload_n 1, 1) := by decide +kernel
theorem dX8_keys_12 : decode cX8_keys 12 = .ok (.aload_n 0, 1) := by decide +kernel
theorem dX8_keys_13 : decode cX8_keys 13 = .ok (.getfield 29, 3) := by decide +kernel
theorem dX8_keys_16 : decode cX8_keys 16 = .ok (.iload_n 2, 1) := by decide +kernel
theorem dX8_keys_17 : decode cX8_keys 17 = .ok (.iaload, 1) := by decide +kernel
theorem dX8_keys_18 : decode cX8_keys 18 = .ok (.ifCond .le 7, 3) := by decide +kernel
theorem dX8_keys_25 : decode cX8_keys 25 = .ok (.iconst 0, 1) := by decide +kernel
theorem dX8_keys_26 : decode cX8_keys 26 = .ok (.iadd, 1) := by decide +kernel
theorem dX8_keys_27 : decode cX8_keys 27 = .ok (.istore_n 1, 1) := by decide +kernel
theorem dX8_keys_28 : decode cX8_keys 28 = .ok (.iinc 2 1, 3) := by decide +kernel
theorem dX8_keys_31 : decode cX8_keys 31 = .ok (.goto (-27), 3) := by decide +kernel
theorem dX8_keys_34 : decode cX8_keys 34 = .ok (.iload_n 1, 1) := by decide +kernel
theorem dX8_keys_35 : decode cX8_keys 35 = .ok (.ireturn, 1) := by decide +kernel
theorem dX8_best_0 : decode cX8_best 0 = .ok (.iconst (-1), 1) := by decide +kernel
theorem dX8_best_1 : decode cX8_best 1 = .ok (.istore_n 1, 1) := by decide +kernel
theorem dX8_best_2 : decode cX8_best 2 = .ok (.lconst 0, 1) := by decide +kernel
theorem dX8_best_3 : decode cX8_best 3 = .ok (.lstore_n 2, 1) := by decide +kernel
theorem dX8_best_4 : decode cX8_best 4 = .ok (.lconst 1, 1) := by decide +kernel
theorem dX8_best_5 : decode cX8_best 5 = .ok (.lstore 4, 2) := by decide +kernel
theorem dX8_best_7 : decode cX8_best 7 = .ok (.bipush 8, 2) := by decide +kernel
theorem dX8_best_9 : decode cX8_best 9 = .ok (.istore 6, 2) := by decide +kernel
theorem dX8_best_11 : decode cX8_best 11 = .ok (.iload 6, 2) := by decide +kernel
theorem dX8_best_13 : decode cX8_best 13 = .ok (.bipush 64, 2) := by decide +kernel
theorem dX8_best_15 : decode cX8_best 15 = .ok (.if_icmp .ge 102, 3) := by decide +kernel
theorem dX8_best_18 : decode cX8_best 18 = .ok (.aload_n 0, 1) := by decide +kernel
theorem dX8_best_19 : decode cX8_best 19 = .ok (.getfield 21, 3) := by decide +kernel
theorem dX8_best_22 : decode cX8_best 22 = .ok (.iload 6, 2) := by decide +kernel
theorem dX8_best_24 : decode cX8_best 24 = .ok (.iaload, 1) := by decide +kernel
theorem dX8_best_25 : decode cX8_best 25 = .ok (.iconst 1, 1) := by decide +kernel
theorem dX8_best_26 : decode cX8_best 26 = .ok (.if_icmp .ne 85, 3) := by decide +kernel
theorem dX8_best_111 : decode cX8_best 111 = .ok (.iinc 6 1, 3) := by decide +kernel
theorem dX8_best_114 : decode cX8_best 114 = .ok (.goto (-103), 3) := by decide +kernel
theorem dX8_best_117 : decode cX8_best 117 = .ok (.iload_n 1, 1) := by decide +kernel
theorem dX8_best_118 : decode cX8_best 118 = .ok (.ireturn, 1) := by decide +kernel
theorem dX8_clean_0 : decode cX8_clean 0 = .ok (.aload_n 0, 1) := by decide +kernel
theorem dX8_clean_1 : decode cX8_clean 1 = .ok (.iconst 0, 1) := by decide +kernel
theorem dX8_clean_2 : decode cX8_clean 2 = .ok (.putfield 65, 3) := by decide +kernel
theorem dX8_clean_5 : decode cX8_clean 5 = .ok (.aload_n 0, 1) := by decide +kernel
theorem dX8_clean_6 : decode cX8_clean 6 = .ok (.getfield 132, 3) := by decide +kernel
theorem dX8_clean_9 : decode cX8_clean 9 = .ok (.ifCond .eq 6, 3) := by decide +kernel
theorem dX8_clean_15 : decode cX8_clean 15 = .ok (.iload_n 1, 1) := by decide +kernel
theorem dX8_clean_16 : decode cX8_clean 16 = .ok (.iconst 1, 1) := by decide +kernel
theorem dX8_clean_17 : decode cX8_clean 17 = .ok (.bipush 8, 2) := by decide +kernel
theorem dX8_clean_19 : decode cX8_clean 19 = .ok (.invokestatic 125, 3) := by decide +kernel
theorem dX8_clean_22 : decode cX8_clean 22 = .ok (.ifCond .ne 6, 3) := by decide +kernel
theorem dX8_clean_25 : decode cX8_clean 25 = .ok (.bipush (-2), 2) := by decide +kernel
theorem dX8_clean_27 : decode cX8_clean 27 = .ok (.ireturn, 1) := by decide +kernel
theorem dX8_clean_28 : decode cX8_clean 28 = .ok (.iconst 0, 1) := by decide +kernel
theorem dX8_clean_29 : decode cX8_clean 29 = .ok (.istore_n 2, 1) := by decide +kernel
theorem dX8_clean_30 : decode cX8_clean 30 = .ok (.iload_n 2, 1) := by decide +kernel
theorem dX8_clean_31 : decode cX8_clean 31 = .ok (.bipush 64, 2) := by decide +kernel
theorem dX8_clean_33 : decode cX8_clean 33 = .ok (.if_icmp .ge 16, 3) := by decide +kernel
theorem dX8_clean_36 : decode cX8_clean 36 = .ok (.aload_n 0, 1) := by decide +kernel
theorem dX8_clean_37 : decode cX8_clean 37 = .ok (.getfield 56, 3) := by decide +kernel
theorem dX8_clean_40 : decode cX8_clean 40 = .ok (.iload_n 2, 1) := by decide +kernel
theorem dX8_clean_41 : decode cX8_clean 41 = .ok (.iconst 0, 1) := by decide +kernel
theorem dX8_clean_42 : decode cX8_clean 42 = .ok (.bastore, 1) := by decide +kernel
theorem dX8_clean_43 : decode cX8_clean 43 = .ok (.iinc 2 1, 3) := by decide +kernel
theorem dX8_clean_46 : decode cX8_clean 46 = .ok (.goto (-16), 3) := by decide +kernel
theorem dX8_clean_49 : decode cX8_clean 49 = .ok (.iconst 0, 1) := by decide +kernel
theorem dX8_clean_50 : decode cX8_clean 50 = .ok (.istore_n 2, 1) := by decide +kernel
theorem dX8_clean_51 : decode cX8_clean 51 = .ok (.aload_n 0, 1) := by decide +kernel
theorem dX8_clean_52 : decode cX8_clean 52 = .ok (.invokevirtual 176, 3) := by decide +kernel
theorem dX8_clean_55 : decode cX8_clean 55 = .ok (.istore_n 3, 1) := by decide +kernel
theorem dX8_clean_56 : decode cX8_clean 56 = .ok (.iload_n 2, 1) := by decide +kernel
theorem dX8_clean_57 : decode cX8_clean 57 = .ok (.iload_n 1, 1) := by decide +kernel
theorem dX8_clean_58 : decode cX8_clean 58 = .ok (.if_icmp .ge 25, 3) := by decide +kernel
theorem dX8_clean_61 : decode cX8_clean 61 = .ok (.iload_n 3, 1) := by decide +kernel
theorem dX8_clean_62 : decode cX8_clean 62 = .ok (.ifCond .lt 21, 3) := by decide +kernel
theorem dX8_clean_83 : decode cX8_clean 83 = .ok (.iconst 0, 1) := by decide +kernel
theorem dX8_clean_84 : decode cX8_clean 84 = .ok (.istore 4, 2) := by decide +kernel
theorem dX8_clean_86 : decode cX8_clean 86 = .ok (.iconst 0, 1) := by decide +kernel
theorem dX8_clean_87 : decode cX8_clean 87 = .ok (.istore 5, 2) := by decide +kernel
theorem dX8_clean_89 : decode cX8_clean 89 = .ok (.iload 5, 2) := by decide +kernel
theorem dX8_clean_91 : decode cX8_clean 91 = .ok (.sipush 300, 3) := by decide +kernel
theorem dX8_clean_94 : decode cX8_clean 94 = .ok (.if_icmp .ge 146, 3) := by decide +kernel
theorem dX8_clean_97 : decode cX8_clean 97 = .ok (.aload_n 0, 1) := by decide +kernel
theorem dX8_clean_98 : decode cX8_clean 98 = .ok (.getfield 29, 3) := by decide +kernel
theorem dX8_clean_101 : decode cX8_clean 101 = .ok (.iload 5, 2) := by decide +kernel
theorem dX8_clean_103 : decode cX8_clean 103 = .ok (.iaload, 1) := by decide +kernel
theorem dX8_clean_104 : decode cX8_clean 104 = .ok (.ifCond .eq 130, 3) := by decide +kernel
theorem dX8_clean_234 : decode cX8_clean 234 = .ok (.iinc 5 1, 3) := by decide +kernel
theorem dX8_clean_237 : decode cX8_clean 237 = .ok (.goto (-148), 3) := by decide +kernel
theorem dX8_clean_240 : decode cX8_clean 240 = .ok (.iconst 0, 1) := by decide +kernel
theorem dX8_clean_241 : decode cX8_clean 241 = .ok (.istore 5, 2) := by decide +kernel
theorem dX8_clean_243 : decode cX8_clean 243 = .ok (.aload_n 0, 1) := by decide +kernel
theorem dX8_clean_244 : decode cX8_clean 244 = .ok (.getfield 87, 3) := by decide +kernel
theorem dX8_clean_247 : decode cX8_clean 247 = .ok (.ifCond .ne 9, 3) := by decide +kernel
theorem dX8_clean_250 : decode cX8_clean 250 = .ok (.sipush 1024, 3) := by decide +kernel
theorem dX8_clean_253 : decode cX8_clean 253 = .ok (.goto 7, 3) := by decide +kernel
theorem dX8_clean_260 : decode cX8_clean 260 = .ok (.istore 6, 2) := by decide +kernel
theorem dX8_clean_262 : decode cX8_clean 262 = .ok (.iconst 0, 1) := by decide +kernel
theorem dX8_clean_263 : decode cX8_clean 263 = .ok (.istore 7, 2) := by decide +kernel
theorem dX8_clean_265 : decode cX8_clean 265 = .ok (.iload 7, 2) := by decide +kernel
theorem dX8_clean_267 : decode cX8_clean 267 = .ok (.iload 4, 2) := by decide +kernel
theorem dX8_clean_269 : decode cX8_clean 269 = .ok (.if_icmp .ge 69, 3) := by decide +kernel
theorem dX8_clean_338 : decode cX8_clean 338 = .ok (.iload 5, 2) := by decide +kernel
theorem dX8_clean_340 : decode cX8_clean 340 = .ok (.aload_n 0, 1) := by decide +kernel
theorem dX8_clean_341 : decode cX8_clean 341 = .ok (.invokevirtual 136, 3) := by decide +kernel
theorem dX8_clean_344 : decode cX8_clean 344 = .ok (.if_icmp .le 6, 3) := by decide +kernel
theorem dX8_clean_350 : decode cX8_clean 350 = .ok (.iconst 0, 1) := by decide +kernel
theorem dX8_clean_351 : decode cX8_clean 351 = .ok (.istore 7, 2) := by decide +kernel
theorem dX8_clean_353 : decode cX8_clean 353 = .ok (.iload 7, 2) := by decide +kernel
theorem dX8_clean_355 : decode cX8_clean 355 = .ok (.iload 4, 2) := by decide +kernel
theorem dX8_clean_357 : decode cX8_clean 357 = .ok (.if_icmp .ge 99, 3) := by decide +kernel
theorem dX8_clean_456 : decode cX8_clean 456 = .ok (.bipush 8, 2) := by decide +kernel
theorem dX8_clean_458 : decode cX8_clean 458 = .ok (.istore 7, 2) := by decide +kernel
theorem dX8_clean_460 : decode cX8_clean 460 = .ok (.iload 7, 2) := by decide +kernel
theorem dX8_clean_462 : decode cX8_clean 462 = .ok (.bipush 64, 2) := by decide +kernel
theorem dX8_clean_464 : decode cX8_clean 464 = .ok (.if_icmp .ge 37, 3) := by decide +kernel
theorem dX8_clean_467 : decode cX8_clean 467 = .ok (.aload_n 0, 1) := by decide +kernel
theorem dX8_clean_468 : decode cX8_clean 468 = .ok (.getfield 21, 3) := by decide +kernel
theorem dX8_clean_471 : decode cX8_clean 471 = .ok (.iload 7, 2) := by decide +kernel
theorem dX8_clean_473 : decode cX8_clean 473 = .ok (.aload_n 0, 1) := by decide +kernel
theorem dX8_clean_474 : decode cX8_clean 474 = .ok (.getfield 56, 3) := by decide +kernel
theorem dX8_clean_477 : decode cX8_clean 477 = .ok (.iload 7, 2) := by decide +kernel
theorem dX8_clean_479 : decode cX8_clean 479 = .ok (.baload, 1) := by decide +kernel
theorem dX8_clean_480 : decode cX8_clean 480 = .ok (.ifCond .eq 7, 3) := by decide +kernel
theorem dX8_clean_487 : decode cX8_clean 487 = .ok (.aload_n 0, 1) := by decide +kernel
theorem dX8_clean_488 : decode cX8_clean 488 = .ok (.getfield 21, 3) := by decide +kernel
theorem dX8_clean_491 : decode cX8_clean 491 = .ok (.iload 7, 2) := by decide +kernel
theorem dX8_clean_493 : decode cX8_clean 493 = .ok (.iaload, 1) := by decide +kernel
theorem dX8_clean_494 : decode cX8_clean 494 = .ok (.iastore, 1) := by decide +kernel
theorem dX8_clean_495 : decode cX8_clean 495 = .ok (.iinc 7 1, 3) := by decide +kernel
theorem dX8_clean_498 : decode cX8_clean 498 = .ok (.goto (-38), 3) := by decide +kernel
theorem dX8_clean_501 : decode cX8_clean 501 = .ok (.iload_n 2, 1) := by decide +kernel
theorem dX8_clean_502 : decode cX8_clean 502 = .ok (.ireturn, 1) := by decide +kernel
theorem dX8_tick_0 : decode cX8_tick 0 = .ok (.aload_n 0, 1) := by decide +kernel
theorem dX8_tick_1 : decode cX8_tick 1 = .ok (.iconst 0, 1) := by decide +kernel
theorem dX8_tick_2 : decode cX8_tick 2 = .ok (.putfield 65, 3) := by decide +kernel
theorem dX8_tick_5 : decode cX8_tick 5 = .ok (.aload_n 0, 1) := by decide +kernel
theorem dX8_tick_6 : decode cX8_tick 6 = .ok (.getfield 132, 3) := by decide +kernel
theorem dX8_tick_9 : decode cX8_tick 9 = .ok (.ifCond .eq 6, 3) := by decide +kernel
theorem dX8_tick_15 : decode cX8_tick 15 = .ok (.iload_n 1, 1) := by decide +kernel
theorem dX8_tick_16 : decode cX8_tick 16 = .ok (.iconst 0, 1) := by decide +kernel
theorem dX8_tick_17 : decode cX8_tick 17 = .ok (.ldc 185, 2) := by decide +kernel
theorem dX8_tick_19 : decode cX8_tick 19 = .ok (.invokestatic 125, 3) := by decide +kernel
theorem dX8_tick_22 : decode cX8_tick 22 = .ok (.ifCond .ne 6, 3) := by decide +kernel
theorem dX8_tick_25 : decode cX8_tick 25 = .ok (.bipush (-2), 2) := by decide +kernel
theorem dX8_tick_27 : decode cX8_tick 27 = .ok (.ireturn, 1) := by decide +kernel
theorem dX8_tick_28 : decode cX8_tick 28 = .ok (.aload_n 0, 1) := by decide +kernel
theorem dX8_tick_29 : decode cX8_tick 29 = .ok (.dup, 1) := by decide +kernel
theorem dX8_tick_30 : decode cX8_tick 30 = .ok (.getfield 140, 3) := by decide +kernel
theorem dX8_tick_33 : decode cX8_tick 33 = .ok (.iload_n 1, 1) := by decide +kernel
theorem dX8_tick_34 : decode cX8_tick 34 = .ok (.iadd, 1) := by decide +kernel
theorem dX8_tick_35 : decode cX8_tick 35 = .ok (.putfield 140, 3) := by decide +kernel
theorem dX8_tick_38 : decode cX8_tick 38 = .ok (.aload_n 0, 1) := by decide +kernel
theorem dX8_tick_39 : decode cX8_tick 39 = .ok (.getfield 140, 3) := by decide +kernel
theorem dX8_tick_42 : decode cX8_tick 42 = .ok (.ireturn, 1) := by decide +kernel
theorem dX8_cut_0 : decode cX8_cut 0 = .ok (.aload_n 0, 1) := by decide +kernel
theorem dX8_cut_1 : decode cX8_cut 1 = .ok (.iconst 0, 1) := by decide +kernel
theorem dX8_cut_2 : decode cX8_cut 2 = .ok (.putfield 65, 3) := by decide +kernel
theorem dX8_cut_5 : decode cX8_cut 5 = .ok (.aload_n 0, 1) := by decide +kernel
theorem dX8_cut_6 : decode cX8_cut 6 = .ok (.getfield 132, 3) := by decide +kernel
theorem dX8_cut_9 : decode cX8_cut 9 = .ok (.ifCond .eq 6, 3) := by decide +kernel
theorem dX8_cut_15 : decode cX8_cut 15 = .ok (.iload_n 1, 1) := by decide +kernel
theorem dX8_cut_16 : decode cX8_cut 16 = .ok (.iconst 0, 1) := by decide +kernel
theorem dX8_cut_17 : decode cX8_cut 17 = .ok (.sipush 10000, 3) := by decide +kernel
theorem dX8_cut_20 : decode cX8_cut 20 = .ok (.invokestatic 125, 3) := by decide +kernel
theorem dX8_cut_23 : decode cX8_cut 23 = .ok (.ifCond .eq 13, 3) := by decide +kernel
theorem dX8_cut_26 : decode cX8_cut 26 = .ok (.iload_n 2, 1) := by decide +kernel
theorem dX8_cut_27 : decode cX8_cut 27 = .ok (.iconst 0, 1) := by decide +kernel
theorem dX8_cut_28 : decode cX8_cut 28 = .ok (.bipush 63, 2) := by decide +kernel
theorem dX8_cut_30 : decode cX8_cut 30 = .ok (.invokestatic 125, 3) := by decide +kernel
theorem dX8_cut_33 : decode cX8_cut 33 = .ok (.ifCond .ne 6, 3) := by decide +kernel
theorem dX8_cut_36 : decode cX8_cut 36 = .ok (.bipush (-2), 2) := by decide +kernel
theorem dX8_cut_38 : decode cX8_cut 38 = .ok (.ireturn, 1) := by decide +kernel
theorem dX8_cut_39 : decode cX8_cut 39 = .ok (.aload_n 0, 1) := by decide +kernel
theorem dX8_cut_40 : decode cX8_cut 40 = .ok (.iload_n 1, 1) := by decide +kernel
theorem dX8_cut_41 : decode cX8_cut 41 = .ok (.putfield 150, 3) := by decide +kernel
theorem dX8_cut_44 : decode cX8_cut 44 = .ok (.aload_n 0, 1) := by decide +kernel
theorem dX8_cut_45 : decode cX8_cut 45 = .ok (.iload_n 2, 1) := by decide +kernel
theorem dX8_cut_46 : decode cX8_cut 46 = .ok (.putfield 156, 3) := by decide +kernel
theorem dX8_cut_49 : decode cX8_cut 49 = .ok (.iconst 1, 1) := by decide +kernel
theorem dX8_cut_50 : decode cX8_cut 50 = .ok (.ireturn, 1) := by decide +kernel
theorem dX8_isRight_0 : decode cX8_isRight 0 = .ok (.sipush 4096, 3) := by decide +kernel
theorem dX8_isRight_3 : decode cX8_isRight 3 = .ok (.iload_n 1, 1) := by decide +kernel
theorem dX8_isRight_4 : decode cX8_isRight 4 = .ok (.imul, 1) := by decide +kernel
theorem dX8_isRight_5 : decode cX8_isRight 5 = .ok (.istore_n 2, 1) := by decide +kernel
theorem dX8_isRight_6 : decode cX8_isRight 6 = .ok (.aload_n 0, 1) := by decide +kernel
theorem dX8_isRight_7 : decode cX8_isRight 7 = .ok (.getfield 8, 3) := by decide +kernel
theorem dX8_isRight_10 : decode cX8_isRight 10 = .ok (.iload_n 2, 1) := by decide +kernel
theorem dX8_isRight_11 : decode cX8_isRight 11 = .ok (.bipush 21, 2) := by decide +kernel
theorem dX8_isRight_13 : decode cX8_isRight 13 = .ok (.iadd, 1) := by decide +kernel
theorem dX8_isRight_14 : decode cX8_isRight 14 = .ok (.iconst 2, 1) := by decide +kernel
theorem dX8_isRight_15 : decode cX8_isRight 15 = .ok (.invokestatic 76, 3) := by decide +kernel
theorem dX8_isRight_18 : decode cX8_isRight 18 = .ok (.istore_n 3, 1) := by decide +kernel
theorem dX8_isRight_19 : decode cX8_isRight 19 = .ok (.aload_n 0, 1) := by decide +kernel
theorem dX8_isRight_20 : decode cX8_isRight 20 = .ok (.getfield 8, 3) := by decide +kernel
theorem dX8_isRight_23 : decode cX8_isRight 23 = .ok (.iload_n 2, 1) := by decide +kernel
theorem dX8_isRight_24 : decode cX8_isRight 24 = .ok (.baload, 1) := by decide +kernel
theorem dX8_isRight_25 : decode cX8_isRight 25 = .ok (.bipush 67, 2) := by decide +kernel
theorem dX8_isRight_27 : decode cX8_isRight 27 = .ok (.if_icmp .ne 23, 3) := by decide +kernel
theorem dX8_isRight_50 : decode cX8_isRight 50 = .ok (.iconst 0, 1) := by decide +kernel
theorem dX8_isRight_51 : decode cX8_isRight 51 = .ok (.ireturn, 1) := by decide +kernel
theorem dX8_goesOn_0 : decode cX8_goesOn 0 = .ok (.bipush 8, 2) := by decide +kernel
theorem dX8_goesOn_2 : decode cX8_goesOn 2 = .ok (.istore_n 1, 1) := by decide +kernel
theorem dX8_goesOn_3 : decode cX8_goesOn 3 = .ok (.iload_n 1, 1) := by decide +kernel
theorem dX8_goesOn_4 : decode cX8_goesOn 4 = .ok (.bipush 64, 2) := by decide +kernel
theorem dX8_goesOn_6 : decode cX8_goesOn 6 = .ok (.if_icmp .ge 170, 3) := by decide +kernel
theorem dX8_goesOn_9 : decode cX8_goesOn 9 = .ok (.iload_n 1, 1) := by decide +kernel
theorem dX8_goesOn_10 : decode cX8_goesOn 10 = .ok (.iconst 0, 1) := by decide +kernel
theorem dX8_goesOn_11 : decode cX8_goesOn 11 = .ok (.invokestatic 72, 3) := by decide +kernel
theorem dX8_goesOn_14 : decode cX8_goesOn 14 = .ok (.istore_n 2, 1) := by decide +kernel
theorem dX8_goesOn_15 : decode cX8_goesOn 15 = .ok (.aload_n 0, 1) := by decide +kernel
theorem dX8_goesOn_16 : decode cX8_goesOn 16 = .ok (.getfield 21, 3) := by decide +kernel
theorem dX8_goesOn_19 : decode cX8_goesOn 19 = .ok (.iload_n 1, 1) := by decide +kernel
theorem dX8_goesOn_20 : decode cX8_goesOn 20 = .ok (.iaload, 1) := by decide +kernel
theorem dX8_goesOn_21 : decode cX8_goesOn 21 = .ok (.ifCond .ne 86, 3) := by decide +kernel
theorem dX8_goesOn_24 : decode cX8_goesOn 24 = .ok (.aload_n 0, 1) := by decide +kernel
theorem dX8_goesOn_25 : decode cX8_goesOn 25 = .ok (.getfield 14, 3) := by decide +kernel
theorem dX8_goesOn_28 : decode cX8_goesOn 28 = .ok (.iload_n 2, 1) := by decide +kernel
theorem dX8_goesOn_29 : decode cX8_goesOn 29 = .ok (.baload, 1) := by decide +kernel
theorem dX8_goesOn_30 : decode cX8_goesOn 30 = .ok (.bipush 76, 2) := by decide +kernel
theorem dX8_goesOn_32 : decode cX8_goesOn 32 = .ok (.if_icmp .ne 75, 3) := by decide +kernel
theorem dX8_goesOn_107 : decode cX8_goesOn 107 = .ok (.iconst 0, 1) := by decide +kernel
theorem dX8_goesOn_108 : decode cX8_goesOn 108 = .ok (.istore_n 3, 1) := by decide +kernel
theorem dX8_goesOn_109 : decode cX8_goesOn 109 = .ok (.iload_n 3, 1) := by decide +kernel
theorem dX8_goesOn_110 : decode cX8_goesOn 110 = .ok (.ifCond .eq 60, 3) := by decide +kernel
theorem dX8_goesOn_170 : decode cX8_goesOn 170 = .ok (.iinc 1 1, 3) := by decide +kernel
theorem dX8_goesOn_173 : decode cX8_goesOn 173 = .ok (.goto (-170), 3) := by decide +kernel
theorem dX8_goesOn_176 : decode cX8_goesOn 176 = .ok (.iconst 0, 1) := by decide +kernel
theorem dX8_goesOn_177 : decode cX8_goesOn 177 = .ok (.ireturn, 1) := by decide +kernel
theorem dX8_start_0 : decode cX8_start 0 = .ok (.aload_n 0, 1) := by decide +kernel
theorem dX8_start_1 : decode cX8_start 1 = .ok (.iconst 0, 1) := by decide +kernel
theorem dX8_start_2 : decode cX8_start 2 = .ok (.putfield 65, 3) := by decide +kernel
theorem dX8_start_5 : decode cX8_start 5 = .ok (.aload_n 0, 1) := by decide +kernel
theorem dX8_start_6 : decode cX8_start 6 = .ok (.iconst 0, 1) := by decide +kernel
theorem dX8_start_7 : decode cX8_start 7 = .ok (.putfield 132, 3) := by decide +kernel
theorem dX8_start_10 : decode cX8_start 10 = .ok (.aload_n 0, 1) := by decide +kernel
theorem dX8_start_11 : decode cX8_start 11 = .ok (.iconst 0, 1) := by decide +kernel
theorem dX8_start_12 : decode cX8_start 12 = .ok (.putfield 150, 3) := by decide +kernel
theorem dX8_start_15 : decode cX8_start 15 = .ok (.aload_n 0, 1) := by decide +kernel
theorem dX8_start_16 : decode cX8_start 16 = .ok (.iconst 0, 1) := by decide +kernel
theorem dX8_start_17 : decode cX8_start 17 = .ok (.putfield 104, 3) := by decide +kernel
theorem dX8_start_20 : decode cX8_start 20 = .ok (.iconst 0, 1) := by decide +kernel
theorem dX8_start_21 : decode cX8_start 21 = .ok (.istore_n 1, 1) := by decide +kernel
theorem dX8_start_22 : decode cX8_start 22 = .ok (.iload_n 1, 1) := by decide +kernel
theorem dX8_start_23 : decode cX8_start 23 = .ok (.ldc 7, 2) := by decide +kernel
theorem dX8_start_25 : decode cX8_start 25 = .ok (.if_icmp .ge 21, 3) := by decide +kernel
theorem dX8_start_28 : decode cX8_start 28 = .ok (.aload_n 0, 1) := by decide +kernel
theorem dX8_start_29 : decode cX8_start 29 = .ok (.getfield 14, 3) := by decide +kernel
theorem dX8_start_32 : decode cX8_start 32 = .ok (.iload_n 1, 1) := by decide +kernel
theorem dX8_start_33 : decode cX8_start 33 = .ok (.aload_n 0, 1) := by decide +kernel
theorem dX8_start_34 : decode cX8_start 34 = .ok (.getfield 8, 3) := by decide +kernel
theorem dX8_start_37 : decode cX8_start 37 = .ok (.iload_n 1, 1) := by decide +kernel
theorem dX8_start_38 : decode cX8_start 38 = .ok (.baload, 1) := by decide +kernel
theorem dX8_start_39 : decode cX8_start 39 = .ok (.bastore, 1) := by decide +kernel
theorem dX8_start_40 : decode cX8_start 40 = .ok (.iinc 1 1, 3) := by decide +kernel
theorem dX8_start_43 : decode cX8_start 43 = .ok (.goto (-21), 3) := by decide +kernel
theorem dX8_start_46 : decode cX8_start 46 = .ok (.iconst 0, 1) := by decide +kernel
theorem dX8_start_47 : decode cX8_start 47 = .ok (.istore_n 1, 1) := by decide +kernel
theorem dX8_start_48 : decode cX8_start 48 = .ok (.iload_n 1, 1) := by decide +kernel
theorem dX8_start_49 : decode cX8_start 49 = .ok (.sipush 300, 3) := by decide +kernel
theorem dX8_start_52 : decode cX8_start 52 = .ok (.if_icmp .ge 16, 3) := by decide +kernel
theorem dX8_start_55 : decode cX8_start 55 = .ok (.aload_n 0, 1) := by decide +kernel
theorem dX8_start_56 : decode cX8_start 56 = .ok (.getfield 29, 3) := by decide +kernel
theorem dX8_start_59 : decode cX8_start 59 = .ok (.iload_n 1, 1) := by decide +kernel
theorem dX8_start_60 : decode cX8_start 60 = .ok (.iconst 0, 1) := by decide +kernel
theorem dX8_start_61 : decode cX8_start 61 = .ok (.iastore, 1) := by decide +kernel
theorem dX8_start_62 : decode cX8_start 62 = .ok (.iinc 1 1, 3) := by decide +kernel
theorem dX8_start_65 : decode cX8_start 65 = .ok (.goto (-17), 3) := by decide +kernel
theorem dX8_start_68 : decode cX8_start 68 = .ok (.iconst 0, 1) := by decide +kernel
theorem dX8_start_69 : decode cX8_start 69 = .ok (.istore_n 1, 1) := by decide +kernel
theorem dX8_start_70 : decode cX8_start 70 = .ok (.iload_n 1, 1) := by decide +kernel
theorem dX8_start_71 : decode cX8_start 71 = .ok (.bipush 64, 2) := by decide +kernel
theorem dX8_start_73 : decode cX8_start 73 = .ok (.if_icmp .ge 16, 3) := by decide +kernel
theorem dX8_start_76 : decode cX8_start 76 = .ok (.aload_n 0, 1) := by decide +kernel
theorem dX8_start_77 : decode cX8_start 77 = .ok (.getfield 21, 3) := by decide +kernel
theorem dX8_start_80 : decode cX8_start 80 = .ok (.iload_n 1, 1) := by decide +kernel
theorem dX8_start_81 : decode cX8_start 81 = .ok (.iconst 0, 1) := by decide +kernel
theorem dX8_start_82 : decode cX8_start 82 = .ok (.iastore, 1) := by decide +kernel
theorem dX8_start_83 : decode cX8_start 83 = .ok (.iinc 1 1, 3) := by decide +kernel
theorem dX8_start_86 : decode cX8_start 86 = .ok (.goto (-16), 3) := by decide +kernel
theorem dX8_start_89 : decode cX8_start 89 = .ok (.aload_n 0, 1) := by decide +kernel
theorem dX8_start_90 : decode cX8_start 90 = .ok (.iconst 0, 1) := by decide +kernel
theorem dX8_start_91 : decode cX8_start 91 = .ok (.putfield 87, 3) := by decide +kernel
theorem dX8_start_94 : decode cX8_start 94 = .ok (.aload_n 0, 1) := by decide +kernel
theorem dX8_start_95 : decode cX8_start 95 = .ok (.iconst 0, 1) := by decide +kernel
theorem dX8_start_96 : decode cX8_start 96 = .ok (.putfield 90, 3) := by decide +kernel
theorem dX8_start_99 : decode cX8_start 99 = .ok (.aload_n 0, 1) := by decide +kernel
theorem dX8_start_100 : decode cX8_start 100 = .ok (.iconst 0, 1) := by decide +kernel
theorem dX8_start_101 : decode cX8_start 101 = .ok (.putfield 107, 3) := by decide +kernel
theorem dX8_start_104 : decode cX8_start 104 = .ok (.aload_n 0, 1) := by decide +kernel
theorem dX8_start_105 : decode cX8_start 105 = .ok (.iconst 1, 1) := by decide +kernel
theorem dX8_start_106 : decode cX8_start 106 = .ok (.putfield 25, 3) := by decide +kernel
theorem dX8_start_109 : decode cX8_start 109 = .ok (.aload_n 0, 1) := by decide +kernel
theorem dX8_start_110 : decode cX8_start 110 = .ok (.iconst 0, 1) := by decide +kernel
theorem dX8_start_111 : decode cX8_start 111 = .ok (.putfield 140, 3) := by decide +kernel
theorem dX8_start_114 : decode cX8_start 114 = .ok (.aload_n 0, 1) := by decide +kernel
theorem dX8_start_115 : decode cX8_start 115 = .ok (.iconst 0, 1) := by decide +kernel
theorem dX8_start_116 : decode cX8_start 116 = .ok (.putfield 166, 3) := by decide +kernel
theorem dX8_start_119 : decode cX8_start 119 = .ok (.aload_n 0, 1) := by decide +kernel
theorem dX8_start_120 : decode cX8_start 120 = .ok (.iconst 0, 1) := by decide +kernel
theorem dX8_start_121 : decode cX8_start 121 = .ok (.putfield 62, 3) := by decide +kernel
theorem dX8_start_124 : decode cX8_start 124 = .ok (.aload_n 0, 1) := by decide +kernel
theorem dX8_start_125 : decode cX8_start 125 = .ok (.iconst 0, 1) := by decide +kernel
theorem dX8_start_126 : decode cX8_start 126 = .ok (.invokevirtual 189, 3) := by decide +kernel
theorem dX8_start_129 : decode cX8_start 129 = .ok (.istore_n 1, 1) := by decide +kernel
theorem dX8_start_130 : decode cX8_start 130 = .ok (.aload_n 0, 1) := by decide +kernel
theorem dX8_start_131 : decode cX8_start 131 = .ok (.iconst 1, 1) := by decide +kernel
theorem dX8_start_132 : decode cX8_start 132 = .ok (.invokevirtual 189, 3) := by decide +kernel
theorem dX8_start_135 : decode cX8_start 135 = .ok (.istore_n 2, 1) := by decide +kernel
theorem dX8_start_136 : decode cX8_start 136 = .ok (.iload_n 1, 1) := by decide +kernel
theorem dX8_start_137 : decode cX8_start 137 = .ok (.ifCond .ne 7, 3) := by decide +kernel
theorem dX8_start_140 : decode cX8_start 140 = .ok (.iload_n 2, 1) := by decide +kernel
theorem dX8_start_141 : decode cX8_start 141 = .ok (.ifCond .eq 43, 3) := by decide +kernel
theorem dX8_start_184 : decode cX8_start 184 = .ok (.iconst 0, 1) := by decide +kernel
theorem dX8_start_185 : decode cX8_start 185 = .ok (.istore_n 3, 1) := by decide +kernel
theorem dX8_start_186 : decode cX8_start 186 = .ok (.iconst 1, 1) := by decide +kernel
theorem dX8_start_187 : decode cX8_start 187 = .ok (.istore 4, 2) := by decide +kernel
theorem dX8_start_189 : decode cX8_start 189 = .ok (.iload 4, 2) := by decide +kernel
theorem dX8_start_191 : decode cX8_start 191 = .ok (.ifCond .eq 176, 3) := by decide +kernel
theorem dX8_start_194 : decode cX8_start 194 = .ok (.aload_n 0, 1) := by decide +kernel
theorem dX8_start_195 : decode cX8_start 195 = .ok (.getfield 87, 3) := by decide +kernel
theorem dX8_start_198 : decode cX8_start 198 = .ok (.ifCond .le 160, 3) := by decide +kernel
theorem dX8_start_358 : decode cX8_start 358 = .ok (.aload_n 0, 1) := by decide +kernel
theorem dX8_start_359 : decode cX8_start 359 = .ok (.invokevirtual 196, 3) := by decide +kernel
theorem dX8_start_362 : decode cX8_start 362 = .ok (.istore 4, 2) := by decide +kernel
theorem dX8_start_364 : decode cX8_start 364 = .ok (.goto (-175), 3) := by decide +kernel
theorem dX8_start_367 : decode cX8_start 367 = .ok (.aload_n 0, 1) := by decide +kernel
theorem dX8_start_368 : decode cX8_start 368 = .ok (.getfield 90, 3) := by decide +kernel
theorem dX8_start_371 : decode cX8_start 371 = .ok (.istore 5, 2) := by decide +kernel
theorem dX8_start_373 : decode cX8_start 373 = .ok (.iload 5, 2) := by decide +kernel
theorem dX8_start_375 : decode cX8_start 375 = .ok (.sipush 1024, 3) := by decide +kernel
theorem dX8_start_378 : decode cX8_start 378 = .ok (.if_icmp .ge 31, 3) := by decide +kernel
theorem dX8_start_381 : decode cX8_start 381 = .ok (.aload_n 0, 1) := by decide +kernel
theorem dX8_start_382 : decode cX8_start 382 = .ok (.getfield 87, 3) := by decide +kernel
theorem dX8_start_385 : decode cX8_start 385 = .ok (.ifCond .le 24, 3) := by decide +kernel
theorem dX8_start_409 : decode cX8_start 409 = .ok (.bipush 8, 2) := by decide +kernel
theorem dX8_start_411 : decode cX8_start 411 = .ok (.istore 5, 2) := by decide +kernel
theorem dX8_start_413 : decode cX8_start 413 = .ok (.iload 5, 2) := by decide +kernel
theorem dX8_start_415 : decode cX8_start 415 = .ok (.bipush 64, 2) := by decide +kernel
theorem dX8_start_417 : decode cX8_start 417 = .ok (.if_icmp .ge 36, 3) := by decide +kernel
theorem dX8_start_420 : decode cX8_start 420 = .ok (.aload_n 0, 1) := by decide +kernel
theorem dX8_start_421 : decode cX8_start 421 = .ok (.getfield 50, 3) := by decide +kernel
theorem dX8_start_424 : decode cX8_start 424 = .ok (.iload 5, 2) := by decide +kernel
theorem dX8_start_426 : decode cX8_start 426 = .ok (.aload_n 0, 1) := by decide +kernel
theorem dX8_start_427 : decode cX8_start 427 = .ok (.getfield 21, 3) := by decide +kernel
theorem dX8_start_430 : decode cX8_start 430 = .ok (.iload 5, 2) := by decide +kernel
theorem dX8_start_432 : decode cX8_start 432 = .ok (.iaload, 1) := by decide +kernel
theorem dX8_start_433 : decode cX8_start 433 = .ok (.ifCond .ne 7, 3) := by decide +kernel
theorem dX8_start_436 : decode cX8_start 436 = .ok (.iconst 0, 1) := by decide +kernel
theorem dX8_start_437 : decode cX8_start 437 = .ok (.goto 9, 3) := by decide +kernel
theorem dX8_start_446 : decode cX8_start 446 = .ok (.iastore, 1) := by decide +kernel
theorem dX8_start_447 : decode cX8_start 447 = .ok (.iinc 5 1, 3) := by decide +kernel
theorem dX8_start_450 : decode cX8_start 450 = .ok (.goto (-37), 3) := by decide +kernel
theorem dX8_start_453 : decode cX8_start 453 = .ok (.iload_n 3, 1) := by decide +kernel
theorem dX8_start_454 : decode cX8_start 454 = .ok (.ireturn, 1) := by decide +kernel
theorem dX8_disk_0 : decode cX8_disk 0 = .ok (.aload_n 0, 1) := by decide +kernel
theorem dX8_disk_1 : decode cX8_disk 1 = .ok (.iconst 0, 1) := by decide +kernel
theorem dX8_disk_2 : decode cX8_disk 2 = .ok (.putfield 65, 3) := by decide +kernel
theorem dX8_disk_5 : decode cX8_disk 5 = .ok (.iload_n 1, 1) := by decide +kernel
theorem dX8_disk_6 : decode cX8_disk 6 = .ok (.iconst 0, 1) := by decide +kernel
theorem dX8_disk_7 : decode cX8_disk 7 = .ok (.bipush 63, 2) := by decide +kernel
theorem dX8_disk_9 : decode cX8_disk 9 = .ok (.invokestatic 125, 3) := by decide +kernel
theorem dX8_disk_12 : decode cX8_disk 12 = .ok (.ifCond .eq 31, 3) := by decide +kernel
theorem dX8_disk_15 : decode cX8_disk 15 = .ok (.iload_n 2, 1) := by decide +kernel
theorem dX8_disk_16 : decode cX8_disk 16 = .ok (.iconst 0, 1) := by decide +kernel
theorem dX8_disk_17 : decode cX8_disk 17 = .ok (.sipush 1023, 3) := by decide +kernel
theorem dX8_disk_20 : decode cX8_disk 20 = .ok (.invokestatic 125, 3) := by decide +kernel
theorem dX8_disk_23 : decode cX8_disk 23 = .ok (.ifCond .eq 20, 3) := by decide +kernel
theorem dX8_disk_26 : decode cX8_disk 26 = .ok (.aload_n 0, 1) := by decide +kernel
theorem dX8_disk_27 : decode cX8_disk 27 = .ok (.getfield 8, 3) := by decide +kernel
theorem dX8_disk_30 : decode cX8_disk 30 = .ok (.iload_n 1, 1) := by decide +kernel
theorem dX8_disk_31 : decode cX8_disk 31 = .ok (.iload_n 2, 1) := by decide +kernel
theorem dX8_disk_32 : decode cX8_disk 32 = .ok (.invokestatic 72, 3) := by decide +kernel
theorem dX8_disk_35 : decode cX8_disk 35 = .ok (.baload, 1) := by decide +kernel
theorem dX8_disk_36 : decode cX8_disk 36 = .ok (.sipush 255, 3) := by decide +kernel
theorem dX8_disk_39 : decode cX8_disk 39 = .ok (.iand, 1) := by decide +kernel
theorem dX8_disk_40 : decode cX8_disk 40 = .ok (.goto 4, 3) := by decide +kernel
theorem dX8_disk_43 : decode cX8_disk 43 = .ok (.iconst (-1), 1) := by decide +kernel
theorem dX8_disk_44 : decode cX8_disk 44 = .ok (.ireturn, 1) := by decide +kernel
theorem dX8_poke_0 : decode cX8_poke 0 = .ok (.aload_n 0, 1) := by decide +kernel
theorem dX8_poke_1 : decode cX8_poke 1 = .ok (.iconst 0, 1) := by decide +kernel
theorem dX8_poke_2 : decode cX8_poke 2 = .ok (.putfield 65, 3) := by decide +kernel
theorem dX8_poke_5 : decode cX8_poke 5 = .ok (.iload_n 1, 1) := by decide +kernel
theorem dX8_poke_6 : decode cX8_poke 6 = .ok (.iconst 0, 1) := by decide +kernel
theorem dX8_poke_7 : decode cX8_poke 7 = .ok (.bipush 63, 2) := by decide +kernel
theorem dX8_poke_9 : decode cX8_poke 9 = .ok (.invokestatic 125, 3) := by decide +kernel
theorem dX8_poke_12 : decode cX8_poke 12 = .ok (.ifCond .eq 14, 3) := by decide +kernel
theorem dX8_poke_15 : decode cX8_poke 15 = .ok (.iload_n 2, 1) := by decide +kernel
theorem dX8_poke_16 : decode cX8_poke 16 = .ok (.iconst 0, 1) := by decide +kernel
theorem dX8_poke_17 : decode cX8_poke 17 = .ok (.sipush 1023, 3) := by decide +kernel
theorem dX8_poke_20 : decode cX8_poke 20 = .ok (.invokestatic 125, 3) := by decide +kernel
theorem dX8_poke_23 : decode cX8_poke 23 = .ok (.ifCond .ne 5, 3) := by decide +kernel
theorem dX8_poke_26 : decode cX8_poke 26 = .ok (.iconst (-1), 1) := by decide +kernel
theorem dX8_poke_27 : decode cX8_poke 27 = .ok (.ireturn, 1) := by decide +kernel
theorem dX8_poke_28 : decode cX8_poke 28 = .ok (.iload_n 3, 1) := by decide +kernel
theorem dX8_poke_29 : decode cX8_poke 29 = .ok (.iconst 0, 1) := by decide +kernel
theorem dX8_poke_30 : decode cX8_poke 30 = .ok (.sipush 255, 3) := by decide +kernel
theorem dX8_poke_33 : decode cX8_poke 33 = .ok (.invokestatic 125, 3) := by decide +kernel
theorem dX8_poke_36 : decode cX8_poke 36 = .ok (.ifCond .ne 6, 3) := by decide +kernel
theorem dX8_poke_39 : decode cX8_poke 39 = .ok (.bipush (-2), 2) := by decide +kernel
theorem dX8_poke_41 : decode cX8_poke 41 = .ok (.ireturn, 1) := by decide +kernel
theorem dX8_poke_42 : decode cX8_poke 42 = .ok (.aload_n 0, 1) := by decide +kernel
theorem dX8_poke_43 : decode cX8_poke 43 = .ok (.getfield 8, 3) := by decide +kernel
theorem dX8_poke_46 : decode cX8_poke 46 = .ok (.iload_n 1, 1) := by decide +kernel
theorem dX8_poke_47 : decode cX8_poke 47 = .ok (.iload_n 2, 1) := by decide +kernel
theorem dX8_poke_48 : decode cX8_poke 48 = .ok (.invokestatic 72, 3) := by decide +kernel
theorem dX8_poke_51 : decode cX8_poke 51 = .ok (.dup2, 1) := by decide +kernel
theorem dX8_poke_52 : decode cX8_poke 52 = .ok (.baload, 1) := by decide +kernel
theorem dX8_poke_53 : decode cX8_poke 53 = .ok (.iload_n 3, 1) := by decide +kernel
theorem dX8_poke_54 : decode cX8_poke 54 = .ok (.i2b, 1) := by decide +kernel
theorem dX8_poke_55 : decode cX8_poke 55 = .ok (.ixor, 1) := by decide +kernel
theorem dX8_poke_56 : decode cX8_poke 56 = .ok (.i2b, 1) := by decide +kernel
theorem dX8_poke_57 : decode cX8_poke 57 = .ok (.bastore, 1) := by decide +kernel
theorem dX8_poke_58 : decode cX8_poke 58 = .ok (.aload_n 0, 1) := by decide +kernel
theorem dX8_poke_59 : decode cX8_poke 59 = .ok (.getfield 8, 3) := by decide +kernel
theorem dX8_poke_62 : decode cX8_poke 62 = .ok (.iload_n 1, 1) := by decide +kernel
theorem dX8_poke_63 : decode cX8_poke 63 = .ok (.iload_n 2, 1) := by decide +kernel
theorem dX8_poke_64 : decode cX8_poke 64 = .ok (.invokestatic 72, 3) := by decide +kernel
theorem dX8_poke_67 : decode cX8_poke 67 = .ok (.baload, 1) := by decide +kernel
theorem dX8_poke_68 : decode cX8_poke 68 = .ok (.sipush 255, 3) := by decide +kernel
theorem dX8_poke_71 : decode cX8_poke 71 = .ok (.iand, 1) := by decide +kernel
theorem dX8_poke_72 : decode cX8_poke 72 = .ok (.ireturn, 1) := by decide +kernel
theorem dX8_segment_0 : decode cX8_segment 0 = .ok (.aload_n 0, 1) := by decide +kernel
theorem dX8_segment_1 : decode cX8_segment 1 = .ok (.iconst 0, 1) := by decide +kernel
theorem dX8_segment_2 : decode cX8_segment 2 = .ok (.putfield 65, 3) := by decide +kernel
theorem dX8_segment_5 : decode cX8_segment 5 = .ok (.aload_n 0, 1) := by decide +kernel
theorem dX8_segment_6 : decode cX8_segment 6 = .ok (.getfield 132, 3) := by decide +kernel
theorem dX8_segment_9 : decode cX8_segment 9 = .ok (.ifCond .eq 6, 3) := by decide +kernel
theorem dX8_segment_15 : decode cX8_segment 15 = .ok (.iload_n 1, 1) := by decide +kernel
theorem dX8_segment_16 : decode cX8_segment 16 = .ok (.bipush 8, 2) := by decide +kernel
theorem dX8_segment_18 : decode cX8_segment 18 = .ok (.bipush 63, 2) := by decide +kernel
theorem dX8_segment_20 : decode cX8_segment 20 = .ok (.invokestatic 125, 3) := by decide +kernel
theorem dX8_segment_23 : decode cX8_segment 23 = .ok (.ifCond .ne 5, 3) := by decide +kernel
theorem dX8_segment_26 : decode cX8_segment 26 = .ok (.iconst (-1), 1) := by decide +kernel
theorem dX8_segment_27 : decode cX8_segment 27 = .ok (.ireturn, 1) := by decide +kernel
theorem dX8_segment_28 : decode cX8_segment 28 = .ok (.iload_n 2, 1) := by decide +kernel
theorem dX8_segment_29 : decode cX8_segment 29 = .ok (.iconst 0, 1) := by decide +kernel
theorem dX8_segment_30 : decode cX8_segment 30 = .ok (.iconst 3, 1) := by decide +kernel
theorem dX8_segment_31 : decode cX8_segment 31 = .ok (.invokestatic 125, 3) := by decide +kernel
theorem dX8_segment_34 : decode cX8_segment 34 = .ok (.ifCond .ne 6, 3) := by decide +kernel
theorem dX8_segment_37 : decode cX8_segment 37 = .ok (.bipush (-2), 2) := by decide +kernel
theorem dX8_segment_39 : decode cX8_segment 39 = .ok (.ireturn, 1) := by decide +kernel
theorem dX8_segment_40 : decode cX8_segment 40 = .ok (.iload_n 2, 1) := by decide +kernel
theorem dX8_segment_41 : decode cX8_segment 41 = .ok (.ifCond .ne 10, 3) := by decide +kernel
theorem dX8_segment_44 : decode cX8_segment 44 = .ok (.aload_n 0, 1) := by decide +kernel
theorem dX8_segment_45 : decode cX8_segment 45 = .ok (.getfield 21, 3) := by decide +kernel
theorem dX8_segment_48 : decode cX8_segment 48 = .ok (.iload_n 1, 1) := by decide +kernel
theorem dX8_segment_49 : decode cX8_segment 49 = .ok (.iaload, 1) := by decide +kernel
theorem dX8_segment_50 : decode cX8_segment 50 = .ok (.ireturn, 1) := by decide +kernel
theorem dX8_segment_51 : decode cX8_segment 51 = .ok (.aload_n 0, 1) := by decide +kernel
theorem dX8_segment_52 : decode cX8_segment 52 = .ok (.getfield 21, 3) := by decide +kernel
theorem dX8_segment_55 : decode cX8_segment 55 = .ok (.iload_n 1, 1) := by decide +kernel
theorem dX8_segment_56 : decode cX8_segment 56 = .ok (.iaload, 1) := by decide +kernel
theorem dX8_segment_57 : decode cX8_segment 57 = .ok (.ifCond .eq 13, 3) := by decide +kernel
theorem dX8_segment_70 : decode cX8_segment 70 = .ok (.iconst 0, 1) := by decide +kernel
theorem dX8_segment_71 : decode cX8_segment 71 = .ok (.ireturn, 1) := by decide +kernel
theorem dX8_where_0 : decode cX8_where 0 = .ok (.aload_n 0, 1) := by decide +kernel
theorem dX8_where_1 : decode cX8_where 1 = .ok (.iconst 0, 1) := by decide +kernel
theorem dX8_where_2 : decode cX8_where 2 = .ok (.putfield 65, 3) := by decide +kernel
theorem dX8_where_5 : decode cX8_where 5 = .ok (.aload_n 0, 1) := by decide +kernel
theorem dX8_where_6 : decode cX8_where 6 = .ok (.getfield 132, 3) := by decide +kernel
theorem dX8_where_9 : decode cX8_where 9 = .ok (.ifCond .eq 6, 3) := by decide +kernel
theorem dX8_where_15 : decode cX8_where 15 = .ok (.aload_n 0, 1) := by decide +kernel
theorem dX8_where_16 : decode cX8_where 16 = .ok (.iload_n 1, 1) := by decide +kernel
theorem dX8_where_17 : decode cX8_where 17 = .ok (.invokevirtual 147, 3) := by decide +kernel
theorem dX8_where_20 : decode cX8_where 20 = .ok (.ifCond .eq 5, 3) := by decide +kernel
theorem dX8_where_23 : decode cX8_where 23 = .ok (.iconst (-1), 1) := by decide +kernel
theorem dX8_where_24 : decode cX8_where 24 = .ok (.ireturn, 1) := by decide +kernel
theorem dX8_told_0 : decode cX8_told 0 = .ok (.aload_n 0, 1) := by decide +kernel
theorem dX8_told_1 : decode cX8_told 1 = .ok (.iconst 0, 1) := by decide +kernel
theorem dX8_told_2 : decode cX8_told 2 = .ok (.putfield 65, 3) := by decide +kernel
theorem dX8_told_5 : decode cX8_told 5 = .ok (.iload_n 1, 1) := by decide +kernel
theorem dX8_told_6 : decode cX8_told 6 = .ok (.iconst 0, 1) := by decide +kernel
theorem dX8_told_7 : decode cX8_told 7 = .ok (.bipush 9, 2) := by decide +kernel
theorem dX8_told_9 : decode cX8_told 9 = .ok (.invokestatic 125, 3) := by decide +kernel
theorem dX8_told_12 : decode cX8_told 12 = .ok (.ifCond .ne 6, 3) := by decide +kernel
theorem dX8_told_15 : decode cX8_told 15 = .ok (.bipush (-2), 2) := by decide +kernel
theorem dX8_told_17 : decode cX8_told 17 = .ok (.ireturn, 1) := by decide +kernel
theorem dX8_told_18 : decode cX8_told 18 = .ok (.iload_n 1, 1) := by decide +kernel
theorem dX8_told_19 : decode cX8_told 19 = .ok (.bipush 7, 2) := by decide +kernel
theorem dX8_told_21 : decode cX8_told 21 = .ok (.if_icmp .le 29, 3) := by decide +kernel
theorem dX8_told_24 : decode cX8_told 24 = .ok (.iload_n 1, 1) := by decide +kernel
theorem dX8_told_25 : decode cX8_told 25 = .ok (.bipush 8, 2) := by decide +kernel
theorem dX8_told_27 : decode cX8_told 27 = .ok (.if_icmp .ne 10, 3) := by decide +kernel
theorem dX8_told_30 : decode cX8_told 30 = .ok (.aload_n 0, 1) := by decide +kernel
theorem dX8_told_31 : decode cX8_told 31 = .ok (.getfield 153, 3) := by decide +kernel
theorem dX8_told_34 : decode cX8_told 34 = .ok (.goto 15, 3) := by decide +kernel
theorem dX8_told_37 : decode cX8_told 37 = .ok (.aload_n 0, 1) := by decide +kernel
theorem dX8_told_38 : decode cX8_told 38 = .ok (.getfield 132, 3) := by decide +kernel
theorem dX8_told_41 : decode cX8_told 41 = .ok (.ifCond .eq 7, 3) := by decide +kernel
theorem dX8_told_48 : decode cX8_told 48 = .ok (.iconst 0, 1) := by decide +kernel
theorem dX8_told_49 : decode cX8_told 49 = .ok (.ireturn, 1) := by decide +kernel
theorem dX8_told_50 : decode cX8_told 50 = .ok (.aload_n 0, 1) := by decide +kernel
theorem dX8_told_51 : decode cX8_told 51 = .ok (.getfield 132, 3) := by decide +kernel
theorem dX8_told_54 : decode cX8_told 54 = .ok (.ifCond .eq 5, 3) := by decide +kernel
theorem dX8_told_59 : decode cX8_told 59 = .ok (.iload_n 1, 1) := by decide +kernel
theorem dX8_told_60 : decode cX8_told 60 = .ok (.tableswitch 121 0 6 #[44, 49, 54, 59, 75, 80, 85], 44) := by decide +kernel
theorem dX8_told_104 : decode cX8_told 104 = .ok (.aload_n 0, 1) := by decide +kernel
theorem dX8_told_105 : decode cX8_told 105 = .ok (.getfield 25, 3) := by decide +kernel
theorem dX8_told_108 : decode cX8_told 108 = .ok (.ireturn, 1) := by decide +kernel
theorem dX8_told_109 : decode cX8_told 109 = .ok (.aload_n 0, 1) := by decide +kernel
theorem dX8_told_110 : decode cX8_told 110 = .ok (.getfield 140, 3) := by decide +kernel
theorem dX8_told_113 : decode cX8_told 113 = .ok (.ireturn, 1) := by decide +kernel
theorem dX8_told_114 : decode cX8_told 114 = .ok (.aload_n 0, 1) := by decide +kernel
theorem dX8_told_115 : decode cX8_told 115 = .ok (.getfield 87, 3) := by decide +kernel
theorem dX8_told_118 : decode cX8_told 118 = .ok (.ireturn, 1) := by decide +kernel
theorem dX8_told_119 : decode cX8_told 119 = .ok (.aload_n 0, 1) := by decide +kernel
theorem dX8_told_120 : decode cX8_told 120 = .ok (.getfield 87, 3) := by decide +kernel
theorem dX8_told_123 : decode cX8_told 123 = .ok (.ifCond .ne 7, 3) := by decide +kernel
theorem dX8_told_126 : decode cX8_told 126 = .ok (.iconst 0, 1) := by decide +kernel
theorem dX8_told_127 : decode cX8_told 127 = .ok (.goto 7, 3) := by decide +kernel
theorem dX8_told_134 : decode cX8_told 134 = .ok (.ireturn, 1) := by decide +kernel
theorem dX8_told_135 : decode cX8_told 135 = .ok (.aload_n 0, 1) := by decide +kernel
theorem dX8_told_136 : decode cX8_told 136 = .ok (.invokevirtual 136, 3) := by decide +kernel
theorem dX8_told_139 : decode cX8_told 139 = .ok (.ireturn, 1) := by decide +kernel
theorem dX8_told_140 : decode cX8_told 140 = .ok (.aload_n 0, 1) := by decide +kernel
theorem dX8_told_141 : decode cX8_told 141 = .ok (.invokevirtual 168, 3) := by decide +kernel
theorem dX8_told_144 : decode cX8_told 144 = .ok (.ireturn, 1) := by decide +kernel
theorem dX8_told_145 : decode cX8_told 145 = .ok (.iconst 0, 1) := by decide +kernel
theorem dX8_told_146 : decode cX8_told 146 = .ok (.istore_n 2, 1) := by decide +kernel
theorem dX8_told_147 : decode cX8_told 147 = .ok (.iconst 0, 1) := by decide +kernel
theorem dX8_told_148 : decode cX8_told 148 = .ok (.istore_n 3, 1) := by decide +kernel
theorem dX8_told_149 : decode cX8_told 149 = .ok (.iload_n 3, 1) := by decide +kernel
theorem dX8_told_150 : decode cX8_told 150 = .ok (.aload_n 0, 1) := by decide +kernel
theorem dX8_told_151 : decode cX8_told 151 = .ok (.getfield 104, 3) := by decide +kernel
theorem dX8_told_154 : decode cX8_told 154 = .ok (.if_icmp .ge 25, 3) := by decide +kernel
theorem dX8_told_179 : decode cX8_told 179 = .ok (.iload_n 2, 1) := by decide +kernel
theorem dX8_told_180 : decode cX8_told 180 = .ok (.ireturn, 1) := by decide +kernel
theorem dX8_told_181 : decode cX8_told 181 = .ok (.aload_n 0, 1) := by decide +kernel
theorem dX8_told_182 : decode cX8_told 182 = .ok (.getfield 166, 3) := by decide +kernel
theorem dX8_told_185 : decode cX8_told 185 = .ok (.ireturn, 1) := by decide +kernel
theorem dJ6_rotateLeft_7cf53_0 : decode cJ6_rotateLeft_7cf53 0 = .ok (.iload_n 0, 1) := by decide +kernel
theorem dJ6_rotateLeft_7cf53_1 : decode cJ6_rotateLeft_7cf53 1 = .ok (.iload_n 1, 1) := by decide +kernel
theorem dJ6_rotateLeft_7cf53_2 : decode cJ6_rotateLeft_7cf53 2 = .ok (.ishl, 1) := by decide +kernel
theorem dJ6_rotateLeft_7cf53_3 : decode cJ6_rotateLeft_7cf53 3 = .ok (.iload_n 0, 1) := by decide +kernel
theorem dJ6_rotateLeft_7cf53_4 : decode cJ6_rotateLeft_7cf53 4 = .ok (.iload_n 1, 1) := by decide +kernel
theorem dJ6_rotateLeft_7cf53_5 : decode cJ6_rotateLeft_7cf53 5 = .ok (.ineg, 1) := by decide +kernel
theorem dJ6_rotateLeft_7cf53_6 : decode cJ6_rotateLeft_7cf53 6 = .ok (.iushr, 1) := by decide +kernel
theorem dJ6_rotateLeft_7cf53_7 : decode cJ6_rotateLeft_7cf53 7 = .ok (.ior, 1) := by decide +kernel
theorem dJ6_rotateLeft_7cf53_8 : decode cJ6_rotateLeft_7cf53 8 = .ok (.ireturn, 1) := by decide +kernel
theorem dJ7_fill_53178_0 : decode cJ7_fill_53178 0 = .ok (.iconst 0, 1) := by decide +kernel
theorem dJ7_fill_53178_1 : decode cJ7_fill_53178 1 = .ok (.istore_n 2, 1) := by decide +kernel
theorem dJ7_fill_53178_2 : decode cJ7_fill_53178 2 = .ok (.aload_n 0, 1) := by decide +kernel
theorem dJ7_fill_53178_3 : decode cJ7_fill_53178 3 = .ok (.arraylength, 1) := by decide +kernel
theorem dJ7_fill_53178_4 : decode cJ7_fill_53178 4 = .ok (.istore_n 3, 1) := by decide +kernel
theorem dJ7_fill_53178_5 : decode cJ7_fill_53178 5 = .ok (.iload_n 2, 1) := by decide +kernel
theorem dJ7_fill_53178_6 : decode cJ7_fill_53178 6 = .ok (.iload_n 3, 1) := by decide +kernel
theorem dJ7_fill_53178_7 : decode cJ7_fill_53178 7 = .ok (.if_icmp .ge 13, 3) := by decide +kernel
theorem dJ7_fill_53178_10 : decode cJ7_fill_53178 10 = .ok (.aload_n 0, 1) := by decide +kernel
theorem dJ7_fill_53178_11 : decode cJ7_fill_53178 11 = .ok (.iload_n 2, 1) := by decide +kernel
theorem dJ7_fill_53178_12 : decode cJ7_fill_53178 12 = .ok (.iload_n 1, 1) := by decide +kernel
theorem dJ7_fill_53178_13 : decode cJ7_fill_53178 13 = .ok (.iastore, 1) := by decide +kernel
theorem dJ7_fill_53178_14 : decode cJ7_fill_53178 14 = .ok (.iinc 2 1, 3) := by decide +kernel
theorem dJ7_fill_53178_17 : decode cJ7_fill_53178 17 = .ok (.goto (-12), 3) := by decide +kernel
theorem dJ7_fill_53178_20 : decode cJ7_fill_53178 20 = .ok (.return_, 1) := by decide +kernel
theorem dJ7_fill_031fb_0 : decode cJ7_fill_031fb 0 = .ok (.iconst 0, 1) := by decide +kernel
theorem dJ7_fill_031fb_1 : decode cJ7_fill_031fb 1 = .ok (.istore_n 2, 1) := by decide +kernel
theorem dJ7_fill_031fb_2 : decode cJ7_fill_031fb 2 = .ok (.aload_n 0, 1) := by decide +kernel
theorem dJ7_fill_031fb_3 : decode cJ7_fill_031fb 3 = .ok (.arraylength, 1) := by decide +kernel
theorem dJ7_fill_031fb_4 : decode cJ7_fill_031fb 4 = .ok (.istore_n 3, 1) := by decide +kernel
theorem dJ7_fill_031fb_5 : decode cJ7_fill_031fb 5 = .ok (.iload_n 2, 1) := by decide +kernel
theorem dJ7_fill_031fb_6 : decode cJ7_fill_031fb 6 = .ok (.iload_n 3, 1) := by decide +kernel
theorem dJ7_fill_031fb_7 : decode cJ7_fill_031fb 7 = .ok (.if_icmp .ge 13, 3) := by decide +kernel
theorem dJ7_fill_031fb_10 : decode cJ7_fill_031fb 10 = .ok (.aload_n 0, 1) := by decide +kernel
theorem dJ7_fill_031fb_11 : decode cJ7_fill_031fb 11 = .ok (.iload_n 2, 1) := by decide +kernel
theorem dJ7_fill_031fb_12 : decode cJ7_fill_031fb 12 = .ok (.iload_n 1, 1) := by decide +kernel
theorem dJ7_fill_031fb_13 : decode cJ7_fill_031fb 13 = .ok (.bastore, 1) := by decide +kernel
theorem dJ7_fill_031fb_14 : decode cJ7_fill_031fb 14 = .ok (.iinc 2 1, 3) := by decide +kernel
theorem dJ7_fill_031fb_17 : decode cJ7_fill_031fb 17 = .ok (.goto (-12), 3) := by decide +kernel
theorem dJ7_fill_031fb_20 : decode cJ7_fill_031fb 20 = .ok (.return_, 1) := by decide +kernel
theorem dL_law_0 : decode cL_law 0 = .ok (.new 7, 3) := by decide +kernel
theorem dL_law_3 : decode cL_law 3 = .ok (.dup, 1) := by decide +kernel
theorem dL_law_4 : decode cL_law 4 = .ok (.invokespecial 9, 3) := by decide +kernel
theorem dL_law_7 : decode cL_law 7 = .ok (.astore_n 1, 1) := by decide +kernel
theorem dL_law_8 : decode cL_law 8 = .ok (.new 10, 3) := by decide +kernel
theorem dL_law_11 : decode cL_law 11 = .ok (.dup, 1) := by decide +kernel
theorem dL_law_12 : decode cL_law 12 = .ok (.invokespecial 12, 3) := by decide +kernel
theorem dL_law_15 : decode cL_law 15 = .ok (.astore_n 2, 1) := by decide +kernel
theorem dL_law_16 : decode cL_law 16 = .ok (.iconst 0, 1) := by decide +kernel
theorem dL_law_17 : decode cL_law 17 = .ok (.istore_n 3, 1) := by decide +kernel
theorem dL_law_18 : decode cL_law 18 = .ok (.iload_n 3, 1) := by decide +kernel
theorem dL_law_19 : decode cL_law 19 = .ok (.aload_n 0, 1) := by decide +kernel
theorem dL_law_20 : decode cL_law 20 = .ok (.arraylength, 1) := by decide +kernel
theorem dL_law_21 : decode cL_law 21 = .ok (.iconst 4, 1) := by decide +kernel
theorem dL_law_22 : decode cL_law 22 = .ok (.isub, 1) := by decide +kernel
theorem dL_law_23 : decode cL_law 23 = .ok (.if_icmp .gt 543, 3) := by decide +kernel
theorem dL_law_26 : decode cL_law 26 = .ok (.aload_n 0, 1) := by decide +kernel
theorem dL_law_27 : decode cL_law 27 = .ok (.iload_n 3, 1) := by decide +kernel
theorem dL_law_28 : decode cL_law 28 = .ok (.iaload, 1) := by decide +kernel
theorem dL_law_29 : decode cL_law 29 = .ok (.bipush 15, 2) := by decide +kernel
theorem dL_law_31 : decode cL_law 31 = .ok (.iand, 1) := by decide +kernel
theorem dL_law_32 : decode cL_law 32 = .ok (.tableswitch 528 0 15 #[80, 143, 166, 189, 212, 245, 258, 271, 294, 317, 350, 363, 396, 439, 472, 505], 80) := by decide +kernel
theorem dL_law_112 : decode cL_law 112 = .ok (.aload_n 1, 1) := by decide +kernel
theorem dL_law_113 : decode cL_law 113 = .ok (.aload_n 0, 1) := by decide +kernel
theorem dL_law_114 : decode cL_law 114 = .ok (.iload_n 3, 1) := by decide +kernel
theorem dL_law_115 : decode cL_law 115 = .ok (.iconst 1, 1) := by decide +kernel
theorem dL_law_116 : decode cL_law 116 = .ok (.iadd, 1) := by decide +kernel
theorem dL_law_117 : decode cL_law 117 = .ok (.iaload, 1) := by decide +kernel
theorem dL_law_118 : decode cL_law 118 = .ok (.i2l, 1) := by decide +kernel
theorem dL_law_119 : decode cL_law 119 = .ok (.bipush 32, 2) := by decide +kernel
theorem dL_law_121 : decode cL_law 121 = .ok (.lshl, 1) := by decide +kernel
theorem dL_law_122 : decode cL_law 122 = .ok (.aload_n 0, 1) := by decide +kernel
theorem dL_law_123 : decode cL_law 123 = .ok (.iload_n 3, 1) := by decide +kernel
theorem dL_law_124 : decode cL_law 124 = .ok (.iconst 2, 1) := by decide +kernel
theorem dL_law_125 : decode cL_law 125 = .ok (.iadd, 1) := by decide +kernel
theorem dL_law_126 : decode cL_law 126 = .ok (.iaload, 1) := by decide +kernel
theorem dL_law_127 : decode cL_law 127 = .ok (.i2l, 1) := by decide +kernel
theorem dL_law_128 : decode cL_law 128 = .ok (.ldc2_w 13, 3) := by decide +kernel
theorem dL_law_131 : decode cL_law 131 = .ok (.land, 1) := by decide +kernel
theorem dL_law_132 : decode cL_law 132 = .ok (.lor, 1) := by decide +kernel
theorem dL_law_133 : decode cL_law 133 = .ok (.aload_n 0, 1) := by decide +kernel
theorem dL_law_134 : decode cL_law 134 = .ok (.iload_n 3, 1) := by decide +kernel
theorem dL_law_135 : decode cL_law 135 = .ok (.iconst 3, 1) := by decide +kernel
theorem dL_law_136 : decode cL_law 136 = .ok (.iadd, 1) := by decide +kernel
theorem dL_law_137 : decode cL_law 137 = .ok (.iaload, 1) := by decide +kernel
theorem dL_law_138 : decode cL_law 138 = .ok (.invokevirtual 15, 3) := by decide +kernel
theorem dL_law_141 : decode cL_law 141 = .ok (.aload_n 2, 1) := by decide +kernel
theorem dL_law_142 : decode cL_law 142 = .ok (.aload_n 0, 1) := by decide +kernel
theorem dL_law_143 : decode cL_law 143 = .ok (.iload_n 3, 1) := by decide +kernel
theorem dL_law_144 : decode cL_law 144 = .ok (.iconst 1, 1) := by decide +kernel
theorem dL_law_145 : decode cL_law 145 = .ok (.iadd, 1) := by decide +kernel
theorem dL_law_146 : decode cL_law 146 = .ok (.iaload, 1) := by decide +kernel
theorem dL_law_147 : decode cL_law 147 = .ok (.i2l, 1) := by decide +kernel
theorem dL_law_148 : decode cL_law 148 = .ok (.bipush 32, 2) := by decide +kernel
theorem dL_law_150 : decode cL_law 150 = .ok (.lshl, 1) := by decide +kernel
theorem dL_law_151 : decode cL_law 151 = .ok (.aload_n 0, 1) := by decide +kernel
theorem dL_law_152 : decode cL_law 152 = .ok (.iload_n 3, 1) := by decide +kernel
theorem dL_law_153 : decode cL_law 153 = .ok (.iconst 2, 1) := by decide +kernel
theorem dL_law_154 : decode cL_law 154 = .ok (.iadd, 1) := by decide +kernel
theorem dL_law_155 : decode cL_law 155 = .ok (.iaload, 1) := by decide +kernel
theorem dL_law_156 : decode cL_law 156 = .ok (.i2l, 1) := by decide +kernel
theorem dL_law_157 : decode cL_law 157 = .ok (.ldc2_w 13, 3) := by decide +kernel
theorem dL_law_160 : decode cL_law 160 = .ok (.land, 1) := by decide +kernel
theorem dL_law_161 : decode cL_law 161 = .ok (.lor, 1) := by decide +kernel
theorem dL_law_162 : decode cL_law 162 = .ok (.aload_n 0, 1) := by decide +kernel
theorem dL_law_163 : decode cL_law 163 = .ok (.iload_n 3, 1) := by decide +kernel
theorem dL_law_164 : decode cL_law 164 = .ok (.iconst 3, 1) := by decide +kernel
theorem dL_law_165 : decode cL_law 165 = .ok (.iadd, 1) := by decide +kernel
theorem dL_law_166 : decode cL_law 166 = .ok (.iaload, 1) := by decide +kernel
theorem dL_law_167 : decode cL_law 167 = .ok (.invokevirtual 19, 3) := by decide +kernel
theorem dL_law_170 : decode cL_law 170 = .ok (.if_icmp .eq 390, 3) := by decide +kernel
theorem dL_law_175 : decode cL_law 175 = .ok (.aload_n 1, 1) := by decide +kernel
theorem dL_law_176 : decode cL_law 176 = .ok (.aload_n 0, 1) := by decide +kernel
theorem dL_law_177 : decode cL_law 177 = .ok (.iload_n 3, 1) := by decide +kernel
theorem dL_law_178 : decode cL_law 178 = .ok (.iconst 1, 1) := by decide +kernel
theorem dL_law_179 : decode cL_law 179 = .ok (.iadd, 1) := by decide +kernel
theorem dL_law_180 : decode cL_law 180 = .ok (.iaload, 1) := by decide +kernel
theorem dL_law_181 : decode cL_law 181 = .ok (.invokevirtual 20, 3) := by decide +kernel
theorem dL_law_184 : decode cL_law 184 = .ok (.aload_n 2, 1) := by decide +kernel
theorem dL_law_185 : decode cL_law 185 = .ok (.aload_n 0, 1) := by decide +kernel
theorem dL_law_186 : decode cL_law 186 = .ok (.iload_n 3, 1) := by decide +kernel
theorem dL_law_187 : decode cL_law 187 = .ok (.iconst 1, 1) := by decide +kernel
theorem dL_law_188 : decode cL_law 188 = .ok (.iadd, 1) := by decide +kernel
theorem dL_law_189 : decode cL_law 189 = .ok (.iaload, 1) := by decide +kernel
theorem dL_law_190 : decode cL_law 190 = .ok (.invokevirtual 24, 3) := by decide +kernel
theorem dL_law_193 : decode cL_law 193 = .ok (.if_icmp .eq 367, 3) := by decide +kernel
theorem dL_law_198 : decode cL_law 198 = .ok (.aload_n 1, 1) := by decide +kernel
theorem dL_law_199 : decode cL_law 199 = .ok (.aload_n 0, 1) := by decide +kernel
theorem dL_law_200 : decode cL_law 200 = .ok (.iload_n 3, 1) := by decide +kernel
theorem dL_law_201 : decode cL_law 201 = .ok (.iconst 1, 1) := by decide +kernel
theorem dL_law_202 : decode cL_law 202 = .ok (.iadd, 1) := by decide +kernel
theorem dL_law_203 : decode cL_law 203 = .ok (.iaload, 1) := by decide +kernel
theorem dL_law_204 : decode cL_law 204 = .ok (.invokevirtual 25, 3) := by decide +kernel
theorem dL_law_207 : decode cL_law 207 = .ok (.aload_n 2, 1) := by decide +kernel
theorem dL_law_208 : decode cL_law 208 = .ok (.aload_n 0, 1) := by decide +kernel
theorem dL_law_209 : decode cL_law 209 = .ok (.iload_n 3, 1) := by decide +kernel
theorem dL_law_210 : decode cL_law 210 = .ok (.iconst 1, 1) := by decide +kernel
theorem dL_law_211 : decode cL_law 211 = .ok (.iadd, 1) := by decide +kernel
theorem dL_law_212 : decode cL_law 212 = .ok (.iaload, 1) := by decide +kernel
theorem dL_law_213 : decode cL_law 213 = .ok (.invokevirtual 28, 3) := by decide +kernel
theorem dL_law_216 : decode cL_law 216 = .ok (.if_icmp .eq 344, 3) := by decide +kernel
theorem dL_law_221 : decode cL_law 221 = .ok (.aload_n 1, 1) := by decide +kernel
theorem dL_law_222 : decode cL_law 222 = .ok (.aload_n 0, 1) := by decide +kernel
theorem dL_law_223 : decode cL_law 223 = .ok (.iload_n 3, 1) := by decide +kernel
theorem dL_law_224 : decode cL_law 224 = .ok (.iconst 1, 1) := by decide +kernel
theorem dL_law_225 : decode cL_law 225 = .ok (.iadd, 1) := by decide +kernel
theorem dL_law_226 : decode cL_law 226 = .ok (.iaload, 1) := by decide +kernel
theorem dL_law_227 : decode cL_law 227 = .ok (.invokevirtual 29, 3) := by decide +kernel
theorem dL_law_230 : decode cL_law 230 = .ok (.aload_n 2, 1) := by decide +kernel
theorem dL_law_231 : decode cL_law 231 = .ok (.aload_n 0, 1) := by decide +kernel
theorem dL_law_232 : decode cL_law 232 = .ok (.iload_n 3, 1) := by decide +kernel
theorem dL_law_233 : decode cL_law 233 = .ok (.iconst 1, 1) := by decide +kernel
theorem dL_law_234 : decode cL_law 234 = .ok (.iadd, 1) := by decide +kernel
theorem dL_law_235 : decode cL_law 235 = .ok (.iaload, 1) := by decide +kernel
theorem dL_law_236 : decode cL_law 236 = .ok (.invokevirtual 32, 3) := by decide +kernel
theorem dL_law_239 : decode cL_law 239 = .ok (.if_icmp .eq 321, 3) := by decide +kernel
theorem dL_law_244 : decode cL_law 244 = .ok (.aload_n 1, 1) := by decide +kernel
theorem dL_law_245 : decode cL_law 245 = .ok (.aload_n 0, 1) := by decide +kernel
theorem dL_law_246 : decode cL_law 246 = .ok (.iload_n 3, 1) := by decide +kernel
theorem dL_law_247 : decode cL_law 247 = .ok (.iconst 1, 1) := by decide +kernel
theorem dL_law_248 : decode cL_law 248 = .ok (.iadd, 1) := by decide +kernel
theorem dL_law_249 : decode cL_law 249 = .ok (.iaload, 1) := by decide +kernel
theorem dL_law_250 : decode cL_law 250 = .ok (.aload_n 0, 1) := by decide +kernel
theorem dL_law_251 : decode cL_law 251 = .ok (.iload_n 3, 1) := by decide +kernel
theorem dL_law_252 : decode cL_law 252 = .ok (.iconst 2, 1) := by decide +kernel
theorem dL_law_253 : decode cL_law 253 = .ok (.iadd, 1) := by decide +kernel
theorem dL_law_254 : decode cL_law 254 = .ok (.iaload, 1) := by decide +kernel
theorem dL_law_255 : decode cL_law 255 = .ok (.invokevirtual 33, 3) := by decide +kernel
theorem dL_law_258 : decode cL_law 258 = .ok (.aload_n 2, 1) := by decide +kernel
theorem dL_law_259 : decode cL_law 259 = .ok (.aload_n 0, 1) := by decide +kernel
theorem dL_law_260 : decode cL_law 260 = .ok (.iload_n 3, 1) := by decide +kernel
theorem dL_law_261 : decode cL_law 261 = .ok (.iconst 1, 1) := by decide +kernel
theorem dL_law_262 : decode cL_law 262 = .ok (.iadd, 1) := by decide +kernel
theorem dL_law_263 : decode cL_law 263 = .ok (.iaload, 1) := by decide +kernel
theorem dL_law_264 : decode cL_law 264 = .ok (.aload_n 0, 1) := by decide +kernel
theorem dL_law_265 : decode cL_law 265 = .ok (.iload_n 3, 1) := by decide +kernel
theorem dL_law_266 : decode cL_law 266 = .ok (.iconst 2, 1) := by decide +kernel
theorem dL_law_267 : decode cL_law 267 = .ok (.iadd, 1) := by decide +kernel
theorem dL_law_268 : decode cL_law 268 = .ok (.iaload, 1) := by decide +kernel
theorem dL_law_269 : decode cL_law 269 = .ok (.invokevirtual 37, 3) := by decide +kernel
theorem dL_law_272 : decode cL_law 272 = .ok (.if_icmp .eq 288, 3) := by decide +kernel
theorem dL_law_277 : decode cL_law 277 = .ok (.aload_n 1, 1) := by decide +kernel
theorem dL_law_278 : decode cL_law 278 = .ok (.invokevirtual 38, 3) := by decide +kernel
theorem dL_law_281 : decode cL_law 281 = .ok (.aload_n 2, 1) := by decide +kernel
theorem dL_law_282 : decode cL_law 282 = .ok (.invokevirtual 42, 3) := by decide +kernel
theorem dL_law_285 : decode cL_law 285 = .ok (.if_icmp .eq 275, 3) := by decide +kernel
theorem dL_law_290 : decode cL_law 290 = .ok (.aload_n 1, 1) := by decide +kernel
theorem dL_law_291 : decode cL_law 291 = .ok (.invokevirtual 43, 3) := by decide +kernel
theorem dL_law_294 : decode cL_law 294 = .ok (.aload_n 2, 1) := by decide +kernel
theorem dL_law_295 : decode cL_law 295 = .ok (.invokevirtual 46, 3) := by decide +kernel
theorem dL_law_298 : decode cL_law 298 = .ok (.if_icmp .eq 262, 3) := by decide +kernel
theorem dL_law_303 : decode cL_law 303 = .ok (.aload_n 1, 1) := by decide +kernel
theorem dL_law_304 : decode cL_law 304 = .ok (.aload_n 0, 1) := by decide +kernel
theorem dL_law_305 : decode cL_law 305 = .ok (.iload_n 3, 1) := by decide +kernel
theorem dL_law_306 : decode cL_law 306 = .ok (.iconst 1, 1) := by decide +kernel
theorem dL_law_307 : decode cL_law 307 = .ok (.iadd, 1) := by decide +kernel
theorem dL_law_308 : decode cL_law 308 = .ok (.iaload, 1) := by decide +kernel
theorem dL_law_309 : decode cL_law 309 = .ok (.invokevirtual 47, 3) := by decide +kernel
theorem dL_law_312 : decode cL_law 312 = .ok (.aload_n 2, 1) := by decide +kernel
theorem dL_law_313 : decode cL_law 313 = .ok (.aload_n 0, 1) := by decide +kernel
theorem dL_law_314 : decode cL_law 314 = .ok (.iload_n 3, 1) := by decide +kernel
theorem dL_law_315 : decode cL_law 315 = .ok (.iconst 1, 1) := by decide +kernel
theorem dL_law_316 : decode cL_law 316 = .ok (.iadd, 1) := by decide +kernel
theorem dL_law_317 : decode cL_law 317 = .ok (.iaload, 1) := by decide +kernel
theorem dL_law_318 : decode cL_law 318 = .ok (.invokevirtual 50, 3) := by decide +kernel
theorem dL_law_321 : decode cL_law 321 = .ok (.if_icmp .eq 239, 3) := by decide +kernel
theorem dL_law_326 : decode cL_law 326 = .ok (.aload_n 1, 1) := by decide +kernel
theorem dL_law_327 : decode cL_law 327 = .ok (.aload_n 0, 1) := by decide +kernel
theorem dL_law_328 : decode cL_law 328 = .ok (.iload_n 3, 1) := by decide +kernel
theorem dL_law_329 : decode cL_law 329 = .ok (.iconst 1, 1) := by decide +kernel
theorem dL_law_330 : decode cL_law 330 = .ok (.iadd, 1) := by decide +kernel
theorem dL_law_331 : decode cL_law 331 = .ok (.iaload, 1) := by decide +kernel
theorem dL_law_332 : decode cL_law 332 = .ok (.invokevirtual 51, 3) := by decide +kernel
theorem dL_law_335 : decode cL_law 335 = .ok (.aload_n 2, 1) := by decide +kernel
theorem dL_law_336 : decode cL_law 336 = .ok (.aload_n 0, 1) := by decide +kernel
theorem dL_law_337 : decode cL_law 337 = .ok (.iload_n 3, 1) := by decide +kernel
theorem dL_law_338 : decode cL_law 338 = .ok (.iconst 1, 1) := by decide +kernel
theorem dL_law_339 : decode cL_law 339 = .ok (.iadd, 1) := by decide +kernel
theorem dL_law_340 : decode cL_law 340 = .ok (.iaload, 1) := by decide +kernel
theorem dL_law_341 : decode cL_law 341 = .ok (.invokevirtual 54, 3) := by decide +kernel
theorem dL_law_344 : decode cL_law 344 = .ok (.if_icmp .eq 216, 3) := by decide +kernel
theorem dL_law_349 : decode cL_law 349 = .ok (.aload_n 1, 1) := by decide +kernel
theorem dL_law_350 : decode cL_law 350 = .ok (.aload_n 0, 1) := by decide +kernel
theorem dL_law_351 : decode cL_law 351 = .ok (.iload_n 3, 1) := by decide +kernel
theorem dL_law_352 : decode cL_law 352 = .ok (.iconst 1, 1) := by decide +kernel
theorem dL_law_353 : decode cL_law 353 = .ok (.iadd, 1) := by decide +kernel
theorem dL_law_354 : decode cL_law 354 = .ok (.iaload, 1) := by decide +kernel
theorem dL_law_355 : decode cL_law 355 = .ok (.aload_n 0, 1) := by decide +kernel
theorem dL_law_356 : decode cL_law 356 = .ok (.iload_n 3, 1) := by decide +kernel
theorem dL_law_357 : decode cL_law 357 = .ok (.iconst 2, 1) := by decide +kernel
theorem dL_law_358 : decode cL_law 358 = .ok (.iadd, 1) := by decide +kernel
theorem dL_law_359 : decode cL_law 359 = .ok (.iaload, 1) := by decide +kernel
theorem dL_law_360 : decode cL_law 360 = .ok (.invokevirtual 55, 3) := by decide +kernel
theorem dL_law_363 : decode cL_law 363 = .ok (.aload_n 2, 1) := by decide +kernel
theorem dL_law_364 : decode cL_law 364 = .ok (.aload_n 0, 1) := by decide +kernel
theorem dL_law_365 : decode cL_law 365 = .ok (.iload_n 3, 1) := by decide +kernel
theorem dL_law_366 : decode cL_law 366 = .ok (.iconst 1, 1) := by decide +kernel
theorem dL_law_367 : decode cL_law 367 = .ok (.iadd, 1) := by decide +kernel
theorem dL_law_368 : decode cL_law 368 = .ok (.iaload, 1) := by decide +kernel
theorem dL_law_369 : decode cL_law 369 = .ok (.aload_n 0, 1) := by decide +kernel
theorem dL_law_370 : decode cL_law 370 = .ok (.iload_n 3, 1) := by decide +kernel
theorem dL_law_371 : decode cL_law 371 = .ok (.iconst 2, 1) := by decide +kernel
theorem dL_law_372 : decode cL_law 372 = .ok (.iadd, 1) := by decide +kernel
theorem dL_law_373 : decode cL_law 373 = .ok (.iaload, 1) := by decide +kernel
theorem dL_law_374 : decode cL_law 374 = .ok (.invokevirtual 58, 3) := by decide +kernel
theorem dL_law_377 : decode cL_law 377 = .ok (.if_icmp .eq 183, 3) := by decide +kernel
theorem dL_law_382 : decode cL_law 382 = .ok (.aload_n 1, 1) := by decide +kernel
theorem dL_law_383 : decode cL_law 383 = .ok (.invokevirtual 59, 3) := by decide +kernel
theorem dL_law_386 : decode cL_law 386 = .ok (.aload_n 2, 1) := by decide +kernel
theorem dL_law_387 : decode cL_law 387 = .ok (.invokevirtual 62, 3) := by decide +kernel
theorem dL_law_390 : decode cL_law 390 = .ok (.if_icmp .eq 170, 3) := by decide +kernel
theorem dL_law_395 : decode cL_law 395 = .ok (.aload_n 1, 1) := by decide +kernel
theorem dL_law_396 : decode cL_law 396 = .ok (.aload_n 0, 1) := by decide +kernel
theorem dL_law_397 : decode cL_law 397 = .ok (.iload_n 3, 1) := by decide +kernel
theorem dL_law_398 : decode cL_law 398 = .ok (.iconst 1, 1) := by decide +kernel
theorem dL_law_399 : decode cL_law 399 = .ok (.iadd, 1) := by decide +kernel
theorem dL_law_400 : decode cL_law 400 = .ok (.iaload, 1) := by decide +kernel
theorem dL_law_401 : decode cL_law 401 = .ok (.aload_n 0, 1) := by decide +kernel
theorem dL_law_402 : decode cL_law 402 = .ok (.iload_n 3, 1) := by decide +kernel
theorem dL_law_403 : decode cL_law 403 = .ok (.iconst 2, 1) := by decide +kernel
theorem dL_law_404 : decode cL_law 404 = .ok (.iadd, 1) := by decide +kernel
theorem dL_law_405 : decode cL_law 405 = .ok (.iaload, 1) := by decide +kernel
theorem dL_law_406 : decode cL_law 406 = .ok (.invokevirtual 63, 3) := by decide +kernel
theorem dL_law_409 : decode cL_law 409 = .ok (.aload_n 2, 1) := by decide +kernel
theorem dL_law_410 : decode cL_law 410 = .ok (.aload_n 0, 1) := by decide +kernel
theorem dL_law_411 : decode cL_law 411 = .ok (.iload_n 3, 1) := by decide +kernel
theorem dL_law_412 : decode cL_law 412 = .ok (.iconst 1, 1) := by decide +kernel
theorem dL_law_413 : decode cL_law 413 = .ok (.iadd, 1) := by decide +kernel
theorem dL_law_414 : decode cL_law 414 = .ok (.iaload, 1) := by decide +kernel
theorem dL_law_415 : decode cL_law 415 = .ok (.aload_n 0, 1) := by decide +kernel
theorem dL_law_416 : decode cL_law 416 = .ok (.iload_n 3, 1) := by decide +kernel
theorem dL_law_417 : decode cL_law 417 = .ok (.iconst 2, 1) := by decide +kernel
theorem dL_law_418 : decode cL_law 418 = .ok (.iadd, 1) := by decide +kernel
theorem dL_law_419 : decode cL_law 419 = .ok (.iaload, 1) := by decide +kernel
theorem dL_law_420 : decode cL_law 420 = .ok (.invokevirtual 66, 3) := by decide +kernel
theorem dL_law_423 : decode cL_law 423 = .ok (.if_icmp .eq 137, 3) := by decide +kernel
theorem dL_law_428 : decode cL_law 428 = .ok (.aload_n 1, 1) := by decide +kernel
theorem dL_law_429 : decode cL_law 429 = .ok (.aload_n 0, 1) := by decide +kernel
theorem dL_law_430 : decode cL_law 430 = .ok (.iload_n 3, 1) := by decide +kernel
theorem dL_law_431 : decode cL_law 431 = .ok (.iconst 1, 1) := by decide +kernel
theorem dL_law_432 : decode cL_law 432 = .ok (.iadd, 1) := by decide +kernel
theorem dL_law_433 : decode cL_law 433 = .ok (.iaload, 1) := by decide +kernel
theorem dL_law_434 : decode cL_law 434 = .ok (.aload_n 0, 1) := by decide +kernel
theorem dL_law_435 : decode cL_law 435 = .ok (.iload_n 3, 1) := by decide +kernel
theorem dL_law_436 : decode cL_law 436 = .ok (.iconst 2, 1) := by decide +kernel
theorem dL_law_437 : decode cL_law 437 = .ok (.iadd, 1) := by decide +kernel
theorem dL_law_438 : decode cL_law 438 = .ok (.iaload, 1) := by decide +kernel
theorem dL_law_439 : decode cL_law 439 = .ok (.aload_n 0, 1) := by decide +kernel
theorem dL_law_440 : decode cL_law 440 = .ok (.iload_n 3, 1) := by decide +kernel
theorem dL_law_441 : decode cL_law 441 = .ok (.iconst 3, 1) := by decide +kernel
theorem dL_law_442 : decode cL_law 442 = .ok (.iadd, 1) := by decide +kernel
theorem dL_law_443 : decode cL_law 443 = .ok (.iaload, 1) := by decide +kernel
theorem dL_law_444 : decode cL_law 444 = .ok (.invokevirtual 67, 3) := by decide +kernel
theorem dL_law_447 : decode cL_law 447 = .ok (.aload_n 2, 1) := by decide +kernel
theorem dL_law_448 : decode cL_law 448 = .ok (.aload_n 0, 1) := by decide +kernel
theorem dL_law_449 : decode cL_law 449 = .ok (.iload_n 3, 1) := by decide +kernel
theorem dL_law_450 : decode cL_law 450 = .ok (.iconst 1, 1) := by decide +kernel
theorem dL_law_451 : decode cL_law 451 = .ok (.iadd, 1) := by decide +kernel
theorem dL_law_452 : decode cL_law 452 = .ok (.iaload, 1) := by decide +kernel
theorem dL_law_453 : decode cL_law 453 = .ok (.aload_n 0, 1) := by decide +kernel
theorem dL_law_454 : decode cL_law 454 = .ok (.iload_n 3, 1) := by decide +kernel
theorem dL_law_455 : decode cL_law 455 = .ok (.iconst 2, 1) := by decide +kernel
theorem dL_law_456 : decode cL_law 456 = .ok (.iadd, 1) := by decide +kernel
theorem dL_law_457 : decode cL_law 457 = .ok (.iaload, 1) := by decide +kernel
theorem dL_law_458 : decode cL_law 458 = .ok (.aload_n 0, 1) := by decide +kernel
theorem dL_law_459 : decode cL_law 459 = .ok (.iload_n 3, 1) := by decide +kernel
theorem dL_law_460 : decode cL_law 460 = .ok (.iconst 3, 1) := by decide +kernel
theorem dL_law_461 : decode cL_law 461 = .ok (.iadd, 1) := by decide +kernel
theorem dL_law_462 : decode cL_law 462 = .ok (.iaload, 1) := by decide +kernel
theorem dL_law_463 : decode cL_law 463 = .ok (.invokevirtual 71, 3) := by decide +kernel
theorem dL_law_466 : decode cL_law 466 = .ok (.if_icmp .eq 94, 3) := by decide +kernel
theorem dL_law_471 : decode cL_law 471 = .ok (.aload_n 1, 1) := by decide +kernel
theorem dL_law_472 : decode cL_law 472 = .ok (.aload_n 0, 1) := by decide +kernel
theorem dL_law_473 : decode cL_law 473 = .ok (.iload_n 3, 1) := by decide +kernel
theorem dL_law_474 : decode cL_law 474 = .ok (.iconst 1, 1) := by decide +kernel
theorem dL_law_475 : decode cL_law 475 = .ok (.iadd, 1) := by decide +kernel
theorem dL_law_476 : decode cL_law 476 = .ok (.iaload, 1) := by decide +kernel
theorem dL_law_477 : decode cL_law 477 = .ok (.aload_n 0, 1) := by decide +kernel
theorem dL_law_478 : decode cL_law 478 = .ok (.iload_n 3, 1) := by decide +kernel
theorem dL_law_479 : decode cL_law 479 = .ok (.iconst 2, 1) := by decide +kernel
theorem dL_law_480 : decode cL_law 480 = .ok (.iadd, 1) := by decide +kernel
theorem dL_law_481 : decode cL_law 481 = .ok (.iaload, 1) := by decide +kernel
theorem dL_law_482 : decode cL_law 482 = .ok (.invokevirtual 72, 3) := by decide +kernel
theorem dL_law_485 : decode cL_law 485 = .ok (.aload_n 2, 1) := by decide +kernel
theorem dL_law_486 : decode cL_law 486 = .ok (.aload_n 0, 1) := by decide +kernel
theorem dL_law_487 : decode cL_law 487 = .ok (.iload_n 3, 1) := by decide +kernel
theorem dL_law_488 : decode cL_law 488 = .ok (.iconst 1, 1) := by decide +kernel
theorem dL_law_489 : decode cL_law 489 = .ok (.iadd, 1) := by decide +kernel
theorem dL_law_490 : decode cL_law 490 = .ok (.iaload, 1) := by decide +kernel
theorem dL_law_491 : decode cL_law 491 = .ok (.aload_n 0, 1) := by decide +kernel
theorem dL_law_492 : decode cL_law 492 = .ok (.iload_n 3, 1) := by decide +kernel
theorem dL_law_493 : decode cL_law 493 = .ok (.iconst 2, 1) := by decide +kernel
theorem dL_law_494 : decode cL_law 494 = .ok (.iadd, 1) := by decide +kernel
theorem dL_law_495 : decode cL_law 495 = .ok (.iaload, 1) := by decide +kernel
theorem dL_law_496 : decode cL_law 496 = .ok (.invokevirtual 75, 3) := by decide +kernel
theorem dL_law_499 : decode cL_law 499 = .ok (.if_icmp .eq 61, 3) := by decide +kernel
theorem dL_law_504 : decode cL_law 504 = .ok (.aload_n 1, 1) := by decide +kernel
theorem dL_law_505 : decode cL_law 505 = .ok (.aload_n 0, 1) := by decide +kernel
theorem dL_law_506 : decode cL_law 506 = .ok (.iload_n 3, 1) := by decide +kernel
theorem dL_law_507 : decode cL_law 507 = .ok (.iconst 1, 1) := by decide +kernel
theorem dL_law_508 : decode cL_law 508 = .ok (.iadd, 1) := by decide +kernel
theorem dL_law_509 : decode cL_law 509 = .ok (.iaload, 1) := by decide +kernel
theorem dL_law_510 : decode cL_law 510 = .ok (.aload_n 0, 1) := by decide +kernel
theorem dL_law_511 : decode cL_law 511 = .ok (.iload_n 3, 1) := by decide +kernel
theorem dL_law_512 : decode cL_law 512 = .ok (.iconst 2, 1) := by decide +kernel
theorem dL_law_513 : decode cL_law 513 = .ok (.iadd, 1) := by decide +kernel
theorem dL_law_514 : decode cL_law 514 = .ok (.iaload, 1) := by decide +kernel
theorem dL_law_515 : decode cL_law 515 = .ok (.invokevirtual 76, 3) := by decide +kernel
theorem dL_law_518 : decode cL_law 518 = .ok (.aload_n 2, 1) := by decide +kernel
theorem dL_law_519 : decode cL_law 519 = .ok (.aload_n 0, 1) := by decide +kernel
theorem dL_law_520 : decode cL_law 520 = .ok (.iload_n 3, 1) := by decide +kernel
theorem dL_law_521 : decode cL_law 521 = .ok (.iconst 1, 1) := by decide +kernel
theorem dL_law_522 : decode cL_law 522 = .ok (.iadd, 1) := by decide +kernel
theorem dL_law_523 : decode cL_law 523 = .ok (.iaload, 1) := by decide +kernel
theorem dL_law_524 : decode cL_law 524 = .ok (.aload_n 0, 1) := by decide +kernel
theorem dL_law_525 : decode cL_law 525 = .ok (.iload_n 3, 1) := by decide +kernel
theorem dL_law_526 : decode cL_law 526 = .ok (.iconst 2, 1) := by decide +kernel
theorem dL_law_527 : decode cL_law 527 = .ok (.iadd, 1) := by decide +kernel
theorem dL_law_528 : decode cL_law 528 = .ok (.iaload, 1) := by decide +kernel
theorem dL_law_529 : decode cL_law 529 = .ok (.invokevirtual 79, 3) := by decide +kernel
theorem dL_law_532 : decode cL_law 532 = .ok (.if_icmp .eq 28, 3) := by decide +kernel
theorem dL_law_537 : decode cL_law 537 = .ok (.aload_n 1, 1) := by decide +kernel
theorem dL_law_538 : decode cL_law 538 = .ok (.aload_n 0, 1) := by decide +kernel
theorem dL_law_539 : decode cL_law 539 = .ok (.iload_n 3, 1) := by decide +kernel
theorem dL_law_540 : decode cL_law 540 = .ok (.iconst 1, 1) := by decide +kernel
theorem dL_law_541 : decode cL_law 541 = .ok (.iadd, 1) := by decide +kernel
theorem dL_law_542 : decode cL_law 542 = .ok (.iaload, 1) := by decide +kernel
theorem dL_law_543 : decode cL_law 543 = .ok (.invokevirtual 80, 3) := by decide +kernel
theorem dL_law_546 : decode cL_law 546 = .ok (.aload_n 2, 1) := by decide +kernel
theorem dL_law_547 : decode cL_law 547 = .ok (.aload_n 0, 1) := by decide +kernel
theorem dL_law_548 : decode cL_law 548 = .ok (.iload_n 3, 1) := by decide +kernel
theorem dL_law_549 : decode cL_law 549 = .ok (.iconst 1, 1) := by decide +kernel
theorem dL_law_550 : decode cL_law 550 = .ok (.iadd, 1) := by decide +kernel
theorem dL_law_551 : decode cL_law 551 = .ok (.iaload, 1) := by decide +kernel
theorem dL_law_552 : decode cL_law 552 = .ok (.invokevirtual 83, 3) := by decide +kernel
theorem dL_law_555 : decode cL_law 555 = .ok (.if_icmp .eq 5, 3) := by decide +kernel
theorem dL_law_560 : decode cL_law 560 = .ok (.iinc 3 4, 3) := by decide +kernel
theorem dL_law_563 : decode cL_law 563 = .ok (.goto (-545), 3) := by decide +kernel
theorem dL_law_566 : decode cL_law 566 = .ok (.iconst 1, 1) := by decide +kernel
theorem dL_law_567 : decode cL_law 567 = .ok (.ireturn, 1) := by decide +kernel
