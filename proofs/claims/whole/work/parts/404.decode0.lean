theorem dX0_init_0 : decode cX0_init 0 = .ok (.aload_n 0, 1) := by decide +kernel
theorem dX0_init_1 : decode cX0_init 1 = .ok (.invokespecial 3, 3) := by decide +kernel
theorem dX0_init_4 : decode cX0_init 4 = .ok (.aload_n 0, 1) := by decide +kernel
theorem dX0_init_5 : decode cX0_init 5 = .ok (.bipush 16, 2) := by decide +kernel
theorem dX0_init_7 : decode cX0_init 7 = .ok (.newarray .int, 2) := by decide +kernel
theorem dX0_init_9 : decode cX0_init 9 = .ok (.putfield 9, 3) := by decide +kernel
theorem dX0_init_12 : decode cX0_init 12 = .ok (.aload_n 0, 1) := by decide +kernel
theorem dX0_init_13 : decode cX0_init 13 = .ok (.bipush 16, 2) := by decide +kernel
theorem dX0_init_15 : decode cX0_init 15 = .ok (.newarray .int, 2) := by decide +kernel
theorem dX0_init_17 : decode cX0_init 17 = .ok (.putfield 15, 3) := by decide +kernel
theorem dX0_init_20 : decode cX0_init 20 = .ok (.aload_n 0, 1) := by decide +kernel
theorem dX0_init_21 : decode cX0_init 21 = .ok (.bipush 6, 2) := by decide +kernel
theorem dX0_init_23 : decode cX0_init 23 = .ok (.newarray .int, 2) := by decide +kernel
theorem dX0_init_25 : decode cX0_init 25 = .ok (.putfield 18, 3) := by decide +kernel
theorem dX0_init_28 : decode cX0_init 28 = .ok (.aload_n 0, 1) := by decide +kernel
theorem dX0_init_29 : decode cX0_init 29 = .ok (.iconst 5, 1) := by decide +kernel
theorem dX0_init_30 : decode cX0_init 30 = .ok (.newarray .int, 2) := by decide +kernel
theorem dX0_init_32 : decode cX0_init 32 = .ok (.putfield 21, 3) := by decide +kernel
theorem dX0_init_35 : decode cX0_init 35 = .ok (.aload_n 0, 1) := by decide +kernel
theorem dX0_init_36 : decode cX0_init 36 = .ok (.iconst 5, 1) := by decide +kernel
theorem dX0_init_37 : decode cX0_init 37 = .ok (.newarray .int, 2) := by decide +kernel
theorem dX0_init_39 : decode cX0_init 39 = .ok (.putfield 24, 3) := by decide +kernel
theorem dX0_init_42 : decode cX0_init 42 = .ok (.aload_n 0, 1) := by decide +kernel
theorem dX0_init_43 : decode cX0_init 43 = .ok (.aload_n 1, 1) := by decide +kernel
theorem dX0_init_44 : decode cX0_init 44 = .ok (.putfield 27, 3) := by decide +kernel
theorem dX0_init_47 : decode cX0_init 47 = .ok (.aload_n 0, 1) := by decide +kernel
theorem dX0_init_48 : decode cX0_init 48 = .ok (.getfield 9, 3) := by decide +kernel
theorem dX0_init_51 : decode cX0_init 51 = .ok (.iconst (-1), 1) := by decide +kernel
theorem dX0_init_52 : decode cX0_init 52 = .ok (.invokestatic 31, 3) := by decide +kernel
theorem dX0_init_55 : decode cX0_init 55 = .ok (.return_, 1) := by decide +kernel
theorem dX0_setSpoken_0 : decode cX0_setSpoken 0 = .ok (.iload_n 1, 1) := by decide +kernel
theorem dX0_setSpoken_1 : decode cX0_setSpoken 1 = .ok (.invokestatic 37, 3) := by decide +kernel
theorem dX0_setSpoken_4 : decode cX0_setSpoken 4 = .ok (.ifCond .eq 17, 3) := by decide +kernel
theorem dX0_setSpoken_7 : decode cX0_setSpoken 7 = .ok (.aload_n 0, 1) := by decide +kernel
theorem dX0_setSpoken_8 : decode cX0_setSpoken 8 = .ok (.getfield 9, 3) := by decide +kernel
theorem dX0_setSpoken_11 : decode cX0_setSpoken 11 = .ok (.iload_n 1, 1) := by decide +kernel
theorem dX0_setSpoken_12 : decode cX0_setSpoken 12 = .ok (.iload_n 2, 1) := by decide +kernel
theorem dX0_setSpoken_13 : decode cX0_setSpoken 13 = .ok (.iastore, 1) := by decide +kernel
theorem dX0_setSpoken_14 : decode cX0_setSpoken 14 = .ok (.aload_n 0, 1) := by decide +kernel
theorem dX0_setSpoken_15 : decode cX0_setSpoken 15 = .ok (.getfield 15, 3) := by decide +kernel
theorem dX0_setSpoken_18 : decode cX0_setSpoken 18 = .ok (.iload_n 1, 1) := by decide +kernel
theorem dX0_setSpoken_19 : decode cX0_setSpoken 19 = .ok (.iload_n 3, 1) := by decide +kernel
theorem dX0_setSpoken_20 : decode cX0_setSpoken 20 = .ok (.iastore, 1) := by decide +kernel
theorem dX0_setSpoken_21 : decode cX0_setSpoken 21 = .ok (.return_, 1) := by decide +kernel
theorem dX0_setSilent_0 : decode cX0_setSilent 0 = .ok (.aload_n 0, 1) := by decide +kernel
theorem dX0_setSilent_1 : decode cX0_setSilent 1 = .ok (.iload_n 1, 1) := by decide +kernel
theorem dX0_setSilent_2 : decode cX0_setSilent 2 = .ok (.iconst (-1), 1) := by decide +kernel
theorem dX0_setSilent_3 : decode cX0_setSilent 3 = .ok (.iconst 0, 1) := by decide +kernel
theorem dX0_setSilent_4 : decode cX0_setSilent 4 = .ok (.invokevirtual 41, 3) := by decide +kernel
theorem dX0_setSilent_7 : decode cX0_setSilent 7 = .ok (.return_, 1) := by decide +kernel
theorem dX0_isSilent_0 : decode cX0_isSilent 0 = .ok (.iload_n 1, 1) := by decide +kernel
theorem dX0_isSilent_1 : decode cX0_isSilent 1 = .ok (.invokestatic 37, 3) := by decide +kernel
theorem dX0_isSilent_4 : decode cX0_isSilent 4 = .ok (.ifCond .eq 13, 3) := by decide +kernel
theorem dX0_isSilent_7 : decode cX0_isSilent 7 = .ok (.aload_n 0, 1) := by decide +kernel
theorem dX0_isSilent_8 : decode cX0_isSilent 8 = .ok (.getfield 9, 3) := by decide +kernel
theorem dX0_isSilent_11 : decode cX0_isSilent 11 = .ok (.iload_n 1, 1) := by decide +kernel
theorem dX0_isSilent_12 : decode cX0_isSilent 12 = .ok (.iaload, 1) := by decide +kernel
theorem dX0_isSilent_13 : decode cX0_isSilent 13 = .ok (.iconst (-1), 1) := by decide +kernel
theorem dX0_isSilent_14 : decode cX0_isSilent 14 = .ok (.if_icmp .ne 7, 3) := by decide +kernel
theorem dX0_isSilent_17 : decode cX0_isSilent 17 = .ok (.iconst 1, 1) := by decide +kernel
theorem dX0_isSilent_18 : decode cX0_isSilent 18 = .ok (.goto 4, 3) := by decide +kernel
theorem dX0_isSilent_21 : decode cX0_isSilent 21 = .ok (.iconst 0, 1) := by decide +kernel
theorem dX0_isSilent_22 : decode cX0_isSilent 22 = .ok (.ireturn, 1) := by decide +kernel
theorem dX0_spokenHalves_0 : decode cX0_spokenHalves 0 = .ok (.iconst 0, 1) := by decide +kernel
theorem dX0_spokenHalves_1 : decode cX0_spokenHalves 1 = .ok (.istore_n 1, 1) := by decide +kernel
theorem dX0_spokenHalves_2 : decode cX0_spokenHalves 2 = .ok (.iconst 0, 1) := by decide +kernel
theorem dX0_spokenHalves_3 : decode cX0_spokenHalves 3 = .ok (.istore_n 2, 1) := by decide +kernel
theorem dX0_spokenHalves_4 : decode cX0_spokenHalves 4 = .ok (.iload_n 2, 1) := by decide +kernel
theorem dX0_spokenHalves_5 : decode cX0_spokenHalves 5 = .ok (.bipush 16, 2) := by decide +kernel
theorem dX0_spokenHalves_7 : decode cX0_spokenHalves 7 = .ok (.if_icmp .ge 20, 3) := by decide +kernel
theorem dX0_spokenHalves_10 : decode cX0_spokenHalves 10 = .ok (.aload_n 0, 1) := by decide +kernel
theorem dX0_spokenHalves_11 : decode cX0_spokenHalves 11 = .ok (.iload_n 2, 1) := by decide +kernel
theorem dX0_spokenHalves_12 : decode cX0_spokenHalves 12 = .ok (.invokevirtual 45, 3) := by decide +kernel
theorem dX0_spokenHalves_15 : decode cX0_spokenHalves 15 = .ok (.ifCond .ne 6, 3) := by decide +kernel
theorem dX0_spokenHalves_18 : decode cX0_spokenHalves 18 = .ok (.iinc 1 1, 3) := by decide +kernel
theorem dX0_spokenHalves_21 : decode cX0_spokenHalves 21 = .ok (.iinc 2 1, 3) := by decide +kernel
theorem dX0_spokenHalves_24 : decode cX0_spokenHalves 24 = .ok (.goto (-20), 3) := by decide +kernel
theorem dX0_spokenHalves_27 : decode cX0_spokenHalves 27 = .ok (.iload_n 1, 1) := by decide +kernel
theorem dX0_spokenHalves_28 : decode cX0_spokenHalves 28 = .ok (.ireturn, 1) := by decide +kernel
theorem dX0_playThrough_0 : decode cX0_playThrough 0 = .ok (.aload_n 0, 1) := by decide +kernel
theorem dX0_playThrough_1 : decode cX0_playThrough 1 = .ok (.getfield 18, 3) := by decide +kernel
theorem dX0_playThrough_4 : decode cX0_playThrough 4 = .ok (.iconst 0, 1) := by decide +kernel
theorem dX0_playThrough_5 : decode cX0_playThrough 5 = .ok (.invokestatic 31, 3) := by decide +kernel
theorem dX0_playThrough_8 : decode cX0_playThrough 8 = .ok (.iconst 0, 1) := by decide +kernel
theorem dX0_playThrough_9 : decode cX0_playThrough 9 = .ok (.istore_n 2, 1) := by decide +kernel
theorem dX0_playThrough_10 : decode cX0_playThrough 10 = .ok (.iload_n 2, 1) := by decide +kernel
theorem dX0_playThrough_11 : decode cX0_playThrough 11 = .ok (.bipush 16, 2) := by decide +kernel
theorem dX0_playThrough_13 : decode cX0_playThrough 13 = .ok (.if_icmp .ge 19, 3) := by decide +kernel
theorem dX0_playThrough_16 : decode cX0_playThrough 16 = .ok (.iload_n 2, 1) := by decide +kernel
theorem dX0_playThrough_17 : decode cX0_playThrough 17 = .ok (.iload_n 1, 1) := by decide +kernel
theorem dX0_playThrough_18 : decode cX0_playThrough 18 = .ok (.if_icmp .gt 14, 3) := by decide +kernel
theorem dX0_playThrough_21 : decode cX0_playThrough 21 = .ok (.aload_n 0, 1) := by decide +kernel
theorem dX0_playThrough_22 : decode cX0_playThrough 22 = .ok (.iload_n 2, 1) := by decide +kernel
theorem dX0_playThrough_23 : decode cX0_playThrough 23 = .ok (.invokevirtual 48, 3) := by decide +kernel
theorem dX0_playThrough_26 : decode cX0_playThrough 26 = .ok (.iinc 2 1, 3) := by decide +kernel
theorem dX0_playThrough_29 : decode cX0_playThrough 29 = .ok (.goto (-19), 3) := by decide +kernel
theorem dX0_playThrough_32 : decode cX0_playThrough 32 = .ok (.return_, 1) := by decide +kernel
theorem dX0_lateOverall_0 : decode cX0_lateOverall 0 = .ok (.iconst 0, 1) := by decide +kernel
theorem dX0_lateOverall_1 : decode cX0_lateOverall 1 = .ok (.istore_n 2, 1) := by decide +kernel
theorem dX0_lateOverall_2 : decode cX0_lateOverall 2 = .ok (.aload_n 0, 1) := by decide +kernel
theorem dX0_lateOverall_3 : decode cX0_lateOverall 3 = .ok (.getfield 18, 3) := by decide +kernel
theorem dX0_lateOverall_6 : decode cX0_lateOverall 6 = .ok (.iconst 0, 1) := by decide +kernel
theorem dX0_lateOverall_7 : decode cX0_lateOverall 7 = .ok (.invokestatic 31, 3) := by decide +kernel
theorem dX0_lateOverall_10 : decode cX0_lateOverall 10 = .ok (.iconst 0, 1) := by decide +kernel
theorem dX0_lateOverall_11 : decode cX0_lateOverall 11 = .ok (.istore_n 3, 1) := by decide +kernel
theorem dX0_lateOverall_12 : decode cX0_lateOverall 12 = .ok (.iload_n 3, 1) := by decide +kernel
theorem dX0_lateOverall_13 : decode cX0_lateOverall 13 = .ok (.bipush 16, 2) := by decide +kernel
theorem dX0_lateOverall_15 : decode cX0_lateOverall 15 = .ok (.if_icmp .ge 23, 3) := by decide +kernel
theorem dX0_lateOverall_18 : decode cX0_lateOverall 18 = .ok (.aload_n 0, 1) := by decide +kernel
theorem dX0_lateOverall_19 : decode cX0_lateOverall 19 = .ok (.iload_n 3, 1) := by decide +kernel
theorem dX0_lateOverall_20 : decode cX0_lateOverall 20 = .ok (.invokevirtual 48, 3) := by decide +kernel
theorem dX0_lateOverall_23 : decode cX0_lateOverall 23 = .ok (.iload_n 2, 1) := by decide +kernel
theorem dX0_lateOverall_24 : decode cX0_lateOverall 24 = .ok (.aload_n 0, 1) := by decide +kernel
theorem dX0_lateOverall_25 : decode cX0_lateOverall 25 = .ok (.iload_n 3, 1) := by decide +kernel
theorem dX0_lateOverall_26 : decode cX0_lateOverall 26 = .ok (.iload_n 1, 1) := by decide +kernel
theorem dX0_lateOverall_27 : decode cX0_lateOverall 27 = .ok (.invokevirtual 52, 3) := by decide +kernel
theorem dX0_lateOverall_30 : decode cX0_lateOverall 30 = .ok (.iadd, 1) := by decide +kernel
theorem dX0_lateOverall_31 : decode cX0_lateOverall 31 = .ok (.istore_n 2, 1) := by decide +kernel
theorem dX0_lateOverall_32 : decode cX0_lateOverall 32 = .ok (.iinc 3 1, 3) := by decide +kernel
theorem dX0_lateOverall_35 : decode cX0_lateOverall 35 = .ok (.goto (-23), 3) := by decide +kernel
theorem dX0_lateOverall_38 : decode cX0_lateOverall 38 = .ok (.iload_n 2, 1) := by decide +kernel
theorem dX0_lateOverall_39 : decode cX0_lateOverall 39 = .ok (.ireturn, 1) := by decide +kernel
theorem dX0_wornBits_0 : decode cX0_wornBits 0 = .ok (.iconst 0, 1) := by decide +kernel
theorem dX0_wornBits_1 : decode cX0_wornBits 1 = .ok (.istore_n 2, 1) := by decide +kernel
theorem dX0_wornBits_2 : decode cX0_wornBits 2 = .ok (.aload_n 0, 1) := by decide +kernel
theorem dX0_wornBits_3 : decode cX0_wornBits 3 = .ok (.getfield 18, 3) := by decide +kernel
theorem dX0_wornBits_6 : decode cX0_wornBits 6 = .ok (.iconst 0, 1) := by decide +kernel
theorem dX0_wornBits_7 : decode cX0_wornBits 7 = .ok (.invokestatic 31, 3) := by decide +kernel
theorem dX0_wornBits_10 : decode cX0_wornBits 10 = .ok (.iconst 0, 1) := by decide +kernel
theorem dX0_wornBits_11 : decode cX0_wornBits 11 = .ok (.istore_n 3, 1) := by decide +kernel
theorem dX0_wornBits_12 : decode cX0_wornBits 12 = .ok (.iload_n 3, 1) := by decide +kernel
theorem dX0_wornBits_13 : decode cX0_wornBits 13 = .ok (.bipush 16, 2) := by decide +kernel
theorem dX0_wornBits_15 : decode cX0_wornBits 15 = .ok (.if_icmp .ge 22, 3) := by decide +kernel
theorem dX0_wornBits_18 : decode cX0_wornBits 18 = .ok (.aload_n 0, 1) := by decide +kernel
theorem dX0_wornBits_19 : decode cX0_wornBits 19 = .ok (.iload_n 3, 1) := by decide +kernel
theorem dX0_wornBits_20 : decode cX0_wornBits 20 = .ok (.invokevirtual 48, 3) := by decide +kernel
theorem dX0_wornBits_23 : decode cX0_wornBits 23 = .ok (.iload_n 2, 1) := by decide +kernel
theorem dX0_wornBits_24 : decode cX0_wornBits 24 = .ok (.aload_n 0, 1) := by decide +kernel
theorem dX0_wornBits_25 : decode cX0_wornBits 25 = .ok (.iload_n 1, 1) := by decide +kernel
theorem dX0_wornBits_26 : decode cX0_wornBits 26 = .ok (.invokevirtual 56, 3) := by decide +kernel
theorem dX0_wornBits_29 : decode cX0_wornBits 29 = .ok (.ior, 1) := by decide +kernel
theorem dX0_wornBits_30 : decode cX0_wornBits 30 = .ok (.istore_n 2, 1) := by decide +kernel
theorem dX0_wornBits_31 : decode cX0_wornBits 31 = .ok (.iinc 3 1, 3) := by decide +kernel
theorem dX0_wornBits_34 : decode cX0_wornBits 34 = .ok (.goto (-22), 3) := by decide +kernel
theorem dX0_wornBits_37 : decode cX0_wornBits 37 = .ok (.iload_n 2, 1) := by decide +kernel
theorem dX0_wornBits_38 : decode cX0_wornBits 38 = .ok (.ireturn, 1) := by decide +kernel
theorem dX0_playHalf_0 : decode cX0_playHalf 0 = .ok (.iload_n 1, 1) := by decide +kernel
theorem dX0_playHalf_1 : decode cX0_playHalf 1 = .ok (.invokestatic 37, 3) := by decide +kernel
theorem dX0_playHalf_4 : decode cX0_playHalf 4 = .ok (.ifCond .ne 4, 3) := by decide +kernel
theorem dX0_playHalf_7 : decode cX0_playHalf 7 = .ok (.return_, 1) := by decide +kernel
theorem dX0_playHalf_8 : decode cX0_playHalf 8 = .ok (.aload_n 0, 1) := by decide +kernel
theorem dX0_playHalf_9 : decode cX0_playHalf 9 = .ok (.invokevirtual 60, 3) := by decide +kernel
theorem dX0_playHalf_12 : decode cX0_playHalf 12 = .ok (.iconst 0, 1) := by decide +kernel
theorem dX0_playHalf_13 : decode cX0_playHalf 13 = .ok (.istore_n 2, 1) := by decide +kernel
theorem dX0_playHalf_14 : decode cX0_playHalf 14 = .ok (.iload_n 2, 1) := by decide +kernel
theorem dX0_playHalf_15 : decode cX0_playHalf 15 = .ok (.iconst 5, 1) := by decide +kernel
theorem dX0_playHalf_16 : decode cX0_playHalf 16 = .ok (.if_icmp .ge 26, 3) := by decide +kernel
theorem dX0_playHalf_19 : decode cX0_playHalf 19 = .ok (.aload_n 0, 1) := by decide +kernel
theorem dX0_playHalf_20 : decode cX0_playHalf 20 = .ok (.getfield 24, 3) := by decide +kernel
theorem dX0_playHalf_23 : decode cX0_playHalf 23 = .ok (.iload_n 2, 1) := by decide +kernel
theorem dX0_playHalf_24 : decode cX0_playHalf 24 = .ok (.aload_n 0, 1) := by decide +kernel
theorem dX0_playHalf_25 : decode cX0_playHalf 25 = .ok (.aload_n 0, 1) := by decide +kernel
theorem dX0_playHalf_26 : decode cX0_playHalf 26 = .ok (.getfield 9, 3) := by decide +kernel
theorem dX0_playHalf_29 : decode cX0_playHalf 29 = .ok (.iload_n 1, 1) := by decide +kernel
theorem dX0_playHalf_30 : decode cX0_playHalf 30 = .ok (.iaload, 1) := by decide +kernel
theorem dX0_playHalf_31 : decode cX0_playHalf 31 = .ok (.iload_n 2, 1) := by decide +kernel
theorem dX0_playHalf_32 : decode cX0_playHalf 32 = .ok (.invokevirtual 63, 3) := by decide +kernel
theorem dX0_playHalf_35 : decode cX0_playHalf 35 = .ok (.iastore, 1) := by decide +kernel
theorem dX0_playHalf_36 : decode cX0_playHalf 36 = .ok (.iinc 2 1, 3) := by decide +kernel
theorem dX0_playHalf_39 : decode cX0_playHalf 39 = .ok (.goto (-25), 3) := by decide +kernel
theorem dX0_playHalf_42 : decode cX0_playHalf 42 = .ok (.aload_n 0, 1) := by decide +kernel
theorem dX0_playHalf_43 : decode cX0_playHalf 43 = .ok (.aload_n 0, 1) := by decide +kernel
theorem dX0_playHalf_44 : decode cX0_playHalf 44 = .ok (.getfield 15, 3) := by decide +kernel
theorem dX0_playHalf_47 : decode cX0_playHalf 47 = .ok (.iload_n 1, 1) := by decide +kernel
theorem dX0_playHalf_48 : decode cX0_playHalf 48 = .ok (.iaload, 1) := by decide +kernel
theorem dX0_playHalf_49 : decode cX0_playHalf 49 = .ok (.invokevirtual 66, 3) := by decide +kernel
theorem dX0_playHalf_52 : decode cX0_playHalf 52 = .ok (.return_, 1) := by decide +kernel
theorem dX0_chooseOn_0 : decode cX0_chooseOn 0 = .ok (.aload_n 0, 1) := by decide +kernel
theorem dX0_chooseOn_1 : decode cX0_chooseOn 1 = .ok (.getfield 21, 3) := by decide +kernel
theorem dX0_chooseOn_4 : decode cX0_chooseOn 4 = .ok (.iconst (-1), 1) := by decide +kernel
theorem dX0_chooseOn_5 : decode cX0_chooseOn 5 = .ok (.invokestatic 31, 3) := by decide +kernel
theorem dX0_chooseOn_8 : decode cX0_chooseOn 8 = .ok (.iconst 0, 1) := by decide +kernel
theorem dX0_chooseOn_9 : decode cX0_chooseOn 9 = .ok (.istore_n 1, 1) := by decide +kernel
theorem dX0_chooseOn_10 : decode cX0_chooseOn 10 = .ok (.iload_n 1, 1) := by decide +kernel
theorem dX0_chooseOn_11 : decode cX0_chooseOn 11 = .ok (.aload_n 0, 1) := by decide +kernel
theorem dX0_chooseOn_12 : decode cX0_chooseOn 12 = .ok (.getfield 27, 3) := by decide +kernel
theorem dX0_chooseOn_15 : decode cX0_chooseOn 15 = .ok (.getfield 69, 3) := by decide +kernel
theorem dX0_chooseOn_18 : decode cX0_chooseOn 18 = .ok (.if_icmp .ge 46, 3) := by decide +kernel
theorem dX0_chooseOn_21 : decode cX0_chooseOn 21 = .ok (.aload_n 0, 1) := by decide +kernel
theorem dX0_chooseOn_22 : decode cX0_chooseOn 22 = .ok (.getfield 27, 3) := by decide +kernel
theorem dX0_chooseOn_25 : decode cX0_chooseOn 25 = .ok (.iload_n 1, 1) := by decide +kernel
theorem dX0_chooseOn_26 : decode cX0_chooseOn 26 = .ok (.invokevirtual 75, 3) := by decide +kernel
theorem dX0_chooseOn_29 : decode cX0_chooseOn 29 = .ok (.istore_n 2, 1) := by decide +kernel
theorem dX0_chooseOn_30 : decode cX0_chooseOn 30 = .ok (.iload_n 2, 1) := by decide +kernel
theorem dX0_chooseOn_31 : decode cX0_chooseOn 31 = .ok (.invokestatic 78, 3) := by decide +kernel
theorem dX0_chooseOn_34 : decode cX0_chooseOn 34 = .ok (.ifCond .eq 24, 3) := by decide +kernel
theorem dX0_chooseOn_37 : decode cX0_chooseOn 37 = .ok (.aload_n 0, 1) := by decide +kernel
theorem dX0_chooseOn_38 : decode cX0_chooseOn 38 = .ok (.iload_n 1, 1) := by decide +kernel
theorem dX0_chooseOn_39 : decode cX0_chooseOn 39 = .ok (.aload_n 0, 1) := by decide +kernel
theorem dX0_chooseOn_40 : decode cX0_chooseOn 40 = .ok (.getfield 21, 3) := by decide +kernel
theorem dX0_chooseOn_43 : decode cX0_chooseOn 43 = .ok (.iload_n 2, 1) := by decide +kernel
theorem dX0_chooseOn_44 : decode cX0_chooseOn 44 = .ok (.iaload, 1) := by decide +kernel
theorem dX0_chooseOn_45 : decode cX0_chooseOn 45 = .ok (.invokevirtual 81, 3) := by decide +kernel
theorem dX0_chooseOn_48 : decode cX0_chooseOn 48 = .ok (.ifCond .eq 10, 3) := by decide +kernel
theorem dX0_chooseOn_51 : decode cX0_chooseOn 51 = .ok (.aload_n 0, 1) := by decide +kernel
theorem dX0_chooseOn_52 : decode cX0_chooseOn 52 = .ok (.getfield 21, 3) := by decide +kernel
theorem dX0_chooseOn_55 : decode cX0_chooseOn 55 = .ok (.iload_n 2, 1) := by decide +kernel
theorem dX0_chooseOn_56 : decode cX0_chooseOn 56 = .ok (.iload_n 1, 1) := by decide +kernel
theorem dX0_chooseOn_57 : decode cX0_chooseOn 57 = .ok (.iastore, 1) := by decide +kernel
theorem dX0_chooseOn_58 : decode cX0_chooseOn 58 = .ok (.iinc 1 1, 3) := by decide +kernel
theorem dX0_chooseOn_61 : decode cX0_chooseOn 61 = .ok (.goto (-51), 3) := by decide +kernel
theorem dX0_chooseOn_64 : decode cX0_chooseOn 64 = .ok (.return_, 1) := by decide +kernel
theorem dX0_isFresher_0 : decode cX0_isFresher 0 = .ok (.aload_n 0, 1) := by decide +kernel
theorem dX0_isFresher_1 : decode cX0_isFresher 1 = .ok (.getfield 27, 3) := by decide +kernel
theorem dX0_isFresher_4 : decode cX0_isFresher 4 = .ok (.iload_n 2, 1) := by decide +kernel
theorem dX0_isFresher_5 : decode cX0_isFresher 5 = .ok (.invokevirtual 85, 3) := by decide +kernel
theorem dX0_isFresher_8 : decode cX0_isFresher 8 = .ok (.ifCond .eq 18, 3) := by decide +kernel
theorem dX0_isFresher_11 : decode cX0_isFresher 11 = .ok (.aload_n 0, 1) := by decide +kernel
theorem dX0_isFresher_12 : decode cX0_isFresher 12 = .ok (.getfield 18, 3) := by decide +kernel
theorem dX0_isFresher_15 : decode cX0_isFresher 15 = .ok (.iload_n 1, 1) := by decide +kernel
theorem dX0_isFresher_16 : decode cX0_isFresher 16 = .ok (.iaload, 1) := by decide +kernel
theorem dX0_isFresher_17 : decode cX0_isFresher 17 = .ok (.aload_n 0, 1) := by decide +kernel
theorem dX0_isFresher_18 : decode cX0_isFresher 18 = .ok (.getfield 18, 3) := by decide +kernel
theorem dX0_isFresher_21 : decode cX0_isFresher 21 = .ok (.iload_n 2, 1) := by decide +kernel
theorem dX0_isFresher_22 : decode cX0_isFresher 22 = .ok (.iaload, 1) := by decide +kernel
theorem dX0_isFresher_23 : decode cX0_isFresher 23 = .ok (.if_icmp .ge 7, 3) := by decide +kernel
theorem dX0_isFresher_26 : decode cX0_isFresher 26 = .ok (.iconst 1, 1) := by decide +kernel
theorem dX0_isFresher_27 : decode cX0_isFresher 27 = .ok (.goto 4, 3) := by decide +kernel
theorem dX0_isFresher_30 : decode cX0_isFresher 30 = .ok (.iconst 0, 1) := by decide +kernel
theorem dX0_isFresher_31 : decode cX0_isFresher 31 = .ok (.ireturn, 1) := by decide +kernel
theorem dX0_wayFrom_0 : decode cX0_wayFrom 0 = .ok (.iload_n 1, 1) := by decide +kernel
theorem dX0_wayFrom_1 : decode cX0_wayFrom 1 = .ok (.iconst (-1), 1) := by decide +kernel
theorem dX0_wayFrom_2 : decode cX0_wayFrom 2 = .ok (.if_icmp .eq 18, 3) := by decide +kernel
theorem dX0_wayFrom_5 : decode cX0_wayFrom 5 = .ok (.iload_n 1, 1) := by decide +kernel
theorem dX0_wayFrom_6 : decode cX0_wayFrom 6 = .ok (.iload_n 2, 1) := by decide +kernel
theorem dX0_wayFrom_7 : decode cX0_wayFrom 7 = .ok (.if_icmp .eq 13, 3) := by decide +kernel
theorem dX0_wayFrom_10 : decode cX0_wayFrom 10 = .ok (.aload_n 0, 1) := by decide +kernel
theorem dX0_wayFrom_11 : decode cX0_wayFrom 11 = .ok (.getfield 21, 3) := by decide +kernel
theorem dX0_wayFrom_14 : decode cX0_wayFrom 14 = .ok (.iload_n 2, 1) := by decide +kernel
theorem dX0_wayFrom_15 : decode cX0_wayFrom 15 = .ok (.iaload, 1) := by decide +kernel
theorem dX0_wayFrom_16 : decode cX0_wayFrom 16 = .ok (.iconst (-1), 1) := by decide +kernel
theorem dX0_wayFrom_17 : decode cX0_wayFrom 17 = .ok (.if_icmp .ne 5, 3) := by decide +kernel
theorem dX0_wayFrom_20 : decode cX0_wayFrom 20 = .ok (.iconst (-1), 1) := by decide +kernel
theorem dX0_wayFrom_21 : decode cX0_wayFrom 21 = .ok (.ireturn, 1) := by decide +kernel
theorem dX0_wayFrom_22 : decode cX0_wayFrom 22 = .ok (.aload_n 0, 1) := by decide +kernel
theorem dX0_wayFrom_23 : decode cX0_wayFrom 23 = .ok (.getfield 27, 3) := by decide +kernel
theorem dX0_wayFrom_26 : decode cX0_wayFrom 26 = .ok (.aload_n 0, 1) := by decide +kernel
theorem dX0_wayFrom_27 : decode cX0_wayFrom 27 = .ok (.getfield 21, 3) := by decide +kernel
theorem dX0_wayFrom_30 : decode cX0_wayFrom 30 = .ok (.iload_n 2, 1) := by decide +kernel
theorem dX0_wayFrom_31 : decode cX0_wayFrom 31 = .ok (.iaload, 1) := by decide +kernel
theorem dX0_wayFrom_32 : decode cX0_wayFrom 32 = .ok (.invokevirtual 88, 3) := by decide +kernel
theorem dX0_wayFrom_35 : decode cX0_wayFrom 35 = .ok (.istore_n 3, 1) := by decide +kernel
theorem dX0_wayFrom_36 : decode cX0_wayFrom 36 = .ok (.iload_n 3, 1) := by decide +kernel
theorem dX0_wayFrom_37 : decode cX0_wayFrom 37 = .ok (.iload_n 1, 1) := by decide +kernel
theorem dX0_wayFrom_38 : decode cX0_wayFrom 38 = .ok (.invokestatic 91, 3) := by decide +kernel
theorem dX0_wayFrom_41 : decode cX0_wayFrom 41 = .ok (.ifCond .eq 5, 3) := by decide +kernel
theorem dX0_wayFrom_44 : decode cX0_wayFrom 44 = .ok (.iload_n 2, 1) := by decide +kernel
theorem dX0_wayFrom_45 : decode cX0_wayFrom 45 = .ok (.ireturn, 1) := by decide +kernel
theorem dX0_wayFrom_46 : decode cX0_wayFrom 46 = .ok (.iconst 0, 1) := by decide +kernel
theorem dX0_wayFrom_47 : decode cX0_wayFrom 47 = .ok (.istore 4, 2) := by decide +kernel
theorem dX0_wayFrom_49 : decode cX0_wayFrom 49 = .ok (.iload 4, 2) := by decide +kernel
theorem dX0_wayFrom_51 : decode cX0_wayFrom 51 = .ok (.iconst 5, 1) := by decide +kernel
theorem dX0_wayFrom_52 : decode cX0_wayFrom 52 = .ok (.if_icmp .ge 54, 3) := by decide +kernel
theorem dX0_wayFrom_55 : decode cX0_wayFrom 55 = .ok (.iload 4, 2) := by decide +kernel
theorem dX0_wayFrom_57 : decode cX0_wayFrom 57 = .ok (.iload_n 1, 1) := by decide +kernel
theorem dX0_wayFrom_58 : decode cX0_wayFrom 58 = .ok (.if_icmp .eq 42, 3) := by decide +kernel
theorem dX0_wayFrom_61 : decode cX0_wayFrom 61 = .ok (.iload 4, 2) := by decide +kernel
theorem dX0_wayFrom_63 : decode cX0_wayFrom 63 = .ok (.iload_n 2, 1) := by decide +kernel
theorem dX0_wayFrom_64 : decode cX0_wayFrom 64 = .ok (.if_icmp .eq 36, 3) := by decide +kernel
theorem dX0_wayFrom_67 : decode cX0_wayFrom 67 = .ok (.iload_n 3, 1) := by decide +kernel
theorem dX0_wayFrom_68 : decode cX0_wayFrom 68 = .ok (.iload 4, 2) := by decide +kernel
theorem dX0_wayFrom_70 : decode cX0_wayFrom 70 = .ok (.invokestatic 91, 3) := by decide +kernel
theorem dX0_wayFrom_73 : decode cX0_wayFrom 73 = .ok (.ifCond .eq 27, 3) := by decide +kernel
theorem dX0_wayFrom_76 : decode cX0_wayFrom 76 = .ok (.aload_n 0, 1) := by decide +kernel
theorem dX0_wayFrom_77 : decode cX0_wayFrom 77 = .ok (.getfield 27, 3) := by decide +kernel
theorem dX0_wayFrom_80 : decode cX0_wayFrom 80 = .ok (.aload_n 0, 1) := by decide +kernel
theorem dX0_wayFrom_81 : decode cX0_wayFrom 81 = .ok (.getfield 21, 3) := by decide +kernel
theorem dX0_wayFrom_84 : decode cX0_wayFrom 84 = .ok (.iload 4, 2) := by decide +kernel
theorem dX0_wayFrom_86 : decode cX0_wayFrom 86 = .ok (.iaload, 1) := by decide +kernel
theorem dX0_wayFrom_87 : decode cX0_wayFrom 87 = .ok (.invokevirtual 88, 3) := by decide +kernel
theorem dX0_wayFrom_90 : decode cX0_wayFrom 90 = .ok (.iload_n 1, 1) := by decide +kernel
theorem dX0_wayFrom_91 : decode cX0_wayFrom 91 = .ok (.invokestatic 91, 3) := by decide +kernel
theorem dX0_wayFrom_94 : decode cX0_wayFrom 94 = .ok (.ifCond .eq 6, 3) := by decide +kernel
theorem dX0_wayFrom_97 : decode cX0_wayFrom 97 = .ok (.iload 4, 2) := by decide +kernel
theorem dX0_wayFrom_99 : decode cX0_wayFrom 99 = .ok (.ireturn, 1) := by decide +kernel
theorem dX0_wayFrom_100 : decode cX0_wayFrom 100 = .ok (.iinc 4 1, 3) := by decide +kernel
theorem dX0_wayFrom_103 : decode cX0_wayFrom 103 = .ok (.goto (-54), 3) := by decide +kernel
theorem dX0_wayFrom_106 : decode cX0_wayFrom 106 = .ok (.iconst (-1), 1) := by decide +kernel
theorem dX0_wayFrom_107 : decode cX0_wayFrom 107 = .ok (.ireturn, 1) := by decide +kernel
theorem dX0_tire_0 : decode cX0_tire 0 = .ok (.iconst 0, 1) := by decide +kernel
theorem dX0_tire_1 : decode cX0_tire 1 = .ok (.istore_n 2, 1) := by decide +kernel
theorem dX0_tire_2 : decode cX0_tire 2 = .ok (.iload_n 2, 1) := by decide +kernel
theorem dX0_tire_3 : decode cX0_tire 3 = .ok (.aload_n 0, 1) := by decide +kernel
theorem dX0_tire_4 : decode cX0_tire 4 = .ok (.getfield 27, 3) := by decide +kernel
theorem dX0_tire_7 : decode cX0_tire 7 = .ok (.getfield 69, 3) := by decide +kernel
theorem dX0_tire_10 : decode cX0_tire 10 = .ok (.if_icmp .ge 48, 3) := by decide +kernel
theorem dX0_tire_13 : decode cX0_tire 13 = .ok (.aload_n 0, 1) := by decide +kernel
theorem dX0_tire_14 : decode cX0_tire 14 = .ok (.iload_n 2, 1) := by decide +kernel
theorem dX0_tire_15 : decode cX0_tire 15 = .ok (.invokevirtual 94, 3) := by decide +kernel
theorem dX0_tire_18 : decode cX0_tire 18 = .ok (.ifCond .eq 16, 3) := by decide +kernel
theorem dX0_tire_21 : decode cX0_tire 21 = .ok (.aload_n 0, 1) := by decide +kernel
theorem dX0_tire_22 : decode cX0_tire 22 = .ok (.getfield 18, 3) := by decide +kernel
theorem dX0_tire_25 : decode cX0_tire 25 = .ok (.iload_n 2, 1) := by decide +kernel
theorem dX0_tire_26 : decode cX0_tire 26 = .ok (.dup2, 1) := by decide +kernel
theorem dX0_tire_27 : decode cX0_tire 27 = .ok (.iaload, 1) := by decide +kernel
theorem dX0_tire_28 : decode cX0_tire 28 = .ok (.iload_n 1, 1) := by decide +kernel
theorem dX0_tire_29 : decode cX0_tire 29 = .ok (.iadd, 1) := by decide +kernel
theorem dX0_tire_30 : decode cX0_tire 30 = .ok (.iastore, 1) := by decide +kernel
theorem dX0_tire_31 : decode cX0_tire 31 = .ok (.goto 21, 3) := by decide +kernel
theorem dX0_tire_34 : decode cX0_tire 34 = .ok (.aload_n 0, 1) := by decide +kernel
theorem dX0_tire_35 : decode cX0_tire 35 = .ok (.getfield 18, 3) := by decide +kernel
theorem dX0_tire_38 : decode cX0_tire 38 = .ok (.iload_n 2, 1) := by decide +kernel
theorem dX0_tire_39 : decode cX0_tire 39 = .ok (.iconst 0, 1) := by decide +kernel
theorem dX0_tire_40 : decode cX0_tire 40 = .ok (.aload_n 0, 1) := by decide +kernel
theorem dX0_tire_41 : decode cX0_tire 41 = .ok (.getfield 18, 3) := by decide +kernel
theorem dX0_tire_44 : decode cX0_tire 44 = .ok (.iload_n 2, 1) := by decide +kernel
theorem dX0_tire_45 : decode cX0_tire 45 = .ok (.iaload, 1) := by decide +kernel
theorem dX0_tire_46 : decode cX0_tire 46 = .ok (.iconst 2, 1) := by decide +kernel
theorem dX0_tire_47 : decode cX0_tire 47 = .ok (.isub, 1) := by decide +kernel
theorem dX0_tire_48 : decode cX0_tire 48 = .ok (.invokestatic 97, 3) := by decide +kernel
theorem dX0_tire_51 : decode cX0_tire 51 = .ok (.iastore, 1) := by decide +kernel
theorem dX0_tire_52 : decode cX0_tire 52 = .ok (.iinc 2 1, 3) := by decide +kernel
theorem dX0_tire_55 : decode cX0_tire 55 = .ok (.goto (-53), 3) := by decide +kernel
theorem dX0_tire_58 : decode cX0_tire 58 = .ok (.return_, 1) := by decide +kernel
theorem dX0_isTurning_0 : decode cX0_isTurning 0 = .ok (.aload_n 0, 1) := by decide +kernel
theorem dX0_isTurning_1 : decode cX0_isTurning 1 = .ok (.getfield 27, 3) := by decide +kernel
theorem dX0_isTurning_4 : decode cX0_isTurning 4 = .ok (.iload_n 1, 1) := by decide +kernel
theorem dX0_isTurning_5 : decode cX0_isTurning 5 = .ok (.invokevirtual 75, 3) := by decide +kernel
theorem dX0_isTurning_8 : decode cX0_isTurning 8 = .ok (.istore_n 2, 1) := by decide +kernel
theorem dX0_isTurning_9 : decode cX0_isTurning 9 = .ok (.iload_n 2, 1) := by decide +kernel
theorem dX0_isTurning_10 : decode cX0_isTurning 10 = .ok (.invokestatic 78, 3) := by decide +kernel
theorem dX0_isTurning_13 : decode cX0_isTurning 13 = .ok (.ifCond .eq 27, 3) := by decide +kernel
theorem dX0_isTurning_16 : decode cX0_isTurning 16 = .ok (.aload_n 0, 1) := by decide +kernel
theorem dX0_isTurning_17 : decode cX0_isTurning 17 = .ok (.getfield 21, 3) := by decide +kernel
theorem dX0_isTurning_20 : decode cX0_isTurning 20 = .ok (.iload_n 2, 1) := by decide +kernel
theorem dX0_isTurning_21 : decode cX0_isTurning 21 = .ok (.iaload, 1) := by decide +kernel
theorem dX0_isTurning_22 : decode cX0_isTurning 22 = .ok (.iload_n 1, 1) := by decide +kernel
theorem dX0_isTurning_23 : decode cX0_isTurning 23 = .ok (.if_icmp .ne 17, 3) := by decide +kernel
theorem dX0_isTurning_26 : decode cX0_isTurning 26 = .ok (.aload_n 0, 1) := by decide +kernel
theorem dX0_isTurning_27 : decode cX0_isTurning 27 = .ok (.getfield 24, 3) := by decide +kernel
theorem dX0_isTurning_30 : decode cX0_isTurning 30 = .ok (.iload_n 2, 1) := by decide +kernel
theorem dX0_isTurning_31 : decode cX0_isTurning 31 = .ok (.iaload, 1) := by decide +kernel
theorem dX0_isTurning_32 : decode cX0_isTurning 32 = .ok (.iconst (-1), 1) := by decide +kernel
theorem dX0_isTurning_33 : decode cX0_isTurning 33 = .ok (.if_icmp .eq 7, 3) := by decide +kernel
theorem dX0_isTurning_36 : decode cX0_isTurning 36 = .ok (.iconst 1, 1) := by decide +kernel
theorem dX0_isTurning_37 : decode cX0_isTurning 37 = .ok (.goto 4, 3) := by decide +kernel
theorem dX0_isTurning_40 : decode cX0_isTurning 40 = .ok (.iconst 0, 1) := by decide +kernel
theorem dX0_isTurning_41 : decode cX0_isTurning 41 = .ok (.ireturn, 1) := by decide +kernel
theorem dX0_lateIn_0 : decode cX0_lateIn 0 = .ok (.iload_n 1, 1) := by decide +kernel
theorem dX0_lateIn_1 : decode cX0_lateIn 1 = .ok (.invokestatic 37, 3) := by decide +kernel
theorem dX0_lateIn_4 : decode cX0_lateIn 4 = .ok (.ifCond .eq 20, 3) := by decide +kernel
theorem dX0_lateIn_7 : decode cX0_lateIn 7 = .ok (.iload_n 2, 1) := by decide +kernel
theorem dX0_lateIn_8 : decode cX0_lateIn 8 = .ok (.invokestatic 78, 3) := by decide +kernel
theorem dX0_lateIn_11 : decode cX0_lateIn 11 = .ok (.ifCond .eq 13, 3) := by decide +kernel
theorem dX0_lateIn_14 : decode cX0_lateIn 14 = .ok (.aload_n 0, 1) := by decide +kernel
theorem dX0_lateIn_15 : decode cX0_lateIn 15 = .ok (.getfield 24, 3) := by decide +kernel
theorem dX0_lateIn_18 : decode cX0_lateIn 18 = .ok (.iload_n 2, 1) := by decide +kernel
theorem dX0_lateIn_19 : decode cX0_lateIn 19 = .ok (.iaload, 1) := by decide +kernel
theorem dX0_lateIn_20 : decode cX0_lateIn 20 = .ok (.iconst (-1), 1) := by decide +kernel
theorem dX0_lateIn_21 : decode cX0_lateIn 21 = .ok (.if_icmp .ne 5, 3) := by decide +kernel
theorem dX0_lateIn_24 : decode cX0_lateIn 24 = .ok (.iconst 0, 1) := by decide +kernel
theorem dX0_lateIn_25 : decode cX0_lateIn 25 = .ok (.ireturn, 1) := by decide +kernel
theorem dX0_lateIn_26 : decode cX0_lateIn 26 = .ok (.aload_n 0, 1) := by decide +kernel
theorem dX0_lateIn_27 : decode cX0_lateIn 27 = .ok (.getfield 15, 3) := by decide +kernel
theorem dX0_lateIn_30 : decode cX0_lateIn 30 = .ok (.iload_n 1, 1) := by decide +kernel
theorem dX0_lateIn_31 : decode cX0_lateIn 31 = .ok (.iaload, 1) := by decide +kernel
theorem dX0_lateIn_32 : decode cX0_lateIn 32 = .ok (.iconst 5, 1) := by decide +kernel
theorem dX0_lateIn_33 : decode cX0_lateIn 33 = .ok (.if_icmp .le 7, 3) := by decide +kernel
theorem dX0_lateIn_36 : decode cX0_lateIn 36 = .ok (.iconst 2, 1) := by decide +kernel
theorem dX0_lateIn_37 : decode cX0_lateIn 37 = .ok (.goto 4, 3) := by decide +kernel
theorem dX0_lateIn_40 : decode cX0_lateIn 40 = .ok (.iconst 1, 1) := by decide +kernel
theorem dX0_lateIn_41 : decode cX0_lateIn 41 = .ok (.istore_n 3, 1) := by decide +kernel
theorem dX0_lateIn_42 : decode cX0_lateIn 42 = .ok (.aload_n 0, 1) := by decide +kernel
theorem dX0_lateIn_43 : decode cX0_lateIn 43 = .ok (.getfield 24, 3) := by decide +kernel
theorem dX0_lateIn_46 : decode cX0_lateIn 46 = .ok (.iload_n 2, 1) := by decide +kernel
theorem dX0_lateIn_47 : decode cX0_lateIn 47 = .ok (.iaload, 1) := by decide +kernel
theorem dX0_lateIn_48 : decode cX0_lateIn 48 = .ok (.iload_n 2, 1) := by decide +kernel
theorem dX0_lateIn_49 : decode cX0_lateIn 49 = .ok (.if_icmp .ne 7, 3) := by decide +kernel
theorem dX0_lateIn_52 : decode cX0_lateIn 52 = .ok (.iload_n 3, 1) := by decide +kernel
theorem dX0_lateIn_53 : decode cX0_lateIn 53 = .ok (.goto 8, 3) := by decide +kernel
theorem dX0_lateIn_56 : decode cX0_lateIn 56 = .ok (.iconst 2, 1) := by decide +kernel
theorem dX0_lateIn_57 : decode cX0_lateIn 57 = .ok (.iload_n 3, 1) := by decide +kernel
theorem dX0_lateIn_58 : decode cX0_lateIn 58 = .ok (.imul, 1) := by decide +kernel
theorem dX0_lateIn_59 : decode cX0_lateIn 59 = .ok (.iconst 1, 1) := by decide +kernel
theorem dX0_lateIn_60 : decode cX0_lateIn 60 = .ok (.iadd, 1) := by decide +kernel
theorem dX0_lateIn_61 : decode cX0_lateIn 61 = .ok (.ireturn, 1) := by decide +kernel
theorem dX0_tiredAbove_0 : decode cX0_tiredAbove 0 = .ok (.iconst 0, 1) := by decide +kernel
theorem dX0_tiredAbove_1 : decode cX0_tiredAbove 1 = .ok (.istore_n 2, 1) := by decide +kernel
theorem dX0_tiredAbove_2 : decode cX0_tiredAbove 2 = .ok (.iconst 0, 1) := by decide +kernel
theorem dX0_tiredAbove_3 : decode cX0_tiredAbove 3 = .ok (.istore_n 3, 1) := by decide +kernel
theorem dX0_tiredAbove_4 : decode cX0_tiredAbove 4 = .ok (.iload_n 3, 1) := by decide +kernel
theorem dX0_tiredAbove_5 : decode cX0_tiredAbove 5 = .ok (.aload_n 0, 1) := by decide +kernel
theorem dX0_tiredAbove_6 : decode cX0_tiredAbove 6 = .ok (.getfield 27, 3) := by decide +kernel
theorem dX0_tiredAbove_9 : decode cX0_tiredAbove 9 = .ok (.getfield 69, 3) := by decide +kernel
theorem dX0_tiredAbove_12 : decode cX0_tiredAbove 12 = .ok (.if_icmp .ge 25, 3) := by decide +kernel
theorem dX0_tiredAbove_15 : decode cX0_tiredAbove 15 = .ok (.aload_n 0, 1) := by decide +kernel
theorem dX0_tiredAbove_16 : decode cX0_tiredAbove 16 = .ok (.getfield 18, 3) := by decide +kernel
theorem dX0_tiredAbove_19 : decode cX0_tiredAbove 19 = .ok (.iload_n 3, 1) := by decide +kernel
theorem dX0_tiredAbove_20 : decode cX0_tiredAbove 20 = .ok (.iaload, 1) := by decide +kernel
theorem dX0_tiredAbove_21 : decode cX0_tiredAbove 21 = .ok (.iload_n 1, 1) := by decide +kernel
theorem dX0_tiredAbove_22 : decode cX0_tiredAbove 22 = .ok (.if_icmp .le 9, 3) := by decide +kernel
theorem dX0_tiredAbove_25 : decode cX0_tiredAbove 25 = .ok (.iload_n 2, 1) := by decide +kernel
theorem dX0_tiredAbove_26 : decode cX0_tiredAbove 26 = .ok (.iconst 1, 1) := by decide +kernel
theorem dX0_tiredAbove_27 : decode cX0_tiredAbove 27 = .ok (.iload_n 3, 1) := by decide +kernel
theorem dX0_tiredAbove_28 : decode cX0_tiredAbove 28 = .ok (.ishl, 1) := by decide +kernel
theorem dX0_tiredAbove_29 : decode cX0_tiredAbove 29 = .ok (.ior, 1) := by decide +kernel
theorem dX0_tiredAbove_30 : decode cX0_tiredAbove 30 = .ok (.istore_n 2, 1) := by decide +kernel
theorem dX0_tiredAbove_31 : decode cX0_tiredAbove 31 = .ok (.iinc 3 1, 3) := by decide +kernel
theorem dX0_tiredAbove_34 : decode cX0_tiredAbove 34 = .ok (.goto (-30), 3) := by decide +kernel
theorem dX0_tiredAbove_37 : decode cX0_tiredAbove 37 = .ok (.iload_n 2, 1) := by decide +kernel
theorem dX0_tiredAbove_38 : decode cX0_tiredAbove 38 = .ok (.ireturn, 1) := by decide +kernel
theorem dX1_init_0 : decode cX1_init 0 = .ok (.aload_n 0, 1) := by decide +kernel
theorem dX1_init_1 : decode cX1_init 1 = .ok (.invokespecial 3, 3) := by decide +kernel
theorem dX1_init_4 : decode cX1_init 4 = .ok (.aload_n 0, 1) := by decide +kernel
theorem dX1_init_5 : decode cX1_init 5 = .ok (.bipush 6, 2) := by decide +kernel
theorem dX1_init_7 : decode cX1_init 7 = .ok (.newarray .int, 2) := by decide +kernel
theorem dX1_init_9 : decode cX1_init 9 = .ok (.putfield 9, 3) := by decide +kernel
theorem dX1_init_12 : decode cX1_init 12 = .ok (.aload_n 0, 1) := by decide +kernel
theorem dX1_init_13 : decode cX1_init 13 = .ok (.bipush 6, 2) := by decide +kernel
theorem dX1_init_15 : decode cX1_init 15 = .ok (.newarray .int, 2) := by decide +kernel
theorem dX1_init_17 : decode cX1_init 17 = .ok (.putfield 15, 3) := by decide +kernel
theorem dX1_init_20 : decode cX1_init 20 = .ok (.aload_n 0, 1) := by decide +kernel
theorem dX1_init_21 : decode cX1_init 21 = .ok (.bipush 6, 2) := by decide +kernel
theorem dX1_init_23 : decode cX1_init 23 = .ok (.newarray .int, 2) := by decide +kernel
theorem dX1_init_25 : decode cX1_init 25 = .ok (.putfield 18, 3) := by decide +kernel
theorem dX1_init_28 : decode cX1_init 28 = .ok (.aload_n 0, 1) := by decide +kernel
theorem dX1_init_29 : decode cX1_init 29 = .ok (.bipush 6, 2) := by decide +kernel
theorem dX1_init_31 : decode cX1_init 31 = .ok (.newarray .int, 2) := by decide +kernel
theorem dX1_init_33 : decode cX1_init 33 = .ok (.putfield 21, 3) := by decide +kernel
theorem dX1_init_36 : decode cX1_init 36 = .ok (.return_, 1) := by decide +kernel
theorem dX1_has_0 : decode cX1_has 0 = .ok (.iload_n 1, 1) := by decide +kernel
theorem dX1_has_1 : decode cX1_has 1 = .ok (.ifCond .lt 15, 3) := by decide +kernel
theorem dX1_has_4 : decode cX1_has 4 = .ok (.iload_n 1, 1) := by decide +kernel
theorem dX1_has_5 : decode cX1_has 5 = .ok (.aload_n 0, 1) := by decide +kernel
theorem dX1_has_6 : decode cX1_has 6 = .ok (.getfield 24, 3) := by decide +kernel
theorem dX1_has_9 : decode cX1_has 9 = .ok (.if_icmp .ge 7, 3) := by decide +kernel
theorem dX1_has_12 : decode cX1_has 12 = .ok (.iconst 1, 1) := by decide +kernel
theorem dX1_has_13 : decode cX1_has 13 = .ok (.goto 4, 3) := by decide +kernel
theorem dX1_has_16 : decode cX1_has 16 = .ok (.iconst 0, 1) := by decide +kernel
theorem dX1_has_17 : decode cX1_has 17 = .ok (.ireturn, 1) := by decide +kernel
theorem dX1_add_0 : decode cX1_add 0 = .ok (.aload_n 0, 1) := by decide +kernel
theorem dX1_add_1 : decode cX1_add 1 = .ok (.getfield 24, 3) := by decide +kernel
theorem dX1_add_4 : decode cX1_add 4 = .ok (.bipush 6, 2) := by decide +kernel
theorem dX1_add_6 : decode cX1_add 6 = .ok (.if_icmp .lt 6, 3) := by decide +kernel
theorem dX1_add_9 : decode cX1_add 9 = .ok (.bipush (-5), 2) := by decide +kernel
theorem dX1_add_11 : decode cX1_add 11 = .ok (.ireturn, 1) := by decide +kernel
theorem dX1_add_12 : decode cX1_add 12 = .ok (.aload_n 0, 1) := by decide +kernel
theorem dX1_add_13 : decode cX1_add 13 = .ok (.getfield 9, 3) := by decide +kernel
theorem dX1_add_16 : decode cX1_add 16 = .ok (.aload_n 0, 1) := by decide +kernel
theorem dX1_add_17 : decode cX1_add 17 = .ok (.getfield 24, 3) := by decide +kernel
theorem dX1_add_20 : decode cX1_add 20 = .ok (.iload_n 1, 1) := by decide +kernel
theorem dX1_add_21 : decode cX1_add 21 = .ok (.iastore, 1) := by decide +kernel
theorem dX1_add_22 : decode cX1_add 22 = .ok (.aload_n 0, 1) := by decide +kernel
theorem dX1_add_23 : decode cX1_add 23 = .ok (.getfield 15, 3) := by decide +kernel
theorem dX1_add_26 : decode cX1_add 26 = .ok (.aload_n 0, 1) := by decide +kernel
theorem dX1_add_27 : decode cX1_add 27 = .ok (.getfield 24, 3) := by decide +kernel
theorem dX1_add_30 : decode cX1_add 30 = .ok (.iload_n 2, 1) := by decide +kernel
theorem dX1_add_31 : decode cX1_add 31 = .ok (.iastore, 1) := by decide +kernel
theorem dX1_add_32 : decode cX1_add 32 = .ok (.aload_n 0, 1) := by decide +kernel
theorem dX1_add_33 : decode cX1_add 33 = .ok (.getfield 18, 3) := by decide +kernel
theorem dX1_add_36 : decode cX1_add 36 = .ok (.aload_n 0, 1) := by decide +kernel
theorem dX1_add_37 : decode cX1_add 37 = .ok (.getfield 24, 3) := by decide +kernel
theorem dX1_add_40 : decode cX1_add 40 = .ok (.iload_n 3, 1) := by decide +kernel
theorem dX1_add_41 : decode cX1_add 41 = .ok (.iastore, 1) := by decide +kernel
theorem dX1_add_42 : decode cX1_add 42 = .ok (.aload_n 0, 1) := by decide +kernel
theorem dX1_add_43 : decode cX1_add 43 = .ok (.getfield 21, 3) := by decide +kernel
theorem dX1_add_46 : decode cX1_add 46 = .ok (.aload_n 0, 1) := by decide +kernel
theorem dX1_add_47 : decode cX1_add 47 = .ok (.getfield 24, 3) := by decide +kernel
theorem dX1_add_50 : decode cX1_add 50 = .ok (.iconst 5, 1) := by decide +kernel
theorem dX1_add_51 : decode cX1_add 51 = .ok (.iastore, 1) := by decide +kernel
theorem dX1_add_52 : decode cX1_add 52 = .ok (.aload_n 0, 1) := by decide +kernel
theorem dX1_add_53 : decode cX1_add 53 = .ok (.dup, 1) := by decide +kernel
theorem dX1_add_54 : decode cX1_add 54 = .ok (.getfield 24, 3) := by decide +kernel
theorem dX1_add_57 : decode cX1_add 57 = .ok (.iconst 1, 1) := by decide +kernel
theorem dX1_add_58 : decode cX1_add 58 = .ok (.iadd, 1) := by decide +kernel
theorem dX1_add_59 : decode cX1_add 59 = .ok (.putfield 24, 3) := by decide +kernel
theorem dX1_add_62 : decode cX1_add 62 = .ok (.aload_n 0, 1) := by decide +kernel
theorem dX1_add_63 : decode cX1_add 63 = .ok (.getfield 24, 3) := by decide +kernel
theorem dX1_add_66 : decode cX1_add 66 = .ok (.iconst 1, 1) := by decide +kernel
theorem dX1_add_67 : decode cX1_add 67 = .ok (.isub, 1) := by decide +kernel
theorem dX1_add_68 : decode cX1_add 68 = .ok (.ireturn, 1) := by decide +kernel
theorem dX1_isIll_0 : decode cX1_isIll 0 = .ok (.aload_n 0, 1) := by decide +kernel
theorem dX1_isIll_1 : decode cX1_isIll 1 = .ok (.getfield 28, 3) := by decide +kernel
theorem dX1_isIll_4 : decode cX1_isIll 4 = .ok (.iload_n 1, 1) := by decide +kernel
theorem dX1_isIll_5 : decode cX1_isIll 5 = .ok (.invokestatic 31, 3) := by decide +kernel
theorem dX1_isIll_8 : decode cX1_isIll 8 = .ok (.ireturn, 1) := by decide +kernel
theorem dX1_setIll_0 : decode cX1_setIll 0 = .ok (.iconst 1, 1) := by decide +kernel
theorem dX1_setIll_1 : decode cX1_setIll 1 = .ok (.iload_n 1, 1) := by decide +kernel
theorem dX1_setIll_2 : decode cX1_setIll 2 = .ok (.ishl, 1) := by decide +kernel
theorem dX1_setIll_3 : decode cX1_setIll 3 = .ok (.istore_n 3, 1) := by decide +kernel
theorem dX1_setIll_4 : decode cX1_setIll 4 = .ok (.aload_n 0, 1) := by decide +kernel
theorem dX1_setIll_5 : decode cX1_setIll 5 = .ok (.iload_n 2, 1) := by decide +kernel
theorem dX1_setIll_6 : decode cX1_setIll 6 = .ok (.ifCond .eq 12, 3) := by decide +kernel
theorem dX1_setIll_9 : decode cX1_setIll 9 = .ok (.aload_n 0, 1) := by decide +kernel
theorem dX1_setIll_10 : decode cX1_setIll 10 = .ok (.getfield 28, 3) := by decide +kernel
theorem dX1_setIll_13 : decode cX1_setIll 13 = .ok (.iload_n 3, 1) := by decide +kernel
theorem dX1_setIll_14 : decode cX1_setIll 14 = .ok (.ior, 1) := by decide +kernel
theorem dX1_setIll_15 : decode cX1_setIll 15 = .ok (.goto 11, 3) := by decide +kernel
theorem dX1_setIll_18 : decode cX1_setIll 18 = .ok (.aload_n 0, 1) := by decide +kernel
theorem dX1_setIll_19 : decode cX1_setIll 19 = .ok (.getfield 28, 3) := by decide +kernel
theorem dX1_setIll_22 : decode cX1_setIll 22 = .ok (.iload_n 3, 1) := by decide +kernel
theorem dX1_setIll_23 : decode cX1_setIll 23 = .ok (.iconst (-1), 1) := by decide +kernel
theorem dX1_setIll_24 : decode cX1_setIll 24 = .ok (.ixor, 1) := by decide +kernel
theorem dX1_setIll_25 : decode cX1_setIll 25 = .ok (.iand, 1) := by decide +kernel
theorem dX1_setIll_26 : decode cX1_setIll 26 = .ok (.putfield 28, 3) := by decide +kernel
theorem dX1_setIll_29 : decode cX1_setIll 29 = .ok (.return_, 1) := by decide +kernel
theorem dX1_payOf_0 : decode cX1_payOf 0 = .ok (.aload_n 0, 1) := by decide +kernel
theorem dX1_payOf_1 : decode cX1_payOf 1 = .ok (.iload_n 1, 1) := by decide +kernel
theorem dX1_payOf_2 : decode cX1_payOf 2 = .ok (.invokevirtual 35, 3) := by decide +kernel
theorem dX1_payOf_5 : decode cX1_payOf 5 = .ok (.ifCond .eq 12, 3) := by decide +kernel
theorem dX1_payOf_8 : decode cX1_payOf 8 = .ok (.aload_n 0, 1) := by decide +kernel
theorem dX1_payOf_9 : decode cX1_payOf 9 = .ok (.getfield 18, 3) := by decide +kernel
theorem dX1_payOf_12 : decode cX1_payOf 12 = .ok (.iload_n 1, 1) := by decide +kernel
theorem dX1_payOf_13 : decode cX1_payOf 13 = .ok (.iaload, 1) := by decide +kernel
theorem dX1_payOf_14 : decode cX1_payOf 14 = .ok (.goto 4, 3) := by decide +kernel
theorem dX1_payOf_17 : decode cX1_payOf 17 = .ok (.iconst 0, 1) := by decide +kernel
theorem dX1_payOf_18 : decode cX1_payOf 18 = .ok (.ireturn, 1) := by decide +kernel
theorem dX1_knownBy_0 : decode cX1_knownBy 0 = .ok (.aload_n 0, 1) := by decide +kernel
theorem dX1_knownBy_1 : decode cX1_knownBy 1 = .ok (.iload_n 1, 1) := by decide +kernel
theorem dX1_knownBy_2 : decode cX1_knownBy 2 = .ok (.invokevirtual 35, 3) := by decide +kernel
theorem dX1_knownBy_5 : decode cX1_knownBy 5 = .ok (.ifCond .eq 12, 3) := by decide +kernel
theorem dX1_knownBy_8 : decode cX1_knownBy 8 = .ok (.aload_n 0, 1) := by decide +kernel
theorem dX1_knownBy_9 : decode cX1_knownBy 9 = .ok (.getfield 9, 3) := by decide +kernel
theorem dX1_knownBy_12 : decode cX1_knownBy 12 = .ok (.iload_n 1, 1) := by decide +kernel
theorem dX1_knownBy_13 : decode cX1_knownBy 13 = .ok (.iaload, 1) := by decide +kernel
theorem dX1_knownBy_14 : decode cX1_knownBy 14 = .ok (.goto 4, 3) := by decide +kernel
theorem dX1_knownBy_17 : decode cX1_knownBy 17 = .ok (.iconst 0, 1) := by decide +kernel
theorem dX1_knownBy_18 : decode cX1_knownBy 18 = .ok (.ireturn, 1) := by decide +kernel
theorem dX1_boothOf_0 : decode cX1_boothOf 0 = .ok (.aload_n 0, 1) := by decide +kernel
theorem dX1_boothOf_1 : decode cX1_boothOf 1 = .ok (.iload_n 1, 1) := by decide +kernel
theorem dX1_boothOf_2 : decode cX1_boothOf 2 = .ok (.invokevirtual 35, 3) := by decide +kernel
theorem dX1_boothOf_5 : decode cX1_boothOf 5 = .ok (.ifCond .eq 12, 3) := by decide +kernel
theorem dX1_boothOf_8 : decode cX1_boothOf 8 = .ok (.aload_n 0, 1) := by decide +kernel
theorem dX1_boothOf_9 : decode cX1_boothOf 9 = .ok (.getfield 21, 3) := by decide +kernel
theorem dX1_boothOf_12 : decode cX1_boothOf 12 = .ok (.iload_n 1, 1) := by decide +kernel
theorem dX1_boothOf_13 : decode cX1_boothOf 13 = .ok (.iaload, 1) := by decide +kernel
theorem dX1_boothOf_14 : decode cX1_boothOf 14 = .ok (.goto 4, 3) := by decide +kernel
theorem dX1_boothOf_17 : decode cX1_boothOf 17 = .ok (.iconst 5, 1) := by decide +kernel
theorem dX1_boothOf_18 : decode cX1_boothOf 18 = .ok (.ireturn, 1) := by decide +kernel
theorem dX1_canTurnInto_0 : decode cX1_canTurnInto 0 = .ok (.aload_n 0, 1) := by decide +kernel
theorem dX1_canTurnInto_1 : decode cX1_canTurnInto 1 = .ok (.iload_n 1, 1) := by decide +kernel
theorem dX1_canTurnInto_2 : decode cX1_canTurnInto 2 = .ok (.invokevirtual 35, 3) := by decide +kernel
theorem dX1_canTurnInto_5 : decode cX1_canTurnInto 5 = .ok (.ifCond .eq 28, 3) := by decide +kernel
theorem dX1_canTurnInto_8 : decode cX1_canTurnInto 8 = .ok (.aload_n 0, 1) := by decide +kernel
theorem dX1_canTurnInto_9 : decode cX1_canTurnInto 9 = .ok (.iload_n 1, 1) := by decide +kernel
theorem dX1_canTurnInto_10 : decode cX1_canTurnInto 10 = .ok (.invokevirtual 39, 3) := by decide +kernel
theorem dX1_canTurnInto_13 : decode cX1_canTurnInto 13 = .ok (.ifCond .ne 20, 3) := by decide +kernel
theorem dX1_canTurnInto_16 : decode cX1_canTurnInto 16 = .ok (.aload_n 0, 1) := by decide +kernel
theorem dX1_canTurnInto_17 : decode cX1_canTurnInto 17 = .ok (.getfield 15, 3) := by decide +kernel
theorem dX1_canTurnInto_20 : decode cX1_canTurnInto 20 = .ok (.iload_n 1, 1) := by decide +kernel
theorem dX1_canTurnInto_21 : decode cX1_canTurnInto 21 = .ok (.iaload, 1) := by decide +kernel
theorem dX1_canTurnInto_22 : decode cX1_canTurnInto 22 = .ok (.iload_n 2, 1) := by decide +kernel
theorem dX1_canTurnInto_23 : decode cX1_canTurnInto 23 = .ok (.invokestatic 31, 3) := by decide +kernel
theorem dX1_canTurnInto_26 : decode cX1_canTurnInto 26 = .ok (.ifCond .eq 7, 3) := by decide +kernel
theorem dX1_canTurnInto_29 : decode cX1_canTurnInto 29 = .ok (.iconst 1, 1) := by decide +kernel
theorem dX1_canTurnInto_30 : decode cX1_canTurnInto 30 = .ok (.goto 4, 3) := by decide +kernel
theorem dX1_canTurnInto_33 : decode cX1_canTurnInto 33 = .ok (.iconst 0, 1) := by decide +kernel
theorem dX1_canTurnInto_34 : decode cX1_canTurnInto 34 = .ok (.ireturn, 1) := by decide +kernel
theorem dX1_ableToTurnInto_0 : decode cX1_ableToTurnInto 0 = .ok (.iconst 0, 1) := by decide +kernel
theorem dX1_ableToTurnInto_1 : decode cX1_ableToTurnInto 1 = .ok (.istore_n 2, 1) := by decide +kernel
theorem dX1_ableToTurnInto_2 : decode cX1_ableToTurnInto 2 = .ok (.iconst 0, 1) := by decide +kernel
theorem dX1_ableToTurnInto_3 : decode cX1_ableToTurnInto 3 = .ok (.istore_n 3, 1) := by decide +kernel
theorem dX1_ableToTurnInto_4 : decode cX1_ableToTurnInto 4 = .ok (.iload_n 3, 1) := by decide +kernel
theorem dX1_ableToTurnInto_5 : decode cX1_ableToTurnInto 5 = .ok (.aload_n 0, 1) := by decide +kernel
theorem dX1_ableToTurnInto_6 : decode cX1_ableToTurnInto 6 = .ok (.getfield 24, 3) := by decide +kernel
theorem dX1_ableToTurnInto_9 : decode cX1_ableToTurnInto 9 = .ok (.if_icmp .ge 21, 3) := by decide +kernel
theorem dX1_ableToTurnInto_12 : decode cX1_ableToTurnInto 12 = .ok (.aload_n 0, 1) := by decide +kernel
theorem dX1_ableToTurnInto_13 : decode cX1_ableToTurnInto 13 = .ok (.iload_n 3, 1) := by decide +kernel
theorem dX1_ableToTurnInto_14 : decode cX1_ableToTurnInto 14 = .ok (.iload_n 1, 1) := by decide +kernel
theorem dX1_ableToTurnInto_15 : decode cX1_ableToTurnInto 15 = .ok (.invokevirtual 42, 3) := by decide +kernel
theorem dX1_ableToTurnInto_18 : decode cX1_ableToTurnInto 18 = .ok (.ifCond .eq 6, 3) := by decide +kernel
theorem dX1_ableToTurnInto_21 : decode cX1_ableToTurnInto 21 = .ok (.iinc 2 1, 3) := by decide +kernel
theorem dX1_ableToTurnInto_24 : decode cX1_ableToTurnInto 24 = .ok (.iinc 3 1, 3) := by decide +kernel
theorem dX1_ableToTurnInto_27 : decode cX1_ableToTurnInto 27 = .ok (.goto (-23), 3) := by decide +kernel
theorem dX1_ableToTurnInto_30 : decode cX1_ableToTurnInto 30 = .ok (.iload_n 2, 1) := by decide +kernel
theorem dX1_ableToTurnInto_31 : decode cX1_ableToTurnInto 31 = .ok (.ireturn, 1) := by decide +kernel
theorem dX1_seated_0 : decode cX1_seated 0 = .ok (.iconst 0, 1) := by decide +kernel
theorem dX1_seated_1 : decode cX1_seated 1 = .ok (.istore_n 1, 1) := by decide +kernel
theorem dX1_seated_2 : decode cX1_seated 2 = .ok (.iconst 0, 1) := by decide +kernel
theorem dX1_seated_3 : decode cX1_seated 3 = .ok (.istore_n 2, 1) := by decide +kernel
theorem dX1_seated_4 : decode cX1_seated 4 = .ok (.iload_n 2, 1) := by decide +kernel
theorem dX1_seated_5 : decode cX1_seated 5 = .ok (.aload_n 0, 1) := by decide +kernel
theorem dX1_seated_6 : decode cX1_seated 6 = .ok (.getfield 24, 3) := by decide +kernel
theorem dX1_seated_9 : decode cX1_seated 9 = .ok (.if_icmp .ge 21, 3) := by decide +kernel
theorem dX1_seated_12 : decode cX1_seated 12 = .ok (.aload_n 0, 1) := by decide +kernel
theorem dX1_seated_13 : decode cX1_seated 13 = .ok (.iload_n 2, 1) := by decide +kernel
theorem dX1_seated_14 : decode cX1_seated 14 = .ok (.invokevirtual 45, 3) := by decide +kernel
theorem dX1_seated_17 : decode cX1_seated 17 = .ok (.iconst 5, 1) := by decide +kernel
theorem dX1_seated_18 : decode cX1_seated 18 = .ok (.if_icmp .eq 6, 3) := by decide +kernel
theorem dX1_seated_21 : decode cX1_seated 21 = .ok (.iinc 1 1, 3) := by decide +kernel
theorem dX1_seated_24 : decode cX1_seated 24 = .ok (.iinc 2 1, 3) := by decide +kernel
theorem dX1_seated_27 : decode cX1_seated 27 = .ok (.goto (-23), 3) := by decide +kernel
theorem dX1_seated_30 : decode cX1_seated 30 = .ok (.iload_n 1, 1) := by decide +kernel
theorem dX1_seated_31 : decode cX1_seated 31 = .ok (.ireturn, 1) := by decide +kernel
theorem dX1_unseatAll_0 : decode cX1_unseatAll 0 = .ok (.aload_n 0, 1) := by decide +kernel
theorem dX1_unseatAll_1 : decode cX1_unseatAll 1 = .ok (.getfield 21, 3) := by decide +kernel
theorem dX1_unseatAll_4 : decode cX1_unseatAll 4 = .ok (.iconst 5, 1) := by decide +kernel
theorem dX1_unseatAll_5 : decode cX1_unseatAll 5 = .ok (.invokestatic 49, 3) := by decide +kernel
theorem dX1_unseatAll_8 : decode cX1_unseatAll 8 = .ok (.return_, 1) := by decide +kernel
theorem dX1_seatAs_0 : decode cX1_seatAs 0 = .ok (.aload_n 1, 1) := by decide +kernel
theorem dX1_seatAs_1 : decode cX1_seatAs 1 = .ok (.ifnull 22, 3) := by decide +kernel
theorem dX1_seatAs_4 : decode cX1_seatAs 4 = .ok (.aload_n 1, 1) := by decide +kernel
theorem dX1_seatAs_5 : decode cX1_seatAs 5 = .ok (.arraylength, 1) := by decide +kernel
theorem dX1_seatAs_6 : decode cX1_seatAs 6 = .ok (.bipush 6, 2) := by decide +kernel
theorem dX1_seatAs_8 : decode cX1_seatAs 8 = .ok (.if_icmp .ne 15, 3) := by decide +kernel
theorem dX1_seatAs_11 : decode cX1_seatAs 11 = .ok (.aload_n 1, 1) := by decide +kernel
theorem dX1_seatAs_12 : decode cX1_seatAs 12 = .ok (.iconst 0, 1) := by decide +kernel
theorem dX1_seatAs_13 : decode cX1_seatAs 13 = .ok (.aload_n 0, 1) := by decide +kernel
theorem dX1_seatAs_14 : decode cX1_seatAs 14 = .ok (.getfield 21, 3) := by decide +kernel
theorem dX1_seatAs_17 : decode cX1_seatAs 17 = .ok (.iconst 0, 1) := by decide +kernel
theorem dX1_seatAs_18 : decode cX1_seatAs 18 = .ok (.bipush 6, 2) := by decide +kernel
theorem dX1_seatAs_20 : decode cX1_seatAs 20 = .ok (.invokestatic 55, 3) := by decide +kernel
theorem dX1_seatAs_23 : decode cX1_seatAs 23 = .ok (.return_, 1) := by decide +kernel
theorem dX2_init_0 : decode cX2_init 0 = .ok (.aload_n 0, 1) := by decide +kernel
theorem dX2_init_1 : decode cX2_init 1 = .ok (.invokespecial 3, 3) := by decide +kernel
theorem dX2_init_4 : decode cX2_init 4 = .ok (.aload_n 0, 1) := by decide +kernel
theorem dX2_init_5 : decode cX2_init 5 = .ok (.bipush 6, 2) := by decide +kernel
theorem dX2_init_7 : decode cX2_init 7 = .ok (.newarray .int, 2) := by decide +kernel
theorem dX2_init_9 : decode cX2_init 9 = .ok (.putfield 9, 3) := by decide +kernel
theorem dX2_init_12 : decode cX2_init 12 = .ok (.aload_n 0, 1) := by decide +kernel
theorem dX2_init_13 : decode cX2_init 13 = .ok (.iconst 5, 1) := by decide +kernel
theorem dX2_init_14 : decode cX2_init 14 = .ok (.newarray .int, 2) := by decide +kernel
theorem dX2_init_16 : decode cX2_init 16 = .ok (.putfield 15, 3) := by decide +kernel
theorem dX2_init_19 : decode cX2_init 19 = .ok (.aload_n 0, 1) := by decide +kernel
theorem dX2_init_20 : decode cX2_init 20 = .ok (.iconst 5, 1) := by decide +kernel
theorem dX2_init_21 : decode cX2_init 21 = .ok (.newarray .int, 2) := by decide +kernel
theorem dX2_init_23 : decode cX2_init 23 = .ok (.putfield 18, 3) := by decide +kernel
theorem dX2_init_26 : decode cX2_init 26 = .ok (.aload_n 0, 1) := by decide +kernel
theorem dX2_init_27 : decode cX2_init 27 = .ok (.bipush 6, 2) := by decide +kernel
theorem dX2_init_29 : decode cX2_init 29 = .ok (.newarray .int, 2) := by decide +kernel
theorem dX2_init_31 : decode cX2_init 31 = .ok (.putfield 21, 3) := by decide +kernel
theorem dX2_init_34 : decode cX2_init 34 = .ok (.aload_n 0, 1) := by decide +kernel
theorem dX2_init_35 : decode cX2_init 35 = .ok (.bipush 6, 2) := by decide +kernel
theorem dX2_init_37 : decode cX2_init 37 = .ok (.newarray .int, 2) := by decide +kernel
theorem dX2_init_39 : decode cX2_init 39 = .ok (.putfield 24, 3) := by decide +kernel
theorem dX2_init_42 : decode cX2_init 42 = .ok (.aload_n 0, 1) := by decide +kernel
theorem dX2_init_43 : decode cX2_init 43 = .ok (.aload_n 1, 1) := by decide +kernel
theorem dX2_init_44 : decode cX2_init 44 = .ok (.putfield 27, 3) := by decide +kernel
theorem dX2_init_47 : decode cX2_init 47 = .ok (.aload_n 0, 1) := by decide +kernel
theorem dX2_init_48 : decode cX2_init 48 = .ok (.getfield 9, 3) := by decide +kernel
theorem dX2_init_51 : decode cX2_init 51 = .ok (.iconst 5, 1) := by decide +kernel
theorem dX2_init_52 : decode cX2_init 52 = .ok (.invokestatic 31, 3) := by decide +kernel
theorem dX2_init_55 : decode cX2_init 55 = .ok (.return_, 1) := by decide +kernel
theorem dX2_prepare_0 : decode cX2_prepare 0 = .ok (.aload_n 0, 1) := by decide +kernel
theorem dX2_prepare_1 : decode cX2_prepare 1 = .ok (.iload_n 1, 1) := by decide +kernel
theorem dX2_prepare_2 : decode cX2_prepare 2 = .ok (.putfield 37, 3) := by decide +kernel
theorem dX2_prepare_5 : decode cX2_prepare 5 = .ok (.aload_n 0, 1) := by decide +kernel
theorem dX2_prepare_6 : decode cX2_prepare 6 = .ok (.iload_n 2, 1) := by decide +kernel
theorem dX2_prepare_7 : decode cX2_prepare 7 = .ok (.putfield 41, 3) := by decide +kernel
theorem dX2_prepare_10 : decode cX2_prepare 10 = .ok (.aload_n 0, 1) := by decide +kernel
theorem dX2_prepare_11 : decode cX2_prepare 11 = .ok (.iconst 0, 1) := by decide +kernel
theorem dX2_prepare_12 : decode cX2_prepare 12 = .ok (.putfield 44, 3) := by decide +kernel
theorem dX2_prepare_15 : decode cX2_prepare 15 = .ok (.aload_n 0, 1) := by decide +kernel
theorem dX2_prepare_16 : decode cX2_prepare 16 = .ok (.iconst 0, 1) := by decide +kernel
theorem dX2_prepare_17 : decode cX2_prepare 17 = .ok (.putfield 47, 3) := by decide +kernel
theorem dX2_prepare_20 : decode cX2_prepare 20 = .ok (.aload_n 0, 1) := by decide +kernel
theorem dX2_prepare_21 : decode cX2_prepare 21 = .ok (.iconst (-1), 1) := by decide +kernel
theorem dX2_prepare_22 : decode cX2_prepare 22 = .ok (.putfield 50, 3) := by decide +kernel
theorem dX2_prepare_25 : decode cX2_prepare 25 = .ok (.aload_n 0, 1) := by decide +kernel
theorem dX2_prepare_26 : decode cX2_prepare 26 = .ok (.iconst (-1), 1) := by decide +kernel
theorem dX2_prepare_27 : decode cX2_prepare 27 = .ok (.putfield 53, 3) := by decide +kernel
theorem dX2_prepare_30 : decode cX2_prepare 30 = .ok (.aload_n 0, 1) := by decide +kernel
theorem dX2_prepare_31 : decode cX2_prepare 31 = .ok (.iconst (-1), 1) := by decide +kernel
theorem dX2_prepare_32 : decode cX2_prepare 32 = .ok (.putfield 56, 3) := by decide +kernel
theorem dX2_prepare_35 : decode cX2_prepare 35 = .ok (.aload_n 0, 1) := by decide +kernel
theorem dX2_prepare_36 : decode cX2_prepare 36 = .ok (.iconst 0, 1) := by decide +kernel
theorem dX2_prepare_37 : decode cX2_prepare 37 = .ok (.putfield 59, 3) := by decide +kernel
theorem dX2_prepare_40 : decode cX2_prepare 40 = .ok (.iconst 0, 1) := by decide +kernel
theorem dX2_prepare_41 : decode cX2_prepare 41 = .ok (.istore 4, 2) := by decide +kernel
theorem dX2_prepare_43 : decode cX2_prepare 43 = .ok (.iload 4, 2) := by decide +kernel
theorem dX2_prepare_45 : decode cX2_prepare 45 = .ok (.iconst 5, 1) := by decide +kernel
theorem dX2_prepare_46 : decode cX2_prepare 46 = .ok (.if_icmp .ge 46, 3) := by decide +kernel
theorem dX2_prepare_49 : decode cX2_prepare 49 = .ok (.aload_n 0, 1) := by decide +kernel
theorem dX2_prepare_50 : decode cX2_prepare 50 = .ok (.getfield 15, 3) := by decide +kernel
theorem dX2_prepare_53 : decode cX2_prepare 53 = .ok (.iload 4, 2) := by decide +kernel
theorem dX2_prepare_55 : decode cX2_prepare 55 = .ok (.iload_n 2, 1) := by decide +kernel
theorem dX2_prepare_56 : decode cX2_prepare 56 = .ok (.iload 4, 2) := by decide +kernel
theorem dX2_prepare_58 : decode cX2_prepare 58 = .ok (.invokestatic 62, 3) := by decide +kernel
theorem dX2_prepare_61 : decode cX2_prepare 61 = .ok (.ifCond .eq 7, 3) := by decide +kernel
theorem dX2_prepare_64 : decode cX2_prepare 64 = .ok (.iload_n 3, 1) := by decide +kernel
theorem dX2_prepare_65 : decode cX2_prepare 65 = .ok (.goto 4, 3) := by decide +kernel
theorem dX2_prepare_68 : decode cX2_prepare 68 = .ok (.iconst 0, 1) := by decide +kernel
theorem dX2_prepare_69 : decode cX2_prepare 69 = .ok (.iastore, 1) := by decide +kernel
theorem dX2_prepare_70 : decode cX2_prepare 70 = .ok (.aload_n 0, 1) := by decide +kernel
theorem dX2_prepare_71 : decode cX2_prepare 71 = .ok (.dup, 1) := by decide +kernel
theorem dX2_prepare_72 : decode cX2_prepare 72 = .ok (.getfield 59, 3) := by decide +kernel
theorem dX2_prepare_75 : decode cX2_prepare 75 = .ok (.aload_n 0, 1) := by decide +kernel
theorem dX2_prepare_76 : decode cX2_prepare 76 = .ok (.getfield 15, 3) := by decide +kernel
theorem dX2_prepare_79 : decode cX2_prepare 79 = .ok (.iload 4, 2) := by decide +kernel
theorem dX2_prepare_81 : decode cX2_prepare 81 = .ok (.iaload, 1) := by decide +kernel
theorem dX2_prepare_82 : decode cX2_prepare 82 = .ok (.iadd, 1) := by decide +kernel
theorem dX2_prepare_83 : decode cX2_prepare 83 = .ok (.putfield 59, 3) := by decide +kernel
theorem dX2_prepare_86 : decode cX2_prepare 86 = .ok (.iinc 4 1, 3) := by decide +kernel
theorem dX2_prepare_89 : decode cX2_prepare 89 = .ok (.goto (-46), 3) := by decide +kernel
theorem dX2_prepare_92 : decode cX2_prepare 92 = .ok (.return_, 1) := by decide +kernel
theorem dX2_placeFrom_0 : decode cX2_placeFrom 0 = .ok (.aload_n 0, 1) := by decide +kernel
theorem dX2_placeFrom_1 : decode cX2_placeFrom 1 = .ok (.getfield 59, 3) := by decide +kernel
theorem dX2_placeFrom_4 : decode cX2_placeFrom 4 = .ok (.aload_n 0, 1) := by decide +kernel
theorem dX2_placeFrom_5 : decode cX2_placeFrom 5 = .ok (.getfield 27, 3) := by decide +kernel
theorem dX2_placeFrom_8 : decode cX2_placeFrom 8 = .ok (.getfield 66, 3) := by decide +kernel
theorem dX2_placeFrom_11 : decode cX2_placeFrom 11 = .ok (.iload_n 1, 1) := by decide +kernel
theorem dX2_placeFrom_12 : decode cX2_placeFrom 12 = .ok (.isub, 1) := by decide +kernel
theorem dX2_placeFrom_13 : decode cX2_placeFrom 13 = .ok (.if_icmp .le 4, 3) := by decide +kernel
theorem dX2_placeFrom_16 : decode cX2_placeFrom 16 = .ok (.return_, 1) := by decide +kernel
theorem dX2_placeFrom_17 : decode cX2_placeFrom 17 = .ok (.aload_n 0, 1) := by decide +kernel
theorem dX2_placeFrom_18 : decode cX2_placeFrom 18 = .ok (.getfield 27, 3) := by decide +kernel
theorem dX2_placeFrom_21 : decode cX2_placeFrom 21 = .ok (.iload_n 1, 1) := by decide +kernel
theorem dX2_placeFrom_22 : decode cX2_placeFrom 22 = .ok (.invokevirtual 71, 3) := by decide +kernel
theorem dX2_placeFrom_25 : decode cX2_placeFrom 25 = .ok (.ifCond .ne 8, 3) := by decide +kernel
theorem dX2_placeFrom_28 : decode cX2_placeFrom 28 = .ok (.aload_n 0, 1) := by decide +kernel
theorem dX2_placeFrom_29 : decode cX2_placeFrom 29 = .ok (.invokevirtual 75, 3) := by decide +kernel
theorem dX2_placeFrom_32 : decode cX2_placeFrom 32 = .ok (.return_, 1) := by decide +kernel
theorem dX2_placeFrom_33 : decode cX2_placeFrom 33 = .ok (.iconst 0, 1) := by decide +kernel
theorem dX2_placeFrom_34 : decode cX2_placeFrom 34 = .ok (.istore_n 2, 1) := by decide +kernel
theorem dX2_placeFrom_35 : decode cX2_placeFrom 35 = .ok (.iload_n 2, 1) := by decide +kernel
theorem dX2_placeFrom_36 : decode cX2_placeFrom 36 = .ok (.iconst 5, 1) := by decide +kernel
theorem dX2_placeFrom_37 : decode cX2_placeFrom 37 = .ok (.if_icmp .ge 15, 3) := by decide +kernel
theorem dX2_placeFrom_40 : decode cX2_placeFrom 40 = .ok (.aload_n 0, 1) := by decide +kernel
theorem dX2_placeFrom_41 : decode cX2_placeFrom 41 = .ok (.iload_n 2, 1) := by decide +kernel
theorem dX2_placeFrom_42 : decode cX2_placeFrom 42 = .ok (.iload_n 1, 1) := by decide +kernel
theorem dX2_placeFrom_43 : decode cX2_placeFrom 43 = .ok (.invokevirtual 78, 3) := by decide +kernel
theorem dX2_placeFrom_46 : decode cX2_placeFrom 46 = .ok (.iinc 2 1, 3) := by decide +kernel
theorem dX2_placeFrom_49 : decode cX2_placeFrom 49 = .ok (.goto (-14), 3) := by decide +kernel
theorem dX2_placeFrom_52 : decode cX2_placeFrom 52 = .ok (.aload_n 0, 1) := by decide +kernel
theorem dX2_placeFrom_53 : decode cX2_placeFrom 53 = .ok (.getfield 9, 3) := by decide +kernel
theorem dX2_placeFrom_56 : decode cX2_placeFrom 56 = .ok (.iload_n 1, 1) := by decide +kernel
theorem dX2_placeFrom_57 : decode cX2_placeFrom 57 = .ok (.iconst 5, 1) := by decide +kernel
theorem dX2_placeFrom_58 : decode cX2_placeFrom 58 = .ok (.iastore, 1) := by decide +kernel
theorem dX2_placeFrom_59 : decode cX2_placeFrom 59 = .ok (.aload_n 0, 1) := by decide +kernel
theorem dX2_placeFrom_60 : decode cX2_placeFrom 60 = .ok (.iload_n 1, 1) := by decide +kernel
theorem dX2_placeFrom_61 : decode cX2_placeFrom 61 = .ok (.iconst 1, 1) := by decide +kernel
theorem dX2_placeFrom_62 : decode cX2_placeFrom 62 = .ok (.iadd, 1) := by decide +kernel
theorem dX2_placeFrom_63 : decode cX2_placeFrom 63 = .ok (.invokevirtual 82, 3) := by decide +kernel
theorem dX2_placeFrom_66 : decode cX2_placeFrom 66 = .ok (.return_, 1) := by decide +kernel
theorem dX2_placeIn_0 : decode cX2_placeIn 0 = .ok (.aload_n 0, 1) := by decide +kernel
theorem dX2_placeIn_1 : decode cX2_placeIn 1 = .ok (.getfield 15, 3) := by decide +kernel
theorem dX2_placeIn_4 : decode cX2_placeIn 4 = .ok (.iload_n 1, 1) := by decide +kernel
theorem dX2_placeIn_5 : decode cX2_placeIn 5 = .ok (.iaload, 1) := by decide +kernel
theorem dX2_placeIn_6 : decode cX2_placeIn 6 = .ok (.ifCond .eq 15, 3) := by decide +kernel
theorem dX2_placeIn_9 : decode cX2_placeIn 9 = .ok (.aload_n 0, 1) := by decide +kernel
theorem dX2_placeIn_10 : decode cX2_placeIn 10 = .ok (.getfield 27, 3) := by decide +kernel
theorem dX2_placeIn_13 : decode cX2_placeIn 13 = .ok (.iload_n 2, 1) := by decide +kernel
theorem dX2_placeIn_14 : decode cX2_placeIn 14 = .ok (.iload_n 1, 1) := by decide +kernel
theorem dX2_placeIn_15 : decode cX2_placeIn 15 = .ok (.invokevirtual 86, 3) := by decide +kernel
theorem dX2_placeIn_18 : decode cX2_placeIn 18 = .ok (.ifCond .ne 4, 3) := by decide +kernel
theorem dX2_placeIn_21 : decode cX2_placeIn 21 = .ok (.return_, 1) := by decide +kernel
theorem dX2_placeIn_22 : decode cX2_placeIn 22 = .ok (.aload_n 0, 1) := by decide +kernel
theorem dX2_placeIn_23 : decode cX2_placeIn 23 = .ok (.getfield 9, 3) := by decide +kernel
theorem dX2_placeIn_26 : decode cX2_placeIn 26 = .ok (.iload_n 2, 1) := by decide +kernel
theorem dX2_placeIn_27 : decode cX2_placeIn 27 = .ok (.iload_n 1, 1) := by decide +kernel
theorem dX2_placeIn_28 : decode cX2_placeIn 28 = .ok (.iastore, 1) := by decide +kernel
theorem dX2_placeIn_29 : decode cX2_placeIn 29 = .ok (.aload_n 0, 1) := by decide +kernel
theorem dX2_placeIn_30 : decode cX2_placeIn 30 = .ok (.getfield 15, 3) := by decide +kernel
theorem dX2_placeIn_33 : decode cX2_placeIn 33 = .ok (.iload_n 1, 1) := by decide +kernel
theorem dX2_placeIn_34 : decode cX2_placeIn 34 = .ok (.dup2, 1) := by decide +kernel
theorem dX2_placeIn_35 : decode cX2_placeIn 35 = .ok (.iaload, 1) := by decide +kernel
theorem dX2_placeIn_36 : decode cX2_placeIn 36 = .ok (.iconst 1, 1) := by decide +kernel
theorem dX2_placeIn_37 : decode cX2_placeIn 37 = .ok (.isub, 1) := by decide +kernel
theorem dX2_placeIn_38 : decode cX2_placeIn 38 = .ok (.iastore, 1) := by decide +kernel
theorem dX2_placeIn_39 : decode cX2_placeIn 39 = .ok (.aload_n 0, 1) := by decide +kernel
theorem dX2_placeIn_40 : decode cX2_placeIn 40 = .ok (.dup, 1) := by decide +kernel
theorem dX2_placeIn_41 : decode cX2_placeIn 41 = .ok (.getfield 59, 3) := by decide +kernel
theorem dX2_placeIn_44 : decode cX2_placeIn 44 = .ok (.iconst 1, 1) := by decide +kernel
theorem dX2_placeIn_45 : decode cX2_placeIn 45 = .ok (.isub, 1) := by decide +kernel
theorem dX2_placeIn_46 : decode cX2_placeIn 46 = .ok (.putfield 59, 3) := by decide +kernel
theorem dX2_placeIn_49 : decode cX2_placeIn 49 = .ok (.aload_n 0, 1) := by decide +kernel
theorem dX2_placeIn_50 : decode cX2_placeIn 50 = .ok (.iload_n 2, 1) := by decide +kernel
theorem dX2_placeIn_51 : decode cX2_placeIn 51 = .ok (.iconst 1, 1) := by decide +kernel
theorem dX2_placeIn_52 : decode cX2_placeIn 52 = .ok (.iadd, 1) := by decide +kernel
theorem dX2_placeIn_53 : decode cX2_placeIn 53 = .ok (.invokevirtual 82, 3) := by decide +kernel
theorem dX2_placeIn_56 : decode cX2_placeIn 56 = .ok (.aload_n 0, 1) := by decide +kernel
theorem dX2_placeIn_57 : decode cX2_placeIn 57 = .ok (.getfield 15, 3) := by decide +kernel
theorem dX2_placeIn_60 : decode cX2_placeIn 60 = .ok (.iload_n 1, 1) := by decide +kernel
theorem dX2_placeIn_61 : decode cX2_placeIn 61 = .ok (.dup2, 1) := by decide +kernel
theorem dX2_placeIn_62 : decode cX2_placeIn 62 = .ok (.iaload, 1) := by decide +kernel
theorem dX2_placeIn_63 : decode cX2_placeIn 63 = .ok (.iconst 1, 1) := by decide +kernel
theorem dX2_placeIn_64 : decode cX2_placeIn 64 = .ok (.iadd, 1) := by decide +kernel
theorem dX2_placeIn_65 : decode cX2_placeIn 65 = .ok (.iastore, 1) := by decide +kernel
theorem dX2_placeIn_66 : decode cX2_placeIn 66 = .ok (.aload_n 0, 1) := by decide +kernel
theorem dX2_placeIn_67 : decode cX2_placeIn 67 = .ok (.dup, 1) := by decide +kernel
theorem dX2_placeIn_68 : decode cX2_placeIn 68 = .ok (.getfield 59, 3) := by decide +kernel
theorem dX2_placeIn_71 : decode cX2_placeIn 71 = .ok (.iconst 1, 1) := by decide +kernel
theorem dX2_placeIn_72 : decode cX2_placeIn 72 = .ok (.iadd, 1) := by decide +kernel
theorem dX2_placeIn_73 : decode cX2_placeIn 73 = .ok (.putfield 59, 3) := by decide +kernel
theorem dX2_placeIn_76 : decode cX2_placeIn 76 = .ok (.return_, 1) := by decide +kernel
theorem dX2_weighIfWhole_0 : decode cX2_weighIfWhole 0 = .ok (.aload_n 0, 1) := by decide +kernel
theorem dX2_weighIfWhole_1 : decode cX2_weighIfWhole 1 = .ok (.invokevirtual 89, 3) := by decide +kernel
theorem dX2_weighIfWhole_4 : decode cX2_weighIfWhole 4 = .ok (.iconst 0, 1) := by decide +kernel
theorem dX2_weighIfWhole_5 : decode cX2_weighIfWhole 5 = .ok (.istore_n 1, 1) := by decide +kernel
theorem dX2_weighIfWhole_6 : decode cX2_weighIfWhole 6 = .ok (.iload_n 1, 1) := by decide +kernel
theorem dX2_weighIfWhole_7 : decode cX2_weighIfWhole 7 = .ok (.iconst 5, 1) := by decide +kernel
theorem dX2_weighIfWhole_8 : decode cX2_weighIfWhole 8 = .ok (.if_icmp .ge 29, 3) := by decide +kernel
theorem dX2_weighIfWhole_11 : decode cX2_weighIfWhole 11 = .ok (.aload_n 0, 1) := by decide +kernel
theorem dX2_weighIfWhole_12 : decode cX2_weighIfWhole 12 = .ok (.getfield 41, 3) := by decide +kernel
theorem dX2_weighIfWhole_15 : decode cX2_weighIfWhole 15 = .ok (.iload_n 1, 1) := by decide +kernel
theorem dX2_weighIfWhole_16 : decode cX2_weighIfWhole 16 = .ok (.invokestatic 62, 3) := by decide +kernel
theorem dX2_weighIfWhole_19 : decode cX2_weighIfWhole 19 = .ok (.ifCond .eq 12, 3) := by decide +kernel
theorem dX2_weighIfWhole_22 : decode cX2_weighIfWhole 22 = .ok (.aload_n 0, 1) := by decide +kernel
theorem dX2_weighIfWhole_23 : decode cX2_weighIfWhole 23 = .ok (.iload_n 1, 1) := by decide +kernel
theorem dX2_weighIfWhole_24 : decode cX2_weighIfWhole 24 = .ok (.invokevirtual 92, 3) := by decide +kernel
theorem dX2_weighIfWhole_27 : decode cX2_weighIfWhole 27 = .ok (.ifCond .ne 4, 3) := by decide +kernel
theorem dX2_weighIfWhole_30 : decode cX2_weighIfWhole 30 = .ok (.return_, 1) := by decide +kernel
theorem dX2_weighIfWhole_31 : decode cX2_weighIfWhole 31 = .ok (.iinc 1 1, 3) := by decide +kernel
theorem dX2_weighIfWhole_34 : decode cX2_weighIfWhole 34 = .ok (.goto (-28), 3) := by decide +kernel
theorem dX2_weighIfWhole_37 : decode cX2_weighIfWhole 37 = .ok (.aload_n 0, 1) := by decide +kernel
theorem dX2_weighIfWhole_38 : decode cX2_weighIfWhole 38 = .ok (.invokevirtual 95, 3) := by decide +kernel
theorem dX2_weighIfWhole_41 : decode cX2_weighIfWhole 41 = .ok (.return_, 1) := by decide +kernel
theorem dX2_shareKnown_0 : decode cX2_shareKnown 0 = .ok (.aload_n 0, 1) := by decide +kernel
theorem dX2_shareKnown_1 : decode cX2_shareKnown 1 = .ok (.getfield 18, 3) := by decide +kernel
theorem dX2_shareKnown_4 : decode cX2_shareKnown 4 = .ok (.bipush 31, 2) := by decide +kernel
theorem dX2_shareKnown_6 : decode cX2_shareKnown 6 = .ok (.invokestatic 31, 3) := by decide +kernel
theorem dX2_shareKnown_9 : decode cX2_shareKnown 9 = .ok (.iconst 0, 1) := by decide +kernel
theorem dX2_shareKnown_10 : decode cX2_shareKnown 10 = .ok (.istore_n 1, 1) := by decide +kernel
theorem dX2_shareKnown_11 : decode cX2_shareKnown 11 = .ok (.iload_n 1, 1) := by decide +kernel
theorem dX2_shareKnown_12 : decode cX2_shareKnown 12 = .ok (.aload_n 0, 1) := by decide +kernel
theorem dX2_shareKnown_13 : decode cX2_shareKnown 13 = .ok (.getfield 27, 3) := by decide +kernel
theorem dX2_shareKnown_16 : decode cX2_shareKnown 16 = .ok (.getfield 66, 3) := by decide +kernel
theorem dX2_shareKnown_19 : decode cX2_shareKnown 19 = .ok (.if_icmp .ge 40, 3) := by decide +kernel
theorem dX2_shareKnown_22 : decode cX2_shareKnown 22 = .ok (.aload_n 0, 1) := by decide +kernel
theorem dX2_shareKnown_23 : decode cX2_shareKnown 23 = .ok (.getfield 9, 3) := by decide +kernel
theorem dX2_shareKnown_26 : decode cX2_shareKnown 26 = .ok (.iload_n 1, 1) := by decide +kernel
theorem dX2_shareKnown_27 : decode cX2_shareKnown 27 = .ok (.iaload, 1) := by decide +kernel
theorem dX2_shareKnown_28 : decode cX2_shareKnown 28 = .ok (.istore_n 2, 1) := by decide +kernel
theorem dX2_shareKnown_29 : decode cX2_shareKnown 29 = .ok (.iload_n 2, 1) := by decide +kernel
theorem dX2_shareKnown_30 : decode cX2_shareKnown 30 = .ok (.invokestatic 98, 3) := by decide +kernel
theorem dX2_shareKnown_33 : decode cX2_shareKnown 33 = .ok (.ifCond .eq 20, 3) := by decide +kernel
theorem dX2_shareKnown_36 : decode cX2_shareKnown 36 = .ok (.aload_n 0, 1) := by decide +kernel
theorem dX2_shareKnown_37 : decode cX2_shareKnown 37 = .ok (.getfield 18, 3) := by decide +kernel
theorem dX2_shareKnown_40 : decode cX2_shareKnown 40 = .ok (.iload_n 2, 1) := by decide +kernel
theorem dX2_shareKnown_41 : decode cX2_shareKnown 41 = .ok (.dup2, 1) := by decide +kernel
theorem dX2_shareKnown_42 : decode cX2_shareKnown 42 = .ok (.iaload, 1) := by decide +kernel
theorem dX2_shareKnown_43 : decode cX2_shareKnown 43 = .ok (.aload_n 0, 1) := by decide +kernel
theorem dX2_shareKnown_44 : decode cX2_shareKnown 44 = .ok (.getfield 27, 3) := by decide +kernel
theorem dX2_shareKnown_47 : decode cX2_shareKnown 47 = .ok (.iload_n 1, 1) := by decide +kernel
theorem dX2_shareKnown_48 : decode cX2_shareKnown 48 = .ok (.invokevirtual 101, 3) := by decide +kernel
theorem dX2_shareKnown_51 : decode cX2_shareKnown 51 = .ok (.iand, 1) := by decide +kernel
theorem dX2_shareKnown_52 : decode cX2_shareKnown 52 = .ok (.iastore, 1) := by decide +kernel
theorem dX2_shareKnown_53 : decode cX2_shareKnown 53 = .ok (.iinc 1 1, 3) := by decide +kernel
theorem dX2_shareKnown_56 : decode cX2_shareKnown 56 = .ok (.goto (-45), 3) := by decide +kernel
theorem dX2_shareKnown_59 : decode cX2_shareKnown 59 = .ok (.return_, 1) := by decide +kernel
theorem dX2_reachesFloors_0 : decode cX2_reachesFloors 0 = .ok (.aload_n 0, 1) := by decide +kernel
theorem dX2_reachesFloors_1 : decode cX2_reachesFloors 1 = .ok (.getfield 18, 3) := by decide +kernel
theorem dX2_reachesFloors_4 : decode cX2_reachesFloors 4 = .ok (.iload_n 1, 1) := by decide +kernel
theorem dX2_reachesFloors_5 : decode cX2_reachesFloors 5 = .ok (.iaload, 1) := by decide +kernel
theorem dX2_reachesFloors_6 : decode cX2_reachesFloors 6 = .ok (.iconst 1, 1) := by decide +kernel
theorem dX2_reachesFloors_7 : decode cX2_reachesFloors 7 = .ok (.iload_n 1, 1) := by decide +kernel
theorem dX2_reachesFloors_8 : decode cX2_reachesFloors 8 = .ok (.ishl, 1) := by decide +kernel
theorem dX2_reachesFloors_9 : decode cX2_reachesFloors 9 = .ok (.ior, 1) := by decide +kernel
theorem dX2_reachesFloors_10 : decode cX2_reachesFloors 10 = .ok (.istore_n 2, 1) := by decide +kernel
theorem dX2_reachesFloors_11 : decode cX2_reachesFloors 11 = .ok (.iconst 0, 1) := by decide +kernel
theorem dX2_reachesFloors_12 : decode cX2_reachesFloors 12 = .ok (.istore_n 3, 1) := by decide +kernel
theorem dX2_reachesFloors_13 : decode cX2_reachesFloors 13 = .ok (.iload_n 3, 1) := by decide +kernel
theorem dX2_reachesFloors_14 : decode cX2_reachesFloors 14 = .ok (.iconst 5, 1) := by decide +kernel
theorem dX2_reachesFloors_15 : decode cX2_reachesFloors 15 = .ok (.if_icmp .ge 47, 3) := by decide +kernel
theorem dX2_reachesFloors_18 : decode cX2_reachesFloors 18 = .ok (.iload_n 3, 1) := by decide +kernel
theorem dX2_reachesFloors_19 : decode cX2_reachesFloors 19 = .ok (.iload_n 1, 1) := by decide +kernel
theorem dX2_reachesFloors_20 : decode cX2_reachesFloors 20 = .ok (.if_icmp .eq 36, 3) := by decide +kernel
theorem dX2_reachesFloors_23 : decode cX2_reachesFloors 23 = .ok (.aload_n 0, 1) := by decide +kernel
theorem dX2_reachesFloors_24 : decode cX2_reachesFloors 24 = .ok (.getfield 41, 3) := by decide +kernel
theorem dX2_reachesFloors_27 : decode cX2_reachesFloors 27 = .ok (.iload_n 3, 1) := by decide +kernel
theorem dX2_reachesFloors_28 : decode cX2_reachesFloors 28 = .ok (.invokestatic 62, 3) := by decide +kernel
theorem dX2_reachesFloors_31 : decode cX2_reachesFloors 31 = .ok (.ifCond .eq 25, 3) := by decide +kernel
theorem dX2_reachesFloors_34 : decode cX2_reachesFloors 34 = .ok (.aload_n 0, 1) := by decide +kernel
theorem dX2_reachesFloors_35 : decode cX2_reachesFloors 35 = .ok (.getfield 18, 3) := by decide +kernel
theorem dX2_reachesFloors_38 : decode cX2_reachesFloors 38 = .ok (.iload_n 1, 1) := by decide +kernel
theorem dX2_reachesFloors_39 : decode cX2_reachesFloors 39 = .ok (.iaload, 1) := by decide +kernel
theorem dX2_reachesFloors_40 : decode cX2_reachesFloors 40 = .ok (.iload_n 3, 1) := by decide +kernel
theorem dX2_reachesFloors_41 : decode cX2_reachesFloors 41 = .ok (.invokestatic 62, 3) := by decide +kernel
theorem dX2_reachesFloors_44 : decode cX2_reachesFloors 44 = .ok (.ifCond .eq 12, 3) := by decide +kernel
theorem dX2_reachesFloors_47 : decode cX2_reachesFloors 47 = .ok (.iload_n 2, 1) := by decide +kernel
theorem dX2_reachesFloors_48 : decode cX2_reachesFloors 48 = .ok (.aload_n 0, 1) := by decide +kernel
theorem dX2_reachesFloors_49 : decode cX2_reachesFloors 49 = .ok (.getfield 18, 3) := by decide +kernel
theorem dX2_reachesFloors_52 : decode cX2_reachesFloors 52 = .ok (.iload_n 3, 1) := by decide +kernel
theorem dX2_reachesFloors_53 : decode cX2_reachesFloors 53 = .ok (.iaload, 1) := by decide +kernel
theorem dX2_reachesFloors_54 : decode cX2_reachesFloors 54 = .ok (.ior, 1) := by decide +kernel
theorem dX2_reachesFloors_55 : decode cX2_reachesFloors 55 = .ok (.istore_n 2, 1) := by decide +kernel
theorem dX2_reachesFloors_56 : decode cX2_reachesFloors 56 = .ok (.iinc 3 1, 3) := by decide +kernel
theorem dX2_reachesFloors_59 : decode cX2_reachesFloors 59 = .ok (.goto (-46), 3) := by decide +kernel
theorem dX2_reachesFloors_62 : decode cX2_reachesFloors 62 = .ok (.aload_n 0, 1) := by decide +kernel
theorem dX2_reachesFloors_63 : decode cX2_reachesFloors 63 = .ok (.getfield 37, 3) := by decide +kernel
theorem dX2_reachesFloors_66 : decode cX2_reachesFloors 66 = .ok (.iload_n 2, 1) := by decide +kernel
theorem dX2_reachesFloors_67 : decode cX2_reachesFloors 67 = .ok (.iconst (-1), 1) := by decide +kernel
theorem dX2_reachesFloors_68 : decode cX2_reachesFloors 68 = .ok (.ixor, 1) := by decide +kernel
theorem dX2_reachesFloors_69 : decode cX2_reachesFloors 69 = .ok (.iand, 1) := by decide +kernel
theorem dX2_reachesFloors_70 : decode cX2_reachesFloors 70 = .ok (.ifCond .ne 7, 3) := by decide +kernel
theorem dX2_reachesFloors_73 : decode cX2_reachesFloors 73 = .ok (.iconst 1, 1) := by decide +kernel
theorem dX2_reachesFloors_74 : decode cX2_reachesFloors 74 = .ok (.goto 4, 3) := by decide +kernel
theorem dX2_reachesFloors_77 : decode cX2_reachesFloors 77 = .ok (.iconst 0, 1) := by decide +kernel
theorem dX2_reachesFloors_78 : decode cX2_reachesFloors 78 = .ok (.ireturn, 1) := by decide +kernel
theorem dX2_weigh_0 : decode cX2_weigh 0 = .ok (.iconst 0, 1) := by decide +kernel
theorem dX2_weigh_1 : decode cX2_weigh 1 = .ok (.istore_n 1, 1) := by decide +kernel
theorem dX2_weigh_2 : decode cX2_weigh 2 = .ok (.iconst 0, 1) := by decide +kernel
theorem dX2_weigh_3 : decode cX2_weigh 3 = .ok (.istore_n 2, 1) := by decide +kernel
theorem dX2_weigh_4 : decode cX2_weigh 4 = .ok (.iconst 0, 1) := by decide +kernel
theorem dX2_weigh_5 : decode cX2_weigh 5 = .ok (.istore_n 3, 1) := by decide +kernel
theorem dX2_weigh_6 : decode cX2_weigh 6 = .ok (.iload_n 3, 1) := by decide +kernel
theorem dX2_weigh_7 : decode cX2_weigh 7 = .ok (.aload_n 0, 1) := by decide +kernel
theorem dX2_weigh_8 : decode cX2_weigh 8 = .ok (.getfield 27, 3) := by decide +kernel
theorem dX2_weigh_11 : decode cX2_weigh 11 = .ok (.getfield 66, 3) := by decide +kernel
theorem dX2_weigh_14 : decode cX2_weigh 14 = .ok (.if_icmp .ge 65, 3) := by decide +kernel
