theorem dX2_weigh_17 : decode cX2_weigh 17 = .ok (.aload_n 0, 1) := by decide +kernel
theorem dX2_weigh_18 : decode cX2_weigh 18 = .ok (.getfield 9, 3) := by decide +kernel
theorem dX2_weigh_21 : decode cX2_weigh 21 = .ok (.iload_n 3, 1) := by decide +kernel
theorem dX2_weigh_22 : decode cX2_weigh 22 = .ok (.iaload, 1) := by decide +kernel
theorem dX2_weigh_23 : decode cX2_weigh 23 = .ok (.iconst 5, 1) := by decide +kernel
theorem dX2_weigh_24 : decode cX2_weigh 24 = .ok (.if_icmp .ne 18, 3) := by decide +kernel
theorem dX2_weigh_27 : decode cX2_weigh 27 = .ok (.aload_n 0, 1) := by decide +kernel
theorem dX2_weigh_28 : decode cX2_weigh 28 = .ok (.dup, 1) := by decide +kernel
theorem dX2_weigh_29 : decode cX2_weigh 29 = .ok (.getfield 47, 3) := by decide +kernel
theorem dX2_weigh_32 : decode cX2_weigh 32 = .ok (.iconst 1, 1) := by decide +kernel
theorem dX2_weigh_33 : decode cX2_weigh 33 = .ok (.iload_n 3, 1) := by decide +kernel
theorem dX2_weigh_34 : decode cX2_weigh 34 = .ok (.ishl, 1) := by decide +kernel
theorem dX2_weigh_35 : decode cX2_weigh 35 = .ok (.ior, 1) := by decide +kernel
theorem dX2_weigh_36 : decode cX2_weigh 36 = .ok (.putfield 47, 3) := by decide +kernel
theorem dX2_weigh_39 : decode cX2_weigh 39 = .ok (.goto 14, 3) := by decide +kernel
theorem dX2_weigh_42 : decode cX2_weigh 42 = .ok (.iload_n 1, 1) := by decide +kernel
theorem dX2_weigh_43 : decode cX2_weigh 43 = .ok (.aload_n 0, 1) := by decide +kernel
theorem dX2_weigh_44 : decode cX2_weigh 44 = .ok (.getfield 27, 3) := by decide +kernel
theorem dX2_weigh_47 : decode cX2_weigh 47 = .ok (.iload_n 3, 1) := by decide +kernel
theorem dX2_weigh_48 : decode cX2_weigh 48 = .ok (.invokevirtual 105, 3) := by decide +kernel
theorem dX2_weigh_51 : decode cX2_weigh 51 = .ok (.iadd, 1) := by decide +kernel
theorem dX2_weigh_52 : decode cX2_weigh 52 = .ok (.istore_n 1, 1) := by decide +kernel
theorem dX2_weigh_53 : decode cX2_weigh 53 = .ok (.aload_n 0, 1) := by decide +kernel
theorem dX2_weigh_54 : decode cX2_weigh 54 = .ok (.getfield 9, 3) := by decide +kernel
theorem dX2_weigh_57 : decode cX2_weigh 57 = .ok (.iload_n 3, 1) := by decide +kernel
theorem dX2_weigh_58 : decode cX2_weigh 58 = .ok (.iaload, 1) := by decide +kernel
theorem dX2_weigh_59 : decode cX2_weigh 59 = .ok (.aload_n 0, 1) := by decide +kernel
theorem dX2_weigh_60 : decode cX2_weigh 60 = .ok (.getfield 27, 3) := by decide +kernel
theorem dX2_weigh_63 : decode cX2_weigh 63 = .ok (.iload_n 3, 1) := by decide +kernel
theorem dX2_weigh_64 : decode cX2_weigh 64 = .ok (.invokevirtual 108, 3) := by decide +kernel
theorem dX2_weigh_67 : decode cX2_weigh 67 = .ok (.if_icmp .eq 6, 3) := by decide +kernel
theorem dX2_weigh_70 : decode cX2_weigh 70 = .ok (.iinc 2 1, 3) := by decide +kernel
theorem dX2_weigh_73 : decode cX2_weigh 73 = .ok (.iinc 3 1, 3) := by decide +kernel
theorem dX2_weigh_76 : decode cX2_weigh 76 = .ok (.goto (-70), 3) := by decide +kernel
theorem dX2_weigh_79 : decode cX2_weigh 79 = .ok (.aload_n 0, 1) := by decide +kernel
theorem dX2_weigh_80 : decode cX2_weigh 80 = .ok (.iload_n 1, 1) := by decide +kernel
theorem dX2_weigh_81 : decode cX2_weigh 81 = .ok (.invokevirtual 111, 3) := by decide +kernel
theorem dX2_weigh_84 : decode cX2_weigh 84 = .ok (.aload_n 0, 1) := by decide +kernel
theorem dX2_weigh_85 : decode cX2_weigh 85 = .ok (.iload_n 2, 1) := by decide +kernel
theorem dX2_weigh_86 : decode cX2_weigh 86 = .ok (.iload_n 1, 1) := by decide +kernel
theorem dX2_weigh_87 : decode cX2_weigh 87 = .ok (.invokevirtual 114, 3) := by decide +kernel
theorem dX2_weigh_90 : decode cX2_weigh 90 = .ok (.aload_n 0, 1) := by decide +kernel
theorem dX2_weigh_91 : decode cX2_weigh 91 = .ok (.dup, 1) := by decide +kernel
theorem dX2_weigh_92 : decode cX2_weigh 92 = .ok (.getfield 44, 3) := by decide +kernel
theorem dX2_weigh_95 : decode cX2_weigh 95 = .ok (.iconst 1, 1) := by decide +kernel
theorem dX2_weigh_96 : decode cX2_weigh 96 = .ok (.iadd, 1) := by decide +kernel
theorem dX2_weigh_97 : decode cX2_weigh 97 = .ok (.putfield 44, 3) := by decide +kernel
theorem dX2_weigh_100 : decode cX2_weigh 100 = .ok (.return_, 1) := by decide +kernel
theorem dX2_keepIfCheaper_0 : decode cX2_keepIfCheaper 0 = .ok (.aload_n 0, 1) := by decide +kernel
theorem dX2_keepIfCheaper_1 : decode cX2_keepIfCheaper 1 = .ok (.getfield 44, 3) := by decide +kernel
theorem dX2_keepIfCheaper_4 : decode cX2_keepIfCheaper 4 = .ok (.ifCond .eq 11, 3) := by decide +kernel
theorem dX2_keepIfCheaper_7 : decode cX2_keepIfCheaper 7 = .ok (.iload_n 1, 1) := by decide +kernel
theorem dX2_keepIfCheaper_8 : decode cX2_keepIfCheaper 8 = .ok (.aload_n 0, 1) := by decide +kernel
theorem dX2_keepIfCheaper_9 : decode cX2_keepIfCheaper 9 = .ok (.getfield 50, 3) := by decide +kernel
theorem dX2_keepIfCheaper_12 : decode cX2_keepIfCheaper 12 = .ok (.if_icmp .ge 23, 3) := by decide +kernel
theorem dX2_keepIfCheaper_15 : decode cX2_keepIfCheaper 15 = .ok (.aload_n 0, 1) := by decide +kernel
theorem dX2_keepIfCheaper_16 : decode cX2_keepIfCheaper 16 = .ok (.iload_n 1, 1) := by decide +kernel
theorem dX2_keepIfCheaper_17 : decode cX2_keepIfCheaper 17 = .ok (.putfield 50, 3) := by decide +kernel
theorem dX2_keepIfCheaper_20 : decode cX2_keepIfCheaper 20 = .ok (.aload_n 0, 1) := by decide +kernel
theorem dX2_keepIfCheaper_21 : decode cX2_keepIfCheaper 21 = .ok (.getfield 9, 3) := by decide +kernel
theorem dX2_keepIfCheaper_24 : decode cX2_keepIfCheaper 24 = .ok (.iconst 0, 1) := by decide +kernel
theorem dX2_keepIfCheaper_25 : decode cX2_keepIfCheaper 25 = .ok (.aload_n 0, 1) := by decide +kernel
theorem dX2_keepIfCheaper_26 : decode cX2_keepIfCheaper 26 = .ok (.getfield 21, 3) := by decide +kernel
theorem dX2_keepIfCheaper_29 : decode cX2_keepIfCheaper 29 = .ok (.iconst 0, 1) := by decide +kernel
theorem dX2_keepIfCheaper_30 : decode cX2_keepIfCheaper 30 = .ok (.bipush 6, 2) := by decide +kernel
theorem dX2_keepIfCheaper_32 : decode cX2_keepIfCheaper 32 = .ok (.invokestatic 117, 3) := by decide +kernel
theorem dX2_keepIfCheaper_35 : decode cX2_keepIfCheaper 35 = .ok (.return_, 1) := by decide +kernel
theorem dX2_keepIfNearer_0 : decode cX2_keepIfNearer 0 = .ok (.aload_n 0, 1) := by decide +kernel
theorem dX2_keepIfNearer_1 : decode cX2_keepIfNearer 1 = .ok (.getfield 44, 3) := by decide +kernel
theorem dX2_keepIfNearer_4 : decode cX2_keepIfNearer 4 = .ok (.ifCond .eq 27, 3) := by decide +kernel
theorem dX2_keepIfNearer_7 : decode cX2_keepIfNearer 7 = .ok (.iload_n 1, 1) := by decide +kernel
theorem dX2_keepIfNearer_8 : decode cX2_keepIfNearer 8 = .ok (.aload_n 0, 1) := by decide +kernel
theorem dX2_keepIfNearer_9 : decode cX2_keepIfNearer 9 = .ok (.getfield 53, 3) := by decide +kernel
theorem dX2_keepIfNearer_12 : decode cX2_keepIfNearer 12 = .ok (.if_icmp .lt 19, 3) := by decide +kernel
theorem dX2_keepIfNearer_15 : decode cX2_keepIfNearer 15 = .ok (.iload_n 1, 1) := by decide +kernel
theorem dX2_keepIfNearer_16 : decode cX2_keepIfNearer 16 = .ok (.aload_n 0, 1) := by decide +kernel
theorem dX2_keepIfNearer_17 : decode cX2_keepIfNearer 17 = .ok (.getfield 53, 3) := by decide +kernel
theorem dX2_keepIfNearer_20 : decode cX2_keepIfNearer 20 = .ok (.if_icmp .ne 36, 3) := by decide +kernel
theorem dX2_keepIfNearer_23 : decode cX2_keepIfNearer 23 = .ok (.iload_n 2, 1) := by decide +kernel
theorem dX2_keepIfNearer_24 : decode cX2_keepIfNearer 24 = .ok (.aload_n 0, 1) := by decide +kernel
theorem dX2_keepIfNearer_25 : decode cX2_keepIfNearer 25 = .ok (.getfield 56, 3) := by decide +kernel
theorem dX2_keepIfNearer_28 : decode cX2_keepIfNearer 28 = .ok (.if_icmp .ge 28, 3) := by decide +kernel
theorem dX2_keepIfNearer_31 : decode cX2_keepIfNearer 31 = .ok (.aload_n 0, 1) := by decide +kernel
theorem dX2_keepIfNearer_32 : decode cX2_keepIfNearer 32 = .ok (.iload_n 1, 1) := by decide +kernel
theorem dX2_keepIfNearer_33 : decode cX2_keepIfNearer 33 = .ok (.putfield 53, 3) := by decide +kernel
theorem dX2_keepIfNearer_36 : decode cX2_keepIfNearer 36 = .ok (.aload_n 0, 1) := by decide +kernel
theorem dX2_keepIfNearer_37 : decode cX2_keepIfNearer 37 = .ok (.iload_n 2, 1) := by decide +kernel
theorem dX2_keepIfNearer_38 : decode cX2_keepIfNearer 38 = .ok (.putfield 56, 3) := by decide +kernel
theorem dX2_keepIfNearer_41 : decode cX2_keepIfNearer 41 = .ok (.aload_n 0, 1) := by decide +kernel
theorem dX2_keepIfNearer_42 : decode cX2_keepIfNearer 42 = .ok (.getfield 9, 3) := by decide +kernel
theorem dX2_keepIfNearer_45 : decode cX2_keepIfNearer 45 = .ok (.iconst 0, 1) := by decide +kernel
theorem dX2_keepIfNearer_46 : decode cX2_keepIfNearer 46 = .ok (.aload_n 0, 1) := by decide +kernel
theorem dX2_keepIfNearer_47 : decode cX2_keepIfNearer 47 = .ok (.getfield 24, 3) := by decide +kernel
theorem dX2_keepIfNearer_50 : decode cX2_keepIfNearer 50 = .ok (.iconst 0, 1) := by decide +kernel
theorem dX2_keepIfNearer_51 : decode cX2_keepIfNearer 51 = .ok (.bipush 6, 2) := by decide +kernel
theorem dX2_keepIfNearer_53 : decode cX2_keepIfNearer 53 = .ok (.invokestatic 117, 3) := by decide +kernel
theorem dX2_keepIfNearer_56 : decode cX2_keepIfNearer 56 = .ok (.return_, 1) := by decide +kernel
theorem dX3_init_0 : decode cX3_init 0 = .ok (.aload_n 0, 1) := by decide +kernel
theorem dX3_init_1 : decode cX3_init 1 = .ok (.invokespecial 1, 3) := by decide +kernel
theorem dX3_init_4 : decode cX3_init 4 = .ok (.aload_n 0, 1) := by decide +kernel
theorem dX3_init_5 : decode cX3_init 5 = .ok (.new 7, 3) := by decide +kernel
theorem dX3_init_8 : decode cX3_init 8 = .ok (.dup, 1) := by decide +kernel
theorem dX3_init_9 : decode cX3_init 9 = .ok (.invokespecial 9, 3) := by decide +kernel
theorem dX3_init_12 : decode cX3_init 12 = .ok (.putfield 10, 3) := by decide +kernel
theorem dX3_init_15 : decode cX3_init 15 = .ok (.aload_n 0, 1) := by decide +kernel
theorem dX3_init_16 : decode cX3_init 16 = .ok (.new 16, 3) := by decide +kernel
theorem dX3_init_19 : decode cX3_init 19 = .ok (.dup, 1) := by decide +kernel
theorem dX3_init_20 : decode cX3_init 20 = .ok (.aload_n 0, 1) := by decide +kernel
theorem dX3_init_21 : decode cX3_init 21 = .ok (.getfield 10, 3) := by decide +kernel
theorem dX3_init_24 : decode cX3_init 24 = .ok (.invokespecial 18, 3) := by decide +kernel
theorem dX3_init_27 : decode cX3_init 27 = .ok (.putfield 21, 3) := by decide +kernel
theorem dX3_init_30 : decode cX3_init 30 = .ok (.aload_n 0, 1) := by decide +kernel
theorem dX3_init_31 : decode cX3_init 31 = .ok (.new 25, 3) := by decide +kernel
theorem dX3_init_34 : decode cX3_init 34 = .ok (.dup, 1) := by decide +kernel
theorem dX3_init_35 : decode cX3_init 35 = .ok (.aload_n 0, 1) := by decide +kernel
theorem dX3_init_36 : decode cX3_init 36 = .ok (.getfield 10, 3) := by decide +kernel
theorem dX3_init_39 : decode cX3_init 39 = .ok (.invokespecial 27, 3) := by decide +kernel
theorem dX3_init_42 : decode cX3_init 42 = .ok (.putfield 28, 3) := by decide +kernel
theorem dX3_init_45 : decode cX3_init 45 = .ok (.aload_n 0, 1) := by decide +kernel
theorem dX3_init_46 : decode cX3_init 46 = .ok (.iconst 2, 1) := by decide +kernel
theorem dX3_init_47 : decode cX3_init 47 = .ok (.newarray .int, 2) := by decide +kernel
theorem dX3_init_49 : decode cX3_init 49 = .ok (.putfield 32, 3) := by decide +kernel
theorem dX3_init_52 : decode cX3_init 52 = .ok (.aload_n 0, 1) := by decide +kernel
theorem dX3_init_53 : decode cX3_init 53 = .ok (.iconst 2, 1) := by decide +kernel
theorem dX3_init_54 : decode cX3_init 54 = .ok (.newarray .int, 2) := by decide +kernel
theorem dX3_init_56 : decode cX3_init 56 = .ok (.putfield 36, 3) := by decide +kernel
theorem dX3_init_59 : decode cX3_init 59 = .ok (.aload_n 0, 1) := by decide +kernel
theorem dX3_init_60 : decode cX3_init 60 = .ok (.iconst 1, 1) := by decide +kernel
theorem dX3_init_61 : decode cX3_init 61 = .ok (.putfield 39, 3) := by decide +kernel
theorem dX3_init_64 : decode cX3_init 64 = .ok (.aload_n 0, 1) := by decide +kernel
theorem dX3_init_65 : decode cX3_init 65 = .ok (.bipush 20, 2) := by decide +kernel
theorem dX3_init_67 : decode cX3_init 67 = .ok (.putfield 43, 3) := by decide +kernel
theorem dX3_init_70 : decode cX3_init 70 = .ok (.return_, 1) := by decide +kernel
theorem dX3_person_0 : decode cX3_person 0 = .ok (.iload_n 1, 1) := by decide +kernel
theorem dX3_person_1 : decode cX3_person 1 = .ok (.invokestatic 46, 3) := by decide +kernel
theorem dX3_person_4 : decode cX3_person 4 = .ok (.ifCond .eq 18, 3) := by decide +kernel
theorem dX3_person_7 : decode cX3_person 7 = .ok (.iload_n 2, 1) := by decide +kernel
theorem dX3_person_8 : decode cX3_person 8 = .ok (.invokestatic 46, 3) := by decide +kernel
theorem dX3_person_11 : decode cX3_person 11 = .ok (.ifCond .eq 11, 3) := by decide +kernel
theorem dX3_person_14 : decode cX3_person 14 = .ok (.iload_n 2, 1) := by decide +kernel
theorem dX3_person_15 : decode cX3_person 15 = .ok (.iload_n 1, 1) := by decide +kernel
theorem dX3_person_16 : decode cX3_person 16 = .ok (.iconst (-1), 1) := by decide +kernel
theorem dX3_person_17 : decode cX3_person 17 = .ok (.ixor, 1) := by decide +kernel
theorem dX3_person_18 : decode cX3_person 18 = .ok (.iand, 1) := by decide +kernel
theorem dX3_person_19 : decode cX3_person 19 = .ok (.ifCond .eq 6, 3) := by decide +kernel
theorem dX3_person_22 : decode cX3_person 22 = .ok (.bipush (-3), 2) := by decide +kernel
theorem dX3_person_24 : decode cX3_person 24 = .ok (.ireturn, 1) := by decide +kernel
theorem dX3_person_25 : decode cX3_person 25 = .ok (.iload_n 3, 1) := by decide +kernel
theorem dX3_person_26 : decode cX3_person 26 = .ok (.iconst 1, 1) := by decide +kernel
theorem dX3_person_27 : decode cX3_person 27 = .ok (.if_icmp .lt 9, 3) := by decide +kernel
theorem dX3_person_30 : decode cX3_person 30 = .ok (.iload_n 3, 1) := by decide +kernel
theorem dX3_person_31 : decode cX3_person 31 = .ok (.bipush 99, 2) := by decide +kernel
theorem dX3_person_33 : decode cX3_person 33 = .ok (.if_icmp .le 6, 3) := by decide +kernel
theorem dX3_person_36 : decode cX3_person 36 = .ok (.bipush (-3), 2) := by decide +kernel
theorem dX3_person_38 : decode cX3_person 38 = .ok (.ireturn, 1) := by decide +kernel
theorem dX3_person_39 : decode cX3_person 39 = .ok (.aload_n 0, 1) := by decide +kernel
theorem dX3_person_40 : decode cX3_person 40 = .ok (.getfield 10, 3) := by decide +kernel
theorem dX3_person_43 : decode cX3_person 43 = .ok (.iload_n 1, 1) := by decide +kernel
theorem dX3_person_44 : decode cX3_person 44 = .ok (.iload_n 2, 1) := by decide +kernel
theorem dX3_person_45 : decode cX3_person 45 = .ok (.iload_n 3, 1) := by decide +kernel
theorem dX3_person_46 : decode cX3_person 46 = .ok (.invokevirtual 50, 3) := by decide +kernel
theorem dX3_person_49 : decode cX3_person 49 = .ok (.ireturn, 1) := by decide +kernel
theorem dX3_ill_0 : decode cX3_ill 0 = .ok (.aload_n 0, 1) := by decide +kernel
theorem dX3_ill_1 : decode cX3_ill 1 = .ok (.getfield 10, 3) := by decide +kernel
theorem dX3_ill_4 : decode cX3_ill 4 = .ok (.iload_n 1, 1) := by decide +kernel
theorem dX3_ill_5 : decode cX3_ill 5 = .ok (.invokevirtual 54, 3) := by decide +kernel
theorem dX3_ill_8 : decode cX3_ill 8 = .ok (.ifCond .ne 6, 3) := by decide +kernel
theorem dX3_ill_11 : decode cX3_ill 11 = .ok (.bipush (-2), 2) := by decide +kernel
theorem dX3_ill_13 : decode cX3_ill 13 = .ok (.ireturn, 1) := by decide +kernel
theorem dX3_ill_14 : decode cX3_ill 14 = .ok (.aload_n 0, 1) := by decide +kernel
theorem dX3_ill_15 : decode cX3_ill 15 = .ok (.getfield 10, 3) := by decide +kernel
theorem dX3_ill_18 : decode cX3_ill 18 = .ok (.iload_n 1, 1) := by decide +kernel
theorem dX3_ill_19 : decode cX3_ill 19 = .ok (.invokevirtual 57, 3) := by decide +kernel
theorem dX3_ill_22 : decode cX3_ill 22 = .ok (.ifCond .eq 7, 3) := by decide +kernel
theorem dX3_ill_25 : decode cX3_ill 25 = .ok (.iconst 1, 1) := by decide +kernel
theorem dX3_ill_26 : decode cX3_ill 26 = .ok (.goto 4, 3) := by decide +kernel
theorem dX3_ill_29 : decode cX3_ill 29 = .ok (.iconst 0, 1) := by decide +kernel
theorem dX3_ill_30 : decode cX3_ill 30 = .ok (.istore_n 3, 1) := by decide +kernel
theorem dX3_ill_31 : decode cX3_ill 31 = .ok (.aload_n 0, 1) := by decide +kernel
theorem dX3_ill_32 : decode cX3_ill 32 = .ok (.getfield 10, 3) := by decide +kernel
theorem dX3_ill_35 : decode cX3_ill 35 = .ok (.iload_n 1, 1) := by decide +kernel
theorem dX3_ill_36 : decode cX3_ill 36 = .ok (.iload_n 2, 1) := by decide +kernel
theorem dX3_ill_37 : decode cX3_ill 37 = .ok (.invokevirtual 60, 3) := by decide +kernel
theorem dX3_ill_40 : decode cX3_ill 40 = .ok (.iload_n 3, 1) := by decide +kernel
theorem dX3_ill_41 : decode cX3_ill 41 = .ok (.ireturn, 1) := by decide +kernel
theorem dX3_session_0 : decode cX3_session 0 = .ok (.iload_n 1, 1) := by decide +kernel
theorem dX3_session_1 : decode cX3_session 1 = .ok (.invokestatic 64, 3) := by decide +kernel
theorem dX3_session_4 : decode cX3_session 4 = .ok (.ifCond .ne 6, 3) := by decide +kernel
theorem dX3_session_7 : decode cX3_session 7 = .ok (.bipush (-2), 2) := by decide +kernel
theorem dX3_session_9 : decode cX3_session 9 = .ok (.ireturn, 1) := by decide +kernel
theorem dX3_session_10 : decode cX3_session 10 = .ok (.iload_n 2, 1) := by decide +kernel
theorem dX3_session_11 : decode cX3_session 11 = .ok (.invokestatic 46, 3) := by decide +kernel
theorem dX3_session_14 : decode cX3_session 14 = .ok (.ifCond .eq 10, 3) := by decide +kernel
theorem dX3_session_17 : decode cX3_session 17 = .ok (.iload_n 3, 1) := by decide +kernel
theorem dX3_session_18 : decode cX3_session 18 = .ok (.invokestatic 46, 3) := by decide +kernel
theorem dX3_session_21 : decode cX3_session 21 = .ok (.ifCond .ne 6, 3) := by decide +kernel
theorem dX3_session_24 : decode cX3_session 24 = .ok (.bipush (-3), 2) := by decide +kernel
theorem dX3_session_26 : decode cX3_session 26 = .ok (.ireturn, 1) := by decide +kernel
theorem dX3_session_27 : decode cX3_session 27 = .ok (.aload_n 0, 1) := by decide +kernel
theorem dX3_session_28 : decode cX3_session 28 = .ok (.getfield 32, 3) := by decide +kernel
theorem dX3_session_31 : decode cX3_session 31 = .ok (.iload_n 1, 1) := by decide +kernel
theorem dX3_session_32 : decode cX3_session 32 = .ok (.iload_n 2, 1) := by decide +kernel
theorem dX3_session_33 : decode cX3_session 33 = .ok (.iastore, 1) := by decide +kernel
theorem dX3_session_34 : decode cX3_session 34 = .ok (.aload_n 0, 1) := by decide +kernel
theorem dX3_session_35 : decode cX3_session 35 = .ok (.getfield 36, 3) := by decide +kernel
theorem dX3_session_38 : decode cX3_session 38 = .ok (.iload_n 1, 1) := by decide +kernel
theorem dX3_session_39 : decode cX3_session 39 = .ok (.iload_n 3, 1) := by decide +kernel
theorem dX3_session_40 : decode cX3_session 40 = .ok (.iastore, 1) := by decide +kernel
theorem dX3_session_41 : decode cX3_session 41 = .ok (.iconst 1, 1) := by decide +kernel
theorem dX3_session_42 : decode cX3_session 42 = .ok (.ireturn, 1) := by decide +kernel
theorem dX3_seats_0 : decode cX3_seats 0 = .ok (.iload_n 1, 1) := by decide +kernel
theorem dX3_seats_1 : decode cX3_seats 1 = .ok (.iconst 1, 1) := by decide +kernel
theorem dX3_seats_2 : decode cX3_seats 2 = .ok (.if_icmp .lt 8, 3) := by decide +kernel
theorem dX3_seats_5 : decode cX3_seats 5 = .ok (.iload_n 1, 1) := by decide +kernel
theorem dX3_seats_6 : decode cX3_seats 6 = .ok (.iconst 2, 1) := by decide +kernel
theorem dX3_seats_7 : decode cX3_seats 7 = .ok (.if_icmp .le 6, 3) := by decide +kernel
theorem dX3_seats_10 : decode cX3_seats 10 = .ok (.bipush (-3), 2) := by decide +kernel
theorem dX3_seats_12 : decode cX3_seats 12 = .ok (.ireturn, 1) := by decide +kernel
theorem dX3_seats_13 : decode cX3_seats 13 = .ok (.aload_n 0, 1) := by decide +kernel
theorem dX3_seats_14 : decode cX3_seats 14 = .ok (.getfield 39, 3) := by decide +kernel
theorem dX3_seats_17 : decode cX3_seats 17 = .ok (.istore_n 2, 1) := by decide +kernel
theorem dX3_seats_18 : decode cX3_seats 18 = .ok (.aload_n 0, 1) := by decide +kernel
theorem dX3_seats_19 : decode cX3_seats 19 = .ok (.iload_n 1, 1) := by decide +kernel
theorem dX3_seats_20 : decode cX3_seats 20 = .ok (.putfield 39, 3) := by decide +kernel
theorem dX3_seats_23 : decode cX3_seats 23 = .ok (.iload_n 2, 1) := by decide +kernel
theorem dX3_seats_24 : decode cX3_seats 24 = .ok (.ireturn, 1) := by decide +kernel
theorem dX3_whole_0 : decode cX3_whole 0 = .ok (.iload_n 1, 1) := by decide +kernel
theorem dX3_whole_1 : decode cX3_whole 1 = .ok (.invokestatic 64, 3) := by decide +kernel
theorem dX3_whole_4 : decode cX3_whole 4 = .ok (.ifCond .ne 6, 3) := by decide +kernel
theorem dX3_whole_7 : decode cX3_whole 7 = .ok (.bipush (-2), 2) := by decide +kernel
theorem dX3_whole_9 : decode cX3_whole 9 = .ok (.ireturn, 1) := by decide +kernel
theorem dX3_whole_10 : decode cX3_whole 10 = .ok (.aload_n 0, 1) := by decide +kernel
theorem dX3_whole_11 : decode cX3_whole 11 = .ok (.iload_n 1, 1) := by decide +kernel
theorem dX3_whole_12 : decode cX3_whole 12 = .ok (.invokevirtual 67, 3) := by decide +kernel
theorem dX3_whole_15 : decode cX3_whole 15 = .ok (.aload_n 0, 1) := by decide +kernel
theorem dX3_whole_16 : decode cX3_whole 16 = .ok (.getfield 21, 3) := by decide +kernel
theorem dX3_whole_19 : decode cX3_whole 19 = .ok (.getfield 71, 3) := by decide +kernel
theorem dX3_whole_22 : decode cX3_whole 22 = .ok (.ireturn, 1) := by decide +kernel
theorem dX3_cheapest_0 : decode cX3_cheapest 0 = .ok (.iload_n 1, 1) := by decide +kernel
theorem dX3_cheapest_1 : decode cX3_cheapest 1 = .ok (.invokestatic 64, 3) := by decide +kernel
theorem dX3_cheapest_4 : decode cX3_cheapest 4 = .ok (.ifCond .ne 6, 3) := by decide +kernel
theorem dX3_cheapest_7 : decode cX3_cheapest 7 = .ok (.bipush (-2), 2) := by decide +kernel
theorem dX3_cheapest_9 : decode cX3_cheapest 9 = .ok (.ireturn, 1) := by decide +kernel
theorem dX3_cheapest_10 : decode cX3_cheapest 10 = .ok (.aload_n 0, 1) := by decide +kernel
theorem dX3_cheapest_11 : decode cX3_cheapest 11 = .ok (.iload_n 1, 1) := by decide +kernel
theorem dX3_cheapest_12 : decode cX3_cheapest 12 = .ok (.invokevirtual 67, 3) := by decide +kernel
theorem dX3_cheapest_15 : decode cX3_cheapest 15 = .ok (.aload_n 0, 1) := by decide +kernel
theorem dX3_cheapest_16 : decode cX3_cheapest 16 = .ok (.getfield 21, 3) := by decide +kernel
theorem dX3_cheapest_19 : decode cX3_cheapest 19 = .ok (.getfield 74, 3) := by decide +kernel
theorem dX3_cheapest_22 : decode cX3_cheapest 22 = .ok (.ireturn, 1) := by decide +kernel
theorem dX3_nearest_0 : decode cX3_nearest 0 = .ok (.iload_n 1, 1) := by decide +kernel
theorem dX3_nearest_1 : decode cX3_nearest 1 = .ok (.invokestatic 64, 3) := by decide +kernel
theorem dX3_nearest_4 : decode cX3_nearest 4 = .ok (.ifCond .ne 6, 3) := by decide +kernel
theorem dX3_nearest_7 : decode cX3_nearest 7 = .ok (.bipush (-2), 2) := by decide +kernel
theorem dX3_nearest_9 : decode cX3_nearest 9 = .ok (.ireturn, 1) := by decide +kernel
theorem dX3_nearest_10 : decode cX3_nearest 10 = .ok (.aload_n 0, 1) := by decide +kernel
theorem dX3_nearest_11 : decode cX3_nearest 11 = .ok (.iload_n 1, 1) := by decide +kernel
theorem dX3_nearest_12 : decode cX3_nearest 12 = .ok (.invokevirtual 67, 3) := by decide +kernel
theorem dX3_nearest_15 : decode cX3_nearest 15 = .ok (.aload_n 0, 1) := by decide +kernel
theorem dX3_nearest_16 : decode cX3_nearest 16 = .ok (.getfield 21, 3) := by decide +kernel
theorem dX3_nearest_19 : decode cX3_nearest 19 = .ok (.getfield 77, 3) := by decide +kernel
theorem dX3_nearest_22 : decode cX3_nearest 22 = .ok (.ireturn, 1) := by decide +kernel
theorem dX3_take_0 : decode cX3_take 0 = .ok (.iload_n 1, 1) := by decide +kernel
theorem dX3_take_1 : decode cX3_take 1 = .ok (.invokestatic 64, 3) := by decide +kernel
theorem dX3_take_4 : decode cX3_take 4 = .ok (.ifCond .ne 6, 3) := by decide +kernel
theorem dX3_take_7 : decode cX3_take 7 = .ok (.bipush (-2), 2) := by decide +kernel
theorem dX3_take_9 : decode cX3_take 9 = .ok (.ireturn, 1) := by decide +kernel
theorem dX3_take_10 : decode cX3_take 10 = .ok (.iload_n 2, 1) := by decide +kernel
theorem dX3_take_11 : decode cX3_take 11 = .ok (.ifCond .eq 11, 3) := by decide +kernel
theorem dX3_take_14 : decode cX3_take 14 = .ok (.iload_n 2, 1) := by decide +kernel
theorem dX3_take_15 : decode cX3_take 15 = .ok (.iconst 1, 1) := by decide +kernel
theorem dX3_take_16 : decode cX3_take 16 = .ok (.if_icmp .eq 6, 3) := by decide +kernel
theorem dX3_take_19 : decode cX3_take 19 = .ok (.bipush (-3), 2) := by decide +kernel
theorem dX3_take_21 : decode cX3_take 21 = .ok (.ireturn, 1) := by decide +kernel
theorem dX3_take_22 : decode cX3_take 22 = .ok (.aload_n 0, 1) := by decide +kernel
theorem dX3_take_23 : decode cX3_take 23 = .ok (.iload_n 1, 1) := by decide +kernel
theorem dX3_take_24 : decode cX3_take 24 = .ok (.invokevirtual 67, 3) := by decide +kernel
theorem dX3_take_27 : decode cX3_take 27 = .ok (.aload_n 0, 1) := by decide +kernel
theorem dX3_take_28 : decode cX3_take 28 = .ok (.getfield 21, 3) := by decide +kernel
theorem dX3_take_31 : decode cX3_take 31 = .ok (.getfield 71, 3) := by decide +kernel
theorem dX3_take_34 : decode cX3_take 34 = .ok (.ifCond .ne 6, 3) := by decide +kernel
theorem dX3_take_37 : decode cX3_take 37 = .ok (.bipush (-4), 2) := by decide +kernel
theorem dX3_take_39 : decode cX3_take 39 = .ok (.ireturn, 1) := by decide +kernel
theorem dX3_take_40 : decode cX3_take 40 = .ok (.iload_n 2, 1) := by decide +kernel
theorem dX3_take_41 : decode cX3_take 41 = .ok (.ifCond .ne 25, 3) := by decide +kernel
theorem dX3_take_44 : decode cX3_take 44 = .ok (.aload_n 0, 1) := by decide +kernel
theorem dX3_take_45 : decode cX3_take 45 = .ok (.getfield 10, 3) := by decide +kernel
theorem dX3_take_48 : decode cX3_take 48 = .ok (.aload_n 0, 1) := by decide +kernel
theorem dX3_take_49 : decode cX3_take 49 = .ok (.getfield 21, 3) := by decide +kernel
theorem dX3_take_52 : decode cX3_take 52 = .ok (.getfield 80, 3) := by decide +kernel
theorem dX3_take_55 : decode cX3_take 55 = .ok (.invokevirtual 83, 3) := by decide +kernel
theorem dX3_take_58 : decode cX3_take 58 = .ok (.aload_n 0, 1) := by decide +kernel
theorem dX3_take_59 : decode cX3_take 59 = .ok (.getfield 21, 3) := by decide +kernel
theorem dX3_take_62 : decode cX3_take 62 = .ok (.getfield 74, 3) := by decide +kernel
theorem dX3_take_65 : decode cX3_take 65 = .ok (.ireturn, 1) := by decide +kernel
theorem dX3_take_66 : decode cX3_take 66 = .ok (.aload_n 0, 1) := by decide +kernel
theorem dX3_take_67 : decode cX3_take 67 = .ok (.getfield 10, 3) := by decide +kernel
theorem dX3_take_70 : decode cX3_take 70 = .ok (.aload_n 0, 1) := by decide +kernel
theorem dX3_take_71 : decode cX3_take 71 = .ok (.getfield 21, 3) := by decide +kernel
theorem dX3_take_74 : decode cX3_take 74 = .ok (.getfield 87, 3) := by decide +kernel
theorem dX3_take_77 : decode cX3_take 77 = .ok (.invokevirtual 83, 3) := by decide +kernel
theorem dX3_take_80 : decode cX3_take 80 = .ok (.aload_n 0, 1) := by decide +kernel
theorem dX3_take_81 : decode cX3_take 81 = .ok (.getfield 21, 3) := by decide +kernel
theorem dX3_take_84 : decode cX3_take 84 = .ok (.getfield 90, 3) := by decide +kernel
theorem dX3_take_87 : decode cX3_take 87 = .ok (.ireturn, 1) := by decide +kernel
theorem dX3_leave_0 : decode cX3_leave 0 = .ok (.aload_n 0, 1) := by decide +kernel
theorem dX3_leave_1 : decode cX3_leave 1 = .ok (.getfield 10, 3) := by decide +kernel
theorem dX3_leave_4 : decode cX3_leave 4 = .ok (.invokevirtual 93, 3) := by decide +kernel
theorem dX3_leave_7 : decode cX3_leave 7 = .ok (.istore_n 1, 1) := by decide +kernel
theorem dX3_leave_8 : decode cX3_leave 8 = .ok (.aload_n 0, 1) := by decide +kernel
theorem dX3_leave_9 : decode cX3_leave 9 = .ok (.getfield 10, 3) := by decide +kernel
theorem dX3_leave_12 : decode cX3_leave 12 = .ok (.invokevirtual 97, 3) := by decide +kernel
theorem dX3_leave_15 : decode cX3_leave 15 = .ok (.iload_n 1, 1) := by decide +kernel
theorem dX3_leave_16 : decode cX3_leave 16 = .ok (.ireturn, 1) := by decide +kernel
theorem dX3_booth_0 : decode cX3_booth 0 = .ok (.aload_n 0, 1) := by decide +kernel
theorem dX3_booth_1 : decode cX3_booth 1 = .ok (.getfield 10, 3) := by decide +kernel
theorem dX3_booth_4 : decode cX3_booth 4 = .ok (.iload_n 1, 1) := by decide +kernel
theorem dX3_booth_5 : decode cX3_booth 5 = .ok (.invokevirtual 54, 3) := by decide +kernel
theorem dX3_booth_8 : decode cX3_booth 8 = .ok (.ifCond .ne 6, 3) := by decide +kernel
theorem dX3_booth_11 : decode cX3_booth 11 = .ok (.bipush (-2), 2) := by decide +kernel
theorem dX3_booth_13 : decode cX3_booth 13 = .ok (.ireturn, 1) := by decide +kernel
theorem dX3_booth_14 : decode cX3_booth 14 = .ok (.aload_n 0, 1) := by decide +kernel
theorem dX3_booth_15 : decode cX3_booth 15 = .ok (.getfield 10, 3) := by decide +kernel
theorem dX3_booth_18 : decode cX3_booth 18 = .ok (.iload_n 1, 1) := by decide +kernel
theorem dX3_booth_19 : decode cX3_booth 19 = .ok (.invokevirtual 100, 3) := by decide +kernel
theorem dX3_booth_22 : decode cX3_booth 22 = .ok (.ireturn, 1) := by decide +kernel
theorem dX3_lacking_0 : decode cX3_lacking 0 = .ok (.iload_n 1, 1) := by decide +kernel
theorem dX3_lacking_1 : decode cX3_lacking 1 = .ok (.invokestatic 64, 3) := by decide +kernel
theorem dX3_lacking_4 : decode cX3_lacking 4 = .ok (.ifCond .ne 6, 3) := by decide +kernel
theorem dX3_lacking_7 : decode cX3_lacking 7 = .ok (.bipush (-2), 2) := by decide +kernel
theorem dX3_lacking_9 : decode cX3_lacking 9 = .ok (.ireturn, 1) := by decide +kernel
theorem dX3_lacking_10 : decode cX3_lacking 10 = .ok (.iconst 0, 1) := by decide +kernel
theorem dX3_lacking_11 : decode cX3_lacking 11 = .ok (.istore_n 2, 1) := by decide +kernel
theorem dX3_lacking_12 : decode cX3_lacking 12 = .ok (.iconst 0, 1) := by decide +kernel
theorem dX3_lacking_13 : decode cX3_lacking 13 = .ok (.istore_n 3, 1) := by decide +kernel
theorem dX3_lacking_14 : decode cX3_lacking 14 = .ok (.iload_n 3, 1) := by decide +kernel
theorem dX3_lacking_15 : decode cX3_lacking 15 = .ok (.iconst 5, 1) := by decide +kernel
theorem dX3_lacking_16 : decode cX3_lacking 16 = .ok (.if_icmp .ge 43, 3) := by decide +kernel
theorem dX3_lacking_19 : decode cX3_lacking 19 = .ok (.aload_n 0, 1) := by decide +kernel
theorem dX3_lacking_20 : decode cX3_lacking 20 = .ok (.getfield 36, 3) := by decide +kernel
theorem dX3_lacking_23 : decode cX3_lacking 23 = .ok (.iload_n 1, 1) := by decide +kernel
theorem dX3_lacking_24 : decode cX3_lacking 24 = .ok (.iaload, 1) := by decide +kernel
theorem dX3_lacking_25 : decode cX3_lacking 25 = .ok (.iload_n 3, 1) := by decide +kernel
theorem dX3_lacking_26 : decode cX3_lacking 26 = .ok (.invokestatic 104, 3) := by decide +kernel
theorem dX3_lacking_29 : decode cX3_lacking 29 = .ok (.ifCond .eq 24, 3) := by decide +kernel
theorem dX3_lacking_32 : decode cX3_lacking 32 = .ok (.aload_n 0, 1) := by decide +kernel
theorem dX3_lacking_33 : decode cX3_lacking 33 = .ok (.getfield 10, 3) := by decide +kernel
theorem dX3_lacking_36 : decode cX3_lacking 36 = .ok (.iload_n 3, 1) := by decide +kernel
theorem dX3_lacking_37 : decode cX3_lacking 37 = .ok (.invokevirtual 108, 3) := by decide +kernel
theorem dX3_lacking_40 : decode cX3_lacking 40 = .ok (.aload_n 0, 1) := by decide +kernel
theorem dX3_lacking_41 : decode cX3_lacking 41 = .ok (.getfield 39, 3) := by decide +kernel
theorem dX3_lacking_44 : decode cX3_lacking 44 = .ok (.if_icmp .ge 9, 3) := by decide +kernel
theorem dX3_lacking_47 : decode cX3_lacking 47 = .ok (.iload_n 2, 1) := by decide +kernel
theorem dX3_lacking_48 : decode cX3_lacking 48 = .ok (.iconst 1, 1) := by decide +kernel
theorem dX3_lacking_49 : decode cX3_lacking 49 = .ok (.iload_n 3, 1) := by decide +kernel
theorem dX3_lacking_50 : decode cX3_lacking 50 = .ok (.ishl, 1) := by decide +kernel
theorem dX3_lacking_51 : decode cX3_lacking 51 = .ok (.ior, 1) := by decide +kernel
theorem dX3_lacking_52 : decode cX3_lacking 52 = .ok (.istore_n 2, 1) := by decide +kernel
theorem dX3_lacking_53 : decode cX3_lacking 53 = .ok (.iinc 3 1, 3) := by decide +kernel
theorem dX3_lacking_56 : decode cX3_lacking 56 = .ok (.goto (-42), 3) := by decide +kernel
theorem dX3_lacking_59 : decode cX3_lacking 59 = .ok (.iload_n 2, 1) := by decide +kernel
theorem dX3_lacking_60 : decode cX3_lacking 60 = .ok (.ireturn, 1) := by decide +kernel
theorem dX3_needed_0 : decode cX3_needed 0 = .ok (.aload_n 0, 1) := by decide +kernel
theorem dX3_needed_1 : decode cX3_needed 1 = .ok (.getfield 10, 3) := by decide +kernel
theorem dX3_needed_4 : decode cX3_needed 4 = .ok (.iload_n 1, 1) := by decide +kernel
theorem dX3_needed_5 : decode cX3_needed 5 = .ok (.invokevirtual 54, 3) := by decide +kernel
theorem dX3_needed_8 : decode cX3_needed 8 = .ok (.ifCond .eq 10, 3) := by decide +kernel
theorem dX3_needed_11 : decode cX3_needed 11 = .ok (.iload_n 2, 1) := by decide +kernel
theorem dX3_needed_12 : decode cX3_needed 12 = .ok (.invokestatic 64, 3) := by decide +kernel
theorem dX3_needed_15 : decode cX3_needed 15 = .ok (.ifCond .ne 6, 3) := by decide +kernel
theorem dX3_needed_18 : decode cX3_needed 18 = .ok (.bipush (-2), 2) := by decide +kernel
theorem dX3_needed_20 : decode cX3_needed 20 = .ok (.ireturn, 1) := by decide +kernel
theorem dX3_needed_21 : decode cX3_needed 21 = .ok (.aload_n 0, 1) := by decide +kernel
theorem dX3_needed_22 : decode cX3_needed 22 = .ok (.iload_n 2, 1) := by decide +kernel
theorem dX3_needed_23 : decode cX3_needed 23 = .ok (.invokevirtual 67, 3) := by decide +kernel
theorem dX3_needed_26 : decode cX3_needed 26 = .ok (.aload_n 0, 1) := by decide +kernel
theorem dX3_needed_27 : decode cX3_needed 27 = .ok (.getfield 21, 3) := by decide +kernel
theorem dX3_needed_30 : decode cX3_needed 30 = .ok (.getfield 71, 3) := by decide +kernel
theorem dX3_needed_33 : decode cX3_needed 33 = .ok (.ifCond .le 21, 3) := by decide +kernel
theorem dX3_needed_36 : decode cX3_needed 36 = .ok (.aload_n 0, 1) := by decide +kernel
theorem dX3_needed_37 : decode cX3_needed 37 = .ok (.getfield 21, 3) := by decide +kernel
theorem dX3_needed_40 : decode cX3_needed 40 = .ok (.getfield 111, 3) := by decide +kernel
theorem dX3_needed_43 : decode cX3_needed 43 = .ok (.iload_n 1, 1) := by decide +kernel
theorem dX3_needed_44 : decode cX3_needed 44 = .ok (.invokestatic 104, 3) := by decide +kernel
theorem dX3_needed_47 : decode cX3_needed 47 = .ok (.ifCond .ne 7, 3) := by decide +kernel
theorem dX3_needed_50 : decode cX3_needed 50 = .ok (.iconst 1, 1) := by decide +kernel
theorem dX3_needed_51 : decode cX3_needed 51 = .ok (.goto 4, 3) := by decide +kernel
theorem dX3_needed_54 : decode cX3_needed 54 = .ok (.iconst 0, 1) := by decide +kernel
theorem dX3_needed_55 : decode cX3_needed 55 = .ok (.ireturn, 1) := by decide +kernel
theorem dX3_speak_0 : decode cX3_speak 0 = .ok (.iload_n 1, 1) := by decide +kernel
theorem dX3_speak_1 : decode cX3_speak 1 = .ok (.invokestatic 114, 3) := by decide +kernel
theorem dX3_speak_4 : decode cX3_speak 4 = .ok (.ifCond .eq 10, 3) := by decide +kernel
theorem dX3_speak_7 : decode cX3_speak 7 = .ok (.iload_n 2, 1) := by decide +kernel
theorem dX3_speak_8 : decode cX3_speak 8 = .ok (.invokestatic 117, 3) := by decide +kernel
theorem dX3_speak_11 : decode cX3_speak 11 = .ok (.ifCond .ne 6, 3) := by decide +kernel
theorem dX3_speak_14 : decode cX3_speak 14 = .ok (.bipush (-2), 2) := by decide +kernel
theorem dX3_speak_16 : decode cX3_speak 16 = .ok (.ireturn, 1) := by decide +kernel
theorem dX3_speak_17 : decode cX3_speak 17 = .ok (.iload_n 3, 1) := by decide +kernel
theorem dX3_speak_18 : decode cX3_speak 18 = .ok (.iconst 1, 1) := by decide +kernel
theorem dX3_speak_19 : decode cX3_speak 19 = .ok (.if_icmp .lt 9, 3) := by decide +kernel
theorem dX3_speak_22 : decode cX3_speak 22 = .ok (.iload_n 3, 1) := by decide +kernel
theorem dX3_speak_23 : decode cX3_speak 23 = .ok (.bipush 9, 2) := by decide +kernel
theorem dX3_speak_25 : decode cX3_speak 25 = .ok (.if_icmp .le 6, 3) := by decide +kernel
theorem dX3_speak_28 : decode cX3_speak 28 = .ok (.bipush (-3), 2) := by decide +kernel
theorem dX3_speak_30 : decode cX3_speak 30 = .ok (.ireturn, 1) := by decide +kernel
theorem dX3_speak_31 : decode cX3_speak 31 = .ok (.aload_n 0, 1) := by decide +kernel
theorem dX3_speak_32 : decode cX3_speak 32 = .ok (.getfield 28, 3) := by decide +kernel
theorem dX3_speak_35 : decode cX3_speak 35 = .ok (.iload_n 1, 1) := by decide +kernel
theorem dX3_speak_36 : decode cX3_speak 36 = .ok (.iload_n 2, 1) := by decide +kernel
theorem dX3_speak_37 : decode cX3_speak 37 = .ok (.iload_n 3, 1) := by decide +kernel
theorem dX3_speak_38 : decode cX3_speak 38 = .ok (.invokevirtual 120, 3) := by decide +kernel
theorem dX3_speak_41 : decode cX3_speak 41 = .ok (.iconst 1, 1) := by decide +kernel
theorem dX3_speak_42 : decode cX3_speak 42 = .ok (.ireturn, 1) := by decide +kernel
theorem dX3_silence_0 : decode cX3_silence 0 = .ok (.iload_n 1, 1) := by decide +kernel
theorem dX3_silence_1 : decode cX3_silence 1 = .ok (.invokestatic 114, 3) := by decide +kernel
theorem dX3_silence_4 : decode cX3_silence 4 = .ok (.ifCond .ne 6, 3) := by decide +kernel
theorem dX3_silence_7 : decode cX3_silence 7 = .ok (.bipush (-2), 2) := by decide +kernel
theorem dX3_silence_9 : decode cX3_silence 9 = .ok (.ireturn, 1) := by decide +kernel
theorem dX3_silence_10 : decode cX3_silence 10 = .ok (.aload_n 0, 1) := by decide +kernel
theorem dX3_silence_11 : decode cX3_silence 11 = .ok (.getfield 28, 3) := by decide +kernel
theorem dX3_silence_14 : decode cX3_silence 14 = .ok (.iload_n 1, 1) := by decide +kernel
theorem dX3_silence_15 : decode cX3_silence 15 = .ok (.invokevirtual 124, 3) := by decide +kernel
theorem dX3_silence_18 : decode cX3_silence 18 = .ok (.ifCond .eq 7, 3) := by decide +kernel
theorem dX3_silence_21 : decode cX3_silence 21 = .ok (.iconst 0, 1) := by decide +kernel
theorem dX3_silence_22 : decode cX3_silence 22 = .ok (.goto 4, 3) := by decide +kernel
theorem dX3_silence_25 : decode cX3_silence 25 = .ok (.iconst 1, 1) := by decide +kernel
theorem dX3_silence_26 : decode cX3_silence 26 = .ok (.istore_n 2, 1) := by decide +kernel
theorem dX3_silence_27 : decode cX3_silence 27 = .ok (.aload_n 0, 1) := by decide +kernel
theorem dX3_silence_28 : decode cX3_silence 28 = .ok (.getfield 28, 3) := by decide +kernel
theorem dX3_silence_31 : decode cX3_silence 31 = .ok (.iload_n 1, 1) := by decide +kernel
theorem dX3_silence_32 : decode cX3_silence 32 = .ok (.invokevirtual 127, 3) := by decide +kernel
theorem dX3_silence_35 : decode cX3_silence 35 = .ok (.iload_n 2, 1) := by decide +kernel
theorem dX3_silence_36 : decode cX3_silence 36 = .ok (.ireturn, 1) := by decide +kernel
theorem dX3_limit_0 : decode cX3_limit 0 = .ok (.iload_n 1, 1) := by decide +kernel
theorem dX3_limit_1 : decode cX3_limit 1 = .ok (.iconst 5, 1) := by decide +kernel
theorem dX3_limit_2 : decode cX3_limit 2 = .ok (.if_icmp .lt 9, 3) := by decide +kernel
theorem dX3_limit_5 : decode cX3_limit 5 = .ok (.iload_n 1, 1) := by decide +kernel
theorem dX3_limit_6 : decode cX3_limit 6 = .ok (.bipush 60, 2) := by decide +kernel
theorem dX3_limit_8 : decode cX3_limit 8 = .ok (.if_icmp .le 6, 3) := by decide +kernel
theorem dX3_limit_11 : decode cX3_limit 11 = .ok (.bipush (-3), 2) := by decide +kernel
theorem dX3_limit_13 : decode cX3_limit 13 = .ok (.ireturn, 1) := by decide +kernel
theorem dX3_limit_14 : decode cX3_limit 14 = .ok (.aload_n 0, 1) := by decide +kernel
theorem dX3_limit_15 : decode cX3_limit 15 = .ok (.getfield 43, 3) := by decide +kernel
theorem dX3_limit_18 : decode cX3_limit 18 = .ok (.istore_n 2, 1) := by decide +kernel
theorem dX3_limit_19 : decode cX3_limit 19 = .ok (.aload_n 0, 1) := by decide +kernel
theorem dX3_limit_20 : decode cX3_limit 20 = .ok (.iload_n 1, 1) := by decide +kernel
theorem dX3_limit_21 : decode cX3_limit 21 = .ok (.putfield 43, 3) := by decide +kernel
theorem dX3_limit_24 : decode cX3_limit 24 = .ok (.iload_n 2, 1) := by decide +kernel
theorem dX3_limit_25 : decode cX3_limit 25 = .ok (.ireturn, 1) := by decide +kernel
theorem dX3_on_0 : decode cX3_on 0 = .ok (.iload_n 1, 1) := by decide +kernel
theorem dX3_on_1 : decode cX3_on 1 = .ok (.invokestatic 117, 3) := by decide +kernel
theorem dX3_on_4 : decode cX3_on 4 = .ok (.ifCond .eq 10, 3) := by decide +kernel
theorem dX3_on_7 : decode cX3_on 7 = .ok (.iload_n 2, 1) := by decide +kernel
theorem dX3_on_8 : decode cX3_on 8 = .ok (.invokestatic 114, 3) := by decide +kernel
theorem dX3_on_11 : decode cX3_on 11 = .ok (.ifCond .ne 6, 3) := by decide +kernel
theorem dX3_on_14 : decode cX3_on 14 = .ok (.bipush (-2), 2) := by decide +kernel
theorem dX3_on_16 : decode cX3_on 16 = .ok (.ireturn, 1) := by decide +kernel
theorem dX3_on_17 : decode cX3_on 17 = .ok (.aload_n 0, 1) := by decide +kernel
theorem dX3_on_18 : decode cX3_on 18 = .ok (.getfield 28, 3) := by decide +kernel
theorem dX3_on_21 : decode cX3_on 21 = .ok (.iload_n 2, 1) := by decide +kernel
theorem dX3_on_22 : decode cX3_on 22 = .ok (.invokevirtual 130, 3) := by decide +kernel
theorem dX3_on_25 : decode cX3_on 25 = .ok (.aload_n 0, 1) := by decide +kernel
theorem dX3_on_26 : decode cX3_on 26 = .ok (.getfield 28, 3) := by decide +kernel
theorem dX3_on_29 : decode cX3_on 29 = .ok (.getfield 133, 3) := by decide +kernel
theorem dX3_on_32 : decode cX3_on 32 = .ok (.iload_n 1, 1) := by decide +kernel
theorem dX3_on_33 : decode cX3_on 33 = .ok (.iaload, 1) := by decide +kernel
theorem dX3_on_34 : decode cX3_on 34 = .ok (.ireturn, 1) := by decide +kernel
theorem dX3_heard_0 : decode cX3_heard 0 = .ok (.iload_n 1, 1) := by decide +kernel
theorem dX3_heard_1 : decode cX3_heard 1 = .ok (.invokestatic 117, 3) := by decide +kernel
theorem dX3_heard_4 : decode cX3_heard 4 = .ok (.ifCond .eq 10, 3) := by decide +kernel
theorem dX3_heard_7 : decode cX3_heard 7 = .ok (.iload_n 2, 1) := by decide +kernel
theorem dX3_heard_8 : decode cX3_heard 8 = .ok (.invokestatic 114, 3) := by decide +kernel
theorem dX3_heard_11 : decode cX3_heard 11 = .ok (.ifCond .ne 6, 3) := by decide +kernel
theorem dX3_heard_14 : decode cX3_heard 14 = .ok (.bipush (-2), 2) := by decide +kernel
theorem dX3_heard_16 : decode cX3_heard 16 = .ok (.ireturn, 1) := by decide +kernel
theorem dX3_heard_17 : decode cX3_heard 17 = .ok (.aload_n 0, 1) := by decide +kernel
theorem dX3_heard_18 : decode cX3_heard 18 = .ok (.getfield 28, 3) := by decide +kernel
theorem dX3_heard_21 : decode cX3_heard 21 = .ok (.iload_n 2, 1) := by decide +kernel
theorem dX3_heard_22 : decode cX3_heard 22 = .ok (.invokevirtual 130, 3) := by decide +kernel
theorem dX3_heard_25 : decode cX3_heard 25 = .ok (.aload_n 0, 1) := by decide +kernel
theorem dX3_heard_26 : decode cX3_heard 26 = .ok (.getfield 28, 3) := by decide +kernel
theorem dX3_heard_29 : decode cX3_heard 29 = .ok (.getfield 136, 3) := by decide +kernel
theorem dX3_heard_32 : decode cX3_heard 32 = .ok (.iload_n 1, 1) := by decide +kernel
theorem dX3_heard_33 : decode cX3_heard 33 = .ok (.iaload, 1) := by decide +kernel
theorem dX3_heard_34 : decode cX3_heard 34 = .ok (.ireturn, 1) := by decide +kernel
theorem dX3_tired_0 : decode cX3_tired 0 = .ok (.aload_n 0, 1) := by decide +kernel
theorem dX3_tired_1 : decode cX3_tired 1 = .ok (.getfield 10, 3) := by decide +kernel
theorem dX3_tired_4 : decode cX3_tired 4 = .ok (.iload_n 1, 1) := by decide +kernel
theorem dX3_tired_5 : decode cX3_tired 5 = .ok (.invokevirtual 54, 3) := by decide +kernel
theorem dX3_tired_8 : decode cX3_tired 8 = .ok (.ifCond .eq 10, 3) := by decide +kernel
theorem dX3_tired_11 : decode cX3_tired 11 = .ok (.iload_n 2, 1) := by decide +kernel
theorem dX3_tired_12 : decode cX3_tired 12 = .ok (.invokestatic 114, 3) := by decide +kernel
theorem dX3_tired_15 : decode cX3_tired 15 = .ok (.ifCond .ne 6, 3) := by decide +kernel
theorem dX3_tired_18 : decode cX3_tired 18 = .ok (.bipush (-2), 2) := by decide +kernel
theorem dX3_tired_20 : decode cX3_tired 20 = .ok (.ireturn, 1) := by decide +kernel
theorem dX3_tired_21 : decode cX3_tired 21 = .ok (.aload_n 0, 1) := by decide +kernel
theorem dX3_tired_22 : decode cX3_tired 22 = .ok (.getfield 28, 3) := by decide +kernel
theorem dX3_tired_25 : decode cX3_tired 25 = .ok (.iload_n 2, 1) := by decide +kernel
theorem dX3_tired_26 : decode cX3_tired 26 = .ok (.invokevirtual 130, 3) := by decide +kernel
theorem dX3_tired_29 : decode cX3_tired 29 = .ok (.aload_n 0, 1) := by decide +kernel
theorem dX3_tired_30 : decode cX3_tired 30 = .ok (.getfield 28, 3) := by decide +kernel
theorem dX3_tired_33 : decode cX3_tired 33 = .ok (.getfield 139, 3) := by decide +kernel
theorem dX3_tired_36 : decode cX3_tired 36 = .ok (.iload_n 1, 1) := by decide +kernel
theorem dX3_tired_37 : decode cX3_tired 37 = .ok (.iaload, 1) := by decide +kernel
theorem dX3_tired_38 : decode cX3_tired 38 = .ok (.ireturn, 1) := by decide +kernel
theorem dX3_late_0 : decode cX3_late 0 = .ok (.iload_n 1, 1) := by decide +kernel
theorem dX3_late_1 : decode cX3_late 1 = .ok (.invokestatic 117, 3) := by decide +kernel
theorem dX3_late_4 : decode cX3_late 4 = .ok (.ifCond .ne 6, 3) := by decide +kernel
theorem dX3_late_7 : decode cX3_late 7 = .ok (.bipush (-2), 2) := by decide +kernel
theorem dX3_late_9 : decode cX3_late 9 = .ok (.ireturn, 1) := by decide +kernel
theorem dX3_late_10 : decode cX3_late 10 = .ok (.aload_n 0, 1) := by decide +kernel
theorem dX3_late_11 : decode cX3_late 11 = .ok (.getfield 28, 3) := by decide +kernel
theorem dX3_late_14 : decode cX3_late 14 = .ok (.iload_n 1, 1) := by decide +kernel
theorem dX3_late_15 : decode cX3_late 15 = .ok (.invokevirtual 142, 3) := by decide +kernel
theorem dX3_late_18 : decode cX3_late 18 = .ok (.ireturn, 1) := by decide +kernel
theorem dX3_worn_0 : decode cX3_worn 0 = .ok (.aload_n 0, 1) := by decide +kernel
theorem dX3_worn_1 : decode cX3_worn 1 = .ok (.getfield 28, 3) := by decide +kernel
theorem dX3_worn_4 : decode cX3_worn 4 = .ok (.aload_n 0, 1) := by decide +kernel
theorem dX3_worn_5 : decode cX3_worn 5 = .ok (.getfield 43, 3) := by decide +kernel
theorem dX3_worn_8 : decode cX3_worn 8 = .ok (.invokevirtual 145, 3) := by decide +kernel
theorem dX3_worn_11 : decode cX3_worn 11 = .ok (.ireturn, 1) := by decide +kernel
theorem dX3_count_0 : decode cX3_count 0 = .ok (.iload_n 1, 1) := by decide +kernel
theorem dX3_count_1 : decode cX3_count 1 = .ok (.tableswitch 75 0 4 #[35, 43, 54, 62, 70], 35) := by decide +kernel
theorem dX3_count_36 : decode cX3_count 36 = .ok (.aload_n 0, 1) := by decide +kernel
theorem dX3_count_37 : decode cX3_count 37 = .ok (.getfield 10, 3) := by decide +kernel
theorem dX3_count_40 : decode cX3_count 40 = .ok (.getfield 148, 3) := by decide +kernel
theorem dX3_count_43 : decode cX3_count 43 = .ok (.ireturn, 1) := by decide +kernel
theorem dX3_count_44 : decode cX3_count 44 = .ok (.aload_n 0, 1) := by decide +kernel
theorem dX3_count_45 : decode cX3_count 45 = .ok (.getfield 10, 3) := by decide +kernel
theorem dX3_count_48 : decode cX3_count 48 = .ok (.getfield 151, 3) := by decide +kernel
theorem dX3_count_51 : decode cX3_count 51 = .ok (.invokestatic 154, 3) := by decide +kernel
theorem dX3_count_54 : decode cX3_count 54 = .ok (.ireturn, 1) := by decide +kernel
theorem dX3_count_55 : decode cX3_count 55 = .ok (.aload_n 0, 1) := by decide +kernel
theorem dX3_count_56 : decode cX3_count 56 = .ok (.getfield 10, 3) := by decide +kernel
theorem dX3_count_59 : decode cX3_count 59 = .ok (.invokevirtual 93, 3) := by decide +kernel
theorem dX3_count_62 : decode cX3_count 62 = .ok (.ireturn, 1) := by decide +kernel
theorem dX3_count_63 : decode cX3_count 63 = .ok (.aload_n 0, 1) := by decide +kernel
theorem dX3_count_64 : decode cX3_count 64 = .ok (.getfield 28, 3) := by decide +kernel
theorem dX3_count_67 : decode cX3_count 67 = .ok (.invokevirtual 159, 3) := by decide +kernel
theorem dX3_count_70 : decode cX3_count 70 = .ok (.ireturn, 1) := by decide +kernel
theorem dX3_count_71 : decode cX3_count 71 = .ok (.aload_n 0, 1) := by decide +kernel
theorem dX3_count_72 : decode cX3_count 72 = .ok (.getfield 39, 3) := by decide +kernel
theorem dX3_count_75 : decode cX3_count 75 = .ok (.ireturn, 1) := by decide +kernel
theorem dX3_count_76 : decode cX3_count 76 = .ok (.bipush (-3), 2) := by decide +kernel
theorem dX3_count_78 : decode cX3_count 78 = .ok (.ireturn, 1) := by decide +kernel
theorem dX3_searchTeams_0 : decode cX3_searchTeams 0 = .ok (.iload_n 1, 1) := by decide +kernel
theorem dX3_searchTeams_1 : decode cX3_searchTeams 1 = .ok (.invokestatic 64, 3) := by decide +kernel
theorem dX3_searchTeams_4 : decode cX3_searchTeams 4 = .ok (.ifCond .eq 34, 3) := by decide +kernel
theorem dX3_searchTeams_7 : decode cX3_searchTeams 7 = .ok (.aload_n 0, 1) := by decide +kernel
theorem dX3_searchTeams_8 : decode cX3_searchTeams 8 = .ok (.getfield 21, 3) := by decide +kernel
theorem dX3_searchTeams_11 : decode cX3_searchTeams 11 = .ok (.aload_n 0, 1) := by decide +kernel
theorem dX3_searchTeams_12 : decode cX3_searchTeams 12 = .ok (.getfield 32, 3) := by decide +kernel
theorem dX3_searchTeams_15 : decode cX3_searchTeams 15 = .ok (.iload_n 1, 1) := by decide +kernel
theorem dX3_searchTeams_16 : decode cX3_searchTeams 16 = .ok (.iaload, 1) := by decide +kernel
theorem dX3_searchTeams_17 : decode cX3_searchTeams 17 = .ok (.aload_n 0, 1) := by decide +kernel
theorem dX3_searchTeams_18 : decode cX3_searchTeams 18 = .ok (.getfield 36, 3) := by decide +kernel
theorem dX3_searchTeams_21 : decode cX3_searchTeams 21 = .ok (.iload_n 1, 1) := by decide +kernel
theorem dX3_searchTeams_22 : decode cX3_searchTeams 22 = .ok (.iaload, 1) := by decide +kernel
theorem dX3_searchTeams_23 : decode cX3_searchTeams 23 = .ok (.aload_n 0, 1) := by decide +kernel
theorem dX3_searchTeams_24 : decode cX3_searchTeams 24 = .ok (.getfield 39, 3) := by decide +kernel
theorem dX3_searchTeams_27 : decode cX3_searchTeams 27 = .ok (.invokevirtual 162, 3) := by decide +kernel
theorem dX3_searchTeams_30 : decode cX3_searchTeams 30 = .ok (.aload_n 0, 1) := by decide +kernel
theorem dX3_searchTeams_31 : decode cX3_searchTeams 31 = .ok (.getfield 21, 3) := by decide +kernel
theorem dX3_searchTeams_34 : decode cX3_searchTeams 34 = .ok (.iconst 0, 1) := by decide +kernel
theorem dX3_searchTeams_35 : decode cX3_searchTeams 35 = .ok (.invokevirtual 165, 3) := by decide +kernel
theorem dX3_searchTeams_38 : decode cX3_searchTeams 38 = .ok (.return_, 1) := by decide +kernel
theorem dX3_isSession_0 : decode cX3_isSession 0 = .ok (.iload_n 0, 1) := by decide +kernel
theorem dX3_isSession_1 : decode cX3_isSession 1 = .ok (.ifCond .lt 12, 3) := by decide +kernel
theorem dX3_isSession_4 : decode cX3_isSession 4 = .ok (.iload_n 0, 1) := by decide +kernel
theorem dX3_isSession_5 : decode cX3_isSession 5 = .ok (.iconst 2, 1) := by decide +kernel
theorem dX3_isSession_6 : decode cX3_isSession 6 = .ok (.if_icmp .ge 7, 3) := by decide +kernel
theorem dX3_isSession_9 : decode cX3_isSession 9 = .ok (.iconst 1, 1) := by decide +kernel
theorem dX3_isSession_10 : decode cX3_isSession 10 = .ok (.goto 4, 3) := by decide +kernel
theorem dX3_isSession_13 : decode cX3_isSession 13 = .ok (.iconst 0, 1) := by decide +kernel
theorem dX3_isSession_14 : decode cX3_isSession 14 = .ok (.ireturn, 1) := by decide +kernel
theorem dX3_isTongue_0 : decode cX3_isTongue 0 = .ok (.iload_n 0, 1) := by decide +kernel
theorem dX3_isTongue_1 : decode cX3_isTongue 1 = .ok (.ifCond .lt 12, 3) := by decide +kernel
theorem dX3_isTongue_4 : decode cX3_isTongue 4 = .ok (.iload_n 0, 1) := by decide +kernel
theorem dX3_isTongue_5 : decode cX3_isTongue 5 = .ok (.iconst 5, 1) := by decide +kernel
theorem dX3_isTongue_6 : decode cX3_isTongue 6 = .ok (.if_icmp .ge 7, 3) := by decide +kernel
theorem dX3_isTongue_9 : decode cX3_isTongue 9 = .ok (.iconst 1, 1) := by decide +kernel
theorem dX3_isTongue_10 : decode cX3_isTongue 10 = .ok (.goto 4, 3) := by decide +kernel
theorem dX3_isTongue_13 : decode cX3_isTongue 13 = .ok (.iconst 0, 1) := by decide +kernel
theorem dX3_isTongue_14 : decode cX3_isTongue 14 = .ok (.ireturn, 1) := by decide +kernel
theorem dX3_isHalf_0 : decode cX3_isHalf 0 = .ok (.iload_n 0, 1) := by decide +kernel
theorem dX3_isHalf_1 : decode cX3_isHalf 1 = .ok (.ifCond .lt 13, 3) := by decide +kernel
theorem dX3_isHalf_4 : decode cX3_isHalf 4 = .ok (.iload_n 0, 1) := by decide +kernel
theorem dX3_isHalf_5 : decode cX3_isHalf 5 = .ok (.bipush 16, 2) := by decide +kernel
theorem dX3_isHalf_7 : decode cX3_isHalf 7 = .ok (.if_icmp .ge 7, 3) := by decide +kernel
theorem dX3_isHalf_10 : decode cX3_isHalf 10 = .ok (.iconst 1, 1) := by decide +kernel
theorem dX3_isHalf_11 : decode cX3_isHalf 11 = .ok (.goto 4, 3) := by decide +kernel
theorem dX3_isHalf_14 : decode cX3_isHalf 14 = .ok (.iconst 0, 1) := by decide +kernel
theorem dX3_isHalf_15 : decode cX3_isHalf 15 = .ok (.ireturn, 1) := by decide +kernel
theorem dX3_areTongues_0 : decode cX3_areTongues 0 = .ok (.iload_n 0, 1) := by decide +kernel
theorem dX3_areTongues_1 : decode cX3_areTongues 1 = .ok (.bipush (-32), 2) := by decide +kernel
theorem dX3_areTongues_3 : decode cX3_areTongues 3 = .ok (.iand, 1) := by decide +kernel
theorem dX3_areTongues_4 : decode cX3_areTongues 4 = .ok (.ifCond .ne 7, 3) := by decide +kernel
theorem dX3_areTongues_7 : decode cX3_areTongues 7 = .ok (.iconst 1, 1) := by decide +kernel
theorem dX3_areTongues_8 : decode cX3_areTongues 8 = .ok (.goto 4, 3) := by decide +kernel
theorem dX3_areTongues_11 : decode cX3_areTongues 11 = .ok (.iconst 0, 1) := by decide +kernel
theorem dX3_areTongues_12 : decode cX3_areTongues 12 = .ok (.ireturn, 1) := by decide +kernel
theorem dX3_holds_0 : decode cX3_holds 0 = .ok (.iload_n 0, 1) := by decide +kernel
theorem dX3_holds_1 : decode cX3_holds 1 = .ok (.iload_n 1, 1) := by decide +kernel
theorem dX3_holds_2 : decode cX3_holds 2 = .ok (.ishr, 1) := by decide +kernel
theorem dX3_holds_3 : decode cX3_holds 3 = .ok (.iconst 1, 1) := by decide +kernel
theorem dX3_holds_4 : decode cX3_holds 4 = .ok (.iand, 1) := by decide +kernel
theorem dX3_holds_5 : decode cX3_holds 5 = .ok (.iconst 1, 1) := by decide +kernel
theorem dX3_holds_6 : decode cX3_holds 6 = .ok (.if_icmp .ne 7, 3) := by decide +kernel
theorem dX3_holds_9 : decode cX3_holds 9 = .ok (.iconst 1, 1) := by decide +kernel
theorem dX3_holds_10 : decode cX3_holds 10 = .ok (.goto 4, 3) := by decide +kernel
theorem dX3_holds_13 : decode cX3_holds 13 = .ok (.iconst 0, 1) := by decide +kernel
theorem dX3_holds_14 : decode cX3_holds 14 = .ok (.ireturn, 1) := by decide +kernel
theorem dX4_init_0 : decode cX4_init 0 = .ok (.aload_n 0, 1) := by decide +kernel
theorem dX4_init_1 : decode cX4_init 1 = .ok (.invokespecial 1, 3) := by decide +kernel
theorem dX4_init_4 : decode cX4_init 4 = .ok (.aload_n 0, 1) := by decide +kernel
theorem dX4_init_5 : decode cX4_init 5 = .ok (.bipush 6, 2) := by decide +kernel
theorem dX4_init_7 : decode cX4_init 7 = .ok (.newarray .int, 2) := by decide +kernel
theorem dX4_init_9 : decode cX4_init 9 = .ok (.putfield 7, 3) := by decide +kernel
theorem dX4_init_12 : decode cX4_init 12 = .ok (.aload_n 0, 1) := by decide +kernel
theorem dX4_init_13 : decode cX4_init 13 = .ok (.bipush 6, 2) := by decide +kernel
theorem dX4_init_15 : decode cX4_init 15 = .ok (.newarray .int, 2) := by decide +kernel
theorem dX4_init_17 : decode cX4_init 17 = .ok (.putfield 13, 3) := by decide +kernel
theorem dX4_init_20 : decode cX4_init 20 = .ok (.aload_n 0, 1) := by decide +kernel
theorem dX4_init_21 : decode cX4_init 21 = .ok (.bipush 6, 2) := by decide +kernel
theorem dX4_init_23 : decode cX4_init 23 = .ok (.newarray .int, 2) := by decide +kernel
theorem dX4_init_25 : decode cX4_init 25 = .ok (.putfield 16, 3) := by decide +kernel
theorem dX4_init_28 : decode cX4_init 28 = .ok (.aload_n 0, 1) := by decide +kernel
theorem dX4_init_29 : decode cX4_init 29 = .ok (.bipush 6, 2) := by decide +kernel
theorem dX4_init_31 : decode cX4_init 31 = .ok (.newarray .boolean, 2) := by decide +kernel
theorem dX4_init_33 : decode cX4_init 33 = .ok (.putfield 19, 3) := by decide +kernel
theorem dX4_init_36 : decode cX4_init 36 = .ok (.aload_n 0, 1) := by decide +kernel
theorem dX4_init_37 : decode cX4_init 37 = .ok (.iconst 2, 1) := by decide +kernel
theorem dX4_init_38 : decode cX4_init 38 = .ok (.newarray .int, 2) := by decide +kernel
theorem dX4_init_40 : decode cX4_init 40 = .ok (.putfield 23, 3) := by decide +kernel
theorem dX4_init_43 : decode cX4_init 43 = .ok (.aload_n 0, 1) := by decide +kernel
theorem dX4_init_44 : decode cX4_init 44 = .ok (.iconst 2, 1) := by decide +kernel
theorem dX4_init_45 : decode cX4_init 45 = .ok (.newarray .int, 2) := by decide +kernel
theorem dX4_init_47 : decode cX4_init 47 = .ok (.putfield 26, 3) := by decide +kernel
theorem dX4_init_50 : decode cX4_init 50 = .ok (.aload_n 0, 1) := by decide +kernel
theorem dX4_init_51 : decode cX4_init 51 = .ok (.iconst 1, 1) := by decide +kernel
theorem dX4_init_52 : decode cX4_init 52 = .ok (.putfield 29, 3) := by decide +kernel
theorem dX4_init_55 : decode cX4_init 55 = .ok (.aload_n 0, 1) := by decide +kernel
theorem dX4_init_56 : decode cX4_init 56 = .ok (.bipush 6, 2) := by decide +kernel
theorem dX4_init_58 : decode cX4_init 58 = .ok (.newarray .int, 2) := by decide +kernel
theorem dX4_init_60 : decode cX4_init 60 = .ok (.putfield 33, 3) := by decide +kernel
theorem dX4_init_63 : decode cX4_init 63 = .ok (.aload_n 0, 1) := by decide +kernel
theorem dX4_init_64 : decode cX4_init 64 = .ok (.bipush 16, 2) := by decide +kernel
theorem dX4_init_66 : decode cX4_init 66 = .ok (.newarray .int, 2) := by decide +kernel
theorem dX4_init_68 : decode cX4_init 68 = .ok (.putfield 36, 3) := by decide +kernel
theorem dX4_init_71 : decode cX4_init 71 = .ok (.aload_n 0, 1) := by decide +kernel
theorem dX4_init_72 : decode cX4_init 72 = .ok (.bipush 16, 2) := by decide +kernel
theorem dX4_init_74 : decode cX4_init 74 = .ok (.newarray .int, 2) := by decide +kernel
theorem dX4_init_76 : decode cX4_init 76 = .ok (.putfield 39, 3) := by decide +kernel
theorem dX4_init_79 : decode cX4_init 79 = .ok (.aload_n 0, 1) := by decide +kernel
theorem dX4_init_80 : decode cX4_init 80 = .ok (.bipush 20, 2) := by decide +kernel
theorem dX4_init_82 : decode cX4_init 82 = .ok (.putfield 42, 3) := by decide +kernel
theorem dX4_init_85 : decode cX4_init 85 = .ok (.aload_n 0, 1) := by decide +kernel
theorem dX4_init_86 : decode cX4_init 86 = .ok (.bipush 6, 2) := by decide +kernel
theorem dX4_init_88 : decode cX4_init 88 = .ok (.newarray .int, 2) := by decide +kernel
theorem dX4_init_90 : decode cX4_init 90 = .ok (.putfield 45, 3) := by decide +kernel
theorem dX4_init_93 : decode cX4_init 93 = .ok (.aload_n 0, 1) := by decide +kernel
theorem dX4_init_94 : decode cX4_init 94 = .ok (.bipush 6, 2) := by decide +kernel
theorem dX4_init_96 : decode cX4_init 96 = .ok (.newarray .int, 2) := by decide +kernel
theorem dX4_init_98 : decode cX4_init 98 = .ok (.putfield 48, 3) := by decide +kernel
theorem dX4_init_101 : decode cX4_init 101 = .ok (.aload_n 0, 1) := by decide +kernel
theorem dX4_init_102 : decode cX4_init 102 = .ok (.bipush 6, 2) := by decide +kernel
theorem dX4_init_104 : decode cX4_init 104 = .ok (.newarray .int, 2) := by decide +kernel
theorem dX4_init_106 : decode cX4_init 106 = .ok (.putfield 51, 3) := by decide +kernel
theorem dX4_init_109 : decode cX4_init 109 = .ok (.aload_n 0, 1) := by decide +kernel
theorem dX4_init_110 : decode cX4_init 110 = .ok (.bipush 6, 2) := by decide +kernel
theorem dX4_init_112 : decode cX4_init 112 = .ok (.newarray .int, 2) := by decide +kernel
theorem dX4_init_114 : decode cX4_init 114 = .ok (.putfield 54, 3) := by decide +kernel
theorem dX4_init_117 : decode cX4_init 117 = .ok (.aload_n 0, 1) := by decide +kernel
theorem dX4_init_118 : decode cX4_init 118 = .ok (.iconst 5, 1) := by decide +kernel
theorem dX4_init_119 : decode cX4_init 119 = .ok (.newarray .int, 2) := by decide +kernel
theorem dX4_init_121 : decode cX4_init 121 = .ok (.putfield 57, 3) := by decide +kernel
theorem dX4_init_124 : decode cX4_init 124 = .ok (.aload_n 0, 1) := by decide +kernel
theorem dX4_init_125 : decode cX4_init 125 = .ok (.iconst 5, 1) := by decide +kernel
theorem dX4_init_126 : decode cX4_init 126 = .ok (.newarray .int, 2) := by decide +kernel
theorem dX4_init_128 : decode cX4_init 128 = .ok (.putfield 60, 3) := by decide +kernel
theorem dX4_init_131 : decode cX4_init 131 = .ok (.aload_n 0, 1) := by decide +kernel
theorem dX4_init_132 : decode cX4_init 132 = .ok (.iconst 5, 1) := by decide +kernel
theorem dX4_init_133 : decode cX4_init 133 = .ok (.newarray .int, 2) := by decide +kernel
theorem dX4_init_135 : decode cX4_init 135 = .ok (.putfield 63, 3) := by decide +kernel
theorem dX4_init_138 : decode cX4_init 138 = .ok (.iconst 0, 1) := by decide +kernel
theorem dX4_init_139 : decode cX4_init 139 = .ok (.istore_n 1, 1) := by decide +kernel
theorem dX4_init_140 : decode cX4_init 140 = .ok (.iload_n 1, 1) := by decide +kernel
theorem dX4_init_141 : decode cX4_init 141 = .ok (.bipush 6, 2) := by decide +kernel
theorem dX4_init_143 : decode cX4_init 143 = .ok (.if_icmp .ge 16, 3) := by decide +kernel
theorem dX4_init_146 : decode cX4_init 146 = .ok (.aload_n 0, 1) := by decide +kernel
theorem dX4_init_147 : decode cX4_init 147 = .ok (.getfield 33, 3) := by decide +kernel
theorem dX4_init_150 : decode cX4_init 150 = .ok (.iload_n 1, 1) := by decide +kernel
theorem dX4_init_151 : decode cX4_init 151 = .ok (.iconst 5, 1) := by decide +kernel
theorem dX4_init_152 : decode cX4_init 152 = .ok (.iastore, 1) := by decide +kernel
theorem dX4_init_153 : decode cX4_init 153 = .ok (.iinc 1 1, 3) := by decide +kernel
theorem dX4_init_156 : decode cX4_init 156 = .ok (.goto (-16), 3) := by decide +kernel
theorem dX4_init_159 : decode cX4_init 159 = .ok (.iconst 0, 1) := by decide +kernel
theorem dX4_init_160 : decode cX4_init 160 = .ok (.istore_n 1, 1) := by decide +kernel
theorem dX4_init_161 : decode cX4_init 161 = .ok (.iload_n 1, 1) := by decide +kernel
theorem dX4_init_162 : decode cX4_init 162 = .ok (.bipush 16, 2) := by decide +kernel
theorem dX4_init_164 : decode cX4_init 164 = .ok (.if_icmp .ge 16, 3) := by decide +kernel
theorem dX4_init_167 : decode cX4_init 167 = .ok (.aload_n 0, 1) := by decide +kernel
theorem dX4_init_168 : decode cX4_init 168 = .ok (.getfield 36, 3) := by decide +kernel
theorem dX4_init_171 : decode cX4_init 171 = .ok (.iload_n 1, 1) := by decide +kernel
theorem dX4_init_172 : decode cX4_init 172 = .ok (.iconst (-1), 1) := by decide +kernel
theorem dX4_init_173 : decode cX4_init 173 = .ok (.iastore, 1) := by decide +kernel
theorem dX4_init_174 : decode cX4_init 174 = .ok (.iinc 1 1, 3) := by decide +kernel
theorem dX4_init_177 : decode cX4_init 177 = .ok (.goto (-16), 3) := by decide +kernel
theorem dX4_init_180 : decode cX4_init 180 = .ok (.return_, 1) := by decide +kernel
theorem dX4_in_0 : decode cX4_in 0 = .ok (.iload_n 0, 1) := by decide +kernel
theorem dX4_in_1 : decode cX4_in 1 = .ok (.iload_n 1, 1) := by decide +kernel
theorem dX4_in_2 : decode cX4_in 2 = .ok (.if_icmp .lt 12, 3) := by decide +kernel
theorem dX4_in_5 : decode cX4_in 5 = .ok (.iload_n 0, 1) := by decide +kernel
theorem dX4_in_6 : decode cX4_in 6 = .ok (.iload_n 2, 1) := by decide +kernel
theorem dX4_in_7 : decode cX4_in 7 = .ok (.if_icmp .gt 7, 3) := by decide +kernel
theorem dX4_in_10 : decode cX4_in 10 = .ok (.iconst 1, 1) := by decide +kernel
theorem dX4_in_11 : decode cX4_in 11 = .ok (.goto 4, 3) := by decide +kernel
theorem dX4_in_14 : decode cX4_in 14 = .ok (.iconst 0, 1) := by decide +kernel
theorem dX4_in_15 : decode cX4_in 15 = .ok (.ireturn, 1) := by decide +kernel
theorem dX4_isPerson_0 : decode cX4_isPerson 0 = .ok (.iload_n 1, 1) := by decide +kernel
theorem dX4_isPerson_1 : decode cX4_isPerson 1 = .ok (.iconst 0, 1) := by decide +kernel
theorem dX4_isPerson_2 : decode cX4_isPerson 2 = .ok (.aload_n 0, 1) := by decide +kernel
theorem dX4_isPerson_3 : decode cX4_isPerson 3 = .ok (.getfield 66, 3) := by decide +kernel
theorem dX4_isPerson_6 : decode cX4_isPerson 6 = .ok (.iconst 1, 1) := by decide +kernel
theorem dX4_isPerson_7 : decode cX4_isPerson 7 = .ok (.isub, 1) := by decide +kernel
theorem dX4_isPerson_8 : decode cX4_isPerson 8 = .ok (.invokestatic 69, 3) := by decide +kernel
theorem dX4_isPerson_11 : decode cX4_isPerson 11 = .ok (.ireturn, 1) := by decide +kernel
theorem dX4_isSession_0 : decode cX4_isSession 0 = .ok (.iload_n 0, 1) := by decide +kernel
theorem dX4_isSession_1 : decode cX4_isSession 1 = .ok (.iconst 0, 1) := by decide +kernel
theorem dX4_isSession_2 : decode cX4_isSession 2 = .ok (.iconst 1, 1) := by decide +kernel
theorem dX4_isSession_3 : decode cX4_isSession 3 = .ok (.invokestatic 69, 3) := by decide +kernel
theorem dX4_isSession_6 : decode cX4_isSession 6 = .ok (.ireturn, 1) := by decide +kernel
theorem dX4_isTongue_0 : decode cX4_isTongue 0 = .ok (.iload_n 0, 1) := by decide +kernel
theorem dX4_isTongue_1 : decode cX4_isTongue 1 = .ok (.iconst 0, 1) := by decide +kernel
theorem dX4_isTongue_2 : decode cX4_isTongue 2 = .ok (.iconst 4, 1) := by decide +kernel
theorem dX4_isTongue_3 : decode cX4_isTongue 3 = .ok (.invokestatic 69, 3) := by decide +kernel
theorem dX4_isTongue_6 : decode cX4_isTongue 6 = .ok (.ireturn, 1) := by decide +kernel
theorem dX4_isHalf_0 : decode cX4_isHalf 0 = .ok (.iload_n 0, 1) := by decide +kernel
theorem dX4_isHalf_1 : decode cX4_isHalf 1 = .ok (.iconst 0, 1) := by decide +kernel
theorem dX4_isHalf_2 : decode cX4_isHalf 2 = .ok (.bipush 15, 2) := by decide +kernel
theorem dX4_isHalf_4 : decode cX4_isHalf 4 = .ok (.invokestatic 69, 3) := by decide +kernel
theorem dX4_isHalf_7 : decode cX4_isHalf 7 = .ok (.ireturn, 1) := by decide +kernel
theorem dX4_has_0 : decode cX4_has 0 = .ok (.iload_n 0, 1) := by decide +kernel
theorem dX4_has_1 : decode cX4_has 1 = .ok (.iload_n 1, 1) := by decide +kernel
theorem dX4_has_2 : decode cX4_has 2 = .ok (.ishr, 1) := by decide +kernel
theorem dX4_has_3 : decode cX4_has 3 = .ok (.iconst 1, 1) := by decide +kernel
theorem dX4_has_4 : decode cX4_has 4 = .ok (.iand, 1) := by decide +kernel
theorem dX4_has_5 : decode cX4_has 5 = .ok (.iconst 1, 1) := by decide +kernel
theorem dX4_has_6 : decode cX4_has 6 = .ok (.if_icmp .ne 7, 3) := by decide +kernel
theorem dX4_has_9 : decode cX4_has 9 = .ok (.iconst 1, 1) := by decide +kernel
theorem dX4_has_10 : decode cX4_has 10 = .ok (.goto 4, 3) := by decide +kernel
theorem dX4_has_13 : decode cX4_has 13 = .ok (.iconst 0, 1) := by decide +kernel
theorem dX4_has_14 : decode cX4_has 14 = .ok (.ireturn, 1) := by decide +kernel
theorem dX4_person_0 : decode cX4_person 0 = .ok (.iload_n 1, 1) := by decide +kernel
theorem dX4_person_1 : decode cX4_person 1 = .ok (.iconst 0, 1) := by decide +kernel
theorem dX4_person_2 : decode cX4_person 2 = .ok (.bipush 31, 2) := by decide +kernel
theorem dX4_person_4 : decode cX4_person 4 = .ok (.invokestatic 69, 3) := by decide +kernel
theorem dX4_person_7 : decode cX4_person 7 = .ok (.ifCond .eq 31, 3) := by decide +kernel
theorem dX4_person_10 : decode cX4_person 10 = .ok (.iload_n 2, 1) := by decide +kernel
theorem dX4_person_11 : decode cX4_person 11 = .ok (.iconst 0, 1) := by decide +kernel
theorem dX4_person_12 : decode cX4_person 12 = .ok (.bipush 31, 2) := by decide +kernel
theorem dX4_person_14 : decode cX4_person 14 = .ok (.invokestatic 69, 3) := by decide +kernel
theorem dX4_person_17 : decode cX4_person 17 = .ok (.ifCond .eq 21, 3) := by decide +kernel
theorem dX4_person_20 : decode cX4_person 20 = .ok (.iload_n 2, 1) := by decide +kernel
theorem dX4_person_21 : decode cX4_person 21 = .ok (.iload_n 1, 1) := by decide +kernel
theorem dX4_person_22 : decode cX4_person 22 = .ok (.iconst (-1), 1) := by decide +kernel
theorem dX4_person_23 : decode cX4_person 23 = .ok (.ixor, 1) := by decide +kernel
theorem dX4_person_24 : decode cX4_person 24 = .ok (.iand, 1) := by decide +kernel
theorem dX4_person_25 : decode cX4_person 25 = .ok (.ifCond .ne 13, 3) := by decide +kernel
theorem dX4_person_28 : decode cX4_person 28 = .ok (.iload_n 3, 1) := by decide +kernel
theorem dX4_person_29 : decode cX4_person 29 = .ok (.iconst 1, 1) := by decide +kernel
theorem dX4_person_30 : decode cX4_person 30 = .ok (.bipush 99, 2) := by decide +kernel
theorem dX4_person_32 : decode cX4_person 32 = .ok (.invokestatic 69, 3) := by decide +kernel
theorem dX4_person_35 : decode cX4_person 35 = .ok (.ifCond .ne 6, 3) := by decide +kernel
theorem dX4_person_38 : decode cX4_person 38 = .ok (.bipush (-3), 2) := by decide +kernel
theorem dX4_person_40 : decode cX4_person 40 = .ok (.ireturn, 1) := by decide +kernel
theorem dX4_person_41 : decode cX4_person 41 = .ok (.aload_n 0, 1) := by decide +kernel
theorem dX4_person_42 : decode cX4_person 42 = .ok (.getfield 66, 3) := by decide +kernel
theorem dX4_person_45 : decode cX4_person 45 = .ok (.bipush 6, 2) := by decide +kernel
theorem dX4_person_47 : decode cX4_person 47 = .ok (.if_icmp .ne 6, 3) := by decide +kernel
theorem dX4_person_50 : decode cX4_person 50 = .ok (.bipush (-5), 2) := by decide +kernel
theorem dX4_person_52 : decode cX4_person 52 = .ok (.ireturn, 1) := by decide +kernel
theorem dX4_person_53 : decode cX4_person 53 = .ok (.aload_n 0, 1) := by decide +kernel
theorem dX4_person_54 : decode cX4_person 54 = .ok (.getfield 7, 3) := by decide +kernel
theorem dX4_person_57 : decode cX4_person 57 = .ok (.aload_n 0, 1) := by decide +kernel
theorem dX4_person_58 : decode cX4_person 58 = .ok (.getfield 66, 3) := by decide +kernel
theorem dX4_person_61 : decode cX4_person 61 = .ok (.iload_n 1, 1) := by decide +kernel
theorem dX4_person_62 : decode cX4_person 62 = .ok (.iastore, 1) := by decide +kernel
theorem dX4_person_63 : decode cX4_person 63 = .ok (.aload_n 0, 1) := by decide +kernel
theorem dX4_person_64 : decode cX4_person 64 = .ok (.getfield 13, 3) := by decide +kernel
theorem dX4_person_67 : decode cX4_person 67 = .ok (.aload_n 0, 1) := by decide +kernel
theorem dX4_person_68 : decode cX4_person 68 = .ok (.getfield 66, 3) := by decide +kernel
theorem dX4_person_71 : decode cX4_person 71 = .ok (.iload_n 2, 1) := by decide +kernel
theorem dX4_person_72 : decode cX4_person 72 = .ok (.iastore, 1) := by decide +kernel
theorem dX4_person_73 : decode cX4_person 73 = .ok (.aload_n 0, 1) := by decide +kernel
theorem dX4_person_74 : decode cX4_person 74 = .ok (.getfield 16, 3) := by decide +kernel
theorem dX4_person_77 : decode cX4_person 77 = .ok (.aload_n 0, 1) := by decide +kernel
theorem dX4_person_78 : decode cX4_person 78 = .ok (.getfield 66, 3) := by decide +kernel
theorem dX4_person_81 : decode cX4_person 81 = .ok (.iload_n 3, 1) := by decide +kernel
theorem dX4_person_82 : decode cX4_person 82 = .ok (.iastore, 1) := by decide +kernel
theorem dX4_person_83 : decode cX4_person 83 = .ok (.aload_n 0, 1) := by decide +kernel
theorem dX4_person_84 : decode cX4_person 84 = .ok (.dup, 1) := by decide +kernel
theorem dX4_person_85 : decode cX4_person 85 = .ok (.getfield 66, 3) := by decide +kernel
theorem dX4_person_88 : decode cX4_person 88 = .ok (.iconst 1, 1) := by decide +kernel
theorem dX4_person_89 : decode cX4_person 89 = .ok (.iadd, 1) := by decide +kernel
theorem dX4_person_90 : decode cX4_person 90 = .ok (.putfield 66, 3) := by decide +kernel
theorem dX4_person_93 : decode cX4_person 93 = .ok (.aload_n 0, 1) := by decide +kernel
theorem dX4_person_94 : decode cX4_person 94 = .ok (.getfield 66, 3) := by decide +kernel
theorem dX4_person_97 : decode cX4_person 97 = .ok (.iconst 1, 1) := by decide +kernel
theorem dX4_person_98 : decode cX4_person 98 = .ok (.isub, 1) := by decide +kernel
theorem dX4_person_99 : decode cX4_person 99 = .ok (.ireturn, 1) := by decide +kernel
theorem dX4_ill_0 : decode cX4_ill 0 = .ok (.aload_n 0, 1) := by decide +kernel
theorem dX4_ill_1 : decode cX4_ill 1 = .ok (.iload_n 1, 1) := by decide +kernel
theorem dX4_ill_2 : decode cX4_ill 2 = .ok (.invokevirtual 73, 3) := by decide +kernel
theorem dX4_ill_5 : decode cX4_ill 5 = .ok (.ifCond .ne 6, 3) := by decide +kernel
theorem dX4_ill_8 : decode cX4_ill 8 = .ok (.bipush (-2), 2) := by decide +kernel
theorem dX4_ill_10 : decode cX4_ill 10 = .ok (.ireturn, 1) := by decide +kernel
theorem dX4_ill_11 : decode cX4_ill 11 = .ok (.aload_n 0, 1) := by decide +kernel
theorem dX4_ill_12 : decode cX4_ill 12 = .ok (.getfield 19, 3) := by decide +kernel
theorem dX4_ill_15 : decode cX4_ill 15 = .ok (.iload_n 1, 1) := by decide +kernel
theorem dX4_ill_16 : decode cX4_ill 16 = .ok (.baload, 1) := by decide +kernel
theorem dX4_ill_17 : decode cX4_ill 17 = .ok (.istore_n 3, 1) := by decide +kernel
theorem dX4_ill_18 : decode cX4_ill 18 = .ok (.aload_n 0, 1) := by decide +kernel
theorem dX4_ill_19 : decode cX4_ill 19 = .ok (.getfield 19, 3) := by decide +kernel
theorem dX4_ill_22 : decode cX4_ill 22 = .ok (.iload_n 1, 1) := by decide +kernel
theorem dX4_ill_23 : decode cX4_ill 23 = .ok (.iload_n 2, 1) := by decide +kernel
theorem dX4_ill_24 : decode cX4_ill 24 = .ok (.bastore, 1) := by decide +kernel
theorem dX4_ill_25 : decode cX4_ill 25 = .ok (.iload_n 3, 1) := by decide +kernel
theorem dX4_ill_26 : decode cX4_ill 26 = .ok (.ifCond .eq 7, 3) := by decide +kernel
theorem dX4_ill_29 : decode cX4_ill 29 = .ok (.iconst 1, 1) := by decide +kernel
theorem dX4_ill_30 : decode cX4_ill 30 = .ok (.goto 4, 3) := by decide +kernel
theorem dX4_ill_33 : decode cX4_ill 33 = .ok (.iconst 0, 1) := by decide +kernel
theorem dX4_ill_34 : decode cX4_ill 34 = .ok (.ireturn, 1) := by decide +kernel
theorem dX4_session_0 : decode cX4_session 0 = .ok (.iload_n 1, 1) := by decide +kernel
theorem dX4_session_1 : decode cX4_session 1 = .ok (.invokestatic 77, 3) := by decide +kernel
theorem dX4_session_4 : decode cX4_session 4 = .ok (.ifCond .ne 6, 3) := by decide +kernel
theorem dX4_session_7 : decode cX4_session 7 = .ok (.bipush (-2), 2) := by decide +kernel
theorem dX4_session_9 : decode cX4_session 9 = .ok (.ireturn, 1) := by decide +kernel
theorem dX4_session_10 : decode cX4_session 10 = .ok (.iload_n 2, 1) := by decide +kernel
theorem dX4_session_11 : decode cX4_session 11 = .ok (.iconst 0, 1) := by decide +kernel
theorem dX4_session_12 : decode cX4_session 12 = .ok (.bipush 31, 2) := by decide +kernel
theorem dX4_session_14 : decode cX4_session 14 = .ok (.invokestatic 69, 3) := by decide +kernel
theorem dX4_session_17 : decode cX4_session 17 = .ok (.ifCond .eq 13, 3) := by decide +kernel
theorem dX4_session_20 : decode cX4_session 20 = .ok (.iload_n 3, 1) := by decide +kernel
theorem dX4_session_21 : decode cX4_session 21 = .ok (.iconst 0, 1) := by decide +kernel
theorem dX4_session_22 : decode cX4_session 22 = .ok (.bipush 31, 2) := by decide +kernel
theorem dX4_session_24 : decode cX4_session 24 = .ok (.invokestatic 69, 3) := by decide +kernel
theorem dX4_session_27 : decode cX4_session 27 = .ok (.ifCond .ne 6, 3) := by decide +kernel
theorem dX4_session_30 : decode cX4_session 30 = .ok (.bipush (-3), 2) := by decide +kernel
theorem dX4_session_32 : decode cX4_session 32 = .ok (.ireturn, 1) := by decide +kernel
theorem dX4_session_33 : decode cX4_session 33 = .ok (.aload_n 0, 1) := by decide +kernel
theorem dX4_session_34 : decode cX4_session 34 = .ok (.getfield 23, 3) := by decide +kernel
theorem dX4_session_37 : decode cX4_session 37 = .ok (.iload_n 1, 1) := by decide +kernel
theorem dX4_session_38 : decode cX4_session 38 = .ok (.iload_n 2, 1) := by decide +kernel
theorem dX4_session_39 : decode cX4_session 39 = .ok (.iastore, 1) := by decide +kernel
theorem dX4_session_40 : decode cX4_session 40 = .ok (.aload_n 0, 1) := by decide +kernel
theorem dX4_session_41 : decode cX4_session 41 = .ok (.getfield 26, 3) := by decide +kernel
theorem dX4_session_44 : decode cX4_session 44 = .ok (.iload_n 1, 1) := by decide +kernel
theorem dX4_session_45 : decode cX4_session 45 = .ok (.iload_n 3, 1) := by decide +kernel
theorem dX4_session_46 : decode cX4_session 46 = .ok (.iastore, 1) := by decide +kernel
theorem dX4_session_47 : decode cX4_session 47 = .ok (.iconst 1, 1) := by decide +kernel
theorem dX4_session_48 : decode cX4_session 48 = .ok (.ireturn, 1) := by decide +kernel
theorem dX4_seats_0 : decode cX4_seats 0 = .ok (.iload_n 1, 1) := by decide +kernel
theorem dX4_seats_1 : decode cX4_seats 1 = .ok (.iconst 1, 1) := by decide +kernel
theorem dX4_seats_2 : decode cX4_seats 2 = .ok (.iconst 2, 1) := by decide +kernel
theorem dX4_seats_3 : decode cX4_seats 3 = .ok (.invokestatic 69, 3) := by decide +kernel
theorem dX4_seats_6 : decode cX4_seats 6 = .ok (.ifCond .ne 6, 3) := by decide +kernel
theorem dX4_seats_9 : decode cX4_seats 9 = .ok (.bipush (-3), 2) := by decide +kernel
theorem dX4_seats_11 : decode cX4_seats 11 = .ok (.ireturn, 1) := by decide +kernel
theorem dX4_seats_12 : decode cX4_seats 12 = .ok (.aload_n 0, 1) := by decide +kernel
theorem dX4_seats_13 : decode cX4_seats 13 = .ok (.getfield 29, 3) := by decide +kernel
theorem dX4_seats_16 : decode cX4_seats 16 = .ok (.istore_n 2, 1) := by decide +kernel
theorem dX4_seats_17 : decode cX4_seats 17 = .ok (.aload_n 0, 1) := by decide +kernel
theorem dX4_seats_18 : decode cX4_seats 18 = .ok (.iload_n 1, 1) := by decide +kernel
theorem dX4_seats_19 : decode cX4_seats 19 = .ok (.putfield 29, 3) := by decide +kernel
theorem dX4_seats_22 : decode cX4_seats 22 = .ok (.iload_n 2, 1) := by decide +kernel
theorem dX4_seats_23 : decode cX4_seats 23 = .ok (.ireturn, 1) := by decide +kernel
theorem dX4_isTeam_0 : decode cX4_isTeam 0 = .ok (.iconst 1, 1) := by decide +kernel
theorem dX4_isTeam_1 : decode cX4_isTeam 1 = .ok (.istore_n 2, 1) := by decide +kernel
theorem dX4_isTeam_2 : decode cX4_isTeam 2 = .ok (.iconst 0, 1) := by decide +kernel
theorem dX4_isTeam_3 : decode cX4_isTeam 3 = .ok (.istore_n 3, 1) := by decide +kernel
theorem dX4_isTeam_4 : decode cX4_isTeam 4 = .ok (.iload_n 3, 1) := by decide +kernel
theorem dX4_isTeam_5 : decode cX4_isTeam 5 = .ok (.aload_n 0, 1) := by decide +kernel
theorem dX4_isTeam_6 : decode cX4_isTeam 6 = .ok (.getfield 66, 3) := by decide +kernel
theorem dX4_isTeam_9 : decode cX4_isTeam 9 = .ok (.if_icmp .ge 74, 3) := by decide +kernel
theorem dX4_isTeam_12 : decode cX4_isTeam 12 = .ok (.iload_n 2, 1) := by decide +kernel
theorem dX4_isTeam_13 : decode cX4_isTeam 13 = .ok (.ifCond .eq 70, 3) := by decide +kernel
theorem dX4_isTeam_16 : decode cX4_isTeam 16 = .ok (.aload_n 0, 1) := by decide +kernel
theorem dX4_isTeam_17 : decode cX4_isTeam 17 = .ok (.getfield 45, 3) := by decide +kernel
theorem dX4_isTeam_20 : decode cX4_isTeam 20 = .ok (.iload_n 3, 1) := by decide +kernel
theorem dX4_isTeam_21 : decode cX4_isTeam 21 = .ok (.iaload, 1) := by decide +kernel
theorem dX4_isTeam_22 : decode cX4_isTeam 22 = .ok (.iconst 5, 1) := by decide +kernel
theorem dX4_isTeam_23 : decode cX4_isTeam 23 = .ok (.if_icmp .eq 48, 3) := by decide +kernel
theorem dX4_isTeam_26 : decode cX4_isTeam 26 = .ok (.aload_n 0, 1) := by decide +kernel
theorem dX4_isTeam_27 : decode cX4_isTeam 27 = .ok (.getfield 26, 3) := by decide +kernel
theorem dX4_isTeam_30 : decode cX4_isTeam 30 = .ok (.iload_n 1, 1) := by decide +kernel
theorem dX4_isTeam_31 : decode cX4_isTeam 31 = .ok (.iaload, 1) := by decide +kernel
theorem dX4_isTeam_32 : decode cX4_isTeam 32 = .ok (.aload_n 0, 1) := by decide +kernel
theorem dX4_isTeam_33 : decode cX4_isTeam 33 = .ok (.getfield 45, 3) := by decide +kernel
theorem dX4_isTeam_36 : decode cX4_isTeam 36 = .ok (.iload_n 3, 1) := by decide +kernel
