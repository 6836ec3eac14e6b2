theorem dX0_init_0 : decode cX0_init 0 = .ok (.aload_n 0, 1) := by decide +kernel
theorem dX0_init_1 : decode cX0_init 1 = .ok (.invokespecial 3, 3) := by decide +kernel
theorem dX0_init_4 : decode cX0_init 4 = .ok (.aload_n 0, 1) := by decide +kernel
theorem dX0_init_5 : decode cX0_init 5 = .ok (.iconst 1, 1) := by decide +kernel
theorem dX0_init_6 : decode cX0_init 6 = .ok (.putfield 9, 3) := by decide +kernel
theorem dX0_init_9 : decode cX0_init 9 = .ok (.aload_n 0, 1) := by decide +kernel
theorem dX0_init_10 : decode cX0_init 10 = .ok (.iconst 1, 1) := by decide +kernel
theorem dX0_init_11 : decode cX0_init 11 = .ok (.putfield 15, 3) := by decide +kernel
theorem dX0_init_14 : decode cX0_init 14 = .ok (.aload_n 0, 1) := by decide +kernel
theorem dX0_init_15 : decode cX0_init 15 = .ok (.iconst (-1), 1) := by decide +kernel
theorem dX0_init_16 : decode cX0_init 16 = .ok (.putfield 18, 3) := by decide +kernel
theorem dX0_init_19 : decode cX0_init 19 = .ok (.aload_n 0, 1) := by decide +kernel
theorem dX0_init_20 : decode cX0_init 20 = .ok (.iconst 4, 1) := by decide +kernel
theorem dX0_init_21 : decode cX0_init 21 = .ok (.newarray .int, 2) := by decide +kernel
theorem dX0_init_23 : decode cX0_init 23 = .ok (.putfield 22, 3) := by decide +kernel
theorem dX0_init_26 : decode cX0_init 26 = .ok (.aload_n 0, 1) := by decide +kernel
theorem dX0_init_27 : decode cX0_init 27 = .ok (.bipush 40, 2) := by decide +kernel
theorem dX0_init_29 : decode cX0_init 29 = .ok (.newarray .int, 2) := by decide +kernel
theorem dX0_init_31 : decode cX0_init 31 = .ok (.putfield 26, 3) := by decide +kernel
theorem dX0_init_34 : decode cX0_init 34 = .ok (.return_, 1) := by decide +kernel
theorem dX0_allScrip_0 : decode cX0_allScrip 0 = .ok (.iconst 0, 1) := by decide +kernel
theorem dX0_allScrip_1 : decode cX0_allScrip 1 = .ok (.istore_n 1, 1) := by decide +kernel
theorem dX0_allScrip_2 : decode cX0_allScrip 2 = .ok (.iconst 0, 1) := by decide +kernel
theorem dX0_allScrip_3 : decode cX0_allScrip 3 = .ok (.istore_n 2, 1) := by decide +kernel
theorem dX0_allScrip_4 : decode cX0_allScrip 4 = .ok (.iload_n 2, 1) := by decide +kernel
theorem dX0_allScrip_5 : decode cX0_allScrip 5 = .ok (.aload_n 0, 1) := by decide +kernel
theorem dX0_allScrip_6 : decode cX0_allScrip 6 = .ok (.getfield 26, 3) := by decide +kernel
theorem dX0_allScrip_9 : decode cX0_allScrip 9 = .ok (.arraylength, 1) := by decide +kernel
theorem dX0_allScrip_10 : decode cX0_allScrip 10 = .ok (.if_icmp .ge 18, 3) := by decide +kernel
theorem dX0_allScrip_13 : decode cX0_allScrip 13 = .ok (.iload_n 1, 1) := by decide +kernel
theorem dX0_allScrip_14 : decode cX0_allScrip 14 = .ok (.aload_n 0, 1) := by decide +kernel
theorem dX0_allScrip_15 : decode cX0_allScrip 15 = .ok (.getfield 26, 3) := by decide +kernel
theorem dX0_allScrip_18 : decode cX0_allScrip 18 = .ok (.iload_n 2, 1) := by decide +kernel
theorem dX0_allScrip_19 : decode cX0_allScrip 19 = .ok (.iaload, 1) := by decide +kernel
theorem dX0_allScrip_20 : decode cX0_allScrip 20 = .ok (.iadd, 1) := by decide +kernel
theorem dX0_allScrip_21 : decode cX0_allScrip 21 = .ok (.istore_n 1, 1) := by decide +kernel
theorem dX0_allScrip_22 : decode cX0_allScrip 22 = .ok (.iinc 2 1, 3) := by decide +kernel
theorem dX0_allScrip_25 : decode cX0_allScrip 25 = .ok (.goto (-21), 3) := by decide +kernel
theorem dX0_allScrip_28 : decode cX0_allScrip 28 = .ok (.iload_n 1, 1) := by decide +kernel
theorem dX0_allScrip_29 : decode cX0_allScrip 29 = .ok (.ireturn, 1) := by decide +kernel
theorem dX0_means_0 : decode cX0_means 0 = .ok (.aload_n 0, 1) := by decide +kernel
theorem dX0_means_1 : decode cX0_means 1 = .ok (.getfield 29, 3) := by decide +kernel
theorem dX0_means_4 : decode cX0_means 4 = .ok (.aload_n 0, 1) := by decide +kernel
theorem dX0_means_5 : decode cX0_means 5 = .ok (.invokevirtual 32, 3) := by decide +kernel
theorem dX0_means_8 : decode cX0_means 8 = .ok (.iadd, 1) := by decide +kernel
theorem dX0_means_9 : decode cX0_means 9 = .ok (.ireturn, 1) := by decide +kernel
theorem dX0_gainScrip_0 : decode cX0_gainScrip 0 = .ok (.aload_n 0, 1) := by decide +kernel
theorem dX0_gainScrip_1 : decode cX0_gainScrip 1 = .ok (.getfield 26, 3) := by decide +kernel
theorem dX0_gainScrip_4 : decode cX0_gainScrip 4 = .ok (.iload_n 1, 1) := by decide +kernel
theorem dX0_gainScrip_5 : decode cX0_gainScrip 5 = .ok (.dup2, 1) := by decide +kernel
theorem dX0_gainScrip_6 : decode cX0_gainScrip 6 = .ok (.iaload, 1) := by decide +kernel
theorem dX0_gainScrip_7 : decode cX0_gainScrip 7 = .ok (.iload_n 2, 1) := by decide +kernel
theorem dX0_gainScrip_8 : decode cX0_gainScrip 8 = .ok (.iadd, 1) := by decide +kernel
theorem dX0_gainScrip_9 : decode cX0_gainScrip 9 = .ok (.iastore, 1) := by decide +kernel
theorem dX0_gainScrip_10 : decode cX0_gainScrip 10 = .ok (.aload_n 0, 1) := by decide +kernel
theorem dX0_gainScrip_11 : decode cX0_gainScrip 11 = .ok (.dup, 1) := by decide +kernel
theorem dX0_gainScrip_12 : decode cX0_gainScrip 12 = .ok (.getfield 36, 3) := by decide +kernel
theorem dX0_gainScrip_15 : decode cX0_gainScrip 15 = .ok (.iload_n 2, 1) := by decide +kernel
theorem dX0_gainScrip_16 : decode cX0_gainScrip 16 = .ok (.iadd, 1) := by decide +kernel
theorem dX0_gainScrip_17 : decode cX0_gainScrip 17 = .ok (.putfield 36, 3) := by decide +kernel
theorem dX0_gainScrip_20 : decode cX0_gainScrip 20 = .ok (.return_, 1) := by decide +kernel
theorem dX0_loseScrip_0 : decode cX0_loseScrip 0 = .ok (.aload_n 0, 1) := by decide +kernel
theorem dX0_loseScrip_1 : decode cX0_loseScrip 1 = .ok (.getfield 26, 3) := by decide +kernel
theorem dX0_loseScrip_4 : decode cX0_loseScrip 4 = .ok (.iload_n 1, 1) := by decide +kernel
theorem dX0_loseScrip_5 : decode cX0_loseScrip 5 = .ok (.iaload, 1) := by decide +kernel
theorem dX0_loseScrip_6 : decode cX0_loseScrip 6 = .ok (.iload_n 2, 1) := by decide +kernel
theorem dX0_loseScrip_7 : decode cX0_loseScrip 7 = .ok (.invokestatic 39, 3) := by decide +kernel
theorem dX0_loseScrip_10 : decode cX0_loseScrip 10 = .ok (.istore_n 3, 1) := by decide +kernel
theorem dX0_loseScrip_11 : decode cX0_loseScrip 11 = .ok (.aload_n 0, 1) := by decide +kernel
theorem dX0_loseScrip_12 : decode cX0_loseScrip 12 = .ok (.getfield 26, 3) := by decide +kernel
theorem dX0_loseScrip_15 : decode cX0_loseScrip 15 = .ok (.iload_n 1, 1) := by decide +kernel
theorem dX0_loseScrip_16 : decode cX0_loseScrip 16 = .ok (.dup2, 1) := by decide +kernel
theorem dX0_loseScrip_17 : decode cX0_loseScrip 17 = .ok (.iaload, 1) := by decide +kernel
theorem dX0_loseScrip_18 : decode cX0_loseScrip 18 = .ok (.iload_n 3, 1) := by decide +kernel
theorem dX0_loseScrip_19 : decode cX0_loseScrip 19 = .ok (.isub, 1) := by decide +kernel
theorem dX0_loseScrip_20 : decode cX0_loseScrip 20 = .ok (.iastore, 1) := by decide +kernel
theorem dX0_loseScrip_21 : decode cX0_loseScrip 21 = .ok (.aload_n 0, 1) := by decide +kernel
theorem dX0_loseScrip_22 : decode cX0_loseScrip 22 = .ok (.dup, 1) := by decide +kernel
theorem dX0_loseScrip_23 : decode cX0_loseScrip 23 = .ok (.getfield 45, 3) := by decide +kernel
theorem dX0_loseScrip_26 : decode cX0_loseScrip 26 = .ok (.iload_n 3, 1) := by decide +kernel
theorem dX0_loseScrip_27 : decode cX0_loseScrip 27 = .ok (.iadd, 1) := by decide +kernel
theorem dX0_loseScrip_28 : decode cX0_loseScrip 28 = .ok (.putfield 45, 3) := by decide +kernel
theorem dX0_loseScrip_31 : decode cX0_loseScrip 31 = .ok (.iload_n 3, 1) := by decide +kernel
theorem dX0_loseScrip_32 : decode cX0_loseScrip 32 = .ok (.ireturn, 1) := by decide +kernel
theorem dX0_loseLowestScrip_0 : decode cX0_loseLowestScrip 0 = .ok (.iconst 0, 1) := by decide +kernel
theorem dX0_loseLowestScrip_1 : decode cX0_loseLowestScrip 1 = .ok (.istore_n 2, 1) := by decide +kernel
theorem dX0_loseLowestScrip_2 : decode cX0_loseLowestScrip 2 = .ok (.iconst 0, 1) := by decide +kernel
theorem dX0_loseLowestScrip_3 : decode cX0_loseLowestScrip 3 = .ok (.istore_n 3, 1) := by decide +kernel
theorem dX0_loseLowestScrip_4 : decode cX0_loseLowestScrip 4 = .ok (.iload_n 3, 1) := by decide +kernel
theorem dX0_loseLowestScrip_5 : decode cX0_loseLowestScrip 5 = .ok (.aload_n 0, 1) := by decide +kernel
theorem dX0_loseLowestScrip_6 : decode cX0_loseLowestScrip 6 = .ok (.getfield 26, 3) := by decide +kernel
theorem dX0_loseLowestScrip_9 : decode cX0_loseLowestScrip 9 = .ok (.arraylength, 1) := by decide +kernel
theorem dX0_loseLowestScrip_10 : decode cX0_loseLowestScrip 10 = .ok (.if_icmp .ge 20, 3) := by decide +kernel
theorem dX0_loseLowestScrip_13 : decode cX0_loseLowestScrip 13 = .ok (.iload_n 2, 1) := by decide +kernel
theorem dX0_loseLowestScrip_14 : decode cX0_loseLowestScrip 14 = .ok (.aload_n 0, 1) := by decide +kernel
theorem dX0_loseLowestScrip_15 : decode cX0_loseLowestScrip 15 = .ok (.iload_n 3, 1) := by decide +kernel
theorem dX0_loseLowestScrip_16 : decode cX0_loseLowestScrip 16 = .ok (.iload_n 1, 1) := by decide +kernel
theorem dX0_loseLowestScrip_17 : decode cX0_loseLowestScrip 17 = .ok (.iload_n 2, 1) := by decide +kernel
theorem dX0_loseLowestScrip_18 : decode cX0_loseLowestScrip 18 = .ok (.isub, 1) := by decide +kernel
theorem dX0_loseLowestScrip_19 : decode cX0_loseLowestScrip 19 = .ok (.invokevirtual 48, 3) := by decide +kernel
theorem dX0_loseLowestScrip_22 : decode cX0_loseLowestScrip 22 = .ok (.iadd, 1) := by decide +kernel
theorem dX0_loseLowestScrip_23 : decode cX0_loseLowestScrip 23 = .ok (.istore_n 2, 1) := by decide +kernel
theorem dX0_loseLowestScrip_24 : decode cX0_loseLowestScrip 24 = .ok (.iinc 3 1, 3) := by decide +kernel
theorem dX0_loseLowestScrip_27 : decode cX0_loseLowestScrip 27 = .ok (.goto (-23), 3) := by decide +kernel
theorem dX0_loseLowestScrip_30 : decode cX0_loseLowestScrip 30 = .ok (.iload_n 2, 1) := by decide +kernel
theorem dX0_loseLowestScrip_31 : decode cX0_loseLowestScrip 31 = .ok (.ireturn, 1) := by decide +kernel
theorem dX0_inherit_0 : decode cX0_inherit 0 = .ok (.aload_n 0, 1) := by decide +kernel
theorem dX0_inherit_1 : decode cX0_inherit 1 = .ok (.dup, 1) := by decide +kernel
theorem dX0_inherit_2 : decode cX0_inherit 2 = .ok (.getfield 29, 3) := by decide +kernel
theorem dX0_inherit_5 : decode cX0_inherit 5 = .ok (.aload_n 1, 1) := by decide +kernel
theorem dX0_inherit_6 : decode cX0_inherit 6 = .ok (.getfield 29, 3) := by decide +kernel
theorem dX0_inherit_9 : decode cX0_inherit 9 = .ok (.iadd, 1) := by decide +kernel
theorem dX0_inherit_10 : decode cX0_inherit 10 = .ok (.putfield 29, 3) := by decide +kernel
theorem dX0_inherit_13 : decode cX0_inherit 13 = .ok (.iconst 0, 1) := by decide +kernel
theorem dX0_inherit_14 : decode cX0_inherit 14 = .ok (.istore_n 3, 1) := by decide +kernel
theorem dX0_inherit_15 : decode cX0_inherit 15 = .ok (.iload_n 3, 1) := by decide +kernel
theorem dX0_inherit_16 : decode cX0_inherit 16 = .ok (.aload_n 0, 1) := by decide +kernel
theorem dX0_inherit_17 : decode cX0_inherit 17 = .ok (.getfield 26, 3) := by decide +kernel
theorem dX0_inherit_20 : decode cX0_inherit 20 = .ok (.arraylength, 1) := by decide +kernel
theorem dX0_inherit_21 : decode cX0_inherit 21 = .ok (.if_icmp .ge 20, 3) := by decide +kernel
theorem dX0_inherit_24 : decode cX0_inherit 24 = .ok (.aload_n 0, 1) := by decide +kernel
theorem dX0_inherit_25 : decode cX0_inherit 25 = .ok (.iload_n 3, 1) := by decide +kernel
theorem dX0_inherit_26 : decode cX0_inherit 26 = .ok (.aload_n 1, 1) := by decide +kernel
theorem dX0_inherit_27 : decode cX0_inherit 27 = .ok (.getfield 26, 3) := by decide +kernel
theorem dX0_inherit_30 : decode cX0_inherit 30 = .ok (.iload_n 3, 1) := by decide +kernel
theorem dX0_inherit_31 : decode cX0_inherit 31 = .ok (.iaload, 1) := by decide +kernel
theorem dX0_inherit_32 : decode cX0_inherit 32 = .ok (.invokevirtual 51, 3) := by decide +kernel
theorem dX0_inherit_35 : decode cX0_inherit 35 = .ok (.iinc 3 1, 3) := by decide +kernel
theorem dX0_inherit_38 : decode cX0_inherit 38 = .ok (.goto (-23), 3) := by decide +kernel
theorem dX0_inherit_41 : decode cX0_inherit 41 = .ok (.iconst 0, 1) := by decide +kernel
theorem dX0_inherit_42 : decode cX0_inherit 42 = .ok (.istore_n 3, 1) := by decide +kernel
theorem dX0_inherit_43 : decode cX0_inherit 43 = .ok (.iload_n 3, 1) := by decide +kernel
theorem dX0_inherit_44 : decode cX0_inherit 44 = .ok (.aload_n 0, 1) := by decide +kernel
theorem dX0_inherit_45 : decode cX0_inherit 45 = .ok (.getfield 22, 3) := by decide +kernel
theorem dX0_inherit_48 : decode cX0_inherit 48 = .ok (.arraylength, 1) := by decide +kernel
theorem dX0_inherit_49 : decode cX0_inherit 49 = .ok (.if_icmp .ge 24, 3) := by decide +kernel
theorem dX0_inherit_52 : decode cX0_inherit 52 = .ok (.aload_n 0, 1) := by decide +kernel
theorem dX0_inherit_53 : decode cX0_inherit 53 = .ok (.getfield 22, 3) := by decide +kernel
theorem dX0_inherit_56 : decode cX0_inherit 56 = .ok (.iload_n 3, 1) := by decide +kernel
theorem dX0_inherit_57 : decode cX0_inherit 57 = .ok (.dup2, 1) := by decide +kernel
theorem dX0_inherit_58 : decode cX0_inherit 58 = .ok (.iaload, 1) := by decide +kernel
theorem dX0_inherit_59 : decode cX0_inherit 59 = .ok (.aload_n 1, 1) := by decide +kernel
theorem dX0_inherit_60 : decode cX0_inherit 60 = .ok (.getfield 22, 3) := by decide +kernel
theorem dX0_inherit_63 : decode cX0_inherit 63 = .ok (.iload_n 3, 1) := by decide +kernel
theorem dX0_inherit_64 : decode cX0_inherit 64 = .ok (.iaload, 1) := by decide +kernel
theorem dX0_inherit_65 : decode cX0_inherit 65 = .ok (.iadd, 1) := by decide +kernel
theorem dX0_inherit_66 : decode cX0_inherit 66 = .ok (.iastore, 1) := by decide +kernel
theorem dX0_inherit_67 : decode cX0_inherit 67 = .ok (.iinc 3 1, 3) := by decide +kernel
theorem dX0_inherit_70 : decode cX0_inherit 70 = .ok (.goto (-27), 3) := by decide +kernel
theorem dX0_inherit_73 : decode cX0_inherit 73 = .ok (.iload_n 2, 1) := by decide +kernel
theorem dX0_inherit_74 : decode cX0_inherit 74 = .ok (.ifCond .eq 29, 3) := by decide +kernel
theorem dX0_inherit_77 : decode cX0_inherit 77 = .ok (.aload_n 0, 1) := by decide +kernel
theorem dX0_inherit_78 : decode cX0_inherit 78 = .ok (.dup, 1) := by decide +kernel
theorem dX0_inherit_79 : decode cX0_inherit 79 = .ok (.getfield 55, 3) := by decide +kernel
theorem dX0_inherit_82 : decode cX0_inherit 82 = .ok (.aload_n 1, 1) := by decide +kernel
theorem dX0_inherit_83 : decode cX0_inherit 83 = .ok (.getfield 55, 3) := by decide +kernel
theorem dX0_inherit_86 : decode cX0_inherit 86 = .ok (.iadd, 1) := by decide +kernel
theorem dX0_inherit_87 : decode cX0_inherit 87 = .ok (.putfield 55, 3) := by decide +kernel
theorem dX0_inherit_90 : decode cX0_inherit 90 = .ok (.aload_n 0, 1) := by decide +kernel
theorem dX0_inherit_91 : decode cX0_inherit 91 = .ok (.dup, 1) := by decide +kernel
theorem dX0_inherit_92 : decode cX0_inherit 92 = .ok (.getfield 58, 3) := by decide +kernel
theorem dX0_inherit_95 : decode cX0_inherit 95 = .ok (.aload_n 1, 1) := by decide +kernel
theorem dX0_inherit_96 : decode cX0_inherit 96 = .ok (.getfield 58, 3) := by decide +kernel
theorem dX0_inherit_99 : decode cX0_inherit 99 = .ok (.iadd, 1) := by decide +kernel
theorem dX0_inherit_100 : decode cX0_inherit 100 = .ok (.putfield 58, 3) := by decide +kernel
theorem dX0_inherit_103 : decode cX0_inherit 103 = .ok (.return_, 1) := by decide +kernel
theorem dX0_leaveAll_0 : decode cX0_leaveAll 0 = .ok (.aload_n 0, 1) := by decide +kernel
theorem dX0_leaveAll_1 : decode cX0_leaveAll 1 = .ok (.iconst 0, 1) := by decide +kernel
theorem dX0_leaveAll_2 : decode cX0_leaveAll 2 = .ok (.putfield 15, 3) := by decide +kernel
theorem dX0_leaveAll_5 : decode cX0_leaveAll 5 = .ok (.aload_n 0, 1) := by decide +kernel
theorem dX0_leaveAll_6 : decode cX0_leaveAll 6 = .ok (.iconst 0, 1) := by decide +kernel
theorem dX0_leaveAll_7 : decode cX0_leaveAll 7 = .ok (.putfield 61, 3) := by decide +kernel
theorem dX0_leaveAll_10 : decode cX0_leaveAll 10 = .ok (.aload_n 0, 1) := by decide +kernel
theorem dX0_leaveAll_11 : decode cX0_leaveAll 11 = .ok (.iconst 0, 1) := by decide +kernel
theorem dX0_leaveAll_12 : decode cX0_leaveAll 12 = .ok (.putfield 29, 3) := by decide +kernel
theorem dX0_leaveAll_15 : decode cX0_leaveAll 15 = .ok (.aload_n 0, 1) := by decide +kernel
theorem dX0_leaveAll_16 : decode cX0_leaveAll 16 = .ok (.iconst 0, 1) := by decide +kernel
theorem dX0_leaveAll_17 : decode cX0_leaveAll 17 = .ok (.putfield 55, 3) := by decide +kernel
theorem dX0_leaveAll_20 : decode cX0_leaveAll 20 = .ok (.aload_n 0, 1) := by decide +kernel
theorem dX0_leaveAll_21 : decode cX0_leaveAll 21 = .ok (.iconst 0, 1) := by decide +kernel
theorem dX0_leaveAll_22 : decode cX0_leaveAll 22 = .ok (.putfield 58, 3) := by decide +kernel
theorem dX0_leaveAll_25 : decode cX0_leaveAll 25 = .ok (.aload_n 0, 1) := by decide +kernel
theorem dX0_leaveAll_26 : decode cX0_leaveAll 26 = .ok (.aload_n 0, 1) := by decide +kernel
theorem dX0_leaveAll_27 : decode cX0_leaveAll 27 = .ok (.invokevirtual 32, 3) := by decide +kernel
theorem dX0_leaveAll_30 : decode cX0_leaveAll 30 = .ok (.invokevirtual 64, 3) := by decide +kernel
theorem dX0_leaveAll_33 : decode cX0_leaveAll 33 = .ok (.pop, 1) := by decide +kernel
theorem dX0_leaveAll_34 : decode cX0_leaveAll 34 = .ok (.iconst 0, 1) := by decide +kernel
theorem dX0_leaveAll_35 : decode cX0_leaveAll 35 = .ok (.istore_n 1, 1) := by decide +kernel
theorem dX0_leaveAll_36 : decode cX0_leaveAll 36 = .ok (.iload_n 1, 1) := by decide +kernel
theorem dX0_leaveAll_37 : decode cX0_leaveAll 37 = .ok (.aload_n 0, 1) := by decide +kernel
theorem dX0_leaveAll_38 : decode cX0_leaveAll 38 = .ok (.getfield 22, 3) := by decide +kernel
theorem dX0_leaveAll_41 : decode cX0_leaveAll 41 = .ok (.arraylength, 1) := by decide +kernel
theorem dX0_leaveAll_42 : decode cX0_leaveAll 42 = .ok (.if_icmp .ge 16, 3) := by decide +kernel
theorem dX0_leaveAll_45 : decode cX0_leaveAll 45 = .ok (.aload_n 0, 1) := by decide +kernel
theorem dX0_leaveAll_46 : decode cX0_leaveAll 46 = .ok (.getfield 22, 3) := by decide +kernel
theorem dX0_leaveAll_49 : decode cX0_leaveAll 49 = .ok (.iload_n 1, 1) := by decide +kernel
theorem dX0_leaveAll_50 : decode cX0_leaveAll 50 = .ok (.iconst 0, 1) := by decide +kernel
theorem dX0_leaveAll_51 : decode cX0_leaveAll 51 = .ok (.iastore, 1) := by decide +kernel
theorem dX0_leaveAll_52 : decode cX0_leaveAll 52 = .ok (.iinc 1 1, 3) := by decide +kernel
theorem dX0_leaveAll_55 : decode cX0_leaveAll 55 = .ok (.goto (-19), 3) := by decide +kernel
theorem dX0_leaveAll_58 : decode cX0_leaveAll 58 = .ok (.return_, 1) := by decide +kernel
theorem dX1_init_0 : decode cX1_init 0 = .ok (.aload_n 0, 1) := by decide +kernel
theorem dX1_init_1 : decode cX1_init 1 = .ok (.invokespecial 3, 3) := by decide +kernel
theorem dX1_init_4 : decode cX1_init 4 = .ok (.return_, 1) := by decide +kernel
theorem dX1_open_0 : decode cX1_open 0 = .ok (.aload_n 0, 1) := by decide +kernel
theorem dX1_open_1 : decode cX1_open 1 = .ok (.iload_n 1, 1) := by decide +kernel
theorem dX1_open_2 : decode cX1_open 2 = .ok (.putfield 9, 3) := by decide +kernel
theorem dX1_open_5 : decode cX1_open 5 = .ok (.aload_n 0, 1) := by decide +kernel
theorem dX1_open_6 : decode cX1_open 6 = .ok (.iconst 0, 1) := by decide +kernel
theorem dX1_open_7 : decode cX1_open 7 = .ok (.putfield 15, 3) := by decide +kernel
theorem dX1_open_10 : decode cX1_open 10 = .ok (.aload_n 0, 1) := by decide +kernel
theorem dX1_open_11 : decode cX1_open 11 = .ok (.iconst 0, 1) := by decide +kernel
theorem dX1_open_12 : decode cX1_open 12 = .ok (.putfield 18, 3) := by decide +kernel
theorem dX1_open_15 : decode cX1_open 15 = .ok (.aload_n 0, 1) := by decide +kernel
theorem dX1_open_16 : decode cX1_open 16 = .ok (.iconst 0, 1) := by decide +kernel
theorem dX1_open_17 : decode cX1_open 17 = .ok (.putfield 21, 3) := by decide +kernel
theorem dX1_open_20 : decode cX1_open 20 = .ok (.return_, 1) := by decide +kernel
theorem dX1_take_0 : decode cX1_take 0 = .ok (.iload_n 2, 1) := by decide +kernel
theorem dX1_take_1 : decode cX1_take 1 = .ok (.aload_n 0, 1) := by decide +kernel
theorem dX1_take_2 : decode cX1_take 2 = .ok (.getfield 9, 3) := by decide +kernel
theorem dX1_take_5 : decode cX1_take 5 = .ok (.invokestatic 24, 3) := by decide +kernel
theorem dX1_take_8 : decode cX1_take 8 = .ok (.istore_n 3, 1) := by decide +kernel
theorem dX1_take_9 : decode cX1_take 9 = .ok (.aload_n 0, 1) := by decide +kernel
theorem dX1_take_10 : decode cX1_take 10 = .ok (.dup, 1) := by decide +kernel
theorem dX1_take_11 : decode cX1_take 11 = .ok (.getfield 9, 3) := by decide +kernel
theorem dX1_take_14 : decode cX1_take 14 = .ok (.iload_n 3, 1) := by decide +kernel
theorem dX1_take_15 : decode cX1_take 15 = .ok (.isub, 1) := by decide +kernel
theorem dX1_take_16 : decode cX1_take 16 = .ok (.putfield 9, 3) := by decide +kernel
theorem dX1_take_19 : decode cX1_take 19 = .ok (.iload_n 1, 1) := by decide +kernel
theorem dX1_take_20 : decode cX1_take 20 = .ok (.iconst 1, 1) := by decide +kernel
theorem dX1_take_21 : decode cX1_take 21 = .ok (.if_icmp .ne 8, 3) := by decide +kernel
theorem dX1_take_24 : decode cX1_take 24 = .ok (.aload_n 0, 1) := by decide +kernel
theorem dX1_take_25 : decode cX1_take 25 = .ok (.iload_n 3, 1) := by decide +kernel
theorem dX1_take_26 : decode cX1_take 26 = .ok (.putfield 15, 3) := by decide +kernel
theorem dX1_take_29 : decode cX1_take 29 = .ok (.iload_n 1, 1) := by decide +kernel
theorem dX1_take_30 : decode cX1_take 30 = .ok (.iconst 5, 1) := by decide +kernel
theorem dX1_take_31 : decode cX1_take 31 = .ok (.if_icmp .ne 8, 3) := by decide +kernel
theorem dX1_take_34 : decode cX1_take 34 = .ok (.aload_n 0, 1) := by decide +kernel
theorem dX1_take_35 : decode cX1_take 35 = .ok (.iload_n 3, 1) := by decide +kernel
theorem dX1_take_36 : decode cX1_take 36 = .ok (.putfield 18, 3) := by decide +kernel
theorem dX1_take_39 : decode cX1_take 39 = .ok (.iload_n 1, 1) := by decide +kernel
theorem dX1_take_40 : decode cX1_take 40 = .ok (.iconst 3, 1) := by decide +kernel
theorem dX1_take_41 : decode cX1_take 41 = .ok (.if_icmp .lt 13, 3) := by decide +kernel
theorem dX1_take_44 : decode cX1_take 44 = .ok (.aload_n 0, 1) := by decide +kernel
theorem dX1_take_45 : decode cX1_take 45 = .ok (.dup, 1) := by decide +kernel
theorem dX1_take_46 : decode cX1_take 46 = .ok (.getfield 21, 3) := by decide +kernel
theorem dX1_take_49 : decode cX1_take 49 = .ok (.iload_n 3, 1) := by decide +kernel
theorem dX1_take_50 : decode cX1_take 50 = .ok (.iadd, 1) := by decide +kernel
theorem dX1_take_51 : decode cX1_take 51 = .ok (.putfield 21, 3) := by decide +kernel
theorem dX1_take_54 : decode cX1_take 54 = .ok (.return_, 1) := by decide +kernel
theorem dJ9_max_7cf53_0 : decode cJ9_max_7cf53 0 = .ok (.iload_n 0, 1) := by decide +kernel
theorem dJ9_max_7cf53_1 : decode cJ9_max_7cf53 1 = .ok (.iload_n 1, 1) := by decide +kernel
theorem dJ9_max_7cf53_2 : decode cJ9_max_7cf53 2 = .ok (.if_icmp .lt 7, 3) := by decide +kernel
theorem dJ9_max_7cf53_5 : decode cJ9_max_7cf53 5 = .ok (.iload_n 0, 1) := by decide +kernel
theorem dJ9_max_7cf53_6 : decode cJ9_max_7cf53 6 = .ok (.goto 4, 3) := by decide +kernel
theorem dJ9_max_7cf53_9 : decode cJ9_max_7cf53 9 = .ok (.iload_n 1, 1) := by decide +kernel
theorem dJ9_max_7cf53_10 : decode cJ9_max_7cf53 10 = .ok (.ireturn, 1) := by decide +kernel
theorem dJ9_min_7cf53_0 : decode cJ9_min_7cf53 0 = .ok (.iload_n 0, 1) := by decide +kernel
theorem dJ9_min_7cf53_1 : decode cJ9_min_7cf53 1 = .ok (.iload_n 1, 1) := by decide +kernel
theorem dJ9_min_7cf53_2 : decode cJ9_min_7cf53 2 = .ok (.if_icmp .gt 7, 3) := by decide +kernel
theorem dJ9_min_7cf53_5 : decode cJ9_min_7cf53 5 = .ok (.iload_n 0, 1) := by decide +kernel
theorem dJ9_min_7cf53_6 : decode cJ9_min_7cf53 6 = .ok (.goto 4, 3) := by decide +kernel
theorem dJ9_min_7cf53_9 : decode cJ9_min_7cf53 9 = .ok (.iload_n 1, 1) := by decide +kernel
theorem dJ9_min_7cf53_10 : decode cJ9_min_7cf53 10 = .ok (.ireturn, 1) := by decide +kernel
theorem dJxa1e45_init_da8c8_0 : decode cJxa1e45_init_da8c8 0 = .ok (.aload_n 0, 1) := by decide +kernel
theorem dJxa1e45_init_da8c8_1 : decode cJxa1e45_init_da8c8 1 = .ok (.invokespecial 1, 3) := by decide +kernel
theorem dJxa1e45_init_da8c8_4 : decode cJxa1e45_init_da8c8 4 = .ok (.return_, 1) := by decide +kernel
theorem dJxc12de_init_da8c8_0 : decode cJxc12de_init_da8c8 0 = .ok (.aload_n 0, 1) := by decide +kernel
theorem dJxc12de_init_da8c8_1 : decode cJxc12de_init_da8c8 1 = .ok (.invokespecial 1, 3) := by decide +kernel
theorem dJxc12de_init_da8c8_4 : decode cJxc12de_init_da8c8 4 = .ok (.aload_n 0, 1) := by decide +kernel
theorem dJxc12de_init_da8c8_5 : decode cJxc12de_init_da8c8 5 = .ok (.iconst 0, 1) := by decide +kernel
theorem dJxc12de_init_da8c8_6 : decode cJxc12de_init_da8c8 6 = .ok (.putfield 7, 3) := by decide +kernel
theorem dJxc12de_init_da8c8_9 : decode cJxc12de_init_da8c8 9 = .ok (.return_, 1) := by decide +kernel
theorem dJx4a65c_init_da8c8_0 : decode cJx4a65c_init_da8c8 0 = .ok (.aload_n 0, 1) := by decide +kernel
theorem dJx4a65c_init_da8c8_1 : decode cJx4a65c_init_da8c8 1 = .ok (.invokespecial 1, 3) := by decide +kernel
theorem dJx4a65c_init_da8c8_4 : decode cJx4a65c_init_da8c8 4 = .ok (.aload_n 0, 1) := by decide +kernel
theorem dJx4a65c_init_da8c8_5 : decode cJx4a65c_init_da8c8 5 = .ok (.getstatic 39, 3) := by decide +kernel
theorem dJx4a65c_init_da8c8_8 : decode cJx4a65c_init_da8c8 8 = .ok (.putfield 9, 3) := by decide +kernel
theorem dJx4a65c_init_da8c8_11 : decode cJx4a65c_init_da8c8 11 = .ok (.return_, 1) := by decide +kernel
theorem dJx4a65c_grow_92f84_0 : decode cJx4a65c_grow_92f84 0 = .ok (.aload_n 0, 1) := by decide +kernel
theorem dJx4a65c_grow_92f84_1 : decode cJx4a65c_grow_92f84 1 = .ok (.getfield 9, 3) := by decide +kernel
theorem dJx4a65c_grow_92f84_4 : decode cJx4a65c_grow_92f84 4 = .ok (.arraylength, 1) := by decide +kernel
theorem dJx4a65c_grow_92f84_5 : decode cJx4a65c_grow_92f84 5 = .ok (.istore_n 2, 1) := by decide +kernel
theorem dJx4a65c_grow_92f84_6 : decode cJx4a65c_grow_92f84 6 = .ok (.iload_n 2, 1) := by decide +kernel
theorem dJx4a65c_grow_92f84_7 : decode cJx4a65c_grow_92f84 7 = .ok (.ifCond .gt 13, 3) := by decide +kernel
theorem dJx4a65c_grow_92f84_10 : decode cJx4a65c_grow_92f84 10 = .ok (.aload_n 0, 1) := by decide +kernel
theorem dJx4a65c_grow_92f84_11 : decode cJx4a65c_grow_92f84 11 = .ok (.getfield 9, 3) := by decide +kernel
theorem dJx4a65c_grow_92f84_14 : decode cJx4a65c_grow_92f84 14 = .ok (.getstatic 39, 3) := by decide +kernel
theorem dJx4a65c_grow_92f84_17 : decode cJx4a65c_grow_92f84 17 = .ok (.if_acmp .eq 28, 3) := by decide +kernel
theorem dJx4a65c_grow_92f84_20 : decode cJx4a65c_grow_92f84 20 = .ok (.iload_n 2, 1) := by decide +kernel
theorem dJx4a65c_grow_92f84_21 : decode cJx4a65c_grow_92f84 21 = .ok (.iload_n 1, 1) := by decide +kernel
theorem dJx4a65c_grow_92f84_22 : decode cJx4a65c_grow_92f84 22 = .ok (.iload_n 2, 1) := by decide +kernel
theorem dJx4a65c_grow_92f84_23 : decode cJx4a65c_grow_92f84 23 = .ok (.isub, 1) := by decide +kernel
theorem dJx4a65c_grow_92f84_24 : decode cJx4a65c_grow_92f84 24 = .ok (.iload_n 2, 1) := by decide +kernel
theorem dJx4a65c_grow_92f84_25 : decode cJx4a65c_grow_92f84 25 = .ok (.iconst 1, 1) := by decide +kernel
theorem dJx4a65c_grow_92f84_26 : decode cJx4a65c_grow_92f84 26 = .ok (.ishr, 1) := by decide +kernel
theorem dJx4a65c_grow_92f84_27 : decode cJx4a65c_grow_92f84 27 = .ok (.invokestatic 73, 3) := by decide +kernel
theorem dJx4a65c_grow_92f84_30 : decode cJx4a65c_grow_92f84 30 = .ok (.istore_n 3, 1) := by decide +kernel
theorem dJx4a65c_grow_92f84_31 : decode cJx4a65c_grow_92f84 31 = .ok (.aload_n 0, 1) := by decide +kernel
theorem dJx4a65c_grow_92f84_32 : decode cJx4a65c_grow_92f84 32 = .ok (.aload_n 0, 1) := by decide +kernel
theorem dJx4a65c_grow_92f84_33 : decode cJx4a65c_grow_92f84 33 = .ok (.getfield 9, 3) := by decide +kernel
theorem dJx4a65c_grow_92f84_36 : decode cJx4a65c_grow_92f84 36 = .ok (.iload_n 3, 1) := by decide +kernel
theorem dJx4a65c_grow_92f84_37 : decode cJx4a65c_grow_92f84 37 = .ok (.invokestatic 66, 3) := by decide +kernel
theorem dJx4a65c_grow_92f84_40 : decode cJx4a65c_grow_92f84 40 = .ok (.dup_x1, 1) := by decide +kernel
theorem dJx4a65c_grow_92f84_41 : decode cJx4a65c_grow_92f84 41 = .ok (.putfield 9, 3) := by decide +kernel
theorem dJx4a65c_grow_92f84_44 : decode cJx4a65c_grow_92f84 44 = .ok (.areturn, 1) := by decide +kernel
theorem dJx4a65c_grow_92f84_45 : decode cJx4a65c_grow_92f84 45 = .ok (.aload_n 0, 1) := by decide +kernel
theorem dJx4a65c_grow_92f84_46 : decode cJx4a65c_grow_92f84 46 = .ok (.bipush 10, 2) := by decide +kernel
theorem dJx4a65c_grow_92f84_48 : decode cJx4a65c_grow_92f84 48 = .ok (.iload_n 1, 1) := by decide +kernel
theorem dJx4a65c_grow_92f84_49 : decode cJx4a65c_grow_92f84 49 = .ok (.invokestatic 79, 3) := by decide +kernel
theorem dJx4a65c_grow_92f84_52 : decode cJx4a65c_grow_92f84 52 = .ok (.anewarray 7, 3) := by decide +kernel
theorem dJx4a65c_grow_92f84_55 : decode cJx4a65c_grow_92f84 55 = .ok (.dup_x1, 1) := by decide +kernel
theorem dJx4a65c_grow_92f84_56 : decode cJx4a65c_grow_92f84 56 = .ok (.putfield 9, 3) := by decide +kernel
theorem dJx4a65c_grow_92f84_59 : decode cJx4a65c_grow_92f84 59 = .ok (.areturn, 1) := by decide +kernel
theorem dJx4a65c_grow_d5877_0 : decode cJx4a65c_grow_d5877 0 = .ok (.aload_n 0, 1) := by decide +kernel
theorem dJx4a65c_grow_d5877_1 : decode cJx4a65c_grow_d5877 1 = .ok (.aload_n 0, 1) := by decide +kernel
theorem dJx4a65c_grow_d5877_2 : decode cJx4a65c_grow_d5877 2 = .ok (.getfield 48, 3) := by decide +kernel
theorem dJx4a65c_grow_d5877_5 : decode cJx4a65c_grow_d5877 5 = .ok (.iconst 1, 1) := by decide +kernel
theorem dJx4a65c_grow_d5877_6 : decode cJx4a65c_grow_d5877 6 = .ok (.iadd, 1) := by decide +kernel
theorem dJx4a65c_grow_d5877_7 : decode cJx4a65c_grow_d5877 7 = .ok (.invokevirtual 69, 3) := by decide +kernel
theorem dJx4a65c_grow_d5877_10 : decode cJx4a65c_grow_d5877 10 = .ok (.areturn, 1) := by decide +kernel
theorem dJx4a65c_size_8abf5_0 : decode cJx4a65c_size_8abf5 0 = .ok (.aload_n 0, 1) := by decide +kernel
theorem dJx4a65c_size_8abf5_1 : decode cJx4a65c_size_8abf5 1 = .ok (.getfield 48, 3) := by decide +kernel
theorem dJx4a65c_size_8abf5_4 : decode cJx4a65c_size_8abf5 4 = .ok (.ireturn, 1) := by decide +kernel
theorem dJx4a65c_elementData_915e3_0 : decode cJx4a65c_elementData_915e3 0 = .ok (.aload_n 0, 1) := by decide +kernel
theorem dJx4a65c_elementData_915e3_1 : decode cJx4a65c_elementData_915e3 1 = .ok (.getfield 9, 3) := by decide +kernel
theorem dJx4a65c_elementData_915e3_4 : decode cJx4a65c_elementData_915e3 4 = .ok (.iload_n 1, 1) := by decide +kernel
theorem dJx4a65c_elementData_915e3_5 : decode cJx4a65c_elementData_915e3 5 = .ok (.aaload, 1) := by decide +kernel
theorem dJx4a65c_elementData_915e3_6 : decode cJx4a65c_elementData_915e3 6 = .ok (.areturn, 1) := by decide +kernel
theorem dJx4a65c_get_915e3_0 : decode cJx4a65c_get_915e3 0 = .ok (.iload_n 1, 1) := by decide +kernel
theorem dJx4a65c_get_915e3_1 : decode cJx4a65c_get_915e3 1 = .ok (.aload_n 0, 1) := by decide +kernel
theorem dJx4a65c_get_915e3_2 : decode cJx4a65c_get_915e3 2 = .ok (.getfield 48, 3) := by decide +kernel
theorem dJx4a65c_get_915e3_5 : decode cJx4a65c_get_915e3 5 = .ok (.invokestatic 118, 3) := by decide +kernel
theorem dJx4a65c_get_915e3_8 : decode cJx4a65c_get_915e3 8 = .ok (.pop, 1) := by decide +kernel
theorem dJx4a65c_get_915e3_9 : decode cJx4a65c_get_915e3 9 = .ok (.aload_n 0, 1) := by decide +kernel
theorem dJx4a65c_get_915e3_10 : decode cJx4a65c_get_915e3 10 = .ok (.iload_n 1, 1) := by decide +kernel
theorem dJx4a65c_get_915e3_11 : decode cJx4a65c_get_915e3 11 = .ok (.invokevirtual 123, 3) := by decide +kernel
theorem dJx4a65c_get_915e3_14 : decode cJx4a65c_get_915e3 14 = .ok (.areturn, 1) := by decide +kernel
theorem dJx4a65c_add_72be8_0 : decode cJx4a65c_add_72be8 0 = .ok (.iload_n 3, 1) := by decide +kernel
theorem dJx4a65c_add_72be8_1 : decode cJx4a65c_add_72be8 1 = .ok (.aload_n 2, 1) := by decide +kernel
theorem dJx4a65c_add_72be8_2 : decode cJx4a65c_add_72be8 2 = .ok (.arraylength, 1) := by decide +kernel
theorem dJx4a65c_add_72be8_3 : decode cJx4a65c_add_72be8 3 = .ok (.if_icmp .ne 8, 3) := by decide +kernel
theorem dJx4a65c_add_72be8_6 : decode cJx4a65c_add_72be8 6 = .ok (.aload_n 0, 1) := by decide +kernel
theorem dJx4a65c_add_72be8_7 : decode cJx4a65c_add_72be8 7 = .ok (.invokevirtual 129, 3) := by decide +kernel
theorem dJx4a65c_add_72be8_10 : decode cJx4a65c_add_72be8 10 = .ok (.astore_n 2, 1) := by decide +kernel
theorem dJx4a65c_add_72be8_11 : decode cJx4a65c_add_72be8 11 = .ok (.aload_n 2, 1) := by decide +kernel
theorem dJx4a65c_add_72be8_12 : decode cJx4a65c_add_72be8 12 = .ok (.iload_n 3, 1) := by decide +kernel
theorem dJx4a65c_add_72be8_13 : decode cJx4a65c_add_72be8 13 = .ok (.aload_n 1, 1) := by decide +kernel
theorem dJx4a65c_add_72be8_14 : decode cJx4a65c_add_72be8 14 = .ok (.aastore, 1) := by decide +kernel
theorem dJx4a65c_add_72be8_15 : decode cJx4a65c_add_72be8 15 = .ok (.aload_n 0, 1) := by decide +kernel
theorem dJx4a65c_add_72be8_16 : decode cJx4a65c_add_72be8 16 = .ok (.iload_n 3, 1) := by decide +kernel
theorem dJx4a65c_add_72be8_17 : decode cJx4a65c_add_72be8 17 = .ok (.iconst 1, 1) := by decide +kernel
theorem dJx4a65c_add_72be8_18 : decode cJx4a65c_add_72be8 18 = .ok (.iadd, 1) := by decide +kernel
theorem dJx4a65c_add_72be8_19 : decode cJx4a65c_add_72be8 19 = .ok (.putfield 48, 3) := by decide +kernel
theorem dJx4a65c_add_72be8_22 : decode cJx4a65c_add_72be8 22 = .ok (.return_, 1) := by decide +kernel
theorem dJx4a65c_add_9ea2d_0 : decode cJx4a65c_add_9ea2d 0 = .ok (.aload_n 0, 1) := by decide +kernel
theorem dJx4a65c_add_9ea2d_1 : decode cJx4a65c_add_9ea2d 1 = .ok (.dup, 1) := by decide +kernel
theorem dJx4a65c_add_9ea2d_2 : decode cJx4a65c_add_9ea2d 2 = .ok (.getfield 63, 3) := by decide +kernel
theorem dJx4a65c_add_9ea2d_5 : decode cJx4a65c_add_9ea2d 5 = .ok (.iconst 1, 1) := by decide +kernel
theorem dJx4a65c_add_9ea2d_6 : decode cJx4a65c_add_9ea2d 6 = .ok (.iadd, 1) := by decide +kernel
theorem dJx4a65c_add_9ea2d_7 : decode cJx4a65c_add_9ea2d 7 = .ok (.putfield 63, 3) := by decide +kernel
theorem dJx4a65c_add_9ea2d_10 : decode cJx4a65c_add_9ea2d 10 = .ok (.aload_n 0, 1) := by decide +kernel
theorem dJx4a65c_add_9ea2d_11 : decode cJx4a65c_add_9ea2d 11 = .ok (.aload_n 1, 1) := by decide +kernel
theorem dJx4a65c_add_9ea2d_12 : decode cJx4a65c_add_9ea2d 12 = .ok (.aload_n 0, 1) := by decide +kernel
theorem dJx4a65c_add_9ea2d_13 : decode cJx4a65c_add_9ea2d 13 = .ok (.getfield 9, 3) := by decide +kernel
theorem dJx4a65c_add_9ea2d_16 : decode cJx4a65c_add_9ea2d 16 = .ok (.aload_n 0, 1) := by decide +kernel
theorem dJx4a65c_add_9ea2d_17 : decode cJx4a65c_add_9ea2d 17 = .ok (.getfield 48, 3) := by decide +kernel
theorem dJx4a65c_add_9ea2d_20 : decode cJx4a65c_add_9ea2d 20 = .ok (.invokevirtual 131, 3) := by decide +kernel
theorem dJx4a65c_add_9ea2d_23 : decode cJx4a65c_add_9ea2d 23 = .ok (.iconst 1, 1) := by decide +kernel
theorem dJx4a65c_add_9ea2d_24 : decode cJx4a65c_add_9ea2d 24 = .ok (.ireturn, 1) := by decide +kernel
theorem dJ7_copyOf_1904c_0 : decode cJ7_copyOf_1904c 0 = .ok (.aload_n 0, 1) := by decide +kernel
theorem dJ7_copyOf_1904c_1 : decode cJ7_copyOf_1904c 1 = .ok (.iload_n 1, 1) := by decide +kernel
theorem dJ7_copyOf_1904c_2 : decode cJ7_copyOf_1904c 2 = .ok (.aload_n 0, 1) := by decide +kernel
theorem dJ7_copyOf_1904c_3 : decode cJ7_copyOf_1904c 3 = .ok (.invokevirtual 86, 3) := by decide +kernel
theorem dJ7_copyOf_1904c_6 : decode cJ7_copyOf_1904c 6 = .ok (.invokestatic 300, 3) := by decide +kernel
theorem dJ7_copyOf_1904c_9 : decode cJ7_copyOf_1904c 9 = .ok (.areturn, 1) := by decide +kernel
theorem dJ7_copyOf_6403c_0 : decode cJ7_copyOf_6403c 0 = .ok (.aload_n 2, 1) := by decide +kernel
theorem dJ7_copyOf_6403c_1 : decode cJ7_copyOf_6403c 1 = .ok (.ldc 110, 2) := by decide +kernel
theorem dJ7_copyOf_6403c_3 : decode cJ7_copyOf_6403c 3 = .ok (.if_acmp .ne 10, 3) := by decide +kernel
theorem dJ7_copyOf_6403c_6 : decode cJ7_copyOf_6403c 6 = .ok (.iload_n 1, 1) := by decide +kernel
theorem dJ7_copyOf_6403c_7 : decode cJ7_copyOf_6403c 7 = .ok (.anewarray 2, 3) := by decide +kernel
theorem dJ7_copyOf_6403c_10 : decode cJ7_copyOf_6403c 10 = .ok (.goto 14, 3) := by decide +kernel
theorem dJ7_copyOf_6403c_13 : decode cJ7_copyOf_6403c 13 = .ok (.aload_n 2, 1) := by decide +kernel
theorem dJ7_copyOf_6403c_14 : decode cJ7_copyOf_6403c 14 = .ok (.invokevirtual 90, 3) := by decide +kernel
theorem dJ7_copyOf_6403c_17 : decode cJ7_copyOf_6403c 17 = .ok (.iload_n 1, 1) := by decide +kernel
theorem dJ7_copyOf_6403c_18 : decode cJ7_copyOf_6403c 18 = .ok (.invokestatic 95, 3) := by decide +kernel
theorem dJ7_copyOf_6403c_21 : decode cJ7_copyOf_6403c 21 = .ok (.checkcast 110, 3) := by decide +kernel
theorem dJ7_copyOf_6403c_24 : decode cJ7_copyOf_6403c 24 = .ok (.astore_n 3, 1) := by decide +kernel
theorem dJ7_copyOf_6403c_25 : decode cJ7_copyOf_6403c 25 = .ok (.aload_n 0, 1) := by decide +kernel
theorem dJ7_copyOf_6403c_26 : decode cJ7_copyOf_6403c 26 = .ok (.iconst 0, 1) := by decide +kernel
theorem dJ7_copyOf_6403c_27 : decode cJ7_copyOf_6403c 27 = .ok (.aload_n 3, 1) := by decide +kernel
theorem dJ7_copyOf_6403c_28 : decode cJ7_copyOf_6403c 28 = .ok (.iconst 0, 1) := by decide +kernel
theorem dJ7_copyOf_6403c_29 : decode cJ7_copyOf_6403c 29 = .ok (.aload_n 0, 1) := by decide +kernel
theorem dJ7_copyOf_6403c_30 : decode cJ7_copyOf_6403c 30 = .ok (.arraylength, 1) := by decide +kernel
theorem dJ7_copyOf_6403c_31 : decode cJ7_copyOf_6403c 31 = .ok (.iload_n 1, 1) := by decide +kernel
theorem dJ7_copyOf_6403c_32 : decode cJ7_copyOf_6403c 32 = .ok (.invokestatic 304, 3) := by decide +kernel
theorem dJ7_copyOf_6403c_35 : decode cJ7_copyOf_6403c 35 = .ok (.invokestatic 150, 3) := by decide +kernel
theorem dJ7_copyOf_6403c_38 : decode cJ7_copyOf_6403c 38 = .ok (.aload_n 3, 1) := by decide +kernel
theorem dJ7_copyOf_6403c_39 : decode cJ7_copyOf_6403c 39 = .ok (.areturn, 1) := by decide +kernel
theorem dJ15_checkIndex_7cf53_0 : decode cJ15_checkIndex_7cf53 0 = .ok (.iload_n 0, 1) := by decide +kernel
theorem dJ15_checkIndex_7cf53_1 : decode cJ15_checkIndex_7cf53 1 = .ok (.iload_n 1, 1) := by decide +kernel
theorem dJ15_checkIndex_7cf53_2 : decode cJ15_checkIndex_7cf53 2 = .ok (.aconst_null, 1) := by decide +kernel
theorem dJ15_checkIndex_7cf53_3 : decode cJ15_checkIndex_7cf53 3 = .ok (.invokestatic 105, 3) := by decide +kernel
theorem dJ15_checkIndex_7cf53_6 : decode cJ15_checkIndex_7cf53 6 = .ok (.ireturn, 1) := by decide +kernel
theorem dJ8_newLength_cabcc_0 : decode cJ8_newLength_cabcc 0 = .ok (.iload_n 0, 1) := by decide +kernel
theorem dJ8_newLength_cabcc_1 : decode cJ8_newLength_cabcc 1 = .ok (.iload_n 1, 1) := by decide +kernel
theorem dJ8_newLength_cabcc_2 : decode cJ8_newLength_cabcc 2 = .ok (.iload_n 2, 1) := by decide +kernel
theorem dJ8_newLength_cabcc_3 : decode cJ8_newLength_cabcc 3 = .ok (.invokestatic 194, 3) := by decide +kernel
theorem dJ8_newLength_cabcc_6 : decode cJ8_newLength_cabcc 6 = .ok (.iadd, 1) := by decide +kernel
theorem dJ8_newLength_cabcc_7 : decode cJ8_newLength_cabcc 7 = .ok (.istore_n 3, 1) := by decide +kernel
theorem dJ8_newLength_cabcc_8 : decode cJ8_newLength_cabcc 8 = .ok (.iconst 0, 1) := by decide +kernel
theorem dJ8_newLength_cabcc_9 : decode cJ8_newLength_cabcc 9 = .ok (.iload_n 3, 1) := by decide +kernel
theorem dJ8_newLength_cabcc_10 : decode cJ8_newLength_cabcc 10 = .ok (.if_icmp .ge 11, 3) := by decide +kernel
theorem dJ8_newLength_cabcc_13 : decode cJ8_newLength_cabcc 13 = .ok (.iload_n 3, 1) := by decide +kernel
theorem dJ8_newLength_cabcc_14 : decode cJ8_newLength_cabcc 14 = .ok (.ldc 200, 2) := by decide +kernel
theorem dJ8_newLength_cabcc_16 : decode cJ8_newLength_cabcc 16 = .ok (.if_icmp .gt 5, 3) := by decide +kernel
theorem dJ8_newLength_cabcc_19 : decode cJ8_newLength_cabcc 19 = .ok (.iload_n 3, 1) := by decide +kernel
theorem dJ8_newLength_cabcc_20 : decode cJ8_newLength_cabcc 20 = .ok (.ireturn, 1) := by decide +kernel
theorem dJ8_newLength_cabcc_21 : decode cJ8_newLength_cabcc 21 = .ok (.iload_n 0, 1) := by decide +kernel
theorem dJ8_newLength_cabcc_22 : decode cJ8_newLength_cabcc 22 = .ok (.iload_n 1, 1) := by decide +kernel
theorem dJ8_newLength_cabcc_23 : decode cJ8_newLength_cabcc 23 = .ok (.invokestatic 201, 3) := by decide +kernel
theorem dJ8_newLength_cabcc_26 : decode cJ8_newLength_cabcc 26 = .ok (.ireturn, 1) := by decide +kernel
theorem dJ8_hugeLength_7cf53_0 : decode cJ8_hugeLength_7cf53 0 = .ok (.iload_n 0, 1) := by decide +kernel
theorem dJ8_hugeLength_7cf53_1 : decode cJ8_hugeLength_7cf53 1 = .ok (.iload_n 1, 1) := by decide +kernel
theorem dJ8_hugeLength_7cf53_2 : decode cJ8_hugeLength_7cf53 2 = .ok (.iadd, 1) := by decide +kernel
theorem dJ8_hugeLength_7cf53_3 : decode cJ8_hugeLength_7cf53 3 = .ok (.istore_n 2, 1) := by decide +kernel
theorem dJ8_hugeLength_7cf53_4 : decode cJ8_hugeLength_7cf53 4 = .ok (.iload_n 2, 1) := by decide +kernel
theorem dJ8_hugeLength_7cf53_5 : decode cJ8_hugeLength_7cf53 5 = .ok (.ifCond .ge 44, 3) := by decide +kernel
theorem dJ8_hugeLength_7cf53_8 : decode cJ8_hugeLength_7cf53 8 = .ok (.new 204, 3) := by decide +kernel
theorem dJ8_hugeLength_7cf53_11 : decode cJ8_hugeLength_7cf53 11 = .ok (.dup, 1) := by decide +kernel
theorem dJ8_hugeLength_7cf53_12 : decode cJ8_hugeLength_7cf53 12 = .ok (.new 89, 3) := by decide +kernel
theorem dJ8_hugeLength_7cf53_15 : decode cJ8_hugeLength_7cf53 15 = .ok (.dup, 1) := by decide +kernel
theorem dJ8_hugeLength_7cf53_16 : decode cJ8_hugeLength_7cf53 16 = .ok (.invokespecial 91, 3) := by decide +kernel
theorem dJ8_hugeLength_7cf53_19 : decode cJ8_hugeLength_7cf53 19 = .ok (.ldc 206, 2) := by decide +kernel
theorem dJ8_hugeLength_7cf53_21 : decode cJ8_hugeLength_7cf53 21 = .ok (.invokevirtual 94, 3) := by decide +kernel
theorem dJ8_hugeLength_7cf53_24 : decode cJ8_hugeLength_7cf53 24 = .ok (.iload_n 0, 1) := by decide +kernel
theorem dJ8_hugeLength_7cf53_25 : decode cJ8_hugeLength_7cf53 25 = .ok (.invokevirtual 98, 3) := by decide +kernel
theorem dJ8_hugeLength_7cf53_28 : decode cJ8_hugeLength_7cf53 28 = .ok (.ldc 208, 2) := by decide +kernel
theorem dJ8_hugeLength_7cf53_30 : decode cJ8_hugeLength_7cf53 30 = .ok (.invokevirtual 94, 3) := by decide +kernel
theorem dJ8_hugeLength_7cf53_33 : decode cJ8_hugeLength_7cf53 33 = .ok (.iload_n 1, 1) := by decide +kernel
theorem dJ8_hugeLength_7cf53_34 : decode cJ8_hugeLength_7cf53 34 = .ok (.invokevirtual 98, 3) := by decide +kernel
theorem dJ8_hugeLength_7cf53_37 : decode cJ8_hugeLength_7cf53 37 = .ok (.ldc 210, 2) := by decide +kernel
theorem dJ8_hugeLength_7cf53_39 : decode cJ8_hugeLength_7cf53 39 = .ok (.invokevirtual 94, 3) := by decide +kernel
theorem dJ8_hugeLength_7cf53_42 : decode cJ8_hugeLength_7cf53 42 = .ok (.invokevirtual 101, 3) := by decide +kernel
theorem dJ8_hugeLength_7cf53_45 : decode cJ8_hugeLength_7cf53 45 = .ok (.invokespecial 212, 3) := by decide +kernel
theorem dJ8_hugeLength_7cf53_48 : decode cJ8_hugeLength_7cf53 48 = .ok (.athrow, 1) := by decide +kernel
theorem dJ8_hugeLength_7cf53_49 : decode cJ8_hugeLength_7cf53 49 = .ok (.iload_n 2, 1) := by decide +kernel
theorem dJ8_hugeLength_7cf53_50 : decode cJ8_hugeLength_7cf53 50 = .ok (.ldc 200, 2) := by decide +kernel
theorem dJ8_hugeLength_7cf53_52 : decode cJ8_hugeLength_7cf53 52 = .ok (.if_icmp .gt 6, 3) := by decide +kernel
theorem dJ8_hugeLength_7cf53_55 : decode cJ8_hugeLength_7cf53 55 = .ok (.ldc 200, 2) := by decide +kernel
theorem dJ8_hugeLength_7cf53_57 : decode cJ8_hugeLength_7cf53 57 = .ok (.ireturn, 1) := by decide +kernel
theorem dJ8_hugeLength_7cf53_58 : decode cJ8_hugeLength_7cf53 58 = .ok (.iload_n 2, 1) := by decide +kernel
theorem dJ8_hugeLength_7cf53_59 : decode cJ8_hugeLength_7cf53 59 = .ok (.ireturn, 1) := by decide +kernel
theorem dJ3_checkIndex_8e157_0 : decode cJ3_checkIndex_8e157 0 = .ok (.iload_n 0, 1) := by decide +kernel
theorem dJ3_checkIndex_8e157_1 : decode cJ3_checkIndex_8e157 1 = .ok (.ifCond .lt 8, 3) := by decide +kernel
theorem dJ3_checkIndex_8e157_4 : decode cJ3_checkIndex_8e157 4 = .ok (.iload_n 0, 1) := by decide +kernel
theorem dJ3_checkIndex_8e157_5 : decode cJ3_checkIndex_8e157 5 = .ok (.iload_n 1, 1) := by decide +kernel
theorem dJ3_checkIndex_8e157_6 : decode cJ3_checkIndex_8e157 6 = .ok (.if_icmp .lt 10, 3) := by decide +kernel
theorem dJ3_checkIndex_8e157_9 : decode cJ3_checkIndex_8e157 9 = .ok (.aload_n 2, 1) := by decide +kernel
theorem dJ3_checkIndex_8e157_10 : decode cJ3_checkIndex_8e157 10 = .ok (.iload_n 0, 1) := by decide +kernel
theorem dJ3_checkIndex_8e157_11 : decode cJ3_checkIndex_8e157 11 = .ok (.iload_n 1, 1) := by decide +kernel
theorem dJ3_checkIndex_8e157_12 : decode cJ3_checkIndex_8e157 12 = .ok (.invokestatic 95, 3) := by decide +kernel
theorem dJ3_checkIndex_8e157_15 : decode cJ3_checkIndex_8e157 15 = .ok (.athrow, 1) := by decide +kernel
theorem dJ3_checkIndex_8e157_16 : decode cJ3_checkIndex_8e157 16 = .ok (.iload_n 0, 1) := by decide +kernel
theorem dJ3_checkIndex_8e157_17 : decode cJ3_checkIndex_8e157 17 = .ok (.ireturn, 1) := by decide +kernel
