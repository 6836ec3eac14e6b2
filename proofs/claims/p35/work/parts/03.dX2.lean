theorem dX2_init_0 : decode cX2_init 0 = .ok (.aload_n 0, 1) := by decide +kernel
theorem dX2_init_1 : decode cX2_init 1 = .ok (.invokespecial 1, 3) := by decide +kernel
theorem dX2_init_4 : decode cX2_init 4 = .ok (.aload_n 0, 1) := by decide +kernel
theorem dX2_init_5 : decode cX2_init 5 = .ok (.new 7, 3) := by decide +kernel
theorem dX2_init_8 : decode cX2_init 8 = .ok (.dup, 1) := by decide +kernel
theorem dX2_init_9 : decode cX2_init 9 = .ok (.invokespecial 9, 3) := by decide +kernel
theorem dX2_init_12 : decode cX2_init 12 = .ok (.putfield 10, 3) := by decide +kernel
theorem dX2_init_15 : decode cX2_init 15 = .ok (.aload_n 0, 1) := by decide +kernel
theorem dX2_init_16 : decode cX2_init 16 = .ok (.bipush 10, 2) := by decide +kernel
theorem dX2_init_18 : decode cX2_init 18 = .ok (.putfield 16, 3) := by decide +kernel
theorem dX2_init_21 : decode cX2_init 21 = .ok (.aload_n 0, 1) := by decide +kernel
theorem dX2_init_22 : decode cX2_init 22 = .ok (.sipush 12345, 3) := by decide +kernel
theorem dX2_init_25 : decode cX2_init 25 = .ok (.putfield 20, 3) := by decide +kernel
theorem dX2_init_28 : decode cX2_init 28 = .ok (.aload_n 0, 1) := by decide +kernel
theorem dX2_init_29 : decode cX2_init 29 = .ok (.iconst 5, 1) := by decide +kernel
theorem dX2_init_30 : decode cX2_init 30 = .ok (.newarray .int, 2) := by decide +kernel
theorem dX2_init_32 : decode cX2_init 32 = .ok (.dup, 1) := by decide +kernel
theorem dX2_init_33 : decode cX2_init 33 = .ok (.iconst 0, 1) := by decide +kernel
theorem dX2_init_34 : decode cX2_init 34 = .ok (.bipush 10, 2) := by decide +kernel
theorem dX2_init_36 : decode cX2_init 36 = .ok (.iastore, 1) := by decide +kernel
theorem dX2_init_37 : decode cX2_init 37 = .ok (.dup, 1) := by decide +kernel
theorem dX2_init_38 : decode cX2_init 38 = .ok (.iconst 1, 1) := by decide +kernel
theorem dX2_init_39 : decode cX2_init 39 = .ok (.bipush 20, 2) := by decide +kernel
theorem dX2_init_41 : decode cX2_init 41 = .ok (.iastore, 1) := by decide +kernel
theorem dX2_init_42 : decode cX2_init 42 = .ok (.dup, 1) := by decide +kernel
theorem dX2_init_43 : decode cX2_init 43 = .ok (.iconst 2, 1) := by decide +kernel
theorem dX2_init_44 : decode cX2_init 44 = .ok (.iconst 0, 1) := by decide +kernel
theorem dX2_init_45 : decode cX2_init 45 = .ok (.iastore, 1) := by decide +kernel
theorem dX2_init_46 : decode cX2_init 46 = .ok (.dup, 1) := by decide +kernel
theorem dX2_init_47 : decode cX2_init 47 = .ok (.iconst 3, 1) := by decide +kernel
theorem dX2_init_48 : decode cX2_init 48 = .ok (.iconst 0, 1) := by decide +kernel
theorem dX2_init_49 : decode cX2_init 49 = .ok (.iastore, 1) := by decide +kernel
theorem dX2_init_50 : decode cX2_init 50 = .ok (.dup, 1) := by decide +kernel
theorem dX2_init_51 : decode cX2_init 51 = .ok (.iconst 4, 1) := by decide +kernel
theorem dX2_init_52 : decode cX2_init 52 = .ok (.iconst 0, 1) := by decide +kernel
theorem dX2_init_53 : decode cX2_init 53 = .ok (.iastore, 1) := by decide +kernel
theorem dX2_init_54 : decode cX2_init 54 = .ok (.putfield 23, 3) := by decide +kernel
theorem dX2_init_57 : decode cX2_init 57 = .ok (.aload_n 0, 1) := by decide +kernel
theorem dX2_init_58 : decode cX2_init 58 = .ok (.new 27, 3) := by decide +kernel
theorem dX2_init_61 : decode cX2_init 61 = .ok (.dup, 1) := by decide +kernel
theorem dX2_init_62 : decode cX2_init 62 = .ok (.invokespecial 29, 3) := by decide +kernel
theorem dX2_init_65 : decode cX2_init 65 = .ok (.putfield 30, 3) := by decide +kernel
theorem dX2_init_68 : decode cX2_init 68 = .ok (.aload_n 0, 1) := by decide +kernel
theorem dX2_init_69 : decode cX2_init 69 = .ok (.iconst 4, 1) := by decide +kernel
theorem dX2_init_70 : decode cX2_init 70 = .ok (.newarray .int, 2) := by decide +kernel
theorem dX2_init_72 : decode cX2_init 72 = .ok (.dup, 1) := by decide +kernel
theorem dX2_init_73 : decode cX2_init 73 = .ok (.iconst 0, 1) := by decide +kernel
theorem dX2_init_74 : decode cX2_init 74 = .ok (.bipush 10, 2) := by decide +kernel
theorem dX2_init_76 : decode cX2_init 76 = .ok (.iastore, 1) := by decide +kernel
theorem dX2_init_77 : decode cX2_init 77 = .ok (.dup, 1) := by decide +kernel
theorem dX2_init_78 : decode cX2_init 78 = .ok (.iconst 1, 1) := by decide +kernel
theorem dX2_init_79 : decode cX2_init 79 = .ok (.bipush 10, 2) := by decide +kernel
theorem dX2_init_81 : decode cX2_init 81 = .ok (.iastore, 1) := by decide +kernel
theorem dX2_init_82 : decode cX2_init 82 = .ok (.dup, 1) := by decide +kernel
theorem dX2_init_83 : decode cX2_init 83 = .ok (.iconst 2, 1) := by decide +kernel
theorem dX2_init_84 : decode cX2_init 84 = .ok (.bipush 10, 2) := by decide +kernel
theorem dX2_init_86 : decode cX2_init 86 = .ok (.iastore, 1) := by decide +kernel
theorem dX2_init_87 : decode cX2_init 87 = .ok (.dup, 1) := by decide +kernel
theorem dX2_init_88 : decode cX2_init 88 = .ok (.iconst 3, 1) := by decide +kernel
theorem dX2_init_89 : decode cX2_init 89 = .ok (.bipush 10, 2) := by decide +kernel
theorem dX2_init_91 : decode cX2_init 91 = .ok (.iastore, 1) := by decide +kernel
theorem dX2_init_92 : decode cX2_init 92 = .ok (.putfield 34, 3) := by decide +kernel
theorem dX2_init_95 : decode cX2_init 95 = .ok (.aload_n 0, 1) := by decide +kernel
theorem dX2_init_96 : decode cX2_init 96 = .ok (.iconst 4, 1) := by decide +kernel
theorem dX2_init_97 : decode cX2_init 97 = .ok (.newarray .int, 2) := by decide +kernel
theorem dX2_init_99 : decode cX2_init 99 = .ok (.dup, 1) := by decide +kernel
theorem dX2_init_100 : decode cX2_init 100 = .ok (.iconst 0, 1) := by decide +kernel
theorem dX2_init_101 : decode cX2_init 101 = .ok (.bipush 10, 2) := by decide +kernel
theorem dX2_init_103 : decode cX2_init 103 = .ok (.iastore, 1) := by decide +kernel
theorem dX2_init_104 : decode cX2_init 104 = .ok (.dup, 1) := by decide +kernel
theorem dX2_init_105 : decode cX2_init 105 = .ok (.iconst 1, 1) := by decide +kernel
theorem dX2_init_106 : decode cX2_init 106 = .ok (.bipush 10, 2) := by decide +kernel
theorem dX2_init_108 : decode cX2_init 108 = .ok (.iastore, 1) := by decide +kernel
theorem dX2_init_109 : decode cX2_init 109 = .ok (.dup, 1) := by decide +kernel
theorem dX2_init_110 : decode cX2_init 110 = .ok (.iconst 2, 1) := by decide +kernel
theorem dX2_init_111 : decode cX2_init 111 = .ok (.bipush 10, 2) := by decide +kernel
theorem dX2_init_113 : decode cX2_init 113 = .ok (.iastore, 1) := by decide +kernel
theorem dX2_init_114 : decode cX2_init 114 = .ok (.dup, 1) := by decide +kernel
theorem dX2_init_115 : decode cX2_init 115 = .ok (.iconst 3, 1) := by decide +kernel
theorem dX2_init_116 : decode cX2_init 116 = .ok (.bipush 10, 2) := by decide +kernel
theorem dX2_init_118 : decode cX2_init 118 = .ok (.iastore, 1) := by decide +kernel
theorem dX2_init_119 : decode cX2_init 119 = .ok (.putfield 37, 3) := by decide +kernel
theorem dX2_init_122 : decode cX2_init 122 = .ok (.aload_n 0, 1) := by decide +kernel
theorem dX2_init_123 : decode cX2_init 123 = .ok (.sipush 200, 3) := by decide +kernel
theorem dX2_init_126 : decode cX2_init 126 = .ok (.putfield 40, 3) := by decide +kernel
theorem dX2_init_129 : decode cX2_init 129 = .ok (.aload_n 0, 1) := by decide +kernel
theorem dX2_init_130 : decode cX2_init 130 = .ok (.bipush 20, 2) := by decide +kernel
theorem dX2_init_132 : decode cX2_init 132 = .ok (.putfield 43, 3) := by decide +kernel
theorem dX2_init_135 : decode cX2_init 135 = .ok (.aload_n 0, 1) := by decide +kernel
theorem dX2_init_136 : decode cX2_init 136 = .ok (.iconst 3, 1) := by decide +kernel
theorem dX2_init_137 : decode cX2_init 137 = .ok (.newarray .boolean, 2) := by decide +kernel
theorem dX2_init_139 : decode cX2_init 139 = .ok (.putfield 46, 3) := by decide +kernel
theorem dX2_init_142 : decode cX2_init 142 = .ok (.aload_n 0, 1) := by decide +kernel
theorem dX2_init_143 : decode cX2_init 143 = .ok (.bipush 6, 2) := by decide +kernel
theorem dX2_init_145 : decode cX2_init 145 = .ok (.newarray .int, 2) := by decide +kernel
theorem dX2_init_147 : decode cX2_init 147 = .ok (.putfield 50, 3) := by decide +kernel
theorem dX2_init_150 : decode cX2_init 150 = .ok (.return_, 1) := by decide +kernel
theorem dX2_miner_0 : decode cX2_miner 0 = .ok (.aload_n 0, 1) := by decide +kernel
theorem dX2_miner_1 : decode cX2_miner 1 = .ok (.getfield 10, 3) := by decide +kernel
theorem dX2_miner_4 : decode cX2_miner 4 = .ok (.invokevirtual 53, 3) := by decide +kernel
theorem dX2_miner_7 : decode cX2_miner 7 = .ok (.bipush 10, 2) := by decide +kernel
theorem dX2_miner_9 : decode cX2_miner 9 = .ok (.if_icmp .lt 13, 3) := by decide +kernel
theorem dX2_miner_12 : decode cX2_miner 12 = .ok (.new 57, 3) := by decide +kernel
theorem dX2_miner_15 : decode cX2_miner 15 = .ok (.dup, 1) := by decide +kernel
theorem dX2_miner_16 : decode cX2_miner 16 = .ok (.ldc 59, 2) := by decide +kernel
theorem dX2_miner_18 : decode cX2_miner 18 = .ok (.invokespecial 61, 3) := by decide +kernel
theorem dX2_miner_21 : decode cX2_miner 21 = .ok (.athrow, 1) := by decide +kernel
theorem dX2_miner_22 : decode cX2_miner 22 = .ok (.aload_n 0, 1) := by decide +kernel
theorem dX2_miner_23 : decode cX2_miner 23 = .ok (.getfield 10, 3) := by decide +kernel
theorem dX2_miner_26 : decode cX2_miner 26 = .ok (.new 64, 3) := by decide +kernel
theorem dX2_miner_29 : decode cX2_miner 29 = .ok (.dup, 1) := by decide +kernel
theorem dX2_miner_30 : decode cX2_miner 30 = .ok (.invokespecial 66, 3) := by decide +kernel
theorem dX2_miner_33 : decode cX2_miner 33 = .ok (.invokevirtual 67, 3) := by decide +kernel
theorem dX2_miner_36 : decode cX2_miner 36 = .ok (.pop, 1) := by decide +kernel
theorem dX2_miner_37 : decode cX2_miner 37 = .ok (.aload_n 0, 1) := by decide +kernel
theorem dX2_miner_38 : decode cX2_miner 38 = .ok (.getfield 10, 3) := by decide +kernel
theorem dX2_miner_41 : decode cX2_miner 41 = .ok (.invokevirtual 53, 3) := by decide +kernel
theorem dX2_miner_44 : decode cX2_miner 44 = .ok (.iconst 1, 1) := by decide +kernel
theorem dX2_miner_45 : decode cX2_miner 45 = .ok (.isub, 1) := by decide +kernel
theorem dX2_miner_46 : decode cX2_miner 46 = .ok (.ireturn, 1) := by decide +kernel
theorem dX2_kin_0 : decode cX2_kin 0 = .ok (.aload_n 0, 1) := by decide +kernel
theorem dX2_kin_1 : decode cX2_kin 1 = .ok (.iload_n 1, 1) := by decide +kernel
theorem dX2_kin_2 : decode cX2_kin 2 = .ok (.invokevirtual 71, 3) := by decide +kernel
theorem dX2_kin_5 : decode cX2_kin 5 = .ok (.astore_n 3, 1) := by decide +kernel
theorem dX2_kin_6 : decode cX2_kin 6 = .ok (.iload_n 2, 1) := by decide +kernel
theorem dX2_kin_7 : decode cX2_kin 7 = .ok (.iconst (-1), 1) := by decide +kernel
theorem dX2_kin_8 : decode cX2_kin 8 = .ok (.if_icmp .eq 9, 3) := by decide +kernel
theorem dX2_kin_11 : decode cX2_kin 11 = .ok (.aload_n 0, 1) := by decide +kernel
theorem dX2_kin_12 : decode cX2_kin 12 = .ok (.iload_n 2, 1) := by decide +kernel
theorem dX2_kin_13 : decode cX2_kin 13 = .ok (.invokevirtual 71, 3) := by decide +kernel
theorem dX2_kin_16 : decode cX2_kin 16 = .ok (.pop, 1) := by decide +kernel
theorem dX2_kin_17 : decode cX2_kin 17 = .ok (.iload_n 1, 1) := by decide +kernel
theorem dX2_kin_18 : decode cX2_kin 18 = .ok (.iload_n 2, 1) := by decide +kernel
theorem dX2_kin_19 : decode cX2_kin 19 = .ok (.if_icmp .ne 13, 3) := by decide +kernel
theorem dX2_kin_22 : decode cX2_kin 22 = .ok (.new 75, 3) := by decide +kernel
theorem dX2_kin_25 : decode cX2_kin 25 = .ok (.dup, 1) := by decide +kernel
theorem dX2_kin_26 : decode cX2_kin 26 = .ok (.ldc 77, 2) := by decide +kernel
theorem dX2_kin_28 : decode cX2_kin 28 = .ok (.invokespecial 79, 3) := by decide +kernel
theorem dX2_kin_31 : decode cX2_kin 31 = .ok (.athrow, 1) := by decide +kernel
theorem dX2_kin_32 : decode cX2_kin 32 = .ok (.aload_n 3, 1) := by decide +kernel
theorem dX2_kin_33 : decode cX2_kin 33 = .ok (.getfield 80, 3) := by decide +kernel
theorem dX2_kin_36 : decode cX2_kin 36 = .ok (.istore 4, 2) := by decide +kernel
theorem dX2_kin_38 : decode cX2_kin 38 = .ok (.aload_n 3, 1) := by decide +kernel
theorem dX2_kin_39 : decode cX2_kin 39 = .ok (.iload_n 2, 1) := by decide +kernel
theorem dX2_kin_40 : decode cX2_kin 40 = .ok (.putfield 80, 3) := by decide +kernel
theorem dX2_kin_43 : decode cX2_kin 43 = .ok (.iload 4, 2) := by decide +kernel
theorem dX2_kin_45 : decode cX2_kin 45 = .ok (.ireturn, 1) := by decide +kernel
theorem dX2_dock_0 : decode cX2_dock 0 = .ok (.iload_n 1, 1) := by decide +kernel
theorem dX2_dock_1 : decode cX2_dock 1 = .ok (.iconst 0, 1) := by decide +kernel
theorem dX2_dock_2 : decode cX2_dock 2 = .ok (.bipush 50, 2) := by decide +kernel
theorem dX2_dock_4 : decode cX2_dock 4 = .ok (.invokestatic 83, 3) := by decide +kernel
theorem dX2_dock_7 : decode cX2_dock 7 = .ok (.aload_n 0, 1) := by decide +kernel
theorem dX2_dock_8 : decode cX2_dock 8 = .ok (.getfield 16, 3) := by decide +kernel
theorem dX2_dock_11 : decode cX2_dock 11 = .ok (.istore_n 2, 1) := by decide +kernel
theorem dX2_dock_12 : decode cX2_dock 12 = .ok (.aload_n 0, 1) := by decide +kernel
theorem dX2_dock_13 : decode cX2_dock 13 = .ok (.iload_n 1, 1) := by decide +kernel
theorem dX2_dock_14 : decode cX2_dock 14 = .ok (.putfield 16, 3) := by decide +kernel
theorem dX2_dock_17 : decode cX2_dock 17 = .ok (.iload_n 2, 1) := by decide +kernel
theorem dX2_dock_18 : decode cX2_dock 18 = .ok (.ireturn, 1) := by decide +kernel
theorem dX2_check_0 : decode cX2_check 0 = .ok (.aload_n 0, 1) := by decide +kernel
theorem dX2_check_1 : decode cX2_check 1 = .ok (.getfield 87, 3) := by decide +kernel
theorem dX2_check_4 : decode cX2_check 4 = .ok (.istore_n 2, 1) := by decide +kernel
theorem dX2_check_5 : decode cX2_check 5 = .ok (.aload_n 0, 1) := by decide +kernel
theorem dX2_check_6 : decode cX2_check 6 = .ok (.iload_n 1, 1) := by decide +kernel
theorem dX2_check_7 : decode cX2_check 7 = .ok (.putfield 87, 3) := by decide +kernel
theorem dX2_check_10 : decode cX2_check 10 = .ok (.iload_n 2, 1) := by decide +kernel
theorem dX2_check_11 : decode cX2_check 11 = .ok (.ireturn, 1) := by decide +kernel
theorem dX2_hew_0 : decode cX2_hew 0 = .ok (.aload_n 0, 1) := by decide +kernel
theorem dX2_hew_1 : decode cX2_hew 1 = .ok (.iload_n 1, 1) := by decide +kernel
theorem dX2_hew_2 : decode cX2_hew 2 = .ok (.invokevirtual 71, 3) := by decide +kernel
theorem dX2_hew_5 : decode cX2_hew 5 = .ok (.astore_n 3, 1) := by decide +kernel
theorem dX2_hew_6 : decode cX2_hew 6 = .ok (.iload_n 2, 1) := by decide +kernel
theorem dX2_hew_7 : decode cX2_hew 7 = .ok (.iconst 1, 1) := by decide +kernel
theorem dX2_hew_8 : decode cX2_hew 8 = .ok (.sipush 1000, 3) := by decide +kernel
theorem dX2_hew_11 : decode cX2_hew 11 = .ok (.invokestatic 83, 3) := by decide +kernel
theorem dX2_hew_14 : decode cX2_hew 14 = .ok (.aload_n 3, 1) := by decide +kernel
theorem dX2_hew_15 : decode cX2_hew 15 = .ok (.invokestatic 91, 3) := by decide +kernel
theorem dX2_hew_18 : decode cX2_hew 18 = .ok (.aload_n 0, 1) := by decide +kernel
theorem dX2_hew_19 : decode cX2_hew 19 = .ok (.getfield 95, 3) := by decide +kernel
theorem dX2_hew_22 : decode cX2_hew 22 = .ok (.ifCond .ne 10, 3) := by decide +kernel
theorem dX2_hew_25 : decode cX2_hew 25 = .ok (.aload_n 0, 1) := by decide +kernel
theorem dX2_hew_26 : decode cX2_hew 26 = .ok (.getfield 98, 3) := by decide +kernel
theorem dX2_hew_29 : decode cX2_hew 29 = .ok (.ifCond .eq 13, 3) := by decide +kernel
theorem dX2_hew_32 : decode cX2_hew 32 = .ok (.new 57, 3) := by decide +kernel
theorem dX2_hew_35 : decode cX2_hew 35 = .ok (.dup, 1) := by decide +kernel
theorem dX2_hew_36 : decode cX2_hew 36 = .ok (.ldc 101, 2) := by decide +kernel
theorem dX2_hew_38 : decode cX2_hew 38 = .ok (.invokespecial 61, 3) := by decide +kernel
theorem dX2_hew_41 : decode cX2_hew 41 = .ok (.athrow, 1) := by decide +kernel
theorem dX2_hew_42 : decode cX2_hew 42 = .ok (.aload_n 3, 1) := by decide +kernel
theorem dX2_hew_43 : decode cX2_hew 43 = .ok (.dup, 1) := by decide +kernel
theorem dX2_hew_44 : decode cX2_hew 44 = .ok (.getfield 103, 3) := by decide +kernel
theorem dX2_hew_47 : decode cX2_hew 47 = .ok (.aload_n 0, 1) := by decide +kernel
theorem dX2_hew_48 : decode cX2_hew 48 = .ok (.getfield 87, 3) := by decide +kernel
theorem dX2_hew_51 : decode cX2_hew 51 = .ok (.ifCond .eq 7, 3) := by decide +kernel
theorem dX2_hew_54 : decode cX2_hew 54 = .ok (.iload_n 2, 1) := by decide +kernel
theorem dX2_hew_55 : decode cX2_hew 55 = .ok (.goto 15, 3) := by decide +kernel
theorem dX2_hew_58 : decode cX2_hew 58 = .ok (.iload_n 2, 1) := by decide +kernel
theorem dX2_hew_59 : decode cX2_hew 59 = .ok (.bipush 100, 2) := by decide +kernel
theorem dX2_hew_61 : decode cX2_hew 61 = .ok (.aload_n 0, 1) := by decide +kernel
theorem dX2_hew_62 : decode cX2_hew 62 = .ok (.getfield 16, 3) := by decide +kernel
theorem dX2_hew_65 : decode cX2_hew 65 = .ok (.isub, 1) := by decide +kernel
theorem dX2_hew_66 : decode cX2_hew 66 = .ok (.imul, 1) := by decide +kernel
theorem dX2_hew_67 : decode cX2_hew 67 = .ok (.bipush 100, 2) := by decide +kernel
theorem dX2_hew_69 : decode cX2_hew 69 = .ok (.idiv, 1) := by decide +kernel
theorem dX2_hew_70 : decode cX2_hew 70 = .ok (.iadd, 1) := by decide +kernel
theorem dX2_hew_71 : decode cX2_hew 71 = .ok (.putfield 103, 3) := by decide +kernel
theorem dX2_hew_74 : decode cX2_hew 74 = .ok (.aload_n 3, 1) := by decide +kernel
theorem dX2_hew_75 : decode cX2_hew 75 = .ok (.getfield 103, 3) := by decide +kernel
theorem dX2_hew_78 : decode cX2_hew 78 = .ok (.ireturn, 1) := by decide +kernel
theorem dX2_edition_0 : decode cX2_edition 0 = .ok (.iload_n 1, 1) := by decide +kernel
theorem dX2_edition_1 : decode cX2_edition 1 = .ok (.invokestatic 106, 3) := by decide +kernel
theorem dX2_edition_4 : decode cX2_edition 4 = .ok (.ifCond .ne 13, 3) := by decide +kernel
theorem dX2_edition_7 : decode cX2_edition 7 = .ok (.new 75, 3) := by decide +kernel
theorem dX2_edition_10 : decode cX2_edition 10 = .ok (.dup, 1) := by decide +kernel
theorem dX2_edition_11 : decode cX2_edition 11 = .ok (.ldc 110, 2) := by decide +kernel
theorem dX2_edition_13 : decode cX2_edition 13 = .ok (.invokespecial 79, 3) := by decide +kernel
theorem dX2_edition_16 : decode cX2_edition 16 = .ok (.athrow, 1) := by decide +kernel
theorem dX2_edition_17 : decode cX2_edition 17 = .ok (.aload_n 0, 1) := by decide +kernel
theorem dX2_edition_18 : decode cX2_edition 18 = .ok (.getfield 20, 3) := by decide +kernel
theorem dX2_edition_21 : decode cX2_edition 21 = .ok (.istore_n 2, 1) := by decide +kernel
theorem dX2_edition_22 : decode cX2_edition 22 = .ok (.aload_n 0, 1) := by decide +kernel
theorem dX2_edition_23 : decode cX2_edition 23 = .ok (.iload_n 1, 1) := by decide +kernel
theorem dX2_edition_24 : decode cX2_edition 24 = .ok (.putfield 20, 3) := by decide +kernel
theorem dX2_edition_27 : decode cX2_edition 27 = .ok (.iload_n 2, 1) := by decide +kernel
theorem dX2_edition_28 : decode cX2_edition 28 = .ok (.ireturn, 1) := by decide +kernel
theorem dX2_tell_0 : decode cX2_tell 0 = .ok (.iload_n 1, 1) := by decide +kernel
theorem dX2_tell_1 : decode cX2_tell 1 = .ok (.iconst 0, 1) := by decide +kernel
theorem dX2_tell_2 : decode cX2_tell 2 = .ok (.iconst 4, 1) := by decide +kernel
theorem dX2_tell_3 : decode cX2_tell 3 = .ok (.invokestatic 83, 3) := by decide +kernel
theorem dX2_tell_6 : decode cX2_tell 6 = .ok (.iload_n 1, 1) := by decide +kernel
theorem dX2_tell_7 : decode cX2_tell 7 = .ok (.ifCond .ne 13, 3) := by decide +kernel
theorem dX2_tell_10 : decode cX2_tell 10 = .ok (.iload_n 2, 1) := by decide +kernel
theorem dX2_tell_11 : decode cX2_tell 11 = .ok (.iconst 1, 1) := by decide +kernel
theorem dX2_tell_12 : decode cX2_tell 12 = .ok (.bipush 50, 2) := by decide +kernel
theorem dX2_tell_14 : decode cX2_tell 14 = .ok (.invokestatic 83, 3) := by decide +kernel
theorem dX2_tell_17 : decode cX2_tell 17 = .ok (.goto 10, 3) := by decide +kernel
theorem dX2_tell_20 : decode cX2_tell 20 = .ok (.iload_n 2, 1) := by decide +kernel
theorem dX2_tell_21 : decode cX2_tell 21 = .ok (.iconst 0, 1) := by decide +kernel
theorem dX2_tell_22 : decode cX2_tell 22 = .ok (.bipush 100, 2) := by decide +kernel
theorem dX2_tell_24 : decode cX2_tell 24 = .ok (.invokestatic 83, 3) := by decide +kernel
theorem dX2_tell_27 : decode cX2_tell 27 = .ok (.aload_n 0, 1) := by decide +kernel
theorem dX2_tell_28 : decode cX2_tell 28 = .ok (.getfield 23, 3) := by decide +kernel
theorem dX2_tell_31 : decode cX2_tell 31 = .ok (.iload_n 1, 1) := by decide +kernel
theorem dX2_tell_32 : decode cX2_tell 32 = .ok (.iaload, 1) := by decide +kernel
theorem dX2_tell_33 : decode cX2_tell 33 = .ok (.istore_n 3, 1) := by decide +kernel
theorem dX2_tell_34 : decode cX2_tell 34 = .ok (.aload_n 0, 1) := by decide +kernel
theorem dX2_tell_35 : decode cX2_tell 35 = .ok (.getfield 23, 3) := by decide +kernel
theorem dX2_tell_38 : decode cX2_tell 38 = .ok (.iload_n 1, 1) := by decide +kernel
theorem dX2_tell_39 : decode cX2_tell 39 = .ok (.iload_n 2, 1) := by decide +kernel
theorem dX2_tell_40 : decode cX2_tell 40 = .ok (.iastore, 1) := by decide +kernel
theorem dX2_tell_41 : decode cX2_tell 41 = .ok (.iload_n 3, 1) := by decide +kernel
theorem dX2_tell_42 : decode cX2_tell 42 = .ok (.ireturn, 1) := by decide +kernel
theorem dX2_payday_0 : decode cX2_payday 0 = .ok (.aload_n 0, 1) := by decide +kernel
theorem dX2_payday_1 : decode cX2_payday 1 = .ok (.getfield 112, 3) := by decide +kernel
theorem dX2_payday_4 : decode cX2_payday 4 = .ok (.bipush 40, 2) := by decide +kernel
theorem dX2_payday_6 : decode cX2_payday 6 = .ok (.if_icmp .ge 10, 3) := by decide +kernel
theorem dX2_payday_9 : decode cX2_payday 9 = .ok (.aload_n 0, 1) := by decide +kernel
theorem dX2_payday_10 : decode cX2_payday 10 = .ok (.getfield 98, 3) := by decide +kernel
theorem dX2_payday_13 : decode cX2_payday 13 = .ok (.ifCond .eq 13, 3) := by decide +kernel
theorem dX2_payday_16 : decode cX2_payday 16 = .ok (.new 57, 3) := by decide +kernel
theorem dX2_payday_19 : decode cX2_payday 19 = .ok (.dup, 1) := by decide +kernel
theorem dX2_payday_20 : decode cX2_payday 20 = .ok (.ldc 115, 2) := by decide +kernel
theorem dX2_payday_22 : decode cX2_payday 22 = .ok (.invokespecial 61, 3) := by decide +kernel
theorem dX2_payday_25 : decode cX2_payday 25 = .ok (.athrow, 1) := by decide +kernel
theorem dX2_payday_26 : decode cX2_payday 26 = .ok (.iconst 0, 1) := by decide +kernel
theorem dX2_payday_27 : decode cX2_payday 27 = .ok (.istore_n 1, 1) := by decide +kernel
theorem dX2_payday_28 : decode cX2_payday 28 = .ok (.iconst 0, 1) := by decide +kernel
theorem dX2_payday_29 : decode cX2_payday 29 = .ok (.istore_n 2, 1) := by decide +kernel
theorem dX2_payday_30 : decode cX2_payday 30 = .ok (.iload_n 2, 1) := by decide +kernel
theorem dX2_payday_31 : decode cX2_payday 31 = .ok (.aload_n 0, 1) := by decide +kernel
theorem dX2_payday_32 : decode cX2_payday 32 = .ok (.getfield 10, 3) := by decide +kernel
theorem dX2_payday_35 : decode cX2_payday 35 = .ok (.invokevirtual 53, 3) := by decide +kernel
theorem dX2_payday_38 : decode cX2_payday 38 = .ok (.if_icmp .ge 40, 3) := by decide +kernel
theorem dX2_payday_41 : decode cX2_payday 41 = .ok (.aload_n 0, 1) := by decide +kernel
theorem dX2_payday_42 : decode cX2_payday 42 = .ok (.getfield 10, 3) := by decide +kernel
theorem dX2_payday_45 : decode cX2_payday 45 = .ok (.iload_n 2, 1) := by decide +kernel
theorem dX2_payday_46 : decode cX2_payday 46 = .ok (.invokevirtual 117, 3) := by decide +kernel
theorem dX2_payday_49 : decode cX2_payday 49 = .ok (.checkcast 64, 3) := by decide +kernel
theorem dX2_payday_52 : decode cX2_payday 52 = .ok (.astore_n 3, 1) := by decide +kernel
theorem dX2_payday_53 : decode cX2_payday 53 = .ok (.aload_n 3, 1) := by decide +kernel
theorem dX2_payday_54 : decode cX2_payday 54 = .ok (.getfield 121, 3) := by decide +kernel
theorem dX2_payday_57 : decode cX2_payday 57 = .ok (.ifCond .eq 15, 3) := by decide +kernel
theorem dX2_payday_60 : decode cX2_payday 60 = .ok (.aload_n 0, 1) := by decide +kernel
theorem dX2_payday_61 : decode cX2_payday 61 = .ok (.aload_n 3, 1) := by decide +kernel
theorem dX2_payday_62 : decode cX2_payday 62 = .ok (.invokevirtual 124, 3) := by decide +kernel
theorem dX2_payday_65 : decode cX2_payday 65 = .ok (.iload_n 1, 1) := by decide +kernel
theorem dX2_payday_66 : decode cX2_payday 66 = .ok (.aload_n 3, 1) := by decide +kernel
theorem dX2_payday_67 : decode cX2_payday 67 = .ok (.getfield 127, 3) := by decide +kernel
theorem dX2_payday_70 : decode cX2_payday 70 = .ok (.iadd, 1) := by decide +kernel
theorem dX2_payday_71 : decode cX2_payday 71 = .ok (.istore_n 1, 1) := by decide +kernel
theorem dX2_payday_72 : decode cX2_payday 72 = .ok (.iinc 2 1, 3) := by decide +kernel
theorem dX2_payday_75 : decode cX2_payday 75 = .ok (.goto (-45), 3) := by decide +kernel
theorem dX2_payday_78 : decode cX2_payday 78 = .ok (.iconst 0, 1) := by decide +kernel
theorem dX2_payday_79 : decode cX2_payday 79 = .ok (.istore_n 2, 1) := by decide +kernel
theorem dX2_payday_80 : decode cX2_payday 80 = .ok (.iload_n 2, 1) := by decide +kernel
theorem dX2_payday_81 : decode cX2_payday 81 = .ok (.aload_n 0, 1) := by decide +kernel
theorem dX2_payday_82 : decode cX2_payday 82 = .ok (.getfield 112, 3) := by decide +kernel
theorem dX2_payday_85 : decode cX2_payday 85 = .ok (.iconst 4, 1) := by decide +kernel
theorem dX2_payday_86 : decode cX2_payday 86 = .ok (.isub, 1) := by decide +kernel
theorem dX2_payday_87 : decode cX2_payday 87 = .ok (.if_icmp .gt 14, 3) := by decide +kernel
theorem dX2_payday_90 : decode cX2_payday 90 = .ok (.aload_n 0, 1) := by decide +kernel
theorem dX2_payday_91 : decode cX2_payday 91 = .ok (.iload_n 2, 1) := by decide +kernel
theorem dX2_payday_92 : decode cX2_payday 92 = .ok (.invokevirtual 130, 3) := by decide +kernel
theorem dX2_payday_95 : decode cX2_payday 95 = .ok (.iinc 2 1, 3) := by decide +kernel
theorem dX2_payday_98 : decode cX2_payday 98 = .ok (.goto (-18), 3) := by decide +kernel
theorem dX2_payday_101 : decode cX2_payday 101 = .ok (.aload_n 0, 1) := by decide +kernel
theorem dX2_payday_102 : decode cX2_payday 102 = .ok (.dup, 1) := by decide +kernel
theorem dX2_payday_103 : decode cX2_payday 103 = .ok (.getfield 112, 3) := by decide +kernel
theorem dX2_payday_106 : decode cX2_payday 106 = .ok (.iconst 1, 1) := by decide +kernel
theorem dX2_payday_107 : decode cX2_payday 107 = .ok (.iadd, 1) := by decide +kernel
theorem dX2_payday_108 : decode cX2_payday 108 = .ok (.putfield 112, 3) := by decide +kernel
theorem dX2_payday_111 : decode cX2_payday 111 = .ok (.iload_n 1, 1) := by decide +kernel
theorem dX2_payday_112 : decode cX2_payday 112 = .ok (.ireturn, 1) := by decide +kernel
theorem dX2_house_0 : decode cX2_house 0 = .ok (.aload_n 0, 1) := by decide +kernel
theorem dX2_house_1 : decode cX2_house 1 = .ok (.iload_n 1, 1) := by decide +kernel
theorem dX2_house_2 : decode cX2_house 2 = .ok (.invokevirtual 71, 3) := by decide +kernel
theorem dX2_house_5 : decode cX2_house 5 = .ok (.astore_n 2, 1) := by decide +kernel
theorem dX2_house_6 : decode cX2_house 6 = .ok (.aload_n 2, 1) := by decide +kernel
theorem dX2_house_7 : decode cX2_house 7 = .ok (.invokestatic 91, 3) := by decide +kernel
theorem dX2_house_10 : decode cX2_house 10 = .ok (.aload_n 2, 1) := by decide +kernel
theorem dX2_house_11 : decode cX2_house 11 = .ok (.getfield 134, 3) := by decide +kernel
theorem dX2_house_14 : decode cX2_house 14 = .ok (.ifCond .ne 10, 3) := by decide +kernel
theorem dX2_house_17 : decode cX2_house 17 = .ok (.aload_n 2, 1) := by decide +kernel
theorem dX2_house_18 : decode cX2_house 18 = .ok (.getfield 137, 3) := by decide +kernel
theorem dX2_house_21 : decode cX2_house 21 = .ok (.ifCond .le 13, 3) := by decide +kernel
theorem dX2_house_24 : decode cX2_house 24 = .ok (.new 57, 3) := by decide +kernel
theorem dX2_house_27 : decode cX2_house 27 = .ok (.dup, 1) := by decide +kernel
theorem dX2_house_28 : decode cX2_house 28 = .ok (.ldc 140, 2) := by decide +kernel
theorem dX2_house_30 : decode cX2_house 30 = .ok (.invokespecial 61, 3) := by decide +kernel
theorem dX2_house_33 : decode cX2_house 33 = .ok (.athrow, 1) := by decide +kernel
theorem dX2_house_34 : decode cX2_house 34 = .ok (.aload_n 2, 1) := by decide +kernel
theorem dX2_house_35 : decode cX2_house 35 = .ok (.iconst 1, 1) := by decide +kernel
theorem dX2_house_36 : decode cX2_house 36 = .ok (.putfield 134, 3) := by decide +kernel
theorem dX2_house_39 : decode cX2_house 39 = .ok (.return_, 1) := by decide +kernel
theorem dX2_price_0 : decode cX2_price 0 = .ok (.iload_n 1, 1) := by decide +kernel
theorem dX2_price_1 : decode cX2_price 1 = .ok (.invokestatic 142, 3) := by decide +kernel
theorem dX2_price_4 : decode cX2_price 4 = .ok (.iload_n 2, 1) := by decide +kernel
theorem dX2_price_5 : decode cX2_price 5 = .ok (.iconst 1, 1) := by decide +kernel
theorem dX2_price_6 : decode cX2_price 6 = .ok (.bipush 100, 2) := by decide +kernel
theorem dX2_price_8 : decode cX2_price 8 = .ok (.invokestatic 83, 3) := by decide +kernel
theorem dX2_price_11 : decode cX2_price 11 = .ok (.iload_n 3, 1) := by decide +kernel
theorem dX2_price_12 : decode cX2_price 12 = .ok (.ifCond .eq 10, 3) := by decide +kernel
theorem dX2_price_15 : decode cX2_price 15 = .ok (.aload_n 0, 1) := by decide +kernel
theorem dX2_price_16 : decode cX2_price 16 = .ok (.getfield 37, 3) := by decide +kernel
theorem dX2_price_19 : decode cX2_price 19 = .ok (.goto 7, 3) := by decide +kernel
theorem dX2_price_22 : decode cX2_price 22 = .ok (.aload_n 0, 1) := by decide +kernel
theorem dX2_price_23 : decode cX2_price 23 = .ok (.getfield 34, 3) := by decide +kernel
theorem dX2_price_26 : decode cX2_price 26 = .ok (.astore 4, 2) := by decide +kernel
theorem dX2_price_28 : decode cX2_price 28 = .ok (.aload 4, 2) := by decide +kernel
theorem dX2_price_30 : decode cX2_price 30 = .ok (.iload_n 1, 1) := by decide +kernel
theorem dX2_price_31 : decode cX2_price 31 = .ok (.iaload, 1) := by decide +kernel
theorem dX2_price_32 : decode cX2_price 32 = .ok (.istore 5, 2) := by decide +kernel
theorem dX2_price_34 : decode cX2_price 34 = .ok (.aload 4, 2) := by decide +kernel
theorem dX2_price_36 : decode cX2_price 36 = .ok (.iload_n 1, 1) := by decide +kernel
theorem dX2_price_37 : decode cX2_price 37 = .ok (.iload_n 2, 1) := by decide +kernel
theorem dX2_price_38 : decode cX2_price 38 = .ok (.iastore, 1) := by decide +kernel
theorem dX2_price_39 : decode cX2_price 39 = .ok (.iload 5, 2) := by decide +kernel
theorem dX2_price_41 : decode cX2_price 41 = .ok (.ireturn, 1) := by decide +kernel
theorem dX2_raised_0 : decode cX2_raised 0 = .ok (.aload_n 0, 1) := by decide +kernel
theorem dX2_raised_1 : decode cX2_raised 1 = .ok (.iload_n 1, 1) := by decide +kernel
theorem dX2_raised_2 : decode cX2_raised 2 = .ok (.invokevirtual 71, 3) := by decide +kernel
theorem dX2_raised_5 : decode cX2_raised 5 = .ok (.astore_n 3, 1) := by decide +kernel
theorem dX2_raised_6 : decode cX2_raised 6 = .ok (.iload_n 2, 1) := by decide +kernel
theorem dX2_raised_7 : decode cX2_raised 7 = .ok (.invokestatic 142, 3) := by decide +kernel
theorem dX2_raised_10 : decode cX2_raised 10 = .ok (.aload_n 0, 1) := by decide +kernel
theorem dX2_raised_11 : decode cX2_raised 11 = .ok (.aload_n 3, 1) := by decide +kernel
theorem dX2_raised_12 : decode cX2_raised 12 = .ok (.iload_n 2, 1) := by decide +kernel
theorem dX2_raised_13 : decode cX2_raised 13 = .ok (.invokevirtual 145, 3) := by decide +kernel
theorem dX2_raised_16 : decode cX2_raised 16 = .ok (.ireturn, 1) := by decide +kernel
theorem dX2_limit_0 : decode cX2_limit 0 = .ok (.iload_n 1, 1) := by decide +kernel
theorem dX2_limit_1 : decode cX2_limit 1 = .ok (.iconst 0, 1) := by decide +kernel
theorem dX2_limit_2 : decode cX2_limit 2 = .ok (.sipush 1000, 3) := by decide +kernel
theorem dX2_limit_5 : decode cX2_limit 5 = .ok (.invokestatic 83, 3) := by decide +kernel
theorem dX2_limit_8 : decode cX2_limit 8 = .ok (.aload_n 0, 1) := by decide +kernel
theorem dX2_limit_9 : decode cX2_limit 9 = .ok (.getfield 40, 3) := by decide +kernel
theorem dX2_limit_12 : decode cX2_limit 12 = .ok (.istore_n 2, 1) := by decide +kernel
theorem dX2_limit_13 : decode cX2_limit 13 = .ok (.aload_n 0, 1) := by decide +kernel
theorem dX2_limit_14 : decode cX2_limit 14 = .ok (.iload_n 1, 1) := by decide +kernel
theorem dX2_limit_15 : decode cX2_limit 15 = .ok (.putfield 40, 3) := by decide +kernel
theorem dX2_limit_18 : decode cX2_limit 18 = .ok (.iload_n 2, 1) := by decide +kernel
theorem dX2_limit_19 : decode cX2_limit 19 = .ok (.ireturn, 1) := by decide +kernel
theorem dX2_whyNot_0 : decode cX2_whyNot 0 = .ok (.aload_n 0, 1) := by decide +kernel
theorem dX2_whyNot_1 : decode cX2_whyNot 1 = .ok (.iload_n 1, 1) := by decide +kernel
theorem dX2_whyNot_2 : decode cX2_whyNot 2 = .ok (.invokevirtual 71, 3) := by decide +kernel
theorem dX2_whyNot_5 : decode cX2_whyNot 5 = .ok (.astore 4, 2) := by decide +kernel
theorem dX2_whyNot_7 : decode cX2_whyNot 7 = .ok (.iload_n 2, 1) := by decide +kernel
theorem dX2_whyNot_8 : decode cX2_whyNot 8 = .ok (.invokestatic 142, 3) := by decide +kernel
theorem dX2_whyNot_11 : decode cX2_whyNot 11 = .ok (.iload_n 3, 1) := by decide +kernel
theorem dX2_whyNot_12 : decode cX2_whyNot 12 = .ok (.iconst 1, 1) := by decide +kernel
theorem dX2_whyNot_13 : decode cX2_whyNot 13 = .ok (.bipush 50, 2) := by decide +kernel
theorem dX2_whyNot_15 : decode cX2_whyNot 15 = .ok (.invokestatic 83, 3) := by decide +kernel
theorem dX2_whyNot_18 : decode cX2_whyNot 18 = .ok (.aload_n 0, 1) := by decide +kernel
theorem dX2_whyNot_19 : decode cX2_whyNot 19 = .ok (.aload 4, 2) := by decide +kernel
theorem dX2_whyNot_21 : decode cX2_whyNot 21 = .ok (.aload_n 0, 1) := by decide +kernel
theorem dX2_whyNot_22 : decode cX2_whyNot 22 = .ok (.aload 4, 2) := by decide +kernel
theorem dX2_whyNot_24 : decode cX2_whyNot 24 = .ok (.iload_n 2, 1) := by decide +kernel
theorem dX2_whyNot_25 : decode cX2_whyNot 25 = .ok (.invokevirtual 145, 3) := by decide +kernel
theorem dX2_whyNot_28 : decode cX2_whyNot 28 = .ok (.iload_n 3, 1) := by decide +kernel
theorem dX2_whyNot_29 : decode cX2_whyNot 29 = .ok (.imul, 1) := by decide +kernel
theorem dX2_whyNot_30 : decode cX2_whyNot 30 = .ok (.invokevirtual 149, 3) := by decide +kernel
theorem dX2_whyNot_33 : decode cX2_whyNot 33 = .ok (.ireturn, 1) := by decide +kernel
theorem dX2_buy_0 : decode cX2_buy 0 = .ok (.aload_n 0, 1) := by decide +kernel
theorem dX2_buy_1 : decode cX2_buy 1 = .ok (.iload_n 1, 1) := by decide +kernel
theorem dX2_buy_2 : decode cX2_buy 2 = .ok (.invokevirtual 71, 3) := by decide +kernel
theorem dX2_buy_5 : decode cX2_buy 5 = .ok (.astore 4, 2) := by decide +kernel
theorem dX2_buy_7 : decode cX2_buy 7 = .ok (.iload_n 2, 1) := by decide +kernel
theorem dX2_buy_8 : decode cX2_buy 8 = .ok (.invokestatic 142, 3) := by decide +kernel
theorem dX2_buy_11 : decode cX2_buy 11 = .ok (.iload_n 3, 1) := by decide +kernel
theorem dX2_buy_12 : decode cX2_buy 12 = .ok (.iconst 1, 1) := by decide +kernel
theorem dX2_buy_13 : decode cX2_buy 13 = .ok (.bipush 50, 2) := by decide +kernel
theorem dX2_buy_15 : decode cX2_buy 15 = .ok (.invokestatic 83, 3) := by decide +kernel
theorem dX2_buy_18 : decode cX2_buy 18 = .ok (.aload_n 0, 1) := by decide +kernel
theorem dX2_buy_19 : decode cX2_buy 19 = .ok (.aload 4, 2) := by decide +kernel
theorem dX2_buy_21 : decode cX2_buy 21 = .ok (.iload_n 2, 1) := by decide +kernel
theorem dX2_buy_22 : decode cX2_buy 22 = .ok (.invokevirtual 145, 3) := by decide +kernel
theorem dX2_buy_25 : decode cX2_buy 25 = .ok (.iload_n 3, 1) := by decide +kernel
theorem dX2_buy_26 : decode cX2_buy 26 = .ok (.imul, 1) := by decide +kernel
theorem dX2_buy_27 : decode cX2_buy 27 = .ok (.istore 5, 2) := by decide +kernel
theorem dX2_buy_29 : decode cX2_buy 29 = .ok (.aload_n 0, 1) := by decide +kernel
theorem dX2_buy_30 : decode cX2_buy 30 = .ok (.aload 4, 2) := by decide +kernel
theorem dX2_buy_32 : decode cX2_buy 32 = .ok (.iload 5, 2) := by decide +kernel
theorem dX2_buy_34 : decode cX2_buy 34 = .ok (.invokevirtual 149, 3) := by decide +kernel
theorem dX2_buy_37 : decode cX2_buy 37 = .ok (.ifCond .eq 13, 3) := by decide +kernel
theorem dX2_buy_40 : decode cX2_buy 40 = .ok (.new 57, 3) := by decide +kernel
theorem dX2_buy_43 : decode cX2_buy 43 = .ok (.dup, 1) := by decide +kernel
theorem dX2_buy_44 : decode cX2_buy 44 = .ok (.ldc 152, 2) := by decide +kernel
theorem dX2_buy_46 : decode cX2_buy 46 = .ok (.invokespecial 61, 3) := by decide +kernel
theorem dX2_buy_49 : decode cX2_buy 49 = .ok (.athrow, 1) := by decide +kernel
theorem dX2_buy_50 : decode cX2_buy 50 = .ok (.aload 4, 2) := by decide +kernel
theorem dX2_buy_52 : decode cX2_buy 52 = .ok (.iload 5, 2) := by decide +kernel
theorem dX2_buy_54 : decode cX2_buy 54 = .ok (.invokevirtual 154, 3) := by decide +kernel
theorem dX2_buy_57 : decode cX2_buy 57 = .ok (.istore 6, 2) := by decide +kernel
theorem dX2_buy_59 : decode cX2_buy 59 = .ok (.iload 5, 2) := by decide +kernel
theorem dX2_buy_61 : decode cX2_buy 61 = .ok (.iload 6, 2) := by decide +kernel
theorem dX2_buy_63 : decode cX2_buy 63 = .ok (.isub, 1) := by decide +kernel
theorem dX2_buy_64 : decode cX2_buy 64 = .ok (.aload 4, 2) := by decide +kernel
theorem dX2_buy_66 : decode cX2_buy 66 = .ok (.getfield 158, 3) := by decide +kernel
theorem dX2_buy_69 : decode cX2_buy 69 = .ok (.invokestatic 161, 3) := by decide +kernel
theorem dX2_buy_72 : decode cX2_buy 72 = .ok (.istore 7, 2) := by decide +kernel
theorem dX2_buy_74 : decode cX2_buy 74 = .ok (.aload_n 0, 1) := by decide +kernel
theorem dX2_buy_75 : decode cX2_buy 75 = .ok (.getfield 50, 3) := by decide +kernel
theorem dX2_buy_78 : decode cX2_buy 78 = .ok (.iconst 1, 1) := by decide +kernel
theorem dX2_buy_79 : decode cX2_buy 79 = .ok (.dup2, 1) := by decide +kernel
theorem dX2_buy_80 : decode cX2_buy 80 = .ok (.iaload, 1) := by decide +kernel
theorem dX2_buy_81 : decode cX2_buy 81 = .ok (.iload 6, 2) := by decide +kernel
theorem dX2_buy_83 : decode cX2_buy 83 = .ok (.iadd, 1) := by decide +kernel
theorem dX2_buy_84 : decode cX2_buy 84 = .ok (.iastore, 1) := by decide +kernel
theorem dX2_buy_85 : decode cX2_buy 85 = .ok (.aload 4, 2) := by decide +kernel
theorem dX2_buy_87 : decode cX2_buy 87 = .ok (.dup, 1) := by decide +kernel
theorem dX2_buy_88 : decode cX2_buy 88 = .ok (.getfield 158, 3) := by decide +kernel
theorem dX2_buy_91 : decode cX2_buy 91 = .ok (.iload 7, 2) := by decide +kernel
theorem dX2_buy_93 : decode cX2_buy 93 = .ok (.isub, 1) := by decide +kernel
theorem dX2_buy_94 : decode cX2_buy 94 = .ok (.putfield 158, 3) := by decide +kernel
theorem dX2_buy_97 : decode cX2_buy 97 = .ok (.aload 4, 2) := by decide +kernel
theorem dX2_buy_99 : decode cX2_buy 99 = .ok (.dup, 1) := by decide +kernel
theorem dX2_buy_100 : decode cX2_buy 100 = .ok (.getfield 167, 3) := by decide +kernel
theorem dX2_buy_103 : decode cX2_buy 103 = .ok (.iload 5, 2) := by decide +kernel
theorem dX2_buy_105 : decode cX2_buy 105 = .ok (.iload 6, 2) := by decide +kernel
theorem dX2_buy_107 : decode cX2_buy 107 = .ok (.isub, 1) := by decide +kernel
theorem dX2_buy_108 : decode cX2_buy 108 = .ok (.iload 7, 2) := by decide +kernel
theorem dX2_buy_110 : decode cX2_buy 110 = .ok (.isub, 1) := by decide +kernel
theorem dX2_buy_111 : decode cX2_buy 111 = .ok (.iadd, 1) := by decide +kernel
theorem dX2_buy_112 : decode cX2_buy 112 = .ok (.putfield 167, 3) := by decide +kernel
theorem dX2_buy_115 : decode cX2_buy 115 = .ok (.aload 4, 2) := by decide +kernel
theorem dX2_buy_117 : decode cX2_buy 117 = .ok (.getfield 170, 3) := by decide +kernel
theorem dX2_buy_120 : decode cX2_buy 120 = .ok (.iload_n 2, 1) := by decide +kernel
theorem dX2_buy_121 : decode cX2_buy 121 = .ok (.dup2, 1) := by decide +kernel
theorem dX2_buy_122 : decode cX2_buy 122 = .ok (.iaload, 1) := by decide +kernel
theorem dX2_buy_123 : decode cX2_buy 123 = .ok (.iload_n 3, 1) := by decide +kernel
theorem dX2_buy_124 : decode cX2_buy 124 = .ok (.iadd, 1) := by decide +kernel
theorem dX2_buy_125 : decode cX2_buy 125 = .ok (.iastore, 1) := by decide +kernel
theorem dX2_buy_126 : decode cX2_buy 126 = .ok (.aload 4, 2) := by decide +kernel
theorem dX2_buy_128 : decode cX2_buy 128 = .ok (.getfield 167, 3) := by decide +kernel
theorem dX2_buy_131 : decode cX2_buy 131 = .ok (.ireturn, 1) := by decide +kernel
theorem dX2_over_0 : decode cX2_over 0 = .ok (.aload_n 0, 1) := by decide +kernel
theorem dX2_over_1 : decode cX2_over 1 = .ok (.iload_n 1, 1) := by decide +kernel
theorem dX2_over_2 : decode cX2_over 2 = .ok (.invokevirtual 71, 3) := by decide +kernel
theorem dX2_over_5 : decode cX2_over 5 = .ok (.astore 4, 2) := by decide +kernel
theorem dX2_over_7 : decode cX2_over 7 = .ok (.iload_n 2, 1) := by decide +kernel
theorem dX2_over_8 : decode cX2_over 8 = .ok (.invokestatic 142, 3) := by decide +kernel
theorem dX2_over_11 : decode cX2_over 11 = .ok (.iload_n 3, 1) := by decide +kernel
theorem dX2_over_12 : decode cX2_over 12 = .ok (.iconst 1, 1) := by decide +kernel
theorem dX2_over_13 : decode cX2_over 13 = .ok (.bipush 50, 2) := by decide +kernel
theorem dX2_over_15 : decode cX2_over 15 = .ok (.invokestatic 83, 3) := by decide +kernel
theorem dX2_over_18 : decode cX2_over 18 = .ok (.aload 4, 2) := by decide +kernel
theorem dX2_over_20 : decode cX2_over 20 = .ok (.invokestatic 91, 3) := by decide +kernel
theorem dX2_over_23 : decode cX2_over 23 = .ok (.aload_n 0, 1) := by decide +kernel
theorem dX2_over_24 : decode cX2_over 24 = .ok (.getfield 37, 3) := by decide +kernel
theorem dX2_over_27 : decode cX2_over 27 = .ok (.iload_n 2, 1) := by decide +kernel
theorem dX2_over_28 : decode cX2_over 28 = .ok (.iaload, 1) := by decide +kernel
theorem dX2_over_29 : decode cX2_over 29 = .ok (.iload_n 3, 1) := by decide +kernel
theorem dX2_over_30 : decode cX2_over 30 = .ok (.imul, 1) := by decide +kernel
theorem dX2_over_31 : decode cX2_over 31 = .ok (.istore 5, 2) := by decide +kernel
theorem dX2_over_33 : decode cX2_over 33 = .ok (.aload 4, 2) := by decide +kernel
theorem dX2_over_35 : decode cX2_over 35 = .ok (.getfield 158, 3) := by decide +kernel
theorem dX2_over_38 : decode cX2_over 38 = .ok (.iload 5, 2) := by decide +kernel
theorem dX2_over_40 : decode cX2_over 40 = .ok (.if_icmp .ge 13, 3) := by decide +kernel
theorem dX2_over_43 : decode cX2_over 43 = .ok (.new 57, 3) := by decide +kernel
theorem dX2_over_46 : decode cX2_over 46 = .ok (.dup, 1) := by decide +kernel
theorem dX2_over_47 : decode cX2_over 47 = .ok (.ldc 173, 2) := by decide +kernel
theorem dX2_over_49 : decode cX2_over 49 = .ok (.invokespecial 61, 3) := by decide +kernel
theorem dX2_over_52 : decode cX2_over 52 = .ok (.athrow, 1) := by decide +kernel
theorem dX2_over_53 : decode cX2_over 53 = .ok (.aload 4, 2) := by decide +kernel
theorem dX2_over_55 : decode cX2_over 55 = .ok (.dup, 1) := by decide +kernel
theorem dX2_over_56 : decode cX2_over 56 = .ok (.getfield 158, 3) := by decide +kernel
theorem dX2_over_59 : decode cX2_over 59 = .ok (.iload 5, 2) := by decide +kernel
theorem dX2_over_61 : decode cX2_over 61 = .ok (.isub, 1) := by decide +kernel
theorem dX2_over_62 : decode cX2_over 62 = .ok (.putfield 158, 3) := by decide +kernel
theorem dX2_over_65 : decode cX2_over 65 = .ok (.aload 4, 2) := by decide +kernel
theorem dX2_over_67 : decode cX2_over 67 = .ok (.getfield 170, 3) := by decide +kernel
theorem dX2_over_70 : decode cX2_over 70 = .ok (.iload_n 2, 1) := by decide +kernel
theorem dX2_over_71 : decode cX2_over 71 = .ok (.dup2, 1) := by decide +kernel
theorem dX2_over_72 : decode cX2_over 72 = .ok (.iaload, 1) := by decide +kernel
theorem dX2_over_73 : decode cX2_over 73 = .ok (.iload_n 3, 1) := by decide +kernel
theorem dX2_over_74 : decode cX2_over 74 = .ok (.iadd, 1) := by decide +kernel
theorem dX2_over_75 : decode cX2_over 75 = .ok (.iastore, 1) := by decide +kernel
theorem dX2_over_76 : decode cX2_over 76 = .ok (.aload 4, 2) := by decide +kernel
theorem dX2_over_78 : decode cX2_over 78 = .ok (.getfield 158, 3) := by decide +kernel
theorem dX2_over_81 : decode cX2_over 81 = .ok (.ireturn, 1) := by decide +kernel
theorem dX2_discount_0 : decode cX2_discount 0 = .ok (.iload_n 1, 1) := by decide +kernel
theorem dX2_discount_1 : decode cX2_discount 1 = .ok (.iconst 0, 1) := by decide +kernel
theorem dX2_discount_2 : decode cX2_discount 2 = .ok (.bipush 90, 2) := by decide +kernel
theorem dX2_discount_4 : decode cX2_discount 4 = .ok (.invokestatic 83, 3) := by decide +kernel
theorem dX2_discount_7 : decode cX2_discount 7 = .ok (.aload_n 0, 1) := by decide +kernel
theorem dX2_discount_8 : decode cX2_discount 8 = .ok (.getfield 43, 3) := by decide +kernel
theorem dX2_discount_11 : decode cX2_discount 11 = .ok (.istore_n 2, 1) := by decide +kernel
theorem dX2_discount_12 : decode cX2_discount 12 = .ok (.aload_n 0, 1) := by decide +kernel
theorem dX2_discount_13 : decode cX2_discount 13 = .ok (.iload_n 1, 1) := by decide +kernel
theorem dX2_discount_14 : decode cX2_discount 14 = .ok (.putfield 43, 3) := by decide +kernel
theorem dX2_discount_17 : decode cX2_discount 17 = .ok (.iload_n 2, 1) := by decide +kernel
theorem dX2_discount_18 : decode cX2_discount 18 = .ok (.ireturn, 1) := by decide +kernel
theorem dX2_change_0 : decode cX2_change 0 = .ok (.aload_n 0, 1) := by decide +kernel
theorem dX2_change_1 : decode cX2_change 1 = .ok (.iload_n 1, 1) := by decide +kernel
theorem dX2_change_2 : decode cX2_change 2 = .ok (.invokevirtual 71, 3) := by decide +kernel
theorem dX2_change_5 : decode cX2_change 5 = .ok (.astore_n 3, 1) := by decide +kernel
theorem dX2_change_6 : decode cX2_change 6 = .ok (.iload_n 2, 1) := by decide +kernel
theorem dX2_change_7 : decode cX2_change 7 = .ok (.iconst 1, 1) := by decide +kernel
theorem dX2_change_8 : decode cX2_change 8 = .ok (.ldc 175, 2) := by decide +kernel
theorem dX2_change_10 : decode cX2_change 10 = .ok (.invokestatic 83, 3) := by decide +kernel
theorem dX2_change_13 : decode cX2_change 13 = .ok (.aload_n 3, 1) := by decide +kernel
theorem dX2_change_14 : decode cX2_change 14 = .ok (.invokestatic 91, 3) := by decide +kernel
theorem dX2_change_17 : decode cX2_change 17 = .ok (.aload_n 3, 1) := by decide +kernel
theorem dX2_change_18 : decode cX2_change 18 = .ok (.invokevirtual 176, 3) := by decide +kernel
theorem dX2_change_21 : decode cX2_change 21 = .ok (.iload_n 2, 1) := by decide +kernel
theorem dX2_change_22 : decode cX2_change 22 = .ok (.if_icmp .ge 13, 3) := by decide +kernel
theorem dX2_change_25 : decode cX2_change 25 = .ok (.new 57, 3) := by decide +kernel
theorem dX2_change_28 : decode cX2_change 28 = .ok (.dup, 1) := by decide +kernel
theorem dX2_change_29 : decode cX2_change 29 = .ok (.ldc 179, 2) := by decide +kernel
theorem dX2_change_31 : decode cX2_change 31 = .ok (.invokespecial 61, 3) := by decide +kernel
theorem dX2_change_34 : decode cX2_change 34 = .ok (.athrow, 1) := by decide +kernel
theorem dX2_change_35 : decode cX2_change 35 = .ok (.aload_n 0, 1) := by decide +kernel
theorem dX2_change_36 : decode cX2_change 36 = .ok (.getfield 50, 3) := by decide +kernel
theorem dX2_change_39 : decode cX2_change 39 = .ok (.iconst 2, 1) := by decide +kernel
theorem dX2_change_40 : decode cX2_change 40 = .ok (.dup2, 1) := by decide +kernel
theorem dX2_change_41 : decode cX2_change 41 = .ok (.iaload, 1) := by decide +kernel
theorem dX2_change_42 : decode cX2_change 42 = .ok (.aload_n 3, 1) := by decide +kernel
theorem dX2_change_43 : decode cX2_change 43 = .ok (.iload_n 2, 1) := by decide +kernel
theorem dX2_change_44 : decode cX2_change 44 = .ok (.invokevirtual 154, 3) := by decide +kernel
theorem dX2_change_47 : decode cX2_change 47 = .ok (.iadd, 1) := by decide +kernel
theorem dX2_change_48 : decode cX2_change 48 = .ok (.iastore, 1) := by decide +kernel
theorem dX2_change_49 : decode cX2_change 49 = .ok (.iload_n 2, 1) := by decide +kernel
theorem dX2_change_50 : decode cX2_change 50 = .ok (.bipush 100, 2) := by decide +kernel
theorem dX2_change_52 : decode cX2_change 52 = .ok (.aload_n 0, 1) := by decide +kernel
theorem dX2_change_53 : decode cX2_change 53 = .ok (.getfield 43, 3) := by decide +kernel
theorem dX2_change_56 : decode cX2_change 56 = .ok (.isub, 1) := by decide +kernel
theorem dX2_change_57 : decode cX2_change 57 = .ok (.imul, 1) := by decide +kernel
theorem dX2_change_58 : decode cX2_change 58 = .ok (.bipush 100, 2) := by decide +kernel
theorem dX2_change_60 : decode cX2_change 60 = .ok (.idiv, 1) := by decide +kernel
theorem dX2_change_61 : decode cX2_change 61 = .ok (.istore 4, 2) := by decide +kernel
theorem dX2_change_63 : decode cX2_change 63 = .ok (.aload_n 3, 1) := by decide +kernel
theorem dX2_change_64 : decode cX2_change 64 = .ok (.dup, 1) := by decide +kernel
theorem dX2_change_65 : decode cX2_change 65 = .ok (.getfield 158, 3) := by decide +kernel
theorem dX2_change_68 : decode cX2_change 68 = .ok (.iload 4, 2) := by decide +kernel
theorem dX2_change_70 : decode cX2_change 70 = .ok (.iadd, 1) := by decide +kernel
theorem dX2_change_71 : decode cX2_change 71 = .ok (.putfield 158, 3) := by decide +kernel
theorem dX2_change_74 : decode cX2_change 74 = .ok (.iload 4, 2) := by decide +kernel
theorem dX2_change_76 : decode cX2_change 76 = .ok (.ireturn, 1) := by decide +kernel
theorem dX2_law_0 : decode cX2_law 0 = .ok (.iload_n 1, 1) := by decide +kernel
theorem dX2_law_1 : decode cX2_law 1 = .ok (.aload_n 0, 1) := by decide +kernel
theorem dX2_law_2 : decode cX2_law 2 = .ok (.getfield 46, 3) := by decide +kernel
theorem dX2_law_5 : decode cX2_law 5 = .ok (.arraylength, 1) := by decide +kernel
theorem dX2_law_6 : decode cX2_law 6 = .ok (.invokestatic 181, 3) := by decide +kernel
theorem dX2_law_9 : decode cX2_law 9 = .ok (.aload_n 0, 1) := by decide +kernel
theorem dX2_law_10 : decode cX2_law 10 = .ok (.getfield 46, 3) := by decide +kernel
theorem dX2_law_13 : decode cX2_law 13 = .ok (.iload_n 1, 1) := by decide +kernel
theorem dX2_law_14 : decode cX2_law 14 = .ok (.baload, 1) := by decide +kernel
theorem dX2_law_15 : decode cX2_law 15 = .ok (.istore_n 3, 1) := by decide +kernel
theorem dX2_law_16 : decode cX2_law 16 = .ok (.aload_n 0, 1) := by decide +kernel
theorem dX2_law_17 : decode cX2_law 17 = .ok (.getfield 46, 3) := by decide +kernel
theorem dX2_law_20 : decode cX2_law 20 = .ok (.iload_n 1, 1) := by decide +kernel
theorem dX2_law_21 : decode cX2_law 21 = .ok (.iload_n 2, 1) := by decide +kernel
theorem dX2_law_22 : decode cX2_law 22 = .ok (.bastore, 1) := by decide +kernel
theorem dX2_law_23 : decode cX2_law 23 = .ok (.iload_n 3, 1) := by decide +kernel
theorem dX2_law_24 : decode cX2_law 24 = .ok (.ireturn, 1) := by decide +kernel
theorem dX2_obey_0 : decode cX2_obey 0 = .ok (.aload_n 0, 1) := by decide +kernel
theorem dX2_obey_1 : decode cX2_obey 1 = .ok (.getfield 185, 3) := by decide +kernel
theorem dX2_obey_4 : decode cX2_obey 4 = .ok (.istore_n 2, 1) := by decide +kernel
theorem dX2_obey_5 : decode cX2_obey 5 = .ok (.aload_n 0, 1) := by decide +kernel
theorem dX2_obey_6 : decode cX2_obey 6 = .ok (.iload_n 1, 1) := by decide +kernel
theorem dX2_obey_7 : decode cX2_obey 7 = .ok (.putfield 185, 3) := by decide +kernel
theorem dX2_obey_10 : decode cX2_obey 10 = .ok (.iload_n 2, 1) := by decide +kernel
theorem dX2_obey_11 : decode cX2_obey 11 = .ok (.ireturn, 1) := by decide +kernel
theorem dX2_breaches_0 : decode cX2_breaches 0 = .ok (.aload_n 0, 1) := by decide +kernel
theorem dX2_breaches_1 : decode cX2_breaches 1 = .ok (.getfield 188, 3) := by decide +kernel
theorem dX2_breaches_4 : decode cX2_breaches 4 = .ok (.ireturn, 1) := by decide +kernel
theorem dX2_die_0 : decode cX2_die 0 = .ok (.aload_n 0, 1) := by decide +kernel
theorem dX2_die_1 : decode cX2_die 1 = .ok (.iload_n 1, 1) := by decide +kernel
theorem dX2_die_2 : decode cX2_die 2 = .ok (.invokevirtual 71, 3) := by decide +kernel
theorem dX2_die_5 : decode cX2_die 5 = .ok (.astore_n 2, 1) := by decide +kernel
theorem dX2_die_6 : decode cX2_die 6 = .ok (.aload_n 2, 1) := by decide +kernel
theorem dX2_die_7 : decode cX2_die 7 = .ok (.invokestatic 91, 3) := by decide +kernel
theorem dX2_die_10 : decode cX2_die 10 = .ok (.aload_n 2, 1) := by decide +kernel
theorem dX2_die_11 : decode cX2_die 11 = .ok (.iconst 0, 1) := by decide +kernel
theorem dX2_die_12 : decode cX2_die 12 = .ok (.putfield 121, 3) := by decide +kernel
theorem dX2_die_15 : decode cX2_die 15 = .ok (.aload_n 0, 1) := by decide +kernel
theorem dX2_die_16 : decode cX2_die 16 = .ok (.aload_n 2, 1) := by decide +kernel
theorem dX2_die_17 : decode cX2_die 17 = .ok (.invokevirtual 191, 3) := by decide +kernel
theorem dX2_die_20 : decode cX2_die 20 = .ok (.istore_n 3, 1) := by decide +kernel
theorem dX2_die_21 : decode cX2_die 21 = .ok (.iload_n 3, 1) := by decide +kernel
theorem dX2_die_22 : decode cX2_die 22 = .ok (.iconst (-1), 1) := by decide +kernel
theorem dX2_die_23 : decode cX2_die 23 = .ok (.if_icmp .ne 19, 3) := by decide +kernel
theorem dX2_die_26 : decode cX2_die 26 = .ok (.aload_n 0, 1) := by decide +kernel
theorem dX2_die_27 : decode cX2_die 27 = .ok (.getfield 50, 3) := by decide +kernel
theorem dX2_die_30 : decode cX2_die 30 = .ok (.iconst 4, 1) := by decide +kernel
theorem dX2_die_31 : decode cX2_die 31 = .ok (.dup2, 1) := by decide +kernel
theorem dX2_die_32 : decode cX2_die 32 = .ok (.iaload, 1) := by decide +kernel
theorem dX2_die_33 : decode cX2_die 33 = .ok (.aload_n 2, 1) := by decide +kernel
theorem dX2_die_34 : decode cX2_die 34 = .ok (.invokevirtual 176, 3) := by decide +kernel
theorem dX2_die_37 : decode cX2_die 37 = .ok (.iadd, 1) := by decide +kernel
theorem dX2_die_38 : decode cX2_die 38 = .ok (.iastore, 1) := by decide +kernel
theorem dX2_die_39 : decode cX2_die 39 = .ok (.goto 26, 3) := by decide +kernel
theorem dX2_die_42 : decode cX2_die 42 = .ok (.aload_n 0, 1) := by decide +kernel
theorem dX2_die_43 : decode cX2_die 43 = .ok (.iload_n 3, 1) := by decide +kernel
theorem dX2_die_44 : decode cX2_die 44 = .ok (.invokevirtual 71, 3) := by decide +kernel
theorem dX2_die_47 : decode cX2_die 47 = .ok (.aload_n 2, 1) := by decide +kernel
theorem dX2_die_48 : decode cX2_die 48 = .ok (.aload_n 0, 1) := by decide +kernel
theorem dX2_die_49 : decode cX2_die 49 = .ok (.getfield 46, 3) := by decide +kernel
theorem dX2_die_52 : decode cX2_die 52 = .ok (.iconst 2, 1) := by decide +kernel
theorem dX2_die_53 : decode cX2_die 53 = .ok (.baload, 1) := by decide +kernel
theorem dX2_die_54 : decode cX2_die 54 = .ok (.ifCond .ne 7, 3) := by decide +kernel
theorem dX2_die_57 : decode cX2_die 57 = .ok (.iconst 1, 1) := by decide +kernel
theorem dX2_die_58 : decode cX2_die 58 = .ok (.goto 4, 3) := by decide +kernel
theorem dX2_die_61 : decode cX2_die 61 = .ok (.iconst 0, 1) := by decide +kernel
theorem dX2_die_62 : decode cX2_die 62 = .ok (.invokevirtual 195, 3) := by decide +kernel
theorem dX2_die_65 : decode cX2_die 65 = .ok (.aload_n 2, 1) := by decide +kernel
theorem dX2_die_66 : decode cX2_die 66 = .ok (.invokevirtual 199, 3) := by decide +kernel
theorem dX2_die_69 : decode cX2_die 69 = .ok (.iload_n 3, 1) := by decide +kernel
theorem dX2_die_70 : decode cX2_die 70 = .ok (.ireturn, 1) := by decide +kernel
theorem dX2_vote_0 : decode cX2_vote 0 = .ok (.aload_n 0, 1) := by decide +kernel
theorem dX2_vote_1 : decode cX2_vote 1 = .ok (.iload_n 1, 1) := by decide +kernel
theorem dX2_vote_2 : decode cX2_vote 2 = .ok (.invokevirtual 71, 3) := by decide +kernel
theorem dX2_vote_5 : decode cX2_vote 5 = .ok (.astore_n 3, 1) := by decide +kernel
theorem dX2_vote_6 : decode cX2_vote 6 = .ok (.aload_n 3, 1) := by decide +kernel
theorem dX2_vote_7 : decode cX2_vote 7 = .ok (.getfield 202, 3) := by decide +kernel
theorem dX2_vote_10 : decode cX2_vote 10 = .ok (.istore 4, 2) := by decide +kernel
theorem dX2_vote_12 : decode cX2_vote 12 = .ok (.aload_n 3, 1) := by decide +kernel
theorem dX2_vote_13 : decode cX2_vote 13 = .ok (.iload_n 2, 1) := by decide +kernel
theorem dX2_vote_14 : decode cX2_vote 14 = .ok (.putfield 202, 3) := by decide +kernel
theorem dX2_vote_17 : decode cX2_vote 17 = .ok (.iload 4, 2) := by decide +kernel
theorem dX2_vote_19 : decode cX2_vote 19 = .ok (.ireturn, 1) := by decide +kernel
theorem dX2_strike_0 : decode cX2_strike 0 = .ok (.aload_n 0, 1) := by decide +kernel
theorem dX2_strike_1 : decode cX2_strike 1 = .ok (.getfield 98, 3) := by decide +kernel
theorem dX2_strike_4 : decode cX2_strike 4 = .ok (.ifCond .ne 17, 3) := by decide +kernel
theorem dX2_strike_7 : decode cX2_strike 7 = .ok (.aload_n 0, 1) := by decide +kernel
theorem dX2_strike_8 : decode cX2_strike 8 = .ok (.getfield 95, 3) := by decide +kernel
theorem dX2_strike_11 : decode cX2_strike 11 = .ok (.ifCond .ne 20, 3) := by decide +kernel
theorem dX2_strike_14 : decode cX2_strike 14 = .ok (.aload_n 0, 1) := by decide +kernel
theorem dX2_strike_15 : decode cX2_strike 15 = .ok (.invokevirtual 205, 3) := by decide +kernel
theorem dX2_strike_18 : decode cX2_strike 18 = .ok (.ifCond .ne 13, 3) := by decide +kernel
theorem dX2_strike_21 : decode cX2_strike 21 = .ok (.new 57, 3) := by decide +kernel
theorem dX2_strike_24 : decode cX2_strike 24 = .ok (.dup, 1) := by decide +kernel
theorem dX2_strike_25 : decode cX2_strike 25 = .ok (.ldc 209, 2) := by decide +kernel
theorem dX2_strike_27 : decode cX2_strike 27 = .ok (.invokespecial 61, 3) := by decide +kernel
theorem dX2_strike_30 : decode cX2_strike 30 = .ok (.athrow, 1) := by decide +kernel
theorem dX2_strike_31 : decode cX2_strike 31 = .ok (.aload_n 0, 1) := by decide +kernel
theorem dX2_strike_32 : decode cX2_strike 32 = .ok (.aload_n 0, 1) := by decide +kernel
theorem dX2_strike_33 : decode cX2_strike 33 = .ok (.getfield 95, 3) := by decide +kernel
theorem dX2_strike_36 : decode cX2_strike 36 = .ok (.ifCond .ne 7, 3) := by decide +kernel
theorem dX2_strike_39 : decode cX2_strike 39 = .ok (.iconst 1, 1) := by decide +kernel
theorem dX2_strike_40 : decode cX2_strike 40 = .ok (.goto 4, 3) := by decide +kernel
theorem dX2_strike_43 : decode cX2_strike 43 = .ok (.iconst 0, 1) := by decide +kernel
theorem dX2_strike_44 : decode cX2_strike 44 = .ok (.putfield 95, 3) := by decide +kernel
theorem dX2_strike_47 : decode cX2_strike 47 = .ok (.aload_n 0, 1) := by decide +kernel
theorem dX2_strike_48 : decode cX2_strike 48 = .ok (.getfield 95, 3) := by decide +kernel
theorem dX2_strike_51 : decode cX2_strike 51 = .ok (.ireturn, 1) := by decide +kernel
theorem dX2_give_0 : decode cX2_give 0 = .ok (.iload_n 1, 1) := by decide +kernel
theorem dX2_give_1 : decode cX2_give 1 = .ok (.iconst 1, 1) := by decide +kernel
theorem dX2_give_2 : decode cX2_give 2 = .ok (.sipush 1000, 3) := by decide +kernel
theorem dX2_give_5 : decode cX2_give 5 = .ok (.invokestatic 83, 3) := by decide +kernel
theorem dX2_give_8 : decode cX2_give 8 = .ok (.aload_n 0, 1) := by decide +kernel
theorem dX2_give_9 : decode cX2_give 9 = .ok (.dup, 1) := by decide +kernel
theorem dX2_give_10 : decode cX2_give 10 = .ok (.getfield 211, 3) := by decide +kernel
theorem dX2_give_13 : decode cX2_give 13 = .ok (.iload_n 1, 1) := by decide +kernel
theorem dX2_give_14 : decode cX2_give 14 = .ok (.iadd, 1) := by decide +kernel
theorem dX2_give_15 : decode cX2_give 15 = .ok (.putfield 211, 3) := by decide +kernel
theorem dX2_give_18 : decode cX2_give 18 = .ok (.aload_n 0, 1) := by decide +kernel
theorem dX2_give_19 : decode cX2_give 19 = .ok (.getfield 211, 3) := by decide +kernel
theorem dX2_give_22 : decode cX2_give 22 = .ok (.ireturn, 1) := by decide +kernel
theorem dX2_soup_0 : decode cX2_soup 0 = .ok (.aload_n 0, 1) := by decide +kernel
theorem dX2_soup_1 : decode cX2_soup 1 = .ok (.getfield 95, 3) := by decide +kernel
theorem dX2_soup_4 : decode cX2_soup 4 = .ok (.ifCond .ne 13, 3) := by decide +kernel
theorem dX2_soup_7 : decode cX2_soup 7 = .ok (.new 57, 3) := by decide +kernel
theorem dX2_soup_10 : decode cX2_soup 10 = .ok (.dup, 1) := by decide +kernel
theorem dX2_soup_11 : decode cX2_soup 11 = .ok (.ldc 214, 2) := by decide +kernel
theorem dX2_soup_13 : decode cX2_soup 13 = .ok (.invokespecial 61, 3) := by decide +kernel
theorem dX2_soup_16 : decode cX2_soup 16 = .ok (.athrow, 1) := by decide +kernel
theorem dX2_soup_17 : decode cX2_soup 17 = .ok (.iconst 0, 1) := by decide +kernel
theorem dX2_soup_18 : decode cX2_soup 18 = .ok (.istore_n 1, 1) := by decide +kernel
theorem dX2_soup_19 : decode cX2_soup 19 = .ok (.iconst 0, 1) := by decide +kernel
theorem dX2_soup_20 : decode cX2_soup 20 = .ok (.istore_n 2, 1) := by decide +kernel
theorem dX2_soup_21 : decode cX2_soup 21 = .ok (.iload_n 2, 1) := by decide +kernel
theorem dX2_soup_22 : decode cX2_soup 22 = .ok (.aload_n 0, 1) := by decide +kernel
theorem dX2_soup_23 : decode cX2_soup 23 = .ok (.getfield 10, 3) := by decide +kernel
theorem dX2_soup_26 : decode cX2_soup 26 = .ok (.invokevirtual 53, 3) := by decide +kernel
theorem dX2_soup_29 : decode cX2_soup 29 = .ok (.if_icmp .ge 47, 3) := by decide +kernel
theorem dX2_soup_32 : decode cX2_soup 32 = .ok (.aload_n 0, 1) := by decide +kernel
theorem dX2_soup_33 : decode cX2_soup 33 = .ok (.getfield 211, 3) := by decide +kernel
theorem dX2_soup_36 : decode cX2_soup 36 = .ok (.iconst 2, 1) := by decide +kernel
theorem dX2_soup_37 : decode cX2_soup 37 = .ok (.if_icmp .lt 39, 3) := by decide +kernel
theorem dX2_soup_40 : decode cX2_soup 40 = .ok (.aload_n 0, 1) := by decide +kernel
theorem dX2_soup_41 : decode cX2_soup 41 = .ok (.iload_n 1, 1) := by decide +kernel
theorem dX2_soup_42 : decode cX2_soup 42 = .ok (.invokevirtual 216, 3) := by decide +kernel
theorem dX2_soup_45 : decode cX2_soup 45 = .ok (.istore_n 3, 1) := by decide +kernel
theorem dX2_soup_46 : decode cX2_soup 46 = .ok (.iload_n 3, 1) := by decide +kernel
theorem dX2_soup_47 : decode cX2_soup 47 = .ok (.iconst (-1), 1) := by decide +kernel
theorem dX2_soup_48 : decode cX2_soup 48 = .ok (.if_icmp .ne 6, 3) := by decide +kernel
theorem dX2_soup_51 : decode cX2_soup 51 = .ok (.goto 25, 3) := by decide +kernel
theorem dX2_soup_54 : decode cX2_soup 54 = .ok (.aload_n 0, 1) := by decide +kernel
theorem dX2_soup_55 : decode cX2_soup 55 = .ok (.dup, 1) := by decide +kernel
theorem dX2_soup_56 : decode cX2_soup 56 = .ok (.getfield 211, 3) := by decide +kernel
theorem dX2_soup_59 : decode cX2_soup 59 = .ok (.iconst 2, 1) := by decide +kernel
theorem dX2_soup_60 : decode cX2_soup 60 = .ok (.isub, 1) := by decide +kernel
theorem dX2_soup_61 : decode cX2_soup 61 = .ok (.putfield 211, 3) := by decide +kernel
theorem dX2_soup_64 : decode cX2_soup 64 = .ok (.iload_n 1, 1) := by decide +kernel
theorem dX2_soup_65 : decode cX2_soup 65 = .ok (.iconst 1, 1) := by decide +kernel
theorem dX2_soup_66 : decode cX2_soup 66 = .ok (.iload_n 3, 1) := by decide +kernel
theorem dX2_soup_67 : decode cX2_soup 67 = .ok (.ishl, 1) := by decide +kernel
theorem dX2_soup_68 : decode cX2_soup 68 = .ok (.ior, 1) := by decide +kernel
theorem dX2_soup_69 : decode cX2_soup 69 = .ok (.istore_n 1, 1) := by decide +kernel
theorem dX2_soup_70 : decode cX2_soup 70 = .ok (.iinc 2 1, 3) := by decide +kernel
theorem dX2_soup_73 : decode cX2_soup 73 = .ok (.goto (-52), 3) := by decide +kernel
theorem dX2_soup_76 : decode cX2_soup 76 = .ok (.iload_n 1, 1) := by decide +kernel
theorem dX2_soup_77 : decode cX2_soup 77 = .ok (.ireturn, 1) := by decide +kernel
theorem dX2_close_0 : decode cX2_close 0 = .ok (.iload_n 1, 1) := by decide +kernel
theorem dX2_close_1 : decode cX2_close 1 = .ok (.iconst 0, 1) := by decide +kernel
theorem dX2_close_2 : decode cX2_close 2 = .ok (.ldc 175, 2) := by decide +kernel
theorem dX2_close_4 : decode cX2_close 4 = .ok (.invokestatic 83, 3) := by decide +kernel
theorem dX2_close_7 : decode cX2_close 7 = .ok (.aload_n 0, 1) := by decide +kernel
theorem dX2_close_8 : decode cX2_close 8 = .ok (.getfield 98, 3) := by decide +kernel
theorem dX2_close_11 : decode cX2_close 11 = .ok (.ifCond .eq 13, 3) := by decide +kernel
theorem dX2_close_14 : decode cX2_close 14 = .ok (.new 57, 3) := by decide +kernel
theorem dX2_close_17 : decode cX2_close 17 = .ok (.dup, 1) := by decide +kernel
theorem dX2_close_18 : decode cX2_close 18 = .ok (.ldc 219, 2) := by decide +kernel
theorem dX2_close_20 : decode cX2_close 20 = .ok (.invokespecial 61, 3) := by decide +kernel
theorem dX2_close_23 : decode cX2_close 23 = .ok (.athrow, 1) := by decide +kernel
theorem dX2_close_24 : decode cX2_close 24 = .ok (.iload_n 1, 1) := by decide +kernel
theorem dX2_close_25 : decode cX2_close 25 = .ok (.istore_n 2, 1) := by decide +kernel
theorem dX2_close_26 : decode cX2_close 26 = .ok (.iconst 0, 1) := by decide +kernel
theorem dX2_close_27 : decode cX2_close 27 = .ok (.istore_n 3, 1) := by decide +kernel
theorem dX2_close_28 : decode cX2_close 28 = .ok (.iload_n 3, 1) := by decide +kernel
theorem dX2_close_29 : decode cX2_close 29 = .ok (.bipush 40, 2) := by decide +kernel
theorem dX2_close_31 : decode cX2_close 31 = .ok (.if_icmp .ge 18, 3) := by decide +kernel
theorem dX2_close_34 : decode cX2_close 34 = .ok (.iload_n 2, 1) := by decide +kernel
theorem dX2_close_35 : decode cX2_close 35 = .ok (.aload_n 0, 1) := by decide +kernel
theorem dX2_close_36 : decode cX2_close 36 = .ok (.iload_n 3, 1) := by decide +kernel
theorem dX2_close_37 : decode cX2_close 37 = .ok (.iload_n 2, 1) := by decide +kernel
theorem dX2_close_38 : decode cX2_close 38 = .ok (.invokevirtual 221, 3) := by decide +kernel
theorem dX2_close_41 : decode cX2_close 41 = .ok (.isub, 1) := by decide +kernel
theorem dX2_close_42 : decode cX2_close 42 = .ok (.istore_n 2, 1) := by decide +kernel
theorem dX2_close_43 : decode cX2_close 43 = .ok (.iinc 3 1, 3) := by decide +kernel
theorem dX2_close_46 : decode cX2_close 46 = .ok (.goto (-18), 3) := by decide +kernel
theorem dX2_close_49 : decode cX2_close 49 = .ok (.aload_n 0, 1) := by decide +kernel
theorem dX2_close_50 : decode cX2_close 50 = .ok (.iconst 1, 1) := by decide +kernel
theorem dX2_close_51 : decode cX2_close 51 = .ok (.putfield 98, 3) := by decide +kernel
theorem dX2_close_54 : decode cX2_close 54 = .ok (.aload_n 0, 1) := by decide +kernel
theorem dX2_close_55 : decode cX2_close 55 = .ok (.iconst 0, 1) := by decide +kernel
theorem dX2_close_56 : decode cX2_close 56 = .ok (.putfield 95, 3) := by decide +kernel
theorem dX2_close_59 : decode cX2_close 59 = .ok (.iload_n 2, 1) := by decide +kernel
theorem dX2_close_60 : decode cX2_close 60 = .ok (.ireturn, 1) := by decide +kernel
theorem dX2_about_0 : decode cX2_about 0 = .ok (.aload_n 0, 1) := by decide +kernel
theorem dX2_about_1 : decode cX2_about 1 = .ok (.iload_n 1, 1) := by decide +kernel
theorem dX2_about_2 : decode cX2_about 2 = .ok (.invokevirtual 71, 3) := by decide +kernel
theorem dX2_about_5 : decode cX2_about 5 = .ok (.astore_n 3, 1) := by decide +kernel
theorem dX2_about_6 : decode cX2_about 6 = .ok (.iload_n 2, 1) := by decide +kernel
theorem dX2_about_7 : decode cX2_about 7 = .ok (.tableswitch 119 0 9 #[53, 66, 71, 76, 81, 86, 91, 104, 109, 114], 53) := by decide +kernel
theorem dX2_about_60 : decode cX2_about 60 = .ok (.aload_n 3, 1) := by decide +kernel
theorem dX2_about_61 : decode cX2_about 61 = .ok (.getfield 121, 3) := by decide +kernel
theorem dX2_about_64 : decode cX2_about 64 = .ok (.ifCond .eq 7, 3) := by decide +kernel
theorem dX2_about_67 : decode cX2_about 67 = .ok (.iconst 1, 1) := by decide +kernel
theorem dX2_about_68 : decode cX2_about 68 = .ok (.goto 4, 3) := by decide +kernel
theorem dX2_about_71 : decode cX2_about 71 = .ok (.iconst 0, 1) := by decide +kernel
theorem dX2_about_72 : decode cX2_about 72 = .ok (.ireturn, 1) := by decide +kernel
theorem dX2_about_73 : decode cX2_about 73 = .ok (.aload_n 3, 1) := by decide +kernel
theorem dX2_about_74 : decode cX2_about 74 = .ok (.getfield 103, 3) := by decide +kernel
theorem dX2_about_77 : decode cX2_about 77 = .ok (.ireturn, 1) := by decide +kernel
theorem dX2_about_78 : decode cX2_about 78 = .ok (.aload_n 3, 1) := by decide +kernel
theorem dX2_about_79 : decode cX2_about 79 = .ok (.getfield 158, 3) := by decide +kernel
theorem dX2_about_82 : decode cX2_about 82 = .ok (.ireturn, 1) := by decide +kernel
theorem dX2_about_83 : decode cX2_about 83 = .ok (.aload_n 3, 1) := by decide +kernel
theorem dX2_about_84 : decode cX2_about 84 = .ok (.invokevirtual 176, 3) := by decide +kernel
theorem dX2_about_87 : decode cX2_about 87 = .ok (.ireturn, 1) := by decide +kernel
theorem dX2_about_88 : decode cX2_about 88 = .ok (.aload_n 3, 1) := by decide +kernel
theorem dX2_about_89 : decode cX2_about 89 = .ok (.getfield 167, 3) := by decide +kernel
theorem dX2_about_92 : decode cX2_about 92 = .ok (.ireturn, 1) := by decide +kernel
theorem dX2_about_93 : decode cX2_about 93 = .ok (.aload_n 3, 1) := by decide +kernel
theorem dX2_about_94 : decode cX2_about 94 = .ok (.getfield 137, 3) := by decide +kernel
theorem dX2_about_97 : decode cX2_about 97 = .ok (.ireturn, 1) := by decide +kernel
theorem dX2_about_98 : decode cX2_about 98 = .ok (.aload_n 3, 1) := by decide +kernel
theorem dX2_about_99 : decode cX2_about 99 = .ok (.getfield 134, 3) := by decide +kernel
theorem dX2_about_102 : decode cX2_about 102 = .ok (.ifCond .eq 7, 3) := by decide +kernel
theorem dX2_about_105 : decode cX2_about 105 = .ok (.iconst 1, 1) := by decide +kernel
theorem dX2_about_106 : decode cX2_about 106 = .ok (.goto 4, 3) := by decide +kernel
theorem dX2_about_109 : decode cX2_about 109 = .ok (.iconst 0, 1) := by decide +kernel
theorem dX2_about_110 : decode cX2_about 110 = .ok (.ireturn, 1) := by decide +kernel
theorem dX2_about_111 : decode cX2_about 111 = .ok (.aload_n 3, 1) := by decide +kernel
theorem dX2_about_112 : decode cX2_about 112 = .ok (.getfield 224, 3) := by decide +kernel
theorem dX2_about_115 : decode cX2_about 115 = .ok (.ireturn, 1) := by decide +kernel
theorem dX2_about_116 : decode cX2_about 116 = .ok (.aload_n 3, 1) := by decide +kernel
theorem dX2_about_117 : decode cX2_about 117 = .ok (.getfield 127, 3) := by decide +kernel
theorem dX2_about_120 : decode cX2_about 120 = .ok (.ireturn, 1) := by decide +kernel
theorem dX2_about_121 : decode cX2_about 121 = .ok (.aload_n 3, 1) := by decide +kernel
theorem dX2_about_122 : decode cX2_about 122 = .ok (.getfield 80, 3) := by decide +kernel
theorem dX2_about_125 : decode cX2_about 125 = .ok (.ireturn, 1) := by decide +kernel
theorem dX2_about_126 : decode cX2_about 126 = .ok (.new 75, 3) := by decide +kernel
theorem dX2_about_129 : decode cX2_about 129 = .ok (.dup, 1) := by decide +kernel
theorem dX2_about_130 : decode cX2_about 130 = .ok (.ldc 227, 2) := by decide +kernel
theorem dX2_about_132 : decode cX2_about 132 = .ok (.invokespecial 79, 3) := by decide +kernel
theorem dX2_about_135 : decode cX2_about 135 = .ok (.athrow, 1) := by decide +kernel
theorem dX2_has_0 : decode cX2_has 0 = .ok (.aload_n 0, 1) := by decide +kernel
theorem dX2_has_1 : decode cX2_has 1 = .ok (.iload_n 1, 1) := by decide +kernel
theorem dX2_has_2 : decode cX2_has 2 = .ok (.invokevirtual 71, 3) := by decide +kernel
theorem dX2_has_5 : decode cX2_has 5 = .ok (.astore_n 3, 1) := by decide +kernel
theorem dX2_has_6 : decode cX2_has 6 = .ok (.iload_n 2, 1) := by decide +kernel
theorem dX2_has_7 : decode cX2_has 7 = .ok (.invokestatic 142, 3) := by decide +kernel
theorem dX2_has_10 : decode cX2_has 10 = .ok (.aload_n 3, 1) := by decide +kernel
theorem dX2_has_11 : decode cX2_has 11 = .ok (.getfield 170, 3) := by decide +kernel
theorem dX2_has_14 : decode cX2_has 14 = .ok (.iload_n 2, 1) := by decide +kernel
theorem dX2_has_15 : decode cX2_has 15 = .ok (.iaload, 1) := by decide +kernel
theorem dX2_has_16 : decode cX2_has 16 = .ok (.ireturn, 1) := by decide +kernel
theorem dX2_scrip_0 : decode cX2_scrip 0 = .ok (.aload_n 0, 1) := by decide +kernel
theorem dX2_scrip_1 : decode cX2_scrip 1 = .ok (.iload_n 1, 1) := by decide +kernel
theorem dX2_scrip_2 : decode cX2_scrip 2 = .ok (.invokevirtual 71, 3) := by decide +kernel
theorem dX2_scrip_5 : decode cX2_scrip 5 = .ok (.astore_n 3, 1) := by decide +kernel
theorem dX2_scrip_6 : decode cX2_scrip 6 = .ok (.iload_n 2, 1) := by decide +kernel
theorem dX2_scrip_7 : decode cX2_scrip 7 = .ok (.iconst 0, 1) := by decide +kernel
theorem dX2_scrip_8 : decode cX2_scrip 8 = .ok (.bipush 39, 2) := by decide +kernel
theorem dX2_scrip_10 : decode cX2_scrip 10 = .ok (.invokestatic 83, 3) := by decide +kernel
theorem dX2_scrip_13 : decode cX2_scrip 13 = .ok (.aload_n 3, 1) := by decide +kernel
theorem dX2_scrip_14 : decode cX2_scrip 14 = .ok (.getfield 229, 3) := by decide +kernel
theorem dX2_scrip_17 : decode cX2_scrip 17 = .ok (.iload_n 2, 1) := by decide +kernel
theorem dX2_scrip_18 : decode cX2_scrip 18 = .ok (.iaload, 1) := by decide +kernel
theorem dX2_scrip_19 : decode cX2_scrip 19 = .ok (.ireturn, 1) := by decide +kernel
theorem dX2_scripAnew_0 : decode cX2_scripAnew 0 = .ok (.aload_n 0, 1) := by decide +kernel
theorem dX2_scripAnew_1 : decode cX2_scripAnew 1 = .ok (.iload_n 1, 1) := by decide +kernel
theorem dX2_scripAnew_2 : decode cX2_scripAnew 2 = .ok (.invokevirtual 71, 3) := by decide +kernel
theorem dX2_scripAnew_5 : decode cX2_scripAnew 5 = .ok (.astore_n 2, 1) := by decide +kernel
theorem dX2_scripAnew_6 : decode cX2_scripAnew 6 = .ok (.aload_n 2, 1) := by decide +kernel
theorem dX2_scripAnew_7 : decode cX2_scripAnew 7 = .ok (.getfield 232, 3) := by decide +kernel
theorem dX2_scripAnew_10 : decode cX2_scripAnew 10 = .ok (.aload_n 2, 1) := by decide +kernel
theorem dX2_scripAnew_11 : decode cX2_scripAnew 11 = .ok (.getfield 235, 3) := by decide +kernel
theorem dX2_scripAnew_14 : decode cX2_scripAnew 14 = .ok (.isub, 1) := by decide +kernel
theorem dX2_scripAnew_15 : decode cX2_scripAnew 15 = .ok (.ireturn, 1) := by decide +kernel
theorem dX2_baskets_0 : decode cX2_baskets 0 = .ok (.aload_n 0, 1) := by decide +kernel
theorem dX2_baskets_1 : decode cX2_baskets 1 = .ok (.iload_n 1, 1) := by decide +kernel
theorem dX2_baskets_2 : decode cX2_baskets 2 = .ok (.invokevirtual 71, 3) := by decide +kernel
theorem dX2_baskets_5 : decode cX2_baskets 5 = .ok (.astore_n 2, 1) := by decide +kernel
theorem dX2_baskets_6 : decode cX2_baskets 6 = .ok (.iconst 0, 1) := by decide +kernel
theorem dX2_baskets_7 : decode cX2_baskets 7 = .ok (.istore_n 3, 1) := by decide +kernel
theorem dX2_baskets_8 : decode cX2_baskets 8 = .ok (.iconst 0, 1) := by decide +kernel
theorem dX2_baskets_9 : decode cX2_baskets 9 = .ok (.istore 4, 2) := by decide +kernel
theorem dX2_baskets_11 : decode cX2_baskets 11 = .ok (.iload 4, 2) := by decide +kernel
theorem dX2_baskets_13 : decode cX2_baskets 13 = .ok (.iconst 4, 1) := by decide +kernel
theorem dX2_baskets_14 : decode cX2_baskets 14 = .ok (.if_icmp .ge 19, 3) := by decide +kernel
theorem dX2_baskets_17 : decode cX2_baskets 17 = .ok (.iload_n 3, 1) := by decide +kernel
theorem dX2_baskets_18 : decode cX2_baskets 18 = .ok (.aload_n 0, 1) := by decide +kernel
theorem dX2_baskets_19 : decode cX2_baskets 19 = .ok (.aload_n 2, 1) := by decide +kernel
theorem dX2_baskets_20 : decode cX2_baskets 20 = .ok (.iload 4, 2) := by decide +kernel
theorem dX2_baskets_22 : decode cX2_baskets 22 = .ok (.invokevirtual 145, 3) := by decide +kernel
theorem dX2_baskets_25 : decode cX2_baskets 25 = .ok (.iadd, 1) := by decide +kernel
theorem dX2_baskets_26 : decode cX2_baskets 26 = .ok (.istore_n 3, 1) := by decide +kernel
theorem dX2_baskets_27 : decode cX2_baskets 27 = .ok (.iinc 4 1, 3) := by decide +kernel
theorem dX2_baskets_30 : decode cX2_baskets 30 = .ok (.goto (-19), 3) := by decide +kernel
theorem dX2_baskets_33 : decode cX2_baskets 33 = .ok (.iload_n 3, 1) := by decide +kernel
theorem dX2_baskets_34 : decode cX2_baskets 34 = .ok (.ifCond .le 12, 3) := by decide +kernel
theorem dX2_baskets_37 : decode cX2_baskets 37 = .ok (.aload_n 2, 1) := by decide +kernel
theorem dX2_baskets_38 : decode cX2_baskets 38 = .ok (.getfield 127, 3) := by decide +kernel
theorem dX2_baskets_41 : decode cX2_baskets 41 = .ok (.iload_n 3, 1) := by decide +kernel
theorem dX2_baskets_42 : decode cX2_baskets 42 = .ok (.idiv, 1) := by decide +kernel
theorem dX2_baskets_43 : decode cX2_baskets 43 = .ok (.goto 4, 3) := by decide +kernel
theorem dX2_baskets_46 : decode cX2_baskets 46 = .ok (.iconst 0, 1) := by decide +kernel
theorem dX2_baskets_47 : decode cX2_baskets 47 = .ok (.ireturn, 1) := by decide +kernel
theorem dX2_books_0 : decode cX2_books 0 = .ok (.iload_n 1, 1) := by decide +kernel
theorem dX2_books_1 : decode cX2_books 1 = .ok (.aload_n 0, 1) := by decide +kernel
theorem dX2_books_2 : decode cX2_books 2 = .ok (.getfield 50, 3) := by decide +kernel
theorem dX2_books_5 : decode cX2_books 5 = .ok (.arraylength, 1) := by decide +kernel
theorem dX2_books_6 : decode cX2_books 6 = .ok (.invokestatic 181, 3) := by decide +kernel
theorem dX2_books_9 : decode cX2_books 9 = .ok (.aload_n 0, 1) := by decide +kernel
theorem dX2_books_10 : decode cX2_books 10 = .ok (.getfield 50, 3) := by decide +kernel
theorem dX2_books_13 : decode cX2_books 13 = .ok (.iload_n 1, 1) := by decide +kernel
theorem dX2_books_14 : decode cX2_books 14 = .ok (.iaload, 1) := by decide +kernel
theorem dX2_books_15 : decode cX2_books 15 = .ok (.ireturn, 1) := by decide +kernel
theorem dX2_minerAt_0 : decode cX2_minerAt 0 = .ok (.iload_n 1, 1) := by decide +kernel
theorem dX2_minerAt_1 : decode cX2_minerAt 1 = .ok (.aload_n 0, 1) := by decide +kernel
theorem dX2_minerAt_2 : decode cX2_minerAt 2 = .ok (.getfield 10, 3) := by decide +kernel
theorem dX2_minerAt_5 : decode cX2_minerAt 5 = .ok (.invokevirtual 53, 3) := by decide +kernel
theorem dX2_minerAt_8 : decode cX2_minerAt 8 = .ok (.invokestatic 181, 3) := by decide +kernel
theorem dX2_minerAt_11 : decode cX2_minerAt 11 = .ok (.aload_n 0, 1) := by decide +kernel
theorem dX2_minerAt_12 : decode cX2_minerAt 12 = .ok (.getfield 10, 3) := by decide +kernel
theorem dX2_minerAt_15 : decode cX2_minerAt 15 = .ok (.iload_n 1, 1) := by decide +kernel
theorem dX2_minerAt_16 : decode cX2_minerAt 16 = .ok (.invokevirtual 117, 3) := by decide +kernel
theorem dX2_minerAt_19 : decode cX2_minerAt 19 = .ok (.checkcast 64, 3) := by decide +kernel
theorem dX2_minerAt_22 : decode cX2_minerAt 22 = .ok (.areturn, 1) := by decide +kernel
theorem dX2_requireGoods_0 : decode cX2_requireGoods 0 = .ok (.iload_n 0, 1) := by decide +kernel
theorem dX2_requireGoods_1 : decode cX2_requireGoods 1 = .ok (.iconst 4, 1) := by decide +kernel
theorem dX2_requireGoods_2 : decode cX2_requireGoods 2 = .ok (.invokestatic 181, 3) := by decide +kernel
theorem dX2_requireGoods_5 : decode cX2_requireGoods 5 = .ok (.return_, 1) := by decide +kernel
theorem dX2_requireIndex_0 : decode cX2_requireIndex 0 = .ok (.iload_n 0, 1) := by decide +kernel
theorem dX2_requireIndex_1 : decode cX2_requireIndex 1 = .ok (.ifCond .lt 8, 3) := by decide +kernel
theorem dX2_requireIndex_4 : decode cX2_requireIndex 4 = .ok (.iload_n 0, 1) := by decide +kernel
theorem dX2_requireIndex_5 : decode cX2_requireIndex 5 = .ok (.iload_n 1, 1) := by decide +kernel
theorem dX2_requireIndex_6 : decode cX2_requireIndex 6 = .ok (.if_icmp .lt 13, 3) := by decide +kernel
theorem dX2_requireIndex_9 : decode cX2_requireIndex 9 = .ok (.new 238, 3) := by decide +kernel
theorem dX2_requireIndex_12 : decode cX2_requireIndex 12 = .ok (.dup, 1) := by decide +kernel
theorem dX2_requireIndex_13 : decode cX2_requireIndex 13 = .ok (.ldc 240, 2) := by decide +kernel
theorem dX2_requireIndex_15 : decode cX2_requireIndex 15 = .ok (.invokespecial 242, 3) := by decide +kernel
theorem dX2_requireIndex_18 : decode cX2_requireIndex 18 = .ok (.athrow, 1) := by decide +kernel
theorem dX2_requireIndex_19 : decode cX2_requireIndex 19 = .ok (.return_, 1) := by decide +kernel
theorem dX2_requireRange_0 : decode cX2_requireRange 0 = .ok (.iload_n 0, 1) := by decide +kernel
theorem dX2_requireRange_1 : decode cX2_requireRange 1 = .ok (.iload_n 1, 1) := by decide +kernel
theorem dX2_requireRange_2 : decode cX2_requireRange 2 = .ok (.if_icmp .lt 8, 3) := by decide +kernel
theorem dX2_requireRange_5 : decode cX2_requireRange 5 = .ok (.iload_n 0, 1) := by decide +kernel
theorem dX2_requireRange_6 : decode cX2_requireRange 6 = .ok (.iload_n 2, 1) := by decide +kernel
theorem dX2_requireRange_7 : decode cX2_requireRange 7 = .ok (.if_icmp .le 13, 3) := by decide +kernel
theorem dX2_requireRange_10 : decode cX2_requireRange 10 = .ok (.new 75, 3) := by decide +kernel
theorem dX2_requireRange_13 : decode cX2_requireRange 13 = .ok (.dup, 1) := by decide +kernel
theorem dX2_requireRange_14 : decode cX2_requireRange 14 = .ok (.ldc 243, 2) := by decide +kernel
theorem dX2_requireRange_16 : decode cX2_requireRange 16 = .ok (.invokespecial 79, 3) := by decide +kernel
theorem dX2_requireRange_19 : decode cX2_requireRange 19 = .ok (.athrow, 1) := by decide +kernel
theorem dX2_requireRange_20 : decode cX2_requireRange 20 = .ok (.return_, 1) := by decide +kernel
theorem dX2_requireAlive_0 : decode cX2_requireAlive 0 = .ok (.aload_n 0, 1) := by decide +kernel
theorem dX2_requireAlive_1 : decode cX2_requireAlive 1 = .ok (.getfield 121, 3) := by decide +kernel
theorem dX2_requireAlive_4 : decode cX2_requireAlive 4 = .ok (.ifCond .ne 13, 3) := by decide +kernel
theorem dX2_requireAlive_7 : decode cX2_requireAlive 7 = .ok (.new 57, 3) := by decide +kernel
theorem dX2_requireAlive_10 : decode cX2_requireAlive 10 = .ok (.dup, 1) := by decide +kernel
theorem dX2_requireAlive_11 : decode cX2_requireAlive 11 = .ok (.ldc 245, 2) := by decide +kernel
theorem dX2_requireAlive_13 : decode cX2_requireAlive 13 = .ok (.invokespecial 61, 3) := by decide +kernel
theorem dX2_requireAlive_16 : decode cX2_requireAlive 16 = .ok (.athrow, 1) := by decide +kernel
theorem dX2_requireAlive_17 : decode cX2_requireAlive 17 = .ok (.return_, 1) := by decide +kernel
theorem dX2_isEdition_0 : decode cX2_isEdition 0 = .ok (.iload_n 0, 1) := by decide +kernel
theorem dX2_isEdition_1 : decode cX2_isEdition 1 = .ok (.istore_n 1, 1) := by decide +kernel
theorem dX2_isEdition_2 : decode cX2_isEdition 2 = .ok (.iconst 0, 1) := by decide +kernel
theorem dX2_isEdition_3 : decode cX2_isEdition 3 = .ok (.istore_n 2, 1) := by decide +kernel
theorem dX2_isEdition_4 : decode cX2_isEdition 4 = .ok (.iconst 0, 1) := by decide +kernel
theorem dX2_isEdition_5 : decode cX2_isEdition 5 = .ok (.istore_n 3, 1) := by decide +kernel
theorem dX2_isEdition_6 : decode cX2_isEdition 6 = .ok (.iload_n 3, 1) := by decide +kernel
theorem dX2_isEdition_7 : decode cX2_isEdition 7 = .ok (.iconst 5, 1) := by decide +kernel
theorem dX2_isEdition_8 : decode cX2_isEdition 8 = .ok (.if_icmp .ge 55, 3) := by decide +kernel
theorem dX2_isEdition_11 : decode cX2_isEdition 11 = .ok (.iload_n 1, 1) := by decide +kernel
theorem dX2_isEdition_12 : decode cX2_isEdition 12 = .ok (.ifCond .le 51, 3) := by decide +kernel
theorem dX2_isEdition_15 : decode cX2_isEdition 15 = .ok (.iload_n 1, 1) := by decide +kernel
theorem dX2_isEdition_16 : decode cX2_isEdition 16 = .ok (.bipush 10, 2) := by decide +kernel
theorem dX2_isEdition_18 : decode cX2_isEdition 18 = .ok (.irem, 1) := by decide +kernel
theorem dX2_isEdition_19 : decode cX2_isEdition 19 = .ok (.istore 4, 2) := by decide +kernel
theorem dX2_isEdition_21 : decode cX2_isEdition 21 = .ok (.iload 4, 2) := by decide +kernel
theorem dX2_isEdition_23 : decode cX2_isEdition 23 = .ok (.iconst 1, 1) := by decide +kernel
theorem dX2_isEdition_24 : decode cX2_isEdition 24 = .ok (.if_icmp .lt 19, 3) := by decide +kernel
theorem dX2_isEdition_27 : decode cX2_isEdition 27 = .ok (.iload 4, 2) := by decide +kernel
theorem dX2_isEdition_29 : decode cX2_isEdition 29 = .ok (.iconst 5, 1) := by decide +kernel
theorem dX2_isEdition_30 : decode cX2_isEdition 30 = .ok (.if_icmp .gt 13, 3) := by decide +kernel
theorem dX2_isEdition_33 : decode cX2_isEdition 33 = .ok (.iload_n 2, 1) := by decide +kernel
theorem dX2_isEdition_34 : decode cX2_isEdition 34 = .ok (.iload 4, 2) := by decide +kernel
theorem dX2_isEdition_36 : decode cX2_isEdition 36 = .ok (.ishr, 1) := by decide +kernel
theorem dX2_isEdition_37 : decode cX2_isEdition 37 = .ok (.iconst 1, 1) := by decide +kernel
theorem dX2_isEdition_38 : decode cX2_isEdition 38 = .ok (.iand, 1) := by decide +kernel
theorem dX2_isEdition_39 : decode cX2_isEdition 39 = .ok (.iconst 1, 1) := by decide +kernel
theorem dX2_isEdition_40 : decode cX2_isEdition 40 = .ok (.if_icmp .ne 5, 3) := by decide +kernel
theorem dX2_isEdition_43 : decode cX2_isEdition 43 = .ok (.iconst 0, 1) := by decide +kernel
theorem dX2_isEdition_44 : decode cX2_isEdition 44 = .ok (.ireturn, 1) := by decide +kernel
theorem dX2_isEdition_45 : decode cX2_isEdition 45 = .ok (.iload_n 2, 1) := by decide +kernel
theorem dX2_isEdition_46 : decode cX2_isEdition 46 = .ok (.iconst 1, 1) := by decide +kernel
theorem dX2_isEdition_47 : decode cX2_isEdition 47 = .ok (.iload 4, 2) := by decide +kernel
theorem dX2_isEdition_49 : decode cX2_isEdition 49 = .ok (.ishl, 1) := by decide +kernel
theorem dX2_isEdition_50 : decode cX2_isEdition 50 = .ok (.ior, 1) := by decide +kernel
theorem dX2_isEdition_51 : decode cX2_isEdition 51 = .ok (.istore_n 2, 1) := by decide +kernel
theorem dX2_isEdition_52 : decode cX2_isEdition 52 = .ok (.iload_n 1, 1) := by decide +kernel
theorem dX2_isEdition_53 : decode cX2_isEdition 53 = .ok (.bipush 10, 2) := by decide +kernel
theorem dX2_isEdition_55 : decode cX2_isEdition 55 = .ok (.idiv, 1) := by decide +kernel
theorem dX2_isEdition_56 : decode cX2_isEdition 56 = .ok (.istore_n 1, 1) := by decide +kernel
theorem dX2_isEdition_57 : decode cX2_isEdition 57 = .ok (.iinc 3 1, 3) := by decide +kernel
theorem dX2_isEdition_60 : decode cX2_isEdition 60 = .ok (.goto (-54), 3) := by decide +kernel
theorem dX2_isEdition_63 : decode cX2_isEdition 63 = .ok (.iload_n 1, 1) := by decide +kernel
theorem dX2_isEdition_64 : decode cX2_isEdition 64 = .ok (.ifCond .ne 7, 3) := by decide +kernel
theorem dX2_isEdition_67 : decode cX2_isEdition 67 = .ok (.iconst 1, 1) := by decide +kernel
theorem dX2_isEdition_68 : decode cX2_isEdition 68 = .ok (.goto 4, 3) := by decide +kernel
theorem dX2_isEdition_71 : decode cX2_isEdition 71 = .ok (.iconst 0, 1) := by decide +kernel
theorem dX2_isEdition_72 : decode cX2_isEdition 72 = .ok (.ireturn, 1) := by decide +kernel
theorem dX2_settle_0 : decode cX2_settle 0 = .ok (.aload_n 0, 1) := by decide +kernel
theorem dX2_settle_1 : decode cX2_settle 1 = .ok (.aload_n 1, 1) := by decide +kernel
theorem dX2_settle_2 : decode cX2_settle 2 = .ok (.iconst 1, 1) := by decide +kernel
theorem dX2_settle_3 : decode cX2_settle 3 = .ok (.invokevirtual 247, 3) := by decide +kernel
theorem dX2_settle_6 : decode cX2_settle 6 = .ok (.istore_n 2, 1) := by decide +kernel
theorem dX2_settle_7 : decode cX2_settle 7 = .ok (.aload_n 0, 1) := by decide +kernel
theorem dX2_settle_8 : decode cX2_settle 8 = .ok (.getfield 30, 3) := by decide +kernel
theorem dX2_settle_11 : decode cX2_settle 11 = .ok (.aload_n 1, 1) := by decide +kernel
theorem dX2_settle_12 : decode cX2_settle 12 = .ok (.getfield 103, 3) := by decide +kernel
theorem dX2_settle_15 : decode cX2_settle 15 = .ok (.aload_n 0, 1) := by decide +kernel
theorem dX2_settle_16 : decode cX2_settle 16 = .ok (.getfield 23, 3) := by decide +kernel
theorem dX2_settle_19 : decode cX2_settle 19 = .ok (.iconst 0, 1) := by decide +kernel
theorem dX2_settle_20 : decode cX2_settle 20 = .ok (.iaload, 1) := by decide +kernel
theorem dX2_settle_21 : decode cX2_settle 21 = .ok (.imul, 1) := by decide +kernel
theorem dX2_settle_22 : decode cX2_settle 22 = .ok (.bipush 10, 2) := by decide +kernel
theorem dX2_settle_24 : decode cX2_settle 24 = .ok (.idiv, 1) := by decide +kernel
theorem dX2_settle_25 : decode cX2_settle 25 = .ok (.invokevirtual 250, 3) := by decide +kernel
theorem dX2_settle_28 : decode cX2_settle 28 = .ok (.aload_n 1, 1) := by decide +kernel
theorem dX2_settle_29 : decode cX2_settle 29 = .ok (.iconst 0, 1) := by decide +kernel
theorem dX2_settle_30 : decode cX2_settle 30 = .ok (.putfield 103, 3) := by decide +kernel
theorem dX2_settle_33 : decode cX2_settle 33 = .ok (.sipush 10000, 3) := by decide +kernel
theorem dX2_settle_36 : decode cX2_settle 36 = .ok (.istore_n 3, 1) := by decide +kernel
theorem dX2_settle_37 : decode cX2_settle 37 = .ok (.iload_n 3, 1) := by decide +kernel
theorem dX2_settle_38 : decode cX2_settle 38 = .ok (.ifCond .le 47, 3) := by decide +kernel
theorem dX2_settle_41 : decode cX2_settle 41 = .ok (.aload_n 0, 1) := by decide +kernel
theorem dX2_settle_42 : decode cX2_settle 42 = .ok (.getfield 20, 3) := by decide +kernel
theorem dX2_settle_45 : decode cX2_settle 45 = .ok (.iload_n 3, 1) := by decide +kernel
theorem dX2_settle_46 : decode cX2_settle 46 = .ok (.idiv, 1) := by decide +kernel
theorem dX2_settle_47 : decode cX2_settle 47 = .ok (.bipush 10, 2) := by decide +kernel
theorem dX2_settle_49 : decode cX2_settle 49 = .ok (.irem, 1) := by decide +kernel
theorem dX2_settle_50 : decode cX2_settle 50 = .ok (.istore 4, 2) := by decide +kernel
theorem dX2_settle_52 : decode cX2_settle 52 = .ok (.aload_n 0, 1) := by decide +kernel
theorem dX2_settle_53 : decode cX2_settle 53 = .ok (.iload 4, 2) := by decide +kernel
theorem dX2_settle_55 : decode cX2_settle 55 = .ok (.invokevirtual 253, 3) := by decide +kernel
theorem dX2_settle_58 : decode cX2_settle 58 = .ok (.ifCond .ne 19, 3) := by decide +kernel
theorem dX2_settle_61 : decode cX2_settle 61 = .ok (.aload_n 0, 1) := by decide +kernel
theorem dX2_settle_62 : decode cX2_settle 62 = .ok (.getfield 30, 3) := by decide +kernel
theorem dX2_settle_65 : decode cX2_settle 65 = .ok (.iload 4, 2) := by decide +kernel
theorem dX2_settle_67 : decode cX2_settle 67 = .ok (.aload_n 0, 1) := by decide +kernel
theorem dX2_settle_68 : decode cX2_settle 68 = .ok (.aload_n 1, 1) := by decide +kernel
theorem dX2_settle_69 : decode cX2_settle 69 = .ok (.iload 4, 2) := by decide +kernel
theorem dX2_settle_71 : decode cX2_settle 71 = .ok (.invokevirtual 247, 3) := by decide +kernel
theorem dX2_settle_74 : decode cX2_settle 74 = .ok (.invokevirtual 256, 3) := by decide +kernel
theorem dX2_settle_77 : decode cX2_settle 77 = .ok (.iload_n 3, 1) := by decide +kernel
theorem dX2_settle_78 : decode cX2_settle 78 = .ok (.bipush 10, 2) := by decide +kernel
theorem dX2_settle_80 : decode cX2_settle 80 = .ok (.idiv, 1) := by decide +kernel
theorem dX2_settle_81 : decode cX2_settle 81 = .ok (.istore_n 3, 1) := by decide +kernel
theorem dX2_settle_82 : decode cX2_settle 82 = .ok (.goto (-45), 3) := by decide +kernel
theorem dX2_settle_85 : decode cX2_settle 85 = .ok (.aload_n 1, 1) := by decide +kernel
theorem dX2_settle_86 : decode cX2_settle 86 = .ok (.iload_n 2, 1) := by decide +kernel
theorem dX2_settle_87 : decode cX2_settle 87 = .ok (.aload_n 0, 1) := by decide +kernel
theorem dX2_settle_88 : decode cX2_settle 88 = .ok (.getfield 30, 3) := by decide +kernel
theorem dX2_settle_91 : decode cX2_settle 91 = .ok (.getfield 259, 3) := by decide +kernel
theorem dX2_settle_94 : decode cX2_settle 94 = .ok (.isub, 1) := by decide +kernel
theorem dX2_settle_95 : decode cX2_settle 95 = .ok (.putfield 137, 3) := by decide +kernel
theorem dX2_settle_98 : decode cX2_settle 98 = .ok (.aload_n 1, 1) := by decide +kernel
theorem dX2_settle_99 : decode cX2_settle 99 = .ok (.dup, 1) := by decide +kernel
theorem dX2_settle_100 : decode cX2_settle 100 = .ok (.getfield 167, 3) := by decide +kernel
theorem dX2_settle_103 : decode cX2_settle 103 = .ok (.aload_n 0, 1) := by decide +kernel
theorem dX2_settle_104 : decode cX2_settle 104 = .ok (.getfield 30, 3) := by decide +kernel
theorem dX2_settle_107 : decode cX2_settle 107 = .ok (.getfield 262, 3) := by decide +kernel
theorem dX2_settle_110 : decode cX2_settle 110 = .ok (.isub, 1) := by decide +kernel
theorem dX2_settle_111 : decode cX2_settle 111 = .ok (.putfield 167, 3) := by decide +kernel
theorem dX2_settle_114 : decode cX2_settle 114 = .ok (.aload_n 0, 1) := by decide +kernel
theorem dX2_settle_115 : decode cX2_settle 115 = .ok (.aload_n 1, 1) := by decide +kernel
theorem dX2_settle_116 : decode cX2_settle 116 = .ok (.iconst 1, 1) := by decide +kernel
theorem dX2_settle_117 : decode cX2_settle 117 = .ok (.aload_n 0, 1) := by decide +kernel
theorem dX2_settle_118 : decode cX2_settle 118 = .ok (.getfield 30, 3) := by decide +kernel
theorem dX2_settle_121 : decode cX2_settle 121 = .ok (.getfield 265, 3) := by decide +kernel
theorem dX2_settle_124 : decode cX2_settle 124 = .ok (.invokevirtual 268, 3) := by decide +kernel
theorem dX2_settle_127 : decode cX2_settle 127 = .ok (.aload_n 0, 1) := by decide +kernel
theorem dX2_settle_128 : decode cX2_settle 128 = .ok (.aload_n 1, 1) := by decide +kernel
theorem dX2_settle_129 : decode cX2_settle 129 = .ok (.aload_n 0, 1) := by decide +kernel
theorem dX2_settle_130 : decode cX2_settle 130 = .ok (.getfield 30, 3) := by decide +kernel
theorem dX2_settle_133 : decode cX2_settle 133 = .ok (.getfield 272, 3) := by decide +kernel
theorem dX2_settle_136 : decode cX2_settle 136 = .ok (.invokevirtual 275, 3) := by decide +kernel
theorem dX2_settle_139 : decode cX2_settle 139 = .ok (.aload_n 0, 1) := by decide +kernel
theorem dX2_settle_140 : decode cX2_settle 140 = .ok (.getfield 23, 3) := by decide +kernel
theorem dX2_settle_143 : decode cX2_settle 143 = .ok (.iconst 1, 1) := by decide +kernel
theorem dX2_settle_144 : decode cX2_settle 144 = .ok (.iaload, 1) := by decide +kernel
theorem dX2_settle_145 : decode cX2_settle 145 = .ok (.ifCond .le 23, 3) := by decide +kernel
theorem dX2_settle_148 : decode cX2_settle 148 = .ok (.aload_n 1, 1) := by decide +kernel
theorem dX2_settle_149 : decode cX2_settle 149 = .ok (.getfield 137, 3) := by decide +kernel
theorem dX2_settle_152 : decode cX2_settle 152 = .ok (.iconst 3, 1) := by decide +kernel
theorem dX2_settle_153 : decode cX2_settle 153 = .ok (.aload_n 0, 1) := by decide +kernel
theorem dX2_settle_154 : decode cX2_settle 154 = .ok (.getfield 23, 3) := by decide +kernel
theorem dX2_settle_157 : decode cX2_settle 157 = .ok (.iconst 1, 1) := by decide +kernel
theorem dX2_settle_158 : decode cX2_settle 158 = .ok (.iaload, 1) := by decide +kernel
theorem dX2_settle_159 : decode cX2_settle 159 = .ok (.imul, 1) := by decide +kernel
theorem dX2_settle_160 : decode cX2_settle 160 = .ok (.if_icmp .le 8, 3) := by decide +kernel
theorem dX2_settle_163 : decode cX2_settle 163 = .ok (.aload_n 1, 1) := by decide +kernel
theorem dX2_settle_164 : decode cX2_settle 164 = .ok (.iconst 0, 1) := by decide +kernel
theorem dX2_settle_165 : decode cX2_settle 165 = .ok (.putfield 134, 3) := by decide +kernel
theorem dX2_settle_168 : decode cX2_settle 168 = .ok (.return_, 1) := by decide +kernel
theorem dX2_due_0 : decode cX2_due 0 = .ok (.iload_n 2, 1) := by decide +kernel
theorem dX2_due_1 : decode cX2_due 1 = .ok (.tableswitch 84 1 5 #[35, 58, 65, 72, 79], 35) := by decide +kernel
theorem dX2_due_36 : decode cX2_due 36 = .ok (.aload_n 1, 1) := by decide +kernel
theorem dX2_due_37 : decode cX2_due 37 = .ok (.getfield 137, 3) := by decide +kernel
theorem dX2_due_40 : decode cX2_due 40 = .ok (.aload_n 1, 1) := by decide +kernel
theorem dX2_due_41 : decode cX2_due 41 = .ok (.getfield 134, 3) := by decide +kernel
theorem dX2_due_44 : decode cX2_due 44 = .ok (.ifCond .eq 12, 3) := by decide +kernel
theorem dX2_due_47 : decode cX2_due 47 = .ok (.aload_n 0, 1) := by decide +kernel
theorem dX2_due_48 : decode cX2_due 48 = .ok (.getfield 23, 3) := by decide +kernel
theorem dX2_due_51 : decode cX2_due 51 = .ok (.iconst 1, 1) := by decide +kernel
theorem dX2_due_52 : decode cX2_due 52 = .ok (.iaload, 1) := by decide +kernel
theorem dX2_due_53 : decode cX2_due 53 = .ok (.goto 4, 3) := by decide +kernel
theorem dX2_due_56 : decode cX2_due 56 = .ok (.iconst 0, 1) := by decide +kernel
theorem dX2_due_57 : decode cX2_due 57 = .ok (.iadd, 1) := by decide +kernel
theorem dX2_due_58 : decode cX2_due 58 = .ok (.ireturn, 1) := by decide +kernel
theorem dX2_due_59 : decode cX2_due 59 = .ok (.aload_n 0, 1) := by decide +kernel
theorem dX2_due_60 : decode cX2_due 60 = .ok (.getfield 23, 3) := by decide +kernel
theorem dX2_due_63 : decode cX2_due 63 = .ok (.iconst 2, 1) := by decide +kernel
theorem dX2_due_64 : decode cX2_due 64 = .ok (.iaload, 1) := by decide +kernel
theorem dX2_due_65 : decode cX2_due 65 = .ok (.ireturn, 1) := by decide +kernel
theorem dX2_due_66 : decode cX2_due 66 = .ok (.aload_n 0, 1) := by decide +kernel
theorem dX2_due_67 : decode cX2_due 67 = .ok (.getfield 23, 3) := by decide +kernel
theorem dX2_due_70 : decode cX2_due 70 = .ok (.iconst 3, 1) := by decide +kernel
theorem dX2_due_71 : decode cX2_due 71 = .ok (.iaload, 1) := by decide +kernel
theorem dX2_due_72 : decode cX2_due 72 = .ok (.ireturn, 1) := by decide +kernel
theorem dX2_due_73 : decode cX2_due 73 = .ok (.aload_n 0, 1) := by decide +kernel
theorem dX2_due_74 : decode cX2_due 74 = .ok (.getfield 23, 3) := by decide +kernel
theorem dX2_due_77 : decode cX2_due 77 = .ok (.iconst 4, 1) := by decide +kernel
theorem dX2_due_78 : decode cX2_due 78 = .ok (.iaload, 1) := by decide +kernel
theorem dX2_due_79 : decode cX2_due 79 = .ok (.ireturn, 1) := by decide +kernel
theorem dX2_due_80 : decode cX2_due 80 = .ok (.aload_n 1, 1) := by decide +kernel
theorem dX2_due_81 : decode cX2_due 81 = .ok (.getfield 167, 3) := by decide +kernel
theorem dX2_due_84 : decode cX2_due 84 = .ok (.ireturn, 1) := by decide +kernel
theorem dX2_due_85 : decode cX2_due 85 = .ok (.iconst 0, 1) := by decide +kernel
theorem dX2_due_86 : decode cX2_due 86 = .ok (.ireturn, 1) := by decide +kernel
theorem dX2_isPassedBy_0 : decode cX2_isPassedBy 0 = .ok (.aload_n 0, 1) := by decide +kernel
theorem dX2_isPassedBy_1 : decode cX2_isPassedBy 1 = .ok (.getfield 185, 3) := by decide +kernel
theorem dX2_isPassedBy_4 : decode cX2_isPassedBy 4 = .ok (.ifCond .eq 21, 3) := by decide +kernel
theorem dX2_isPassedBy_7 : decode cX2_isPassedBy 7 = .ok (.aload_n 0, 1) := by decide +kernel
theorem dX2_isPassedBy_8 : decode cX2_isPassedBy 8 = .ok (.getfield 46, 3) := by decide +kernel
theorem dX2_isPassedBy_11 : decode cX2_isPassedBy 11 = .ok (.iconst 1, 1) := by decide +kernel
theorem dX2_isPassedBy_12 : decode cX2_isPassedBy 12 = .ok (.baload, 1) := by decide +kernel
theorem dX2_isPassedBy_13 : decode cX2_isPassedBy 13 = .ok (.ifCond .eq 12, 3) := by decide +kernel
theorem dX2_isPassedBy_16 : decode cX2_isPassedBy 16 = .ok (.iload_n 1, 1) := by decide +kernel
theorem dX2_isPassedBy_17 : decode cX2_isPassedBy 17 = .ok (.iconst 3, 1) := by decide +kernel
theorem dX2_isPassedBy_18 : decode cX2_isPassedBy 18 = .ok (.if_icmp .lt 7, 3) := by decide +kernel
theorem dX2_isPassedBy_21 : decode cX2_isPassedBy 21 = .ok (.iconst 1, 1) := by decide +kernel
theorem dX2_isPassedBy_22 : decode cX2_isPassedBy 22 = .ok (.goto 4, 3) := by decide +kernel
theorem dX2_isPassedBy_25 : decode cX2_isPassedBy 25 = .ok (.iconst 0, 1) := by decide +kernel
theorem dX2_isPassedBy_26 : decode cX2_isPassedBy 26 = .ok (.ireturn, 1) := by decide +kernel
theorem dX2_hand_0 : decode cX2_hand 0 = .ok (.aload_n 1, 1) := by decide +kernel
theorem dX2_hand_1 : decode cX2_hand 1 = .ok (.iload_n 2, 1) := by decide +kernel
theorem dX2_hand_2 : decode cX2_hand 2 = .ok (.putfield 127, 3) := by decide +kernel
theorem dX2_hand_5 : decode cX2_hand 5 = .ok (.aload_n 0, 1) := by decide +kernel
theorem dX2_hand_6 : decode cX2_hand 6 = .ok (.getfield 185, 3) := by decide +kernel
theorem dX2_hand_9 : decode cX2_hand 9 = .ok (.ifCond .eq 23, 3) := by decide +kernel
theorem dX2_hand_12 : decode cX2_hand 12 = .ok (.aload_n 0, 1) := by decide +kernel
theorem dX2_hand_13 : decode cX2_hand 13 = .ok (.getfield 46, 3) := by decide +kernel
theorem dX2_hand_16 : decode cX2_hand 16 = .ok (.iconst 0, 1) := by decide +kernel
theorem dX2_hand_17 : decode cX2_hand 17 = .ok (.baload, 1) := by decide +kernel
theorem dX2_hand_18 : decode cX2_hand 18 = .ok (.ifCond .eq 14, 3) := by decide +kernel
theorem dX2_hand_21 : decode cX2_hand 21 = .ok (.aload_n 1, 1) := by decide +kernel
theorem dX2_hand_22 : decode cX2_hand 22 = .ok (.dup, 1) := by decide +kernel
theorem dX2_hand_23 : decode cX2_hand 23 = .ok (.getfield 158, 3) := by decide +kernel
theorem dX2_hand_26 : decode cX2_hand 26 = .ok (.iload_n 2, 1) := by decide +kernel
theorem dX2_hand_27 : decode cX2_hand 27 = .ok (.iadd, 1) := by decide +kernel
theorem dX2_hand_28 : decode cX2_hand 28 = .ok (.putfield 158, 3) := by decide +kernel
theorem dX2_hand_31 : decode cX2_hand 31 = .ok (.return_, 1) := by decide +kernel
theorem dX2_hand_32 : decode cX2_hand 32 = .ok (.aload_n 1, 1) := by decide +kernel
theorem dX2_hand_33 : decode cX2_hand 33 = .ok (.aload_n 0, 1) := by decide +kernel
theorem dX2_hand_34 : decode cX2_hand 34 = .ok (.getfield 112, 3) := by decide +kernel
theorem dX2_hand_37 : decode cX2_hand 37 = .ok (.iload_n 2, 1) := by decide +kernel
theorem dX2_hand_38 : decode cX2_hand 38 = .ok (.invokevirtual 279, 3) := by decide +kernel
theorem dX2_hand_41 : decode cX2_hand 41 = .ok (.aload_n 0, 1) := by decide +kernel
theorem dX2_hand_42 : decode cX2_hand 42 = .ok (.getfield 50, 3) := by decide +kernel
theorem dX2_hand_45 : decode cX2_hand 45 = .ok (.iconst 0, 1) := by decide +kernel
theorem dX2_hand_46 : decode cX2_hand 46 = .ok (.dup2, 1) := by decide +kernel
theorem dX2_hand_47 : decode cX2_hand 47 = .ok (.iaload, 1) := by decide +kernel
theorem dX2_hand_48 : decode cX2_hand 48 = .ok (.iload_n 2, 1) := by decide +kernel
theorem dX2_hand_49 : decode cX2_hand 49 = .ok (.iadd, 1) := by decide +kernel
theorem dX2_hand_50 : decode cX2_hand 50 = .ok (.iastore, 1) := by decide +kernel
theorem dX2_hand_51 : decode cX2_hand 51 = .ok (.aload_n 0, 1) := by decide +kernel
theorem dX2_hand_52 : decode cX2_hand 52 = .ok (.aload_n 1, 1) := by decide +kernel
theorem dX2_hand_53 : decode cX2_hand 53 = .ok (.iconst 0, 1) := by decide +kernel
theorem dX2_hand_54 : decode cX2_hand 54 = .ok (.iload_n 2, 1) := by decide +kernel
theorem dX2_hand_55 : decode cX2_hand 55 = .ok (.invokevirtual 268, 3) := by decide +kernel
theorem dX2_hand_58 : decode cX2_hand 58 = .ok (.return_, 1) := by decide +kernel
theorem dX2_breach_0 : decode cX2_breach 0 = .ok (.aload_n 0, 1) := by decide +kernel
theorem dX2_breach_1 : decode cX2_breach 1 = .ok (.getfield 185, 3) := by decide +kernel
theorem dX2_breach_4 : decode cX2_breach 4 = .ok (.ifCond .ne 36, 3) := by decide +kernel
theorem dX2_breach_7 : decode cX2_breach 7 = .ok (.aload_n 0, 1) := by decide +kernel
theorem dX2_breach_8 : decode cX2_breach 8 = .ok (.getfield 46, 3) := by decide +kernel
theorem dX2_breach_11 : decode cX2_breach 11 = .ok (.iload_n 2, 1) := by decide +kernel
theorem dX2_breach_12 : decode cX2_breach 12 = .ok (.baload, 1) := by decide +kernel
theorem dX2_breach_13 : decode cX2_breach 13 = .ok (.ifCond .eq 27, 3) := by decide +kernel
theorem dX2_breach_16 : decode cX2_breach 16 = .ok (.iload_n 3, 1) := by decide +kernel
theorem dX2_breach_17 : decode cX2_breach 17 = .ok (.ifCond .le 23, 3) := by decide +kernel
theorem dX2_breach_20 : decode cX2_breach 20 = .ok (.aload_n 0, 1) := by decide +kernel
theorem dX2_breach_21 : decode cX2_breach 21 = .ok (.dup, 1) := by decide +kernel
theorem dX2_breach_22 : decode cX2_breach 22 = .ok (.getfield 188, 3) := by decide +kernel
theorem dX2_breach_25 : decode cX2_breach 25 = .ok (.iconst 1, 1) := by decide +kernel
theorem dX2_breach_26 : decode cX2_breach 26 = .ok (.iadd, 1) := by decide +kernel
theorem dX2_breach_27 : decode cX2_breach 27 = .ok (.putfield 188, 3) := by decide +kernel
theorem dX2_breach_30 : decode cX2_breach 30 = .ok (.aload_n 1, 1) := by decide +kernel
theorem dX2_breach_31 : decode cX2_breach 31 = .ok (.dup, 1) := by decide +kernel
theorem dX2_breach_32 : decode cX2_breach 32 = .ok (.getfield 224, 3) := by decide +kernel
theorem dX2_breach_35 : decode cX2_breach 35 = .ok (.iload_n 3, 1) := by decide +kernel
theorem dX2_breach_36 : decode cX2_breach 36 = .ok (.iadd, 1) := by decide +kernel
theorem dX2_breach_37 : decode cX2_breach 37 = .ok (.putfield 224, 3) := by decide +kernel
theorem dX2_breach_40 : decode cX2_breach 40 = .ok (.return_, 1) := by decide +kernel
theorem dX2_expire_0 : decode cX2_expire 0 = .ok (.iconst 0, 1) := by decide +kernel
theorem dX2_expire_1 : decode cX2_expire 1 = .ok (.istore_n 2, 1) := by decide +kernel
theorem dX2_expire_2 : decode cX2_expire 2 = .ok (.iload_n 2, 1) := by decide +kernel
theorem dX2_expire_3 : decode cX2_expire 3 = .ok (.aload_n 0, 1) := by decide +kernel
theorem dX2_expire_4 : decode cX2_expire 4 = .ok (.getfield 10, 3) := by decide +kernel
theorem dX2_expire_7 : decode cX2_expire 7 = .ok (.invokevirtual 53, 3) := by decide +kernel
theorem dX2_expire_10 : decode cX2_expire 10 = .ok (.if_icmp .ge 41, 3) := by decide +kernel
theorem dX2_expire_13 : decode cX2_expire 13 = .ok (.aload_n 0, 1) := by decide +kernel
theorem dX2_expire_14 : decode cX2_expire 14 = .ok (.getfield 10, 3) := by decide +kernel
theorem dX2_expire_17 : decode cX2_expire 17 = .ok (.iload_n 2, 1) := by decide +kernel
theorem dX2_expire_18 : decode cX2_expire 18 = .ok (.invokevirtual 117, 3) := by decide +kernel
theorem dX2_expire_21 : decode cX2_expire 21 = .ok (.checkcast 64, 3) := by decide +kernel
theorem dX2_expire_24 : decode cX2_expire 24 = .ok (.astore_n 3, 1) := by decide +kernel
theorem dX2_expire_25 : decode cX2_expire 25 = .ok (.aload_n 0, 1) := by decide +kernel
theorem dX2_expire_26 : decode cX2_expire 26 = .ok (.getfield 50, 3) := by decide +kernel
theorem dX2_expire_29 : decode cX2_expire 29 = .ok (.iconst 3, 1) := by decide +kernel
theorem dX2_expire_30 : decode cX2_expire 30 = .ok (.dup2, 1) := by decide +kernel
theorem dX2_expire_31 : decode cX2_expire 31 = .ok (.iaload, 1) := by decide +kernel
theorem dX2_expire_32 : decode cX2_expire 32 = .ok (.aload_n 3, 1) := by decide +kernel
theorem dX2_expire_33 : decode cX2_expire 33 = .ok (.iload_n 1, 1) := by decide +kernel
theorem dX2_expire_34 : decode cX2_expire 34 = .ok (.aload_n 3, 1) := by decide +kernel
theorem dX2_expire_35 : decode cX2_expire 35 = .ok (.getfield 229, 3) := by decide +kernel
theorem dX2_expire_38 : decode cX2_expire 38 = .ok (.iload_n 1, 1) := by decide +kernel
theorem dX2_expire_39 : decode cX2_expire 39 = .ok (.iaload, 1) := by decide +kernel
theorem dX2_expire_40 : decode cX2_expire 40 = .ok (.invokevirtual 282, 3) := by decide +kernel
theorem dX2_expire_43 : decode cX2_expire 43 = .ok (.iadd, 1) := by decide +kernel
theorem dX2_expire_44 : decode cX2_expire 44 = .ok (.iastore, 1) := by decide +kernel
theorem dX2_expire_45 : decode cX2_expire 45 = .ok (.iinc 2 1, 3) := by decide +kernel
theorem dX2_expire_48 : decode cX2_expire 48 = .ok (.goto (-46), 3) := by decide +kernel
theorem dX2_expire_51 : decode cX2_expire 51 = .ok (.return_, 1) := by decide +kernel
theorem dX2_storePrice_0 : decode cX2_storePrice 0 = .ok (.aload_n 0, 1) := by decide +kernel
theorem dX2_storePrice_1 : decode cX2_storePrice 1 = .ok (.getfield 34, 3) := by decide +kernel
theorem dX2_storePrice_4 : decode cX2_storePrice 4 = .ok (.iload_n 2, 1) := by decide +kernel
theorem dX2_storePrice_5 : decode cX2_storePrice 5 = .ok (.iaload, 1) := by decide +kernel
theorem dX2_storePrice_6 : decode cX2_storePrice 6 = .ok (.aload_n 0, 1) := by decide +kernel
theorem dX2_storePrice_7 : decode cX2_storePrice 7 = .ok (.getfield 34, 3) := by decide +kernel
theorem dX2_storePrice_10 : decode cX2_storePrice 10 = .ok (.iload_n 2, 1) := by decide +kernel
theorem dX2_storePrice_11 : decode cX2_storePrice 11 = .ok (.iaload, 1) := by decide +kernel
theorem dX2_storePrice_12 : decode cX2_storePrice 12 = .ok (.aload_n 1, 1) := by decide +kernel
theorem dX2_storePrice_13 : decode cX2_storePrice 13 = .ok (.getfield 167, 3) := by decide +kernel
theorem dX2_storePrice_16 : decode cX2_storePrice 16 = .ok (.imul, 1) := by decide +kernel
theorem dX2_storePrice_17 : decode cX2_storePrice 17 = .ok (.sipush 200, 3) := by decide +kernel
theorem dX2_storePrice_20 : decode cX2_storePrice 20 = .ok (.idiv, 1) := by decide +kernel
theorem dX2_storePrice_21 : decode cX2_storePrice 21 = .ok (.iadd, 1) := by decide +kernel
theorem dX2_storePrice_22 : decode cX2_storePrice 22 = .ok (.ireturn, 1) := by decide +kernel
theorem dX2_refusal_0 : decode cX2_refusal 0 = .ok (.aload_n 0, 1) := by decide +kernel
theorem dX2_refusal_1 : decode cX2_refusal 1 = .ok (.getfield 98, 3) := by decide +kernel
theorem dX2_refusal_4 : decode cX2_refusal 4 = .ok (.ifCond .ne 10, 3) := by decide +kernel
theorem dX2_refusal_7 : decode cX2_refusal 7 = .ok (.aload_n 0, 1) := by decide +kernel
theorem dX2_refusal_8 : decode cX2_refusal 8 = .ok (.getfield 95, 3) := by decide +kernel
theorem dX2_refusal_11 : decode cX2_refusal 11 = .ok (.ifCond .eq 5, 3) := by decide +kernel
theorem dX2_refusal_14 : decode cX2_refusal 14 = .ok (.iconst 1, 1) := by decide +kernel
theorem dX2_refusal_15 : decode cX2_refusal 15 = .ok (.ireturn, 1) := by decide +kernel
theorem dX2_refusal_16 : decode cX2_refusal 16 = .ok (.aload_n 1, 1) := by decide +kernel
theorem dX2_refusal_17 : decode cX2_refusal 17 = .ok (.getfield 121, 3) := by decide +kernel
theorem dX2_refusal_20 : decode cX2_refusal 20 = .ok (.ifCond .ne 5, 3) := by decide +kernel
theorem dX2_refusal_23 : decode cX2_refusal 23 = .ok (.iconst 2, 1) := by decide +kernel
theorem dX2_refusal_24 : decode cX2_refusal 24 = .ok (.ireturn, 1) := by decide +kernel
theorem dX2_refusal_25 : decode cX2_refusal 25 = .ok (.iload_n 2, 1) := by decide +kernel
theorem dX2_refusal_26 : decode cX2_refusal 26 = .ok (.aload_n 1, 1) := by decide +kernel
theorem dX2_refusal_27 : decode cX2_refusal 27 = .ok (.invokevirtual 285, 3) := by decide +kernel
theorem dX2_refusal_30 : decode cX2_refusal 30 = .ok (.isub, 1) := by decide +kernel
theorem dX2_refusal_31 : decode cX2_refusal 31 = .ok (.istore_n 3, 1) := by decide +kernel
theorem dX2_refusal_32 : decode cX2_refusal 32 = .ok (.iload_n 3, 1) := by decide +kernel
theorem dX2_refusal_33 : decode cX2_refusal 33 = .ok (.ifCond .le 20, 3) := by decide +kernel
theorem dX2_refusal_36 : decode cX2_refusal 36 = .ok (.aload_n 1, 1) := by decide +kernel
theorem dX2_refusal_37 : decode cX2_refusal 37 = .ok (.getfield 167, 3) := by decide +kernel
theorem dX2_refusal_40 : decode cX2_refusal 40 = .ok (.iload_n 3, 1) := by decide +kernel
theorem dX2_refusal_41 : decode cX2_refusal 41 = .ok (.iadd, 1) := by decide +kernel
theorem dX2_refusal_42 : decode cX2_refusal 42 = .ok (.aload_n 0, 1) := by decide +kernel
theorem dX2_refusal_43 : decode cX2_refusal 43 = .ok (.getfield 40, 3) := by decide +kernel
theorem dX2_refusal_46 : decode cX2_refusal 46 = .ok (.if_icmp .le 7, 3) := by decide +kernel
theorem dX2_refusal_49 : decode cX2_refusal 49 = .ok (.iconst 3, 1) := by decide +kernel
theorem dX2_refusal_50 : decode cX2_refusal 50 = .ok (.goto 4, 3) := by decide +kernel
theorem dX2_refusal_53 : decode cX2_refusal 53 = .ok (.iconst 0, 1) := by decide +kernel
theorem dX2_refusal_54 : decode cX2_refusal 54 = .ok (.ireturn, 1) := by decide +kernel
theorem dX2_heirOf_0 : decode cX2_heirOf 0 = .ok (.aload_n 1, 1) := by decide +kernel
theorem dX2_heirOf_1 : decode cX2_heirOf 1 = .ok (.getfield 80, 3) := by decide +kernel
theorem dX2_heirOf_4 : decode cX2_heirOf 4 = .ok (.istore_n 2, 1) := by decide +kernel
theorem dX2_heirOf_5 : decode cX2_heirOf 5 = .ok (.iconst 0, 1) := by decide +kernel
theorem dX2_heirOf_6 : decode cX2_heirOf 6 = .ok (.istore_n 3, 1) := by decide +kernel
theorem dX2_heirOf_7 : decode cX2_heirOf 7 = .ok (.iload_n 3, 1) := by decide +kernel
theorem dX2_heirOf_8 : decode cX2_heirOf 8 = .ok (.aload_n 0, 1) := by decide +kernel
theorem dX2_heirOf_9 : decode cX2_heirOf 9 = .ok (.getfield 10, 3) := by decide +kernel
theorem dX2_heirOf_12 : decode cX2_heirOf 12 = .ok (.invokevirtual 53, 3) := by decide +kernel
theorem dX2_heirOf_15 : decode cX2_heirOf 15 = .ok (.if_icmp .ge 37, 3) := by decide +kernel
theorem dX2_heirOf_18 : decode cX2_heirOf 18 = .ok (.iload_n 2, 1) := by decide +kernel
theorem dX2_heirOf_19 : decode cX2_heirOf 19 = .ok (.iconst (-1), 1) := by decide +kernel
theorem dX2_heirOf_20 : decode cX2_heirOf 20 = .ok (.if_icmp .eq 32, 3) := by decide +kernel
theorem dX2_heirOf_23 : decode cX2_heirOf 23 = .ok (.aload_n 0, 1) := by decide +kernel
theorem dX2_heirOf_24 : decode cX2_heirOf 24 = .ok (.iload_n 2, 1) := by decide +kernel
theorem dX2_heirOf_25 : decode cX2_heirOf 25 = .ok (.invokevirtual 71, 3) := by decide +kernel
theorem dX2_heirOf_28 : decode cX2_heirOf 28 = .ok (.astore 4, 2) := by decide +kernel
theorem dX2_heirOf_30 : decode cX2_heirOf 30 = .ok (.aload 4, 2) := by decide +kernel
theorem dX2_heirOf_32 : decode cX2_heirOf 32 = .ok (.getfield 121, 3) := by decide +kernel
theorem dX2_heirOf_35 : decode cX2_heirOf 35 = .ok (.ifCond .eq 5, 3) := by decide +kernel
theorem dX2_heirOf_38 : decode cX2_heirOf 38 = .ok (.iload_n 2, 1) := by decide +kernel
theorem dX2_heirOf_39 : decode cX2_heirOf 39 = .ok (.ireturn, 1) := by decide +kernel
theorem dX2_heirOf_40 : decode cX2_heirOf 40 = .ok (.aload 4, 2) := by decide +kernel
theorem dX2_heirOf_42 : decode cX2_heirOf 42 = .ok (.getfield 80, 3) := by decide +kernel
theorem dX2_heirOf_45 : decode cX2_heirOf 45 = .ok (.istore_n 2, 1) := by decide +kernel
theorem dX2_heirOf_46 : decode cX2_heirOf 46 = .ok (.iinc 3 1, 3) := by decide +kernel
theorem dX2_heirOf_49 : decode cX2_heirOf 49 = .ok (.goto (-42), 3) := by decide +kernel
theorem dX2_heirOf_52 : decode cX2_heirOf 52 = .ok (.iconst (-1), 1) := by decide +kernel
theorem dX2_heirOf_53 : decode cX2_heirOf 53 = .ok (.ireturn, 1) := by decide +kernel
theorem dX2_canStrike_0 : decode cX2_canStrike 0 = .ok (.iconst 0, 1) := by decide +kernel
theorem dX2_canStrike_1 : decode cX2_canStrike 1 = .ok (.istore_n 1, 1) := by decide +kernel
theorem dX2_canStrike_2 : decode cX2_canStrike 2 = .ok (.iconst 0, 1) := by decide +kernel
theorem dX2_canStrike_3 : decode cX2_canStrike 3 = .ok (.istore_n 2, 1) := by decide +kernel
theorem dX2_canStrike_4 : decode cX2_canStrike 4 = .ok (.iload_n 2, 1) := by decide +kernel
theorem dX2_canStrike_5 : decode cX2_canStrike 5 = .ok (.aload_n 0, 1) := by decide +kernel
theorem dX2_canStrike_6 : decode cX2_canStrike 6 = .ok (.getfield 10, 3) := by decide +kernel
theorem dX2_canStrike_9 : decode cX2_canStrike 9 = .ok (.invokevirtual 53, 3) := by decide +kernel
theorem dX2_canStrike_12 : decode cX2_canStrike 12 = .ok (.if_icmp .ge 43, 3) := by decide +kernel
theorem dX2_canStrike_15 : decode cX2_canStrike 15 = .ok (.aload_n 0, 1) := by decide +kernel
theorem dX2_canStrike_16 : decode cX2_canStrike 16 = .ok (.getfield 10, 3) := by decide +kernel
theorem dX2_canStrike_19 : decode cX2_canStrike 19 = .ok (.iload_n 2, 1) := by decide +kernel
theorem dX2_canStrike_20 : decode cX2_canStrike 20 = .ok (.invokevirtual 117, 3) := by decide +kernel
theorem dX2_canStrike_23 : decode cX2_canStrike 23 = .ok (.checkcast 64, 3) := by decide +kernel
theorem dX2_canStrike_26 : decode cX2_canStrike 26 = .ok (.astore_n 3, 1) := by decide +kernel
theorem dX2_canStrike_27 : decode cX2_canStrike 27 = .ok (.aload_n 3, 1) := by decide +kernel
theorem dX2_canStrike_28 : decode cX2_canStrike 28 = .ok (.getfield 121, 3) := by decide +kernel
theorem dX2_canStrike_31 : decode cX2_canStrike 31 = .ok (.ifCond .eq 18, 3) := by decide +kernel
theorem dX2_canStrike_34 : decode cX2_canStrike 34 = .ok (.iload_n 1, 1) := by decide +kernel
theorem dX2_canStrike_35 : decode cX2_canStrike 35 = .ok (.aload_n 3, 1) := by decide +kernel
theorem dX2_canStrike_36 : decode cX2_canStrike 36 = .ok (.getfield 202, 3) := by decide +kernel
theorem dX2_canStrike_39 : decode cX2_canStrike 39 = .ok (.ifCond .eq 7, 3) := by decide +kernel
theorem dX2_canStrike_42 : decode cX2_canStrike 42 = .ok (.iconst 1, 1) := by decide +kernel
theorem dX2_canStrike_43 : decode cX2_canStrike 43 = .ok (.goto 4, 3) := by decide +kernel
theorem dX2_canStrike_46 : decode cX2_canStrike 46 = .ok (.iconst (-1), 1) := by decide +kernel
theorem dX2_canStrike_47 : decode cX2_canStrike 47 = .ok (.iadd, 1) := by decide +kernel
theorem dX2_canStrike_48 : decode cX2_canStrike 48 = .ok (.istore_n 1, 1) := by decide +kernel
theorem dX2_canStrike_49 : decode cX2_canStrike 49 = .ok (.iinc 2 1, 3) := by decide +kernel
theorem dX2_canStrike_52 : decode cX2_canStrike 52 = .ok (.goto (-48), 3) := by decide +kernel
theorem dX2_canStrike_55 : decode cX2_canStrike 55 = .ok (.iload_n 1, 1) := by decide +kernel
theorem dX2_canStrike_56 : decode cX2_canStrike 56 = .ok (.ifCond .le 7, 3) := by decide +kernel
theorem dX2_canStrike_59 : decode cX2_canStrike 59 = .ok (.iconst 1, 1) := by decide +kernel
theorem dX2_canStrike_60 : decode cX2_canStrike 60 = .ok (.goto 4, 3) := by decide +kernel
theorem dX2_canStrike_63 : decode cX2_canStrike 63 = .ok (.iconst 0, 1) := by decide +kernel
theorem dX2_canStrike_64 : decode cX2_canStrike 64 = .ok (.ireturn, 1) := by decide +kernel
theorem dX2_poorestBut_0 : decode cX2_poorestBut 0 = .ok (.iconst (-1), 1) := by decide +kernel
theorem dX2_poorestBut_1 : decode cX2_poorestBut 1 = .ok (.istore_n 2, 1) := by decide +kernel
theorem dX2_poorestBut_2 : decode cX2_poorestBut 2 = .ok (.iconst 0, 1) := by decide +kernel
theorem dX2_poorestBut_3 : decode cX2_poorestBut 3 = .ok (.istore_n 3, 1) := by decide +kernel
theorem dX2_poorestBut_4 : decode cX2_poorestBut 4 = .ok (.iconst 0, 1) := by decide +kernel
theorem dX2_poorestBut_5 : decode cX2_poorestBut 5 = .ok (.istore 4, 2) := by decide +kernel
theorem dX2_poorestBut_7 : decode cX2_poorestBut 7 = .ok (.iload 4, 2) := by decide +kernel
theorem dX2_poorestBut_9 : decode cX2_poorestBut 9 = .ok (.aload_n 0, 1) := by decide +kernel
theorem dX2_poorestBut_10 : decode cX2_poorestBut 10 = .ok (.getfield 10, 3) := by decide +kernel
theorem dX2_poorestBut_13 : decode cX2_poorestBut 13 = .ok (.invokevirtual 53, 3) := by decide +kernel
theorem dX2_poorestBut_16 : decode cX2_poorestBut 16 = .ok (.if_icmp .ge 75, 3) := by decide +kernel
theorem dX2_poorestBut_19 : decode cX2_poorestBut 19 = .ok (.aload_n 0, 1) := by decide +kernel
theorem dX2_poorestBut_20 : decode cX2_poorestBut 20 = .ok (.getfield 10, 3) := by decide +kernel
theorem dX2_poorestBut_23 : decode cX2_poorestBut 23 = .ok (.iload 4, 2) := by decide +kernel
theorem dX2_poorestBut_25 : decode cX2_poorestBut 25 = .ok (.invokevirtual 117, 3) := by decide +kernel
theorem dX2_poorestBut_28 : decode cX2_poorestBut 28 = .ok (.checkcast 64, 3) := by decide +kernel
theorem dX2_poorestBut_31 : decode cX2_poorestBut 31 = .ok (.astore 5, 2) := by decide +kernel
theorem dX2_poorestBut_33 : decode cX2_poorestBut 33 = .ok (.aload 5, 2) := by decide +kernel
theorem dX2_poorestBut_35 : decode cX2_poorestBut 35 = .ok (.getfield 121, 3) := by decide +kernel
theorem dX2_poorestBut_38 : decode cX2_poorestBut 38 = .ok (.ifCond .eq 16, 3) := by decide +kernel
theorem dX2_poorestBut_41 : decode cX2_poorestBut 41 = .ok (.iload_n 1, 1) := by decide +kernel
theorem dX2_poorestBut_42 : decode cX2_poorestBut 42 = .ok (.iload 4, 2) := by decide +kernel
theorem dX2_poorestBut_44 : decode cX2_poorestBut 44 = .ok (.ishr, 1) := by decide +kernel
theorem dX2_poorestBut_45 : decode cX2_poorestBut 45 = .ok (.iconst 1, 1) := by decide +kernel
theorem dX2_poorestBut_46 : decode cX2_poorestBut 46 = .ok (.iand, 1) := by decide +kernel
theorem dX2_poorestBut_47 : decode cX2_poorestBut 47 = .ok (.ifCond .ne 7, 3) := by decide +kernel
theorem dX2_poorestBut_50 : decode cX2_poorestBut 50 = .ok (.iconst 1, 1) := by decide +kernel
theorem dX2_poorestBut_51 : decode cX2_poorestBut 51 = .ok (.goto 4, 3) := by decide +kernel
theorem dX2_poorestBut_54 : decode cX2_poorestBut 54 = .ok (.iconst 0, 1) := by decide +kernel
theorem dX2_poorestBut_55 : decode cX2_poorestBut 55 = .ok (.istore 6, 2) := by decide +kernel
theorem dX2_poorestBut_57 : decode cX2_poorestBut 57 = .ok (.iload 6, 2) := by decide +kernel
theorem dX2_poorestBut_59 : decode cX2_poorestBut 59 = .ok (.ifCond .eq 26, 3) := by decide +kernel
theorem dX2_poorestBut_62 : decode cX2_poorestBut 62 = .ok (.iload_n 2, 1) := by decide +kernel
theorem dX2_poorestBut_63 : decode cX2_poorestBut 63 = .ok (.iconst (-1), 1) := by decide +kernel
theorem dX2_poorestBut_64 : decode cX2_poorestBut 64 = .ok (.if_icmp .eq 12, 3) := by decide +kernel
theorem dX2_poorestBut_67 : decode cX2_poorestBut 67 = .ok (.aload 5, 2) := by decide +kernel
theorem dX2_poorestBut_69 : decode cX2_poorestBut 69 = .ok (.invokevirtual 285, 3) := by decide +kernel
theorem dX2_poorestBut_72 : decode cX2_poorestBut 72 = .ok (.iload_n 3, 1) := by decide +kernel
theorem dX2_poorestBut_73 : decode cX2_poorestBut 73 = .ok (.if_icmp .ge 12, 3) := by decide +kernel
theorem dX2_poorestBut_76 : decode cX2_poorestBut 76 = .ok (.iload 4, 2) := by decide +kernel
theorem dX2_poorestBut_78 : decode cX2_poorestBut 78 = .ok (.istore_n 2, 1) := by decide +kernel
theorem dX2_poorestBut_79 : decode cX2_poorestBut 79 = .ok (.aload 5, 2) := by decide +kernel
theorem dX2_poorestBut_81 : decode cX2_poorestBut 81 = .ok (.invokevirtual 285, 3) := by decide +kernel
theorem dX2_poorestBut_84 : decode cX2_poorestBut 84 = .ok (.istore_n 3, 1) := by decide +kernel
theorem dX2_poorestBut_85 : decode cX2_poorestBut 85 = .ok (.iinc 4 1, 3) := by decide +kernel
theorem dX2_poorestBut_88 : decode cX2_poorestBut 88 = .ok (.goto (-81), 3) := by decide +kernel
theorem dX2_poorestBut_91 : decode cX2_poorestBut 91 = .ok (.iload_n 2, 1) := by decide +kernel
theorem dX2_poorestBut_92 : decode cX2_poorestBut 92 = .ok (.ireturn, 1) := by decide +kernel
theorem dX2_redeem_0 : decode cX2_redeem 0 = .ok (.iconst 0, 1) := by decide +kernel
theorem dX2_redeem_1 : decode cX2_redeem 1 = .ok (.istore_n 3, 1) := by decide +kernel
theorem dX2_redeem_2 : decode cX2_redeem 2 = .ok (.iconst 0, 1) := by decide +kernel
theorem dX2_redeem_3 : decode cX2_redeem 3 = .ok (.istore 4, 2) := by decide +kernel
theorem dX2_redeem_5 : decode cX2_redeem 5 = .ok (.iload 4, 2) := by decide +kernel
theorem dX2_redeem_7 : decode cX2_redeem 7 = .ok (.aload_n 0, 1) := by decide +kernel
theorem dX2_redeem_8 : decode cX2_redeem 8 = .ok (.getfield 10, 3) := by decide +kernel
theorem dX2_redeem_11 : decode cX2_redeem 11 = .ok (.invokevirtual 53, 3) := by decide +kernel
theorem dX2_redeem_14 : decode cX2_redeem 14 = .ok (.if_icmp .ge 29, 3) := by decide +kernel
theorem dX2_redeem_17 : decode cX2_redeem 17 = .ok (.iload_n 3, 1) := by decide +kernel
theorem dX2_redeem_18 : decode cX2_redeem 18 = .ok (.aload_n 0, 1) := by decide +kernel
theorem dX2_redeem_19 : decode cX2_redeem 19 = .ok (.getfield 10, 3) := by decide +kernel
theorem dX2_redeem_22 : decode cX2_redeem 22 = .ok (.iload 4, 2) := by decide +kernel
theorem dX2_redeem_24 : decode cX2_redeem 24 = .ok (.invokevirtual 117, 3) := by decide +kernel
theorem dX2_redeem_27 : decode cX2_redeem 27 = .ok (.checkcast 64, 3) := by decide +kernel
theorem dX2_redeem_30 : decode cX2_redeem 30 = .ok (.getfield 229, 3) := by decide +kernel
theorem dX2_redeem_33 : decode cX2_redeem 33 = .ok (.iload_n 1, 1) := by decide +kernel
theorem dX2_redeem_34 : decode cX2_redeem 34 = .ok (.iaload, 1) := by decide +kernel
theorem dX2_redeem_35 : decode cX2_redeem 35 = .ok (.iadd, 1) := by decide +kernel
theorem dX2_redeem_36 : decode cX2_redeem 36 = .ok (.istore_n 3, 1) := by decide +kernel
theorem dX2_redeem_37 : decode cX2_redeem 37 = .ok (.iinc 4 1, 3) := by decide +kernel
theorem dX2_redeem_40 : decode cX2_redeem 40 = .ok (.goto (-35), 3) := by decide +kernel
theorem dX2_redeem_43 : decode cX2_redeem 43 = .ok (.iload_n 3, 1) := by decide +kernel
theorem dX2_redeem_44 : decode cX2_redeem 44 = .ok (.ifCond .gt 5, 3) := by decide +kernel
theorem dX2_redeem_47 : decode cX2_redeem 47 = .ok (.iconst 0, 1) := by decide +kernel
theorem dX2_redeem_48 : decode cX2_redeem 48 = .ok (.ireturn, 1) := by decide +kernel
theorem dX2_redeem_49 : decode cX2_redeem 49 = .ok (.iconst 0, 1) := by decide +kernel
theorem dX2_redeem_50 : decode cX2_redeem 50 = .ok (.istore 4, 2) := by decide +kernel
theorem dX2_redeem_52 : decode cX2_redeem 52 = .ok (.iconst 0, 1) := by decide +kernel
theorem dX2_redeem_53 : decode cX2_redeem 53 = .ok (.istore 5, 2) := by decide +kernel
theorem dX2_redeem_55 : decode cX2_redeem 55 = .ok (.iload 5, 2) := by decide +kernel
theorem dX2_redeem_57 : decode cX2_redeem 57 = .ok (.aload_n 0, 1) := by decide +kernel
theorem dX2_redeem_58 : decode cX2_redeem 58 = .ok (.getfield 10, 3) := by decide +kernel
theorem dX2_redeem_61 : decode cX2_redeem 61 = .ok (.invokevirtual 53, 3) := by decide +kernel
theorem dX2_redeem_64 : decode cX2_redeem 64 = .ok (.if_icmp .ge 79, 3) := by decide +kernel
theorem dX2_redeem_67 : decode cX2_redeem 67 = .ok (.aload_n 0, 1) := by decide +kernel
theorem dX2_redeem_68 : decode cX2_redeem 68 = .ok (.getfield 10, 3) := by decide +kernel
theorem dX2_redeem_71 : decode cX2_redeem 71 = .ok (.iload 5, 2) := by decide +kernel
theorem dX2_redeem_73 : decode cX2_redeem 73 = .ok (.invokevirtual 117, 3) := by decide +kernel
theorem dX2_redeem_76 : decode cX2_redeem 76 = .ok (.checkcast 64, 3) := by decide +kernel
theorem dX2_redeem_79 : decode cX2_redeem 79 = .ok (.astore 6, 2) := by decide +kernel
theorem dX2_redeem_81 : decode cX2_redeem 81 = .ok (.aload 6, 2) := by decide +kernel
theorem dX2_redeem_83 : decode cX2_redeem 83 = .ok (.iload_n 1, 1) := by decide +kernel
theorem dX2_redeem_84 : decode cX2_redeem 84 = .ok (.aload 6, 2) := by decide +kernel
theorem dX2_redeem_86 : decode cX2_redeem 86 = .ok (.getfield 229, 3) := by decide +kernel
theorem dX2_redeem_89 : decode cX2_redeem 89 = .ok (.iload_n 1, 1) := by decide +kernel
theorem dX2_redeem_90 : decode cX2_redeem 90 = .ok (.iaload, 1) := by decide +kernel
theorem dX2_redeem_91 : decode cX2_redeem 91 = .ok (.invokevirtual 282, 3) := by decide +kernel
theorem dX2_redeem_94 : decode cX2_redeem 94 = .ok (.istore 7, 2) := by decide +kernel
theorem dX2_redeem_96 : decode cX2_redeem 96 = .ok (.iload_n 2, 1) := by decide +kernel
theorem dX2_redeem_97 : decode cX2_redeem 97 = .ok (.iload_n 3, 1) := by decide +kernel
theorem dX2_redeem_98 : decode cX2_redeem 98 = .ok (.if_icmp .lt 8, 3) := by decide +kernel
theorem dX2_redeem_101 : decode cX2_redeem 101 = .ok (.iload 7, 2) := by decide +kernel
theorem dX2_redeem_103 : decode cX2_redeem 103 = .ok (.goto 13, 3) := by decide +kernel
theorem dX2_redeem_106 : decode cX2_redeem 106 = .ok (.iload 7, 2) := by decide +kernel
theorem dX2_redeem_108 : decode cX2_redeem 108 = .ok (.i2l, 1) := by decide +kernel
theorem dX2_redeem_109 : decode cX2_redeem 109 = .ok (.iload_n 2, 1) := by decide +kernel
theorem dX2_redeem_110 : decode cX2_redeem 110 = .ok (.i2l, 1) := by decide +kernel
theorem dX2_redeem_111 : decode cX2_redeem 111 = .ok (.lmul, 1) := by decide +kernel
theorem dX2_redeem_112 : decode cX2_redeem 112 = .ok (.iload_n 3, 1) := by decide +kernel
theorem dX2_redeem_113 : decode cX2_redeem 113 = .ok (.i2l, 1) := by decide +kernel
theorem dX2_redeem_114 : decode cX2_redeem 114 = .ok (.ldiv, 1) := by decide +kernel
theorem dX2_redeem_115 : decode cX2_redeem 115 = .ok (.l2i, 1) := by decide +kernel
theorem dX2_redeem_116 : decode cX2_redeem 116 = .ok (.istore 8, 2) := by decide +kernel
theorem dX2_redeem_118 : decode cX2_redeem 118 = .ok (.aload 6, 2) := by decide +kernel
theorem dX2_redeem_120 : decode cX2_redeem 120 = .ok (.dup, 1) := by decide +kernel
theorem dX2_redeem_121 : decode cX2_redeem 121 = .ok (.getfield 158, 3) := by decide +kernel
theorem dX2_redeem_124 : decode cX2_redeem 124 = .ok (.iload 8, 2) := by decide +kernel
theorem dX2_redeem_126 : decode cX2_redeem 126 = .ok (.iadd, 1) := by decide +kernel
theorem dX2_redeem_127 : decode cX2_redeem 127 = .ok (.putfield 158, 3) := by decide +kernel
theorem dX2_redeem_130 : decode cX2_redeem 130 = .ok (.iload 4, 2) := by decide +kernel
theorem dX2_redeem_132 : decode cX2_redeem 132 = .ok (.iload 8, 2) := by decide +kernel
theorem dX2_redeem_134 : decode cX2_redeem 134 = .ok (.iadd, 1) := by decide +kernel
theorem dX2_redeem_135 : decode cX2_redeem 135 = .ok (.istore 4, 2) := by decide +kernel
theorem dX2_redeem_137 : decode cX2_redeem 137 = .ok (.iinc 5 1, 3) := by decide +kernel
theorem dX2_redeem_140 : decode cX2_redeem 140 = .ok (.goto (-85), 3) := by decide +kernel
theorem dX2_redeem_143 : decode cX2_redeem 143 = .ok (.aload_n 0, 1) := by decide +kernel
theorem dX2_redeem_144 : decode cX2_redeem 144 = .ok (.getfield 50, 3) := by decide +kernel
theorem dX2_redeem_147 : decode cX2_redeem 147 = .ok (.iconst 5, 1) := by decide +kernel
theorem dX2_redeem_148 : decode cX2_redeem 148 = .ok (.dup2, 1) := by decide +kernel
theorem dX2_redeem_149 : decode cX2_redeem 149 = .ok (.iaload, 1) := by decide +kernel
theorem dX2_redeem_150 : decode cX2_redeem 150 = .ok (.iload_n 3, 1) := by decide +kernel
theorem dX2_redeem_151 : decode cX2_redeem 151 = .ok (.iadd, 1) := by decide +kernel
theorem dX2_redeem_152 : decode cX2_redeem 152 = .ok (.iastore, 1) := by decide +kernel
theorem dX2_redeem_153 : decode cX2_redeem 153 = .ok (.iload 4, 2) := by decide +kernel
theorem dX2_redeem_155 : decode cX2_redeem 155 = .ok (.ireturn, 1) := by decide +kernel
