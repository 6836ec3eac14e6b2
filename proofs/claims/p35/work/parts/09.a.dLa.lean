theorem dL_from_0 : decode cL_from 0 = .ok (.aload_n 0, 1) := by decide +kernel
theorem dL_from_1 : decode cL_from 1 = .ok (.arraylength, 1) := by decide +kernel
theorem dL_from_2 : decode cL_from 2 = .ok (.ifCond .ne 14, 3) := by decide +kernel
theorem dL_from_5 : decode cL_from 5 = .ok (.sipush 887, 3) := by decide +kernel
theorem dL_from_8 : decode cL_from 8 = .ok (.iload_n 1, 1) := by decide +kernel
theorem dL_from_9 : decode cL_from 9 = .ok (.imul, 1) := by decide +kernel
theorem dL_from_10 : decode cL_from 10 = .ok (.bipush 61, 2) := by decide +kernel
theorem dL_from_12 : decode cL_from 12 = .ok (.iadd, 1) := by decide +kernel
theorem dL_from_13 : decode cL_from 13 = .ok (.goto 14, 3) := by decide +kernel
theorem dL_from_16 : decode cL_from 16 = .ok (.aload_n 0, 1) := by decide +kernel
theorem dL_from_17 : decode cL_from 17 = .ok (.iload_n 1, 1) := by decide +kernel
theorem dL_from_18 : decode cL_from 18 = .ok (.aload_n 0, 1) := by decide +kernel
theorem dL_from_19 : decode cL_from 19 = .ok (.arraylength, 1) := by decide +kernel
theorem dL_from_20 : decode cL_from 20 = .ok (.irem, 1) := by decide +kernel
theorem dL_from_21 : decode cL_from 21 = .ok (.iaload, 1) := by decide +kernel
theorem dL_from_22 : decode cL_from 22 = .ok (.ldc 7, 2) := by decide +kernel
theorem dL_from_24 : decode cL_from 24 = .ok (.iload_n 1, 1) := by decide +kernel
theorem dL_from_25 : decode cL_from 25 = .ok (.imul, 1) := by decide +kernel
theorem dL_from_26 : decode cL_from 26 = .ok (.ixor, 1) := by decide +kernel
theorem dL_from_27 : decode cL_from 27 = .ok (.istore_n 3, 1) := by decide +kernel
theorem dL_from_28 : decode cL_from 28 = .ok (.iload_n 3, 1) := by decide +kernel
theorem dL_from_29 : decode cL_from 29 = .ok (.ldc 8, 2) := by decide +kernel
theorem dL_from_31 : decode cL_from 31 = .ok (.iand, 1) := by decide +kernel
theorem dL_from_32 : decode cL_from 32 = .ok (.iload_n 2, 1) := by decide +kernel
theorem dL_from_33 : decode cL_from 33 = .ok (.irem, 1) := by decide +kernel
theorem dL_from_34 : decode cL_from 34 = .ok (.ireturn, 1) := by decide +kernel
theorem dL_has_0 : decode cL_has 0 = .ok (.iconst 0, 1) := by decide +kernel
theorem dL_has_1 : decode cL_has 1 = .ok (.istore_n 2, 1) := by decide +kernel
theorem dL_has_2 : decode cL_has 2 = .ok (.iconst 0, 1) := by decide +kernel
theorem dL_has_3 : decode cL_has 3 = .ok (.istore_n 3, 1) := by decide +kernel
theorem dL_has_4 : decode cL_has 4 = .ok (.iload_n 3, 1) := by decide +kernel
theorem dL_has_5 : decode cL_has 5 = .ok (.bipush 12, 2) := by decide +kernel
theorem dL_has_7 : decode cL_has 7 = .ok (.if_icmp .ge 20, 3) := by decide +kernel
theorem dL_has_10 : decode cL_has 10 = .ok (.iload_n 2, 1) := by decide +kernel
theorem dL_has_11 : decode cL_has 11 = .ok (.aload_n 0, 1) := by decide +kernel
theorem dL_has_12 : decode cL_has 12 = .ok (.bipush 12, 2) := by decide +kernel
theorem dL_has_14 : decode cL_has 14 = .ok (.iload_n 1, 1) := by decide +kernel
theorem dL_has_15 : decode cL_has 15 = .ok (.imul, 1) := by decide +kernel
theorem dL_has_16 : decode cL_has 16 = .ok (.iload_n 3, 1) := by decide +kernel
theorem dL_has_17 : decode cL_has 17 = .ok (.iadd, 1) := by decide +kernel
theorem dL_has_18 : decode cL_has 18 = .ok (.iaload, 1) := by decide +kernel
theorem dL_has_19 : decode cL_has 19 = .ok (.iadd, 1) := by decide +kernel
theorem dL_has_20 : decode cL_has 20 = .ok (.istore_n 2, 1) := by decide +kernel
theorem dL_has_21 : decode cL_has 21 = .ok (.iinc 3 1, 3) := by decide +kernel
theorem dL_has_24 : decode cL_has 24 = .ok (.goto (-20), 3) := by decide +kernel
theorem dL_has_27 : decode cL_has 27 = .ok (.iload_n 2, 1) := by decide +kernel
theorem dL_has_28 : decode cL_has 28 = .ok (.ireturn, 1) := by decide +kernel
theorem dL_spend_0 : decode cL_spend 0 = .ok (.iload_n 3, 1) := by decide +kernel
theorem dL_spend_1 : decode cL_spend 1 = .ok (.istore 4, 2) := by decide +kernel
theorem dL_spend_3 : decode cL_spend 3 = .ok (.iconst 0, 1) := by decide +kernel
theorem dL_spend_4 : decode cL_spend 4 = .ok (.istore 5, 2) := by decide +kernel
theorem dL_spend_6 : decode cL_spend 6 = .ok (.iload 5, 2) := by decide +kernel
theorem dL_spend_8 : decode cL_spend 8 = .ok (.bipush 12, 2) := by decide +kernel
theorem dL_spend_10 : decode cL_spend 10 = .ok (.if_icmp .ge 94, 3) := by decide +kernel
theorem dL_spend_13 : decode cL_spend 13 = .ok (.iload 4, 2) := by decide +kernel
theorem dL_spend_15 : decode cL_spend 15 = .ok (.ifCond .le 89, 3) := by decide +kernel
theorem dL_spend_18 : decode cL_spend 18 = .ok (.aload_n 1, 1) := by decide +kernel
theorem dL_spend_19 : decode cL_spend 19 = .ok (.bipush 12, 2) := by decide +kernel
theorem dL_spend_21 : decode cL_spend 21 = .ok (.iload_n 2, 1) := by decide +kernel
theorem dL_spend_22 : decode cL_spend 22 = .ok (.imul, 1) := by decide +kernel
theorem dL_spend_23 : decode cL_spend 23 = .ok (.iload 5, 2) := by decide +kernel
theorem dL_spend_25 : decode cL_spend 25 = .ok (.iadd, 1) := by decide +kernel
theorem dL_spend_26 : decode cL_spend 26 = .ok (.iaload, 1) := by decide +kernel
theorem dL_spend_27 : decode cL_spend 27 = .ok (.istore 6, 2) := by decide +kernel
theorem dL_spend_29 : decode cL_spend 29 = .ok (.aload_n 1, 1) := by decide +kernel
theorem dL_spend_30 : decode cL_spend 30 = .ok (.bipush 12, 2) := by decide +kernel
theorem dL_spend_32 : decode cL_spend 32 = .ok (.iload_n 2, 1) := by decide +kernel
theorem dL_spend_33 : decode cL_spend 33 = .ok (.imul, 1) := by decide +kernel
theorem dL_spend_34 : decode cL_spend 34 = .ok (.iload 5, 2) := by decide +kernel
theorem dL_spend_36 : decode cL_spend 36 = .ok (.iadd, 1) := by decide +kernel
theorem dL_spend_37 : decode cL_spend 37 = .ok (.iload 6, 2) := by decide +kernel
theorem dL_spend_39 : decode cL_spend 39 = .ok (.iload 4, 2) := by decide +kernel
theorem dL_spend_41 : decode cL_spend 41 = .ok (.if_icmp .le 11, 3) := by decide +kernel
theorem dL_spend_44 : decode cL_spend 44 = .ok (.iload 6, 2) := by decide +kernel
theorem dL_spend_46 : decode cL_spend 46 = .ok (.iload 4, 2) := by decide +kernel
theorem dL_spend_48 : decode cL_spend 48 = .ok (.isub, 1) := by decide +kernel
theorem dL_spend_49 : decode cL_spend 49 = .ok (.goto 4, 3) := by decide +kernel
theorem dL_spend_52 : decode cL_spend 52 = .ok (.iconst 0, 1) := by decide +kernel
theorem dL_spend_53 : decode cL_spend 53 = .ok (.iastore, 1) := by decide +kernel
theorem dL_spend_54 : decode cL_spend 54 = .ok (.aload_n 0, 1) := by decide +kernel
theorem dL_spend_55 : decode cL_spend 55 = .ok (.bipush 12, 2) := by decide +kernel
theorem dL_spend_57 : decode cL_spend 57 = .ok (.iload_n 2, 1) := by decide +kernel
theorem dL_spend_58 : decode cL_spend 58 = .ok (.imul, 1) := by decide +kernel
theorem dL_spend_59 : decode cL_spend 59 = .ok (.bipush 11, 2) := by decide +kernel
theorem dL_spend_61 : decode cL_spend 61 = .ok (.iadd, 1) := by decide +kernel
theorem dL_spend_62 : decode cL_spend 62 = .ok (.dup2, 1) := by decide +kernel
theorem dL_spend_63 : decode cL_spend 63 = .ok (.iaload, 1) := by decide +kernel
theorem dL_spend_64 : decode cL_spend 64 = .ok (.iload 6, 2) := by decide +kernel
theorem dL_spend_66 : decode cL_spend 66 = .ok (.iload 4, 2) := by decide +kernel
theorem dL_spend_68 : decode cL_spend 68 = .ok (.if_icmp .le 8, 3) := by decide +kernel
theorem dL_spend_71 : decode cL_spend 71 = .ok (.iload 4, 2) := by decide +kernel
theorem dL_spend_73 : decode cL_spend 73 = .ok (.goto 5, 3) := by decide +kernel
theorem dL_spend_76 : decode cL_spend 76 = .ok (.iload 6, 2) := by decide +kernel
theorem dL_spend_78 : decode cL_spend 78 = .ok (.iadd, 1) := by decide +kernel
theorem dL_spend_79 : decode cL_spend 79 = .ok (.iastore, 1) := by decide +kernel
theorem dL_spend_80 : decode cL_spend 80 = .ok (.iload 6, 2) := by decide +kernel
theorem dL_spend_82 : decode cL_spend 82 = .ok (.iload 4, 2) := by decide +kernel
theorem dL_spend_84 : decode cL_spend 84 = .ok (.if_icmp .le 7, 3) := by decide +kernel
theorem dL_spend_87 : decode cL_spend 87 = .ok (.iconst 0, 1) := by decide +kernel
theorem dL_spend_88 : decode cL_spend 88 = .ok (.goto 8, 3) := by decide +kernel
theorem dL_spend_91 : decode cL_spend 91 = .ok (.iload 4, 2) := by decide +kernel
theorem dL_spend_93 : decode cL_spend 93 = .ok (.iload 6, 2) := by decide +kernel
theorem dL_spend_95 : decode cL_spend 95 = .ok (.isub, 1) := by decide +kernel
theorem dL_spend_96 : decode cL_spend 96 = .ok (.istore 4, 2) := by decide +kernel
theorem dL_spend_98 : decode cL_spend 98 = .ok (.iinc 5 1, 3) := by decide +kernel
theorem dL_spend_101 : decode cL_spend 101 = .ok (.goto (-95), 3) := by decide +kernel
theorem dL_spend_104 : decode cL_spend 104 = .ok (.iload 4, 2) := by decide +kernel
theorem dL_spend_106 : decode cL_spend 106 = .ok (.ireturn, 1) := by decide +kernel
theorem dL_raised_0 : decode cL_raised 0 = .ok (.aload_n 1, 1) := by decide +kernel
theorem dL_raised_1 : decode cL_raised 1 = .ok (.iconst 5, 1) := by decide +kernel
theorem dL_raised_2 : decode cL_raised 2 = .ok (.iload_n 3, 1) := by decide +kernel
theorem dL_raised_3 : decode cL_raised 3 = .ok (.iadd, 1) := by decide +kernel
theorem dL_raised_4 : decode cL_raised 4 = .ok (.iaload, 1) := by decide +kernel
theorem dL_raised_5 : decode cL_raised 5 = .ok (.aload_n 1, 1) := by decide +kernel
theorem dL_raised_6 : decode cL_raised 6 = .ok (.iconst 5, 1) := by decide +kernel
theorem dL_raised_7 : decode cL_raised 7 = .ok (.iload_n 3, 1) := by decide +kernel
theorem dL_raised_8 : decode cL_raised 8 = .ok (.iadd, 1) := by decide +kernel
theorem dL_raised_9 : decode cL_raised 9 = .ok (.iaload, 1) := by decide +kernel
theorem dL_raised_10 : decode cL_raised 10 = .ok (.aload_n 0, 1) := by decide +kernel
theorem dL_raised_11 : decode cL_raised 11 = .ok (.bipush 12, 2) := by decide +kernel
theorem dL_raised_13 : decode cL_raised 13 = .ok (.iload_n 2, 1) := by decide +kernel
theorem dL_raised_14 : decode cL_raised 14 = .ok (.imul, 1) := by decide +kernel
theorem dL_raised_15 : decode cL_raised 15 = .ok (.iconst 3, 1) := by decide +kernel
theorem dL_raised_16 : decode cL_raised 16 = .ok (.iadd, 1) := by decide +kernel
theorem dL_raised_17 : decode cL_raised 17 = .ok (.iaload, 1) := by decide +kernel
theorem dL_raised_18 : decode cL_raised 18 = .ok (.imul, 1) := by decide +kernel
theorem dL_raised_19 : decode cL_raised 19 = .ok (.sipush 200, 3) := by decide +kernel
theorem dL_raised_22 : decode cL_raised 22 = .ok (.idiv, 1) := by decide +kernel
theorem dL_raised_23 : decode cL_raised 23 = .ok (.iadd, 1) := by decide +kernel
theorem dL_raised_24 : decode cL_raised 24 = .ok (.ireturn, 1) := by decide +kernel
theorem dL_take_0 : decode cL_take 0 = .ok (.bipush 12, 2) := by decide +kernel
theorem dL_take_2 : decode cL_take 2 = .ok (.iload_n 2, 1) := by decide +kernel
theorem dL_take_3 : decode cL_take 3 = .ok (.imul, 1) := by decide +kernel
theorem dL_take_4 : decode cL_take 4 = .ok (.istore 5, 2) := by decide +kernel
theorem dL_take_6 : decode cL_take 6 = .ok (.iload_n 3, 1) := by decide +kernel
theorem dL_take_7 : decode cL_take 7 = .ok (.iconst 1, 1) := by decide +kernel
theorem dL_take_8 : decode cL_take 8 = .ok (.if_icmp .ne 12, 3) := by decide +kernel
theorem dL_take_11 : decode cL_take 11 = .ok (.aload_n 0, 1) := by decide +kernel
theorem dL_take_12 : decode cL_take 12 = .ok (.iload 5, 2) := by decide +kernel
theorem dL_take_14 : decode cL_take 14 = .ok (.iconst 4, 1) := by decide +kernel
theorem dL_take_15 : decode cL_take 15 = .ok (.iadd, 1) := by decide +kernel
theorem dL_take_16 : decode cL_take 16 = .ok (.iaload, 1) := by decide +kernel
theorem dL_take_17 : decode cL_take 17 = .ok (.goto 20, 3) := by decide +kernel
theorem dL_take_20 : decode cL_take 20 = .ok (.iload_n 3, 1) := by decide +kernel
theorem dL_take_21 : decode cL_take 21 = .ok (.iconst 5, 1) := by decide +kernel
theorem dL_take_22 : decode cL_take 22 = .ok (.if_icmp .ne 12, 3) := by decide +kernel
theorem dL_take_25 : decode cL_take 25 = .ok (.aload_n 0, 1) := by decide +kernel
theorem dL_take_26 : decode cL_take 26 = .ok (.iload 5, 2) := by decide +kernel
theorem dL_take_28 : decode cL_take 28 = .ok (.iconst 3, 1) := by decide +kernel
theorem dL_take_29 : decode cL_take 29 = .ok (.iadd, 1) := by decide +kernel
theorem dL_take_30 : decode cL_take 30 = .ok (.iaload, 1) := by decide +kernel
theorem dL_take_31 : decode cL_take 31 = .ok (.goto 6, 3) := by decide +kernel
theorem dL_take_34 : decode cL_take 34 = .ok (.aload_n 1, 1) := by decide +kernel
theorem dL_take_35 : decode cL_take 35 = .ok (.iload_n 3, 1) := by decide +kernel
theorem dL_take_36 : decode cL_take 36 = .ok (.iaload, 1) := by decide +kernel
theorem dL_take_37 : decode cL_take 37 = .ok (.istore 6, 2) := by decide +kernel
theorem dL_take_39 : decode cL_take 39 = .ok (.iload 6, 2) := by decide +kernel
theorem dL_take_41 : decode cL_take 41 = .ok (.iload 4, 2) := by decide +kernel
theorem dL_take_43 : decode cL_take 43 = .ok (.if_icmp .le 8, 3) := by decide +kernel
theorem dL_take_46 : decode cL_take 46 = .ok (.iload 4, 2) := by decide +kernel
theorem dL_take_48 : decode cL_take 48 = .ok (.goto 5, 3) := by decide +kernel
theorem dL_take_51 : decode cL_take 51 = .ok (.iload 6, 2) := by decide +kernel
theorem dL_take_53 : decode cL_take 53 = .ok (.istore 7, 2) := by decide +kernel
theorem dL_take_55 : decode cL_take 55 = .ok (.aload_n 0, 1) := by decide +kernel
theorem dL_take_56 : decode cL_take 56 = .ok (.iload 5, 2) := by decide +kernel
theorem dL_take_58 : decode cL_take 58 = .ok (.iconst 4, 1) := by decide +kernel
theorem dL_take_59 : decode cL_take 59 = .ok (.iadd, 1) := by decide +kernel
theorem dL_take_60 : decode cL_take 60 = .ok (.dup2, 1) := by decide +kernel
theorem dL_take_61 : decode cL_take 61 = .ok (.iaload, 1) := by decide +kernel
theorem dL_take_62 : decode cL_take 62 = .ok (.iload_n 3, 1) := by decide +kernel
theorem dL_take_63 : decode cL_take 63 = .ok (.iconst 1, 1) := by decide +kernel
theorem dL_take_64 : decode cL_take 64 = .ok (.if_icmp .ne 8, 3) := by decide +kernel
theorem dL_take_67 : decode cL_take 67 = .ok (.iload 7, 2) := by decide +kernel
theorem dL_take_69 : decode cL_take 69 = .ok (.goto 4, 3) := by decide +kernel
theorem dL_take_72 : decode cL_take 72 = .ok (.iconst 0, 1) := by decide +kernel
theorem dL_take_73 : decode cL_take 73 = .ok (.isub, 1) := by decide +kernel
theorem dL_take_74 : decode cL_take 74 = .ok (.iastore, 1) := by decide +kernel
theorem dL_take_75 : decode cL_take 75 = .ok (.aload_n 0, 1) := by decide +kernel
theorem dL_take_76 : decode cL_take 76 = .ok (.iload 5, 2) := by decide +kernel
theorem dL_take_78 : decode cL_take 78 = .ok (.iconst 3, 1) := by decide +kernel
theorem dL_take_79 : decode cL_take 79 = .ok (.iadd, 1) := by decide +kernel
theorem dL_take_80 : decode cL_take 80 = .ok (.dup2, 1) := by decide +kernel
theorem dL_take_81 : decode cL_take 81 = .ok (.iaload, 1) := by decide +kernel
theorem dL_take_82 : decode cL_take 82 = .ok (.iload_n 3, 1) := by decide +kernel
theorem dL_take_83 : decode cL_take 83 = .ok (.iconst 5, 1) := by decide +kernel
theorem dL_take_84 : decode cL_take 84 = .ok (.if_icmp .ne 8, 3) := by decide +kernel
theorem dL_take_87 : decode cL_take 87 = .ok (.iload 7, 2) := by decide +kernel
theorem dL_take_89 : decode cL_take 89 = .ok (.goto 4, 3) := by decide +kernel
theorem dL_take_92 : decode cL_take 92 = .ok (.iconst 0, 1) := by decide +kernel
theorem dL_take_93 : decode cL_take 93 = .ok (.isub, 1) := by decide +kernel
theorem dL_take_94 : decode cL_take 94 = .ok (.iastore, 1) := by decide +kernel
theorem dL_take_95 : decode cL_take 95 = .ok (.iload 7, 2) := by decide +kernel
theorem dL_take_97 : decode cL_take 97 = .ok (.ireturn, 1) := by decide +kernel
theorem dL_pay_0 : decode cL_pay 0 = .ok (.bipush 12, 2) := by decide +kernel
theorem dL_pay_2 : decode cL_pay 2 = .ok (.iload_n 3, 1) := by decide +kernel
theorem dL_pay_3 : decode cL_pay 3 = .ok (.imul, 1) := by decide +kernel
theorem dL_pay_4 : decode cL_pay 4 = .ok (.istore 4, 2) := by decide +kernel
theorem dL_pay_6 : decode cL_pay 6 = .ok (.aload_n 0, 1) := by decide +kernel
theorem dL_pay_7 : decode cL_pay 7 = .ok (.iload 4, 2) := by decide +kernel
theorem dL_pay_9 : decode cL_pay 9 = .ok (.iconst 1, 1) := by decide +kernel
theorem dL_pay_10 : decode cL_pay 10 = .ok (.iadd, 1) := by decide +kernel
theorem dL_pay_11 : decode cL_pay 11 = .ok (.iaload, 1) := by decide +kernel
theorem dL_pay_12 : decode cL_pay 12 = .ok (.aload_n 2, 1) := by decide +kernel
theorem dL_pay_13 : decode cL_pay 13 = .ok (.iconst 0, 1) := by decide +kernel
theorem dL_pay_14 : decode cL_pay 14 = .ok (.iaload, 1) := by decide +kernel
theorem dL_pay_15 : decode cL_pay 15 = .ok (.imul, 1) := by decide +kernel
theorem dL_pay_16 : decode cL_pay 16 = .ok (.bipush 10, 2) := by decide +kernel
theorem dL_pay_18 : decode cL_pay 18 = .ok (.idiv, 1) := by decide +kernel
theorem dL_pay_19 : decode cL_pay 19 = .ok (.istore 5, 2) := by decide +kernel
theorem dL_pay_21 : decode cL_pay 21 = .ok (.aload_n 0, 1) := by decide +kernel
theorem dL_pay_22 : decode cL_pay 22 = .ok (.iload 4, 2) := by decide +kernel
theorem dL_pay_24 : decode cL_pay 24 = .ok (.iconst 1, 1) := by decide +kernel
theorem dL_pay_25 : decode cL_pay 25 = .ok (.iadd, 1) := by decide +kernel
theorem dL_pay_26 : decode cL_pay 26 = .ok (.iconst 0, 1) := by decide +kernel
theorem dL_pay_27 : decode cL_pay 27 = .ok (.iastore, 1) := by decide +kernel
theorem dL_pay_28 : decode cL_pay 28 = .ok (.aload_n 0, 1) := by decide +kernel
theorem dL_pay_29 : decode cL_pay 29 = .ok (.iload 4, 2) := by decide +kernel
theorem dL_pay_31 : decode cL_pay 31 = .ok (.iconst 4, 1) := by decide +kernel
theorem dL_pay_32 : decode cL_pay 32 = .ok (.iadd, 1) := by decide +kernel
theorem dL_pay_33 : decode cL_pay 33 = .ok (.dup2, 1) := by decide +kernel
theorem dL_pay_34 : decode cL_pay 34 = .ok (.iaload, 1) := by decide +kernel
theorem dL_pay_35 : decode cL_pay 35 = .ok (.aload_n 0, 1) := by decide +kernel
theorem dL_pay_36 : decode cL_pay 36 = .ok (.iload 4, 2) := by decide +kernel
theorem dL_pay_38 : decode cL_pay 38 = .ok (.iconst 5, 1) := by decide +kernel
theorem dL_pay_39 : decode cL_pay 39 = .ok (.iadd, 1) := by decide +kernel
theorem dL_pay_40 : decode cL_pay 40 = .ok (.iaload, 1) := by decide +kernel
theorem dL_pay_41 : decode cL_pay 41 = .ok (.iconst 1, 1) := by decide +kernel
theorem dL_pay_42 : decode cL_pay 42 = .ok (.if_icmp .ne 9, 3) := by decide +kernel
theorem dL_pay_45 : decode cL_pay 45 = .ok (.aload_n 2, 1) := by decide +kernel
theorem dL_pay_46 : decode cL_pay 46 = .ok (.iconst 1, 1) := by decide +kernel
theorem dL_pay_47 : decode cL_pay 47 = .ok (.iaload, 1) := by decide +kernel
theorem dL_pay_48 : decode cL_pay 48 = .ok (.goto 4, 3) := by decide +kernel
theorem dL_pay_51 : decode cL_pay 51 = .ok (.iconst 0, 1) := by decide +kernel
theorem dL_pay_52 : decode cL_pay 52 = .ok (.iadd, 1) := by decide +kernel
theorem dL_pay_53 : decode cL_pay 53 = .ok (.iastore, 1) := by decide +kernel
theorem dL_pay_54 : decode cL_pay 54 = .ok (.iconst 0, 1) := by decide +kernel
theorem dL_pay_55 : decode cL_pay 55 = .ok (.istore 6, 2) := by decide +kernel
theorem dL_pay_57 : decode cL_pay 57 = .ok (.aload_n 2, 1) := by decide +kernel
theorem dL_pay_58 : decode cL_pay 58 = .ok (.bipush 15, 2) := by decide +kernel
theorem dL_pay_60 : decode cL_pay 60 = .ok (.iaload, 1) := by decide +kernel
theorem dL_pay_61 : decode cL_pay 61 = .ok (.istore 7, 2) := by decide +kernel
theorem dL_pay_63 : decode cL_pay 63 = .ok (.iload 7, 2) := by decide +kernel
theorem dL_pay_65 : decode cL_pay 65 = .ok (.ifCond .ne 7, 3) := by decide +kernel
theorem dL_pay_68 : decode cL_pay 68 = .ok (.iconst 0, 1) := by decide +kernel
theorem dL_pay_69 : decode cL_pay 69 = .ok (.goto 50, 3) := by decide +kernel
theorem dL_pay_72 : decode cL_pay 72 = .ok (.iload 7, 2) := by decide +kernel
theorem dL_pay_74 : decode cL_pay 74 = .ok (.bipush 10, 2) := by decide +kernel
theorem dL_pay_76 : decode cL_pay 76 = .ok (.if_icmp .ge 7, 3) := by decide +kernel
theorem dL_pay_79 : decode cL_pay 79 = .ok (.iconst 1, 1) := by decide +kernel
theorem dL_pay_80 : decode cL_pay 80 = .ok (.goto 39, 3) := by decide +kernel
theorem dL_pay_83 : decode cL_pay 83 = .ok (.iload 7, 2) := by decide +kernel
theorem dL_pay_85 : decode cL_pay 85 = .ok (.bipush 100, 2) := by decide +kernel
theorem dL_pay_87 : decode cL_pay 87 = .ok (.if_icmp .ge 7, 3) := by decide +kernel
theorem dL_pay_90 : decode cL_pay 90 = .ok (.iconst 2, 1) := by decide +kernel
theorem dL_pay_91 : decode cL_pay 91 = .ok (.goto 28, 3) := by decide +kernel
theorem dL_pay_94 : decode cL_pay 94 = .ok (.iload 7, 2) := by decide +kernel
theorem dL_pay_96 : decode cL_pay 96 = .ok (.sipush 1000, 3) := by decide +kernel
theorem dL_pay_99 : decode cL_pay 99 = .ok (.if_icmp .ge 7, 3) := by decide +kernel
theorem dL_pay_102 : decode cL_pay 102 = .ok (.iconst 3, 1) := by decide +kernel
theorem dL_pay_103 : decode cL_pay 103 = .ok (.goto 16, 3) := by decide +kernel
theorem dL_pay_106 : decode cL_pay 106 = .ok (.iload 7, 2) := by decide +kernel
theorem dL_pay_108 : decode cL_pay 108 = .ok (.sipush 10000, 3) := by decide +kernel
theorem dL_pay_111 : decode cL_pay 111 = .ok (.if_icmp .ge 7, 3) := by decide +kernel
theorem dL_pay_114 : decode cL_pay 114 = .ok (.iconst 4, 1) := by decide +kernel
theorem dL_pay_115 : decode cL_pay 115 = .ok (.goto 4, 3) := by decide +kernel
theorem dL_pay_118 : decode cL_pay 118 = .ok (.iconst 5, 1) := by decide +kernel
theorem dL_pay_119 : decode cL_pay 119 = .ok (.istore 8, 2) := by decide +kernel
theorem dL_pay_121 : decode cL_pay 121 = .ok (.iconst 0, 1) := by decide +kernel
theorem dL_pay_122 : decode cL_pay 122 = .ok (.istore 9, 2) := by decide +kernel
theorem dL_pay_124 : decode cL_pay 124 = .ok (.iload 9, 2) := by decide +kernel
theorem dL_pay_126 : decode cL_pay 126 = .ok (.iload 8, 2) := by decide +kernel
theorem dL_pay_128 : decode cL_pay 128 = .ok (.if_icmp .ge 104, 3) := by decide +kernel
theorem dL_pay_131 : decode cL_pay 131 = .ok (.iload 7, 2) := by decide +kernel
theorem dL_pay_133 : decode cL_pay 133 = .ok (.istore 10, 2) := by decide +kernel
theorem dL_pay_135 : decode cL_pay 135 = .ok (.iload 8, 2) := by decide +kernel
theorem dL_pay_137 : decode cL_pay 137 = .ok (.iconst 1, 1) := by decide +kernel
theorem dL_pay_138 : decode cL_pay 138 = .ok (.isub, 1) := by decide +kernel
theorem dL_pay_139 : decode cL_pay 139 = .ok (.istore 11, 2) := by decide +kernel
theorem dL_pay_141 : decode cL_pay 141 = .ok (.iload 11, 2) := by decide +kernel
theorem dL_pay_143 : decode cL_pay 143 = .ok (.iload 9, 2) := by decide +kernel
theorem dL_pay_145 : decode cL_pay 145 = .ok (.if_icmp .le 16, 3) := by decide +kernel
theorem dL_pay_148 : decode cL_pay 148 = .ok (.iload 10, 2) := by decide +kernel
theorem dL_pay_150 : decode cL_pay 150 = .ok (.bipush 10, 2) := by decide +kernel
theorem dL_pay_152 : decode cL_pay 152 = .ok (.idiv, 1) := by decide +kernel
theorem dL_pay_153 : decode cL_pay 153 = .ok (.istore 10, 2) := by decide +kernel
theorem dL_pay_155 : decode cL_pay 155 = .ok (.iinc 11 (-1), 3) := by decide +kernel
theorem dL_pay_158 : decode cL_pay 158 = .ok (.goto (-17), 3) := by decide +kernel
theorem dL_pay_161 : decode cL_pay 161 = .ok (.iload 10, 2) := by decide +kernel
theorem dL_pay_163 : decode cL_pay 163 = .ok (.bipush 10, 2) := by decide +kernel
theorem dL_pay_165 : decode cL_pay 165 = .ok (.irem, 1) := by decide +kernel
theorem dL_pay_166 : decode cL_pay 166 = .ok (.istore 10, 2) := by decide +kernel
theorem dL_pay_168 : decode cL_pay 168 = .ok (.iload 10, 2) := by decide +kernel
theorem dL_pay_170 : decode cL_pay 170 = .ok (.iconst 3, 1) := by decide +kernel
theorem dL_pay_171 : decode cL_pay 171 = .ok (.if_icmp .lt 19, 3) := by decide +kernel
theorem dL_pay_174 : decode cL_pay 174 = .ok (.aload_n 2, 1) := by decide +kernel
theorem dL_pay_175 : decode cL_pay 175 = .ok (.bipush 20, 2) := by decide +kernel
theorem dL_pay_177 : decode cL_pay 177 = .ok (.iaload, 1) := by decide +kernel
theorem dL_pay_178 : decode cL_pay 178 = .ok (.ifCond .eq 12, 3) := by decide +kernel
theorem dL_pay_181 : decode cL_pay 181 = .ok (.aload_n 2, 1) := by decide +kernel
theorem dL_pay_182 : decode cL_pay 182 = .ok (.bipush 19, 2) := by decide +kernel
theorem dL_pay_184 : decode cL_pay 184 = .ok (.iaload, 1) := by decide +kernel
theorem dL_pay_185 : decode cL_pay 185 = .ok (.iconst 2, 1) := by decide +kernel
theorem dL_pay_186 : decode cL_pay 186 = .ok (.iand, 1) := by decide +kernel
theorem dL_pay_187 : decode cL_pay 187 = .ok (.ifCond .ne 39, 3) := by decide +kernel
theorem dL_pay_190 : decode cL_pay 190 = .ok (.aload_n 0, 1) := by decide +kernel
theorem dL_pay_191 : decode cL_pay 191 = .ok (.aload_n 2, 1) := by decide +kernel
theorem dL_pay_192 : decode cL_pay 192 = .ok (.iload_n 3, 1) := by decide +kernel
theorem dL_pay_193 : decode cL_pay 193 = .ok (.iload 10, 2) := by decide +kernel
theorem dL_pay_195 : decode cL_pay 195 = .ok (.iload 5, 2) := by decide +kernel
theorem dL_pay_197 : decode cL_pay 197 = .ok (.invokestatic 9, 3) := by decide +kernel
theorem dL_pay_200 : decode cL_pay 200 = .ok (.istore 11, 2) := by decide +kernel
theorem dL_pay_202 : decode cL_pay 202 = .ok (.iload 5, 2) := by decide +kernel
theorem dL_pay_204 : decode cL_pay 204 = .ok (.iload 11, 2) := by decide +kernel
theorem dL_pay_206 : decode cL_pay 206 = .ok (.isub, 1) := by decide +kernel
theorem dL_pay_207 : decode cL_pay 207 = .ok (.istore 5, 2) := by decide +kernel
theorem dL_pay_209 : decode cL_pay 209 = .ok (.iload 6, 2) := by decide +kernel
theorem dL_pay_211 : decode cL_pay 211 = .ok (.iload 10, 2) := by decide +kernel
theorem dL_pay_213 : decode cL_pay 213 = .ok (.iconst 2, 1) := by decide +kernel
theorem dL_pay_214 : decode cL_pay 214 = .ok (.if_icmp .le 8, 3) := by decide +kernel
theorem dL_pay_217 : decode cL_pay 217 = .ok (.iload 11, 2) := by decide +kernel
theorem dL_pay_219 : decode cL_pay 219 = .ok (.goto 4, 3) := by decide +kernel
theorem dL_pay_222 : decode cL_pay 222 = .ok (.iconst 0, 1) := by decide +kernel
theorem dL_pay_223 : decode cL_pay 223 = .ok (.iadd, 1) := by decide +kernel
theorem dL_pay_224 : decode cL_pay 224 = .ok (.istore 6, 2) := by decide +kernel
theorem dL_pay_226 : decode cL_pay 226 = .ok (.iinc 9 1, 3) := by decide +kernel
theorem dL_pay_229 : decode cL_pay 229 = .ok (.goto (-105), 3) := by decide +kernel
theorem dL_pay_232 : decode cL_pay 232 = .ok (.aload_n 0, 1) := by decide +kernel
theorem dL_pay_233 : decode cL_pay 233 = .ok (.iload 4, 2) := by decide +kernel
theorem dL_pay_235 : decode cL_pay 235 = .ok (.iconst 5, 1) := by decide +kernel
theorem dL_pay_236 : decode cL_pay 236 = .ok (.iadd, 1) := by decide +kernel
theorem dL_pay_237 : decode cL_pay 237 = .ok (.aload_n 2, 1) := by decide +kernel
theorem dL_pay_238 : decode cL_pay 238 = .ok (.iconst 1, 1) := by decide +kernel
theorem dL_pay_239 : decode cL_pay 239 = .ok (.iaload, 1) := by decide +kernel
theorem dL_pay_240 : decode cL_pay 240 = .ok (.ifCond .le 21, 3) := by decide +kernel
theorem dL_pay_243 : decode cL_pay 243 = .ok (.aload_n 0, 1) := by decide +kernel
theorem dL_pay_244 : decode cL_pay 244 = .ok (.iload 4, 2) := by decide +kernel
theorem dL_pay_246 : decode cL_pay 246 = .ok (.iconst 4, 1) := by decide +kernel
theorem dL_pay_247 : decode cL_pay 247 = .ok (.iadd, 1) := by decide +kernel
theorem dL_pay_248 : decode cL_pay 248 = .ok (.iaload, 1) := by decide +kernel
theorem dL_pay_249 : decode cL_pay 249 = .ok (.iconst 3, 1) := by decide +kernel
theorem dL_pay_250 : decode cL_pay 250 = .ok (.aload_n 2, 1) := by decide +kernel
theorem dL_pay_251 : decode cL_pay 251 = .ok (.iconst 1, 1) := by decide +kernel
theorem dL_pay_252 : decode cL_pay 252 = .ok (.iaload, 1) := by decide +kernel
theorem dL_pay_253 : decode cL_pay 253 = .ok (.imul, 1) := by decide +kernel
theorem dL_pay_254 : decode cL_pay 254 = .ok (.if_icmp .le 7, 3) := by decide +kernel
theorem dL_pay_257 : decode cL_pay 257 = .ok (.iconst 0, 1) := by decide +kernel
theorem dL_pay_258 : decode cL_pay 258 = .ok (.goto 9, 3) := by decide +kernel
theorem dL_pay_261 : decode cL_pay 261 = .ok (.aload_n 0, 1) := by decide +kernel
theorem dL_pay_262 : decode cL_pay 262 = .ok (.iload 4, 2) := by decide +kernel
theorem dL_pay_264 : decode cL_pay 264 = .ok (.iconst 5, 1) := by decide +kernel
theorem dL_pay_265 : decode cL_pay 265 = .ok (.iadd, 1) := by decide +kernel
theorem dL_pay_266 : decode cL_pay 266 = .ok (.iaload, 1) := by decide +kernel
theorem dL_pay_267 : decode cL_pay 267 = .ok (.iastore, 1) := by decide +kernel
theorem dL_pay_268 : decode cL_pay 268 = .ok (.aload_n 2, 1) := by decide +kernel
theorem dL_pay_269 : decode cL_pay 269 = .ok (.bipush 20, 2) := by decide +kernel
theorem dL_pay_271 : decode cL_pay 271 = .ok (.iaload, 1) := by decide +kernel
theorem dL_pay_272 : decode cL_pay 272 = .ok (.iconst 1, 1) := by decide +kernel
theorem dL_pay_273 : decode cL_pay 273 = .ok (.if_icmp .ne 17, 3) := by decide +kernel
theorem dL_pay_276 : decode cL_pay 276 = .ok (.aload_n 2, 1) := by decide +kernel
theorem dL_pay_277 : decode cL_pay 277 = .ok (.bipush 19, 2) := by decide +kernel
theorem dL_pay_279 : decode cL_pay 279 = .ok (.iaload, 1) := by decide +kernel
theorem dL_pay_280 : decode cL_pay 280 = .ok (.iconst 1, 1) := by decide +kernel
theorem dL_pay_281 : decode cL_pay 281 = .ok (.iand, 1) := by decide +kernel
theorem dL_pay_282 : decode cL_pay 282 = .ok (.iconst 1, 1) := by decide +kernel
theorem dL_pay_283 : decode cL_pay 283 = .ok (.if_icmp .ne 7, 3) := by decide +kernel
theorem dL_pay_286 : decode cL_pay 286 = .ok (.iconst 1, 1) := by decide +kernel
theorem dL_pay_287 : decode cL_pay 287 = .ok (.goto 4, 3) := by decide +kernel
theorem dL_pay_290 : decode cL_pay 290 = .ok (.iconst 0, 1) := by decide +kernel
theorem dL_pay_291 : decode cL_pay 291 = .ok (.istore 9, 2) := by decide +kernel
theorem dL_pay_293 : decode cL_pay 293 = .ok (.aload_n 0, 1) := by decide +kernel
theorem dL_pay_294 : decode cL_pay 294 = .ok (.iload 4, 2) := by decide +kernel
theorem dL_pay_296 : decode cL_pay 296 = .ok (.bipush 7, 2) := by decide +kernel
theorem dL_pay_298 : decode cL_pay 298 = .ok (.iadd, 1) := by decide +kernel
theorem dL_pay_299 : decode cL_pay 299 = .ok (.iload 5, 2) := by decide +kernel
theorem dL_pay_301 : decode cL_pay 301 = .ok (.iastore, 1) := by decide +kernel
theorem dL_pay_302 : decode cL_pay 302 = .ok (.aload_n 0, 1) := by decide +kernel
theorem dL_pay_303 : decode cL_pay 303 = .ok (.iload 4, 2) := by decide +kernel
theorem dL_pay_305 : decode cL_pay 305 = .ok (.iconst 2, 1) := by decide +kernel
theorem dL_pay_306 : decode cL_pay 306 = .ok (.iadd, 1) := by decide +kernel
theorem dL_pay_307 : decode cL_pay 307 = .ok (.dup2, 1) := by decide +kernel
theorem dL_pay_308 : decode cL_pay 308 = .ok (.iaload, 1) := by decide +kernel
theorem dL_pay_309 : decode cL_pay 309 = .ok (.iload 9, 2) := by decide +kernel
theorem dL_pay_311 : decode cL_pay 311 = .ok (.ifCond .eq 8, 3) := by decide +kernel
theorem dL_pay_314 : decode cL_pay 314 = .ok (.iload 5, 2) := by decide +kernel
theorem dL_pay_316 : decode cL_pay 316 = .ok (.goto 4, 3) := by decide +kernel
theorem dL_pay_319 : decode cL_pay 319 = .ok (.iconst 0, 1) := by decide +kernel
theorem dL_pay_320 : decode cL_pay 320 = .ok (.iadd, 1) := by decide +kernel
theorem dL_pay_321 : decode cL_pay 321 = .ok (.iastore, 1) := by decide +kernel
theorem dL_pay_322 : decode cL_pay 322 = .ok (.aload_n 1, 1) := by decide +kernel
theorem dL_pay_323 : decode cL_pay 323 = .ok (.bipush 12, 2) := by decide +kernel
theorem dL_pay_325 : decode cL_pay 325 = .ok (.iload_n 3, 1) := by decide +kernel
theorem dL_pay_326 : decode cL_pay 326 = .ok (.imul, 1) := by decide +kernel
theorem dL_pay_327 : decode cL_pay 327 = .ok (.aload_n 2, 1) := by decide +kernel
theorem dL_pay_328 : decode cL_pay 328 = .ok (.bipush 16, 2) := by decide +kernel
theorem dL_pay_330 : decode cL_pay 330 = .ok (.iaload, 1) := by decide +kernel
theorem dL_pay_331 : decode cL_pay 331 = .ok (.iadd, 1) := by decide +kernel
theorem dL_pay_332 : decode cL_pay 332 = .ok (.dup2, 1) := by decide +kernel
theorem dL_pay_333 : decode cL_pay 333 = .ok (.iaload, 1) := by decide +kernel
theorem dL_pay_334 : decode cL_pay 334 = .ok (.iload 9, 2) := by decide +kernel
theorem dL_pay_336 : decode cL_pay 336 = .ok (.ifCond .eq 7, 3) := by decide +kernel
theorem dL_pay_339 : decode cL_pay 339 = .ok (.iconst 0, 1) := by decide +kernel
theorem dL_pay_340 : decode cL_pay 340 = .ok (.goto 5, 3) := by decide +kernel
theorem dL_pay_343 : decode cL_pay 343 = .ok (.iload 5, 2) := by decide +kernel
theorem dL_pay_345 : decode cL_pay 345 = .ok (.iadd, 1) := by decide +kernel
theorem dL_pay_346 : decode cL_pay 346 = .ok (.iastore, 1) := by decide +kernel
theorem dL_pay_347 : decode cL_pay 347 = .ok (.aload_n 0, 1) := by decide +kernel
theorem dL_pay_348 : decode cL_pay 348 = .ok (.iload 4, 2) := by decide +kernel
theorem dL_pay_350 : decode cL_pay 350 = .ok (.bipush 10, 2) := by decide +kernel
theorem dL_pay_352 : decode cL_pay 352 = .ok (.iadd, 1) := by decide +kernel
theorem dL_pay_353 : decode cL_pay 353 = .ok (.dup2, 1) := by decide +kernel
theorem dL_pay_354 : decode cL_pay 354 = .ok (.iaload, 1) := by decide +kernel
theorem dL_pay_355 : decode cL_pay 355 = .ok (.iload 9, 2) := by decide +kernel
theorem dL_pay_357 : decode cL_pay 357 = .ok (.ifCond .eq 7, 3) := by decide +kernel
theorem dL_pay_360 : decode cL_pay 360 = .ok (.iconst 0, 1) := by decide +kernel
theorem dL_pay_361 : decode cL_pay 361 = .ok (.goto 5, 3) := by decide +kernel
theorem dL_pay_364 : decode cL_pay 364 = .ok (.iload 5, 2) := by decide +kernel
theorem dL_pay_366 : decode cL_pay 366 = .ok (.iadd, 1) := by decide +kernel
theorem dL_pay_367 : decode cL_pay 367 = .ok (.iastore, 1) := by decide +kernel
theorem dL_pay_368 : decode cL_pay 368 = .ok (.aload_n 2, 1) := by decide +kernel
theorem dL_pay_369 : decode cL_pay 369 = .ok (.bipush 25, 2) := by decide +kernel
theorem dL_pay_371 : decode cL_pay 371 = .ok (.dup2, 1) := by decide +kernel
theorem dL_pay_372 : decode cL_pay 372 = .ok (.iaload, 1) := by decide +kernel
theorem dL_pay_373 : decode cL_pay 373 = .ok (.iload 9, 2) := by decide +kernel
theorem dL_pay_375 : decode cL_pay 375 = .ok (.ifCond .eq 7, 3) := by decide +kernel
theorem dL_pay_378 : decode cL_pay 378 = .ok (.iconst 0, 1) := by decide +kernel
theorem dL_pay_379 : decode cL_pay 379 = .ok (.goto 5, 3) := by decide +kernel
theorem dL_pay_382 : decode cL_pay 382 = .ok (.iload 5, 2) := by decide +kernel
theorem dL_pay_384 : decode cL_pay 384 = .ok (.iadd, 1) := by decide +kernel
theorem dL_pay_385 : decode cL_pay 385 = .ok (.iastore, 1) := by decide +kernel
theorem dL_pay_386 : decode cL_pay 386 = .ok (.aload_n 2, 1) := by decide +kernel
theorem dL_pay_387 : decode cL_pay 387 = .ok (.bipush 20, 2) := by decide +kernel
theorem dL_pay_389 : decode cL_pay 389 = .ok (.iaload, 1) := by decide +kernel
theorem dL_pay_390 : decode cL_pay 390 = .ok (.ifCond .ne 108, 3) := by decide +kernel
theorem dL_pay_393 : decode cL_pay 393 = .ok (.aload_n 2, 1) := by decide +kernel
theorem dL_pay_394 : decode cL_pay 394 = .ok (.bipush 19, 2) := by decide +kernel
theorem dL_pay_396 : decode cL_pay 396 = .ok (.iaload, 1) := by decide +kernel
theorem dL_pay_397 : decode cL_pay 397 = .ok (.iconst 1, 1) := by decide +kernel
theorem dL_pay_398 : decode cL_pay 398 = .ok (.iand, 1) := by decide +kernel
theorem dL_pay_399 : decode cL_pay 399 = .ok (.iconst 1, 1) := by decide +kernel
theorem dL_pay_400 : decode cL_pay 400 = .ok (.if_icmp .ne 12, 3) := by decide +kernel
theorem dL_pay_403 : decode cL_pay 403 = .ok (.iload 5, 2) := by decide +kernel
theorem dL_pay_405 : decode cL_pay 405 = .ok (.ifCond .le 7, 3) := by decide +kernel
theorem dL_pay_408 : decode cL_pay 408 = .ok (.iconst 1, 1) := by decide +kernel
theorem dL_pay_409 : decode cL_pay 409 = .ok (.goto 4, 3) := by decide +kernel
theorem dL_pay_412 : decode cL_pay 412 = .ok (.iconst 0, 1) := by decide +kernel
theorem dL_pay_413 : decode cL_pay 413 = .ok (.istore 10, 2) := by decide +kernel
theorem dL_pay_415 : decode cL_pay 415 = .ok (.aload_n 2, 1) := by decide +kernel
theorem dL_pay_416 : decode cL_pay 416 = .ok (.bipush 19, 2) := by decide +kernel
theorem dL_pay_418 : decode cL_pay 418 = .ok (.iaload, 1) := by decide +kernel
theorem dL_pay_419 : decode cL_pay 419 = .ok (.iconst 2, 1) := by decide +kernel
theorem dL_pay_420 : decode cL_pay 420 = .ok (.iand, 1) := by decide +kernel
theorem dL_pay_421 : decode cL_pay 421 = .ok (.iconst 2, 1) := by decide +kernel
theorem dL_pay_422 : decode cL_pay 422 = .ok (.if_icmp .ne 12, 3) := by decide +kernel
theorem dL_pay_425 : decode cL_pay 425 = .ok (.iload 6, 2) := by decide +kernel
theorem dL_pay_427 : decode cL_pay 427 = .ok (.ifCond .le 7, 3) := by decide +kernel
theorem dL_pay_430 : decode cL_pay 430 = .ok (.iconst 1, 1) := by decide +kernel
theorem dL_pay_431 : decode cL_pay 431 = .ok (.goto 4, 3) := by decide +kernel
theorem dL_pay_434 : decode cL_pay 434 = .ok (.iconst 0, 1) := by decide +kernel
theorem dL_pay_435 : decode cL_pay 435 = .ok (.istore 11, 2) := by decide +kernel
theorem dL_pay_437 : decode cL_pay 437 = .ok (.aload_n 2, 1) := by decide +kernel
theorem dL_pay_438 : decode cL_pay 438 = .ok (.bipush 21, 2) := by decide +kernel
theorem dL_pay_440 : decode cL_pay 440 = .ok (.dup2, 1) := by decide +kernel
theorem dL_pay_441 : decode cL_pay 441 = .ok (.iaload, 1) := by decide +kernel
theorem dL_pay_442 : decode cL_pay 442 = .ok (.iload 10, 2) := by decide +kernel
theorem dL_pay_444 : decode cL_pay 444 = .ok (.ifCond .eq 7, 3) := by decide +kernel
theorem dL_pay_447 : decode cL_pay 447 = .ok (.iconst 1, 1) := by decide +kernel
theorem dL_pay_448 : decode cL_pay 448 = .ok (.goto 4, 3) := by decide +kernel
theorem dL_pay_451 : decode cL_pay 451 = .ok (.iconst 0, 1) := by decide +kernel
theorem dL_pay_452 : decode cL_pay 452 = .ok (.iload 11, 2) := by decide +kernel
theorem dL_pay_454 : decode cL_pay 454 = .ok (.ifCond .eq 7, 3) := by decide +kernel
theorem dL_pay_457 : decode cL_pay 457 = .ok (.iconst 1, 1) := by decide +kernel
theorem dL_pay_458 : decode cL_pay 458 = .ok (.goto 4, 3) := by decide +kernel
theorem dL_pay_461 : decode cL_pay 461 = .ok (.iconst 0, 1) := by decide +kernel
theorem dL_pay_462 : decode cL_pay 462 = .ok (.iadd, 1) := by decide +kernel
theorem dL_pay_463 : decode cL_pay 463 = .ok (.iadd, 1) := by decide +kernel
theorem dL_pay_464 : decode cL_pay 464 = .ok (.iastore, 1) := by decide +kernel
theorem dL_pay_465 : decode cL_pay 465 = .ok (.aload_n 0, 1) := by decide +kernel
theorem dL_pay_466 : decode cL_pay 466 = .ok (.iload 4, 2) := by decide +kernel
theorem dL_pay_468 : decode cL_pay 468 = .ok (.bipush 6, 2) := by decide +kernel
theorem dL_pay_470 : decode cL_pay 470 = .ok (.iadd, 1) := by decide +kernel
theorem dL_pay_471 : decode cL_pay 471 = .ok (.dup2, 1) := by decide +kernel
theorem dL_pay_472 : decode cL_pay 472 = .ok (.iaload, 1) := by decide +kernel
theorem dL_pay_473 : decode cL_pay 473 = .ok (.iload 10, 2) := by decide +kernel
theorem dL_pay_475 : decode cL_pay 475 = .ok (.ifCond .eq 8, 3) := by decide +kernel
theorem dL_pay_478 : decode cL_pay 478 = .ok (.iload 5, 2) := by decide +kernel
theorem dL_pay_480 : decode cL_pay 480 = .ok (.goto 4, 3) := by decide +kernel
theorem dL_pay_483 : decode cL_pay 483 = .ok (.iconst 0, 1) := by decide +kernel
theorem dL_pay_484 : decode cL_pay 484 = .ok (.iload 11, 2) := by decide +kernel
theorem dL_pay_486 : decode cL_pay 486 = .ok (.ifCond .eq 8, 3) := by decide +kernel
theorem dL_pay_489 : decode cL_pay 489 = .ok (.iload 6, 2) := by decide +kernel
theorem dL_pay_491 : decode cL_pay 491 = .ok (.goto 4, 3) := by decide +kernel
theorem dL_pay_494 : decode cL_pay 494 = .ok (.iconst 0, 1) := by decide +kernel
theorem dL_pay_495 : decode cL_pay 495 = .ok (.iadd, 1) := by decide +kernel
theorem dL_pay_496 : decode cL_pay 496 = .ok (.iadd, 1) := by decide +kernel
theorem dL_pay_497 : decode cL_pay 497 = .ok (.iastore, 1) := by decide +kernel
theorem dL_pay_498 : decode cL_pay 498 = .ok (.iload 5, 2) := by decide +kernel
theorem dL_pay_500 : decode cL_pay 500 = .ok (.ireturn, 1) := by decide +kernel
theorem dL_isPayday_0 : decode cL_isPayday 0 = .ok (.aload_n 3, 1) := by decide +kernel
theorem dL_isPayday_1 : decode cL_isPayday 1 = .ok (.bipush 16, 2) := by decide +kernel
theorem dL_isPayday_3 : decode cL_isPayday 3 = .ok (.iaload, 1) := by decide +kernel
theorem dL_isPayday_4 : decode cL_isPayday 4 = .ok (.bipush 12, 2) := by decide +kernel
theorem dL_isPayday_6 : decode cL_isPayday 6 = .ok (.if_icmp .eq 11, 3) := by decide +kernel
theorem dL_isPayday_9 : decode cL_isPayday 9 = .ok (.aload_n 3, 1) := by decide +kernel
theorem dL_isPayday_10 : decode cL_isPayday 10 = .ok (.bipush 23, 2) := by decide +kernel
theorem dL_isPayday_12 : decode cL_isPayday 12 = .ok (.iaload, 1) := by decide +kernel
theorem dL_isPayday_13 : decode cL_isPayday 13 = .ok (.iconst 1, 1) := by decide +kernel
theorem dL_isPayday_14 : decode cL_isPayday 14 = .ok (.if_icmp .ne 5, 3) := by decide +kernel
theorem dL_isPayday_17 : decode cL_isPayday 17 = .ok (.iconst 1, 1) := by decide +kernel
theorem dL_isPayday_18 : decode cL_isPayday 18 = .ok (.ireturn, 1) := by decide +kernel
theorem dL_isPayday_19 : decode cL_isPayday 19 = .ok (.iconst 0, 1) := by decide +kernel
theorem dL_isPayday_20 : decode cL_isPayday 20 = .ok (.istore 4, 2) := by decide +kernel
theorem dL_isPayday_22 : decode cL_isPayday 22 = .ok (.iconst 0, 1) := by decide +kernel
theorem dL_isPayday_23 : decode cL_isPayday 23 = .ok (.istore 5, 2) := by decide +kernel
theorem dL_isPayday_25 : decode cL_isPayday 25 = .ok (.iload 5, 2) := by decide +kernel
theorem dL_isPayday_27 : decode cL_isPayday 27 = .ok (.iconst 5, 1) := by decide +kernel
theorem dL_isPayday_28 : decode cL_isPayday 28 = .ok (.if_icmp .ge 37, 3) := by decide +kernel
theorem dL_isPayday_31 : decode cL_isPayday 31 = .ok (.iload 4, 2) := by decide +kernel
theorem dL_isPayday_33 : decode cL_isPayday 33 = .ok (.aload_n 1, 1) := by decide +kernel
theorem dL_isPayday_34 : decode cL_isPayday 34 = .ok (.bipush 12, 2) := by decide +kernel
theorem dL_isPayday_36 : decode cL_isPayday 36 = .ok (.iload 5, 2) := by decide +kernel
theorem dL_isPayday_38 : decode cL_isPayday 38 = .ok (.imul, 1) := by decide +kernel
theorem dL_isPayday_39 : decode cL_isPayday 39 = .ok (.iaload, 1) := by decide +kernel
theorem dL_isPayday_40 : decode cL_isPayday 40 = .ok (.iconst 1, 1) := by decide +kernel
theorem dL_isPayday_41 : decode cL_isPayday 41 = .ok (.if_icmp .ne 14, 3) := by decide +kernel
theorem dL_isPayday_44 : decode cL_isPayday 44 = .ok (.aload_n 1, 1) := by decide +kernel
theorem dL_isPayday_45 : decode cL_isPayday 45 = .ok (.aload_n 2, 1) := by decide +kernel
theorem dL_isPayday_46 : decode cL_isPayday 46 = .ok (.aload_n 3, 1) := by decide +kernel
theorem dL_isPayday_47 : decode cL_isPayday 47 = .ok (.iload 5, 2) := by decide +kernel
theorem dL_isPayday_49 : decode cL_isPayday 49 = .ok (.invokestatic 15, 3) := by decide +kernel
theorem dL_isPayday_52 : decode cL_isPayday 52 = .ok (.goto 4, 3) := by decide +kernel
theorem dL_isPayday_55 : decode cL_isPayday 55 = .ok (.iconst 0, 1) := by decide +kernel
theorem dL_isPayday_56 : decode cL_isPayday 56 = .ok (.iadd, 1) := by decide +kernel
theorem dL_isPayday_57 : decode cL_isPayday 57 = .ok (.istore 4, 2) := by decide +kernel
theorem dL_isPayday_59 : decode cL_isPayday 59 = .ok (.iinc 5 1, 3) := by decide +kernel
theorem dL_isPayday_62 : decode cL_isPayday 62 = .ok (.goto (-37), 3) := by decide +kernel
theorem dL_isPayday_65 : decode cL_isPayday 65 = .ok (.iconst 0, 1) := by decide +kernel
theorem dL_isPayday_66 : decode cL_isPayday 66 = .ok (.istore 5, 2) := by decide +kernel
theorem dL_isPayday_68 : decode cL_isPayday 68 = .ok (.iload 5, 2) := by decide +kernel
theorem dL_isPayday_70 : decode cL_isPayday 70 = .ok (.bipush 60, 2) := by decide +kernel
theorem dL_isPayday_72 : decode cL_isPayday 72 = .ok (.if_icmp .ge 59, 3) := by decide +kernel
theorem dL_isPayday_75 : decode cL_isPayday 75 = .ok (.iload 5, 2) := by decide +kernel
theorem dL_isPayday_77 : decode cL_isPayday 77 = .ok (.bipush 12, 2) := by decide +kernel
theorem dL_isPayday_79 : decode cL_isPayday 79 = .ok (.irem, 1) := by decide +kernel
theorem dL_isPayday_80 : decode cL_isPayday 80 = .ok (.iconst 4, 1) := by decide +kernel
theorem dL_isPayday_81 : decode cL_isPayday 81 = .ok (.iadd, 1) := by decide +kernel
theorem dL_isPayday_82 : decode cL_isPayday 82 = .ok (.aload_n 3, 1) := by decide +kernel
theorem dL_isPayday_83 : decode cL_isPayday 83 = .ok (.bipush 16, 2) := by decide +kernel
theorem dL_isPayday_85 : decode cL_isPayday 85 = .ok (.iaload, 1) := by decide +kernel
theorem dL_isPayday_86 : decode cL_isPayday 86 = .ok (.if_icmp .gt 39, 3) := by decide +kernel
theorem dL_isPayday_89 : decode cL_isPayday 89 = .ok (.aload_n 3, 1) := by decide +kernel
theorem dL_isPayday_90 : decode cL_isPayday 90 = .ok (.bipush 28, 2) := by decide +kernel
theorem dL_isPayday_92 : decode cL_isPayday 92 = .ok (.dup2, 1) := by decide +kernel
theorem dL_isPayday_93 : decode cL_isPayday 93 = .ok (.iaload, 1) := by decide +kernel
theorem dL_isPayday_94 : decode cL_isPayday 94 = .ok (.aload_n 2, 1) := by decide +kernel
theorem dL_isPayday_95 : decode cL_isPayday 95 = .ok (.iload 5, 2) := by decide +kernel
theorem dL_isPayday_97 : decode cL_isPayday 97 = .ok (.iaload, 1) := by decide +kernel
theorem dL_isPayday_98 : decode cL_isPayday 98 = .ok (.iadd, 1) := by decide +kernel
theorem dL_isPayday_99 : decode cL_isPayday 99 = .ok (.iastore, 1) := by decide +kernel
theorem dL_isPayday_100 : decode cL_isPayday 100 = .ok (.aload_n 1, 1) := by decide +kernel
theorem dL_isPayday_101 : decode cL_isPayday 101 = .ok (.iload 5, 2) := by decide +kernel
theorem dL_isPayday_103 : decode cL_isPayday 103 = .ok (.bipush 12, 2) := by decide +kernel
theorem dL_isPayday_105 : decode cL_isPayday 105 = .ok (.idiv, 1) := by decide +kernel
theorem dL_isPayday_106 : decode cL_isPayday 106 = .ok (.bipush 12, 2) := by decide +kernel
theorem dL_isPayday_108 : decode cL_isPayday 108 = .ok (.imul, 1) := by decide +kernel
theorem dL_isPayday_109 : decode cL_isPayday 109 = .ok (.bipush 11, 2) := by decide +kernel
theorem dL_isPayday_111 : decode cL_isPayday 111 = .ok (.iadd, 1) := by decide +kernel
theorem dL_isPayday_112 : decode cL_isPayday 112 = .ok (.dup2, 1) := by decide +kernel
theorem dL_isPayday_113 : decode cL_isPayday 113 = .ok (.iaload, 1) := by decide +kernel
theorem dL_isPayday_114 : decode cL_isPayday 114 = .ok (.aload_n 2, 1) := by decide +kernel
theorem dL_isPayday_115 : decode cL_isPayday 115 = .ok (.iload 5, 2) := by decide +kernel
theorem dL_isPayday_117 : decode cL_isPayday 117 = .ok (.iaload, 1) := by decide +kernel
theorem dL_isPayday_118 : decode cL_isPayday 118 = .ok (.iadd, 1) := by decide +kernel
theorem dL_isPayday_119 : decode cL_isPayday 119 = .ok (.iastore, 1) := by decide +kernel
theorem dL_isPayday_120 : decode cL_isPayday 120 = .ok (.aload_n 2, 1) := by decide +kernel
theorem dL_isPayday_121 : decode cL_isPayday 121 = .ok (.iload 5, 2) := by decide +kernel
theorem dL_isPayday_123 : decode cL_isPayday 123 = .ok (.iconst 0, 1) := by decide +kernel
theorem dL_isPayday_124 : decode cL_isPayday 124 = .ok (.iastore, 1) := by decide +kernel
theorem dL_isPayday_125 : decode cL_isPayday 125 = .ok (.iinc 5 1, 3) := by decide +kernel
theorem dL_isPayday_128 : decode cL_isPayday 128 = .ok (.goto (-60), 3) := by decide +kernel
theorem dL_isPayday_131 : decode cL_isPayday 131 = .ok (.aload_n 3, 1) := by decide +kernel
theorem dL_isPayday_132 : decode cL_isPayday 132 = .ok (.bipush 16, 2) := by decide +kernel
theorem dL_isPayday_134 : decode cL_isPayday 134 = .ok (.dup2, 1) := by decide +kernel
theorem dL_isPayday_135 : decode cL_isPayday 135 = .ok (.iaload, 1) := by decide +kernel
theorem dL_isPayday_136 : decode cL_isPayday 136 = .ok (.iconst 1, 1) := by decide +kernel
theorem dL_isPayday_137 : decode cL_isPayday 137 = .ok (.iadd, 1) := by decide +kernel
theorem dL_isPayday_138 : decode cL_isPayday 138 = .ok (.iastore, 1) := by decide +kernel
theorem dL_isPayday_139 : decode cL_isPayday 139 = .ok (.aload_n 0, 1) := by decide +kernel
theorem dL_isPayday_140 : decode cL_isPayday 140 = .ok (.invokevirtual 19, 3) := by decide +kernel
theorem dL_isPayday_143 : decode cL_isPayday 143 = .ok (.iload 4, 2) := by decide +kernel
theorem dL_isPayday_145 : decode cL_isPayday 145 = .ok (.if_icmp .ne 7, 3) := by decide +kernel
theorem dL_isPayday_148 : decode cL_isPayday 148 = .ok (.iconst 1, 1) := by decide +kernel
theorem dL_isPayday_149 : decode cL_isPayday 149 = .ok (.goto 4, 3) := by decide +kernel
theorem dL_isPayday_152 : decode cL_isPayday 152 = .ok (.iconst 0, 1) := by decide +kernel
theorem dL_isPayday_153 : decode cL_isPayday 153 = .ok (.ireturn, 1) := by decide +kernel
theorem dL_reason_0 : decode cL_reason 0 = .ok (.iload 4, 2) := by decide +kernel
theorem dL_reason_2 : decode cL_reason 2 = .ok (.aload_n 1, 1) := by decide +kernel
theorem dL_reason_3 : decode cL_reason 3 = .ok (.iload_n 3, 1) := by decide +kernel
theorem dL_reason_4 : decode cL_reason 4 = .ok (.invokestatic 25, 3) := by decide +kernel
theorem dL_reason_7 : decode cL_reason 7 = .ok (.isub, 1) := by decide +kernel
theorem dL_reason_8 : decode cL_reason 8 = .ok (.aload_n 0, 1) := by decide +kernel
theorem dL_reason_9 : decode cL_reason 9 = .ok (.bipush 12, 2) := by decide +kernel
theorem dL_reason_11 : decode cL_reason 11 = .ok (.iload_n 3, 1) := by decide +kernel
theorem dL_reason_12 : decode cL_reason 12 = .ok (.imul, 1) := by decide +kernel
theorem dL_reason_13 : decode cL_reason 13 = .ok (.iconst 2, 1) := by decide +kernel
theorem dL_reason_14 : decode cL_reason 14 = .ok (.iadd, 1) := by decide +kernel
theorem dL_reason_15 : decode cL_reason 15 = .ok (.iaload, 1) := by decide +kernel
theorem dL_reason_16 : decode cL_reason 16 = .ok (.isub, 1) := by decide +kernel
theorem dL_reason_17 : decode cL_reason 17 = .ok (.istore 5, 2) := by decide +kernel
theorem dL_reason_19 : decode cL_reason 19 = .ok (.aload_n 2, 1) := by decide +kernel
theorem dL_reason_20 : decode cL_reason 20 = .ok (.bipush 23, 2) := by decide +kernel
theorem dL_reason_22 : decode cL_reason 22 = .ok (.iaload, 1) := by decide +kernel
theorem dL_reason_23 : decode cL_reason 23 = .ok (.iconst 1, 1) := by decide +kernel
theorem dL_reason_24 : decode cL_reason 24 = .ok (.if_icmp .eq 11, 3) := by decide +kernel
theorem dL_reason_27 : decode cL_reason 27 = .ok (.aload_n 2, 1) := by decide +kernel
theorem dL_reason_28 : decode cL_reason 28 = .ok (.bipush 22, 2) := by decide +kernel
theorem dL_reason_30 : decode cL_reason 30 = .ok (.iaload, 1) := by decide +kernel
theorem dL_reason_31 : decode cL_reason 31 = .ok (.iconst 1, 1) := by decide +kernel
theorem dL_reason_32 : decode cL_reason 32 = .ok (.if_icmp .ne 5, 3) := by decide +kernel
theorem dL_reason_35 : decode cL_reason 35 = .ok (.iconst 1, 1) := by decide +kernel
theorem dL_reason_36 : decode cL_reason 36 = .ok (.ireturn, 1) := by decide +kernel
theorem dL_reason_37 : decode cL_reason 37 = .ok (.aload_n 0, 1) := by decide +kernel
theorem dL_reason_38 : decode cL_reason 38 = .ok (.bipush 12, 2) := by decide +kernel
theorem dL_reason_40 : decode cL_reason 40 = .ok (.iload_n 3, 1) := by decide +kernel
theorem dL_reason_41 : decode cL_reason 41 = .ok (.imul, 1) := by decide +kernel
theorem dL_reason_42 : decode cL_reason 42 = .ok (.iaload, 1) := by decide +kernel
theorem dL_reason_43 : decode cL_reason 43 = .ok (.ifCond .ne 7, 3) := by decide +kernel
theorem dL_reason_46 : decode cL_reason 46 = .ok (.iconst 2, 1) := by decide +kernel
theorem dL_reason_47 : decode cL_reason 47 = .ok (.goto 31, 3) := by decide +kernel
theorem dL_reason_50 : decode cL_reason 50 = .ok (.iload 5, 2) := by decide +kernel
theorem dL_reason_52 : decode cL_reason 52 = .ok (.ifCond .le 25, 3) := by decide +kernel
theorem dL_reason_55 : decode cL_reason 55 = .ok (.aload_n 0, 1) := by decide +kernel
theorem dL_reason_56 : decode cL_reason 56 = .ok (.bipush 12, 2) := by decide +kernel
theorem dL_reason_58 : decode cL_reason 58 = .ok (.iload_n 3, 1) := by decide +kernel
theorem dL_reason_59 : decode cL_reason 59 = .ok (.imul, 1) := by decide +kernel
theorem dL_reason_60 : decode cL_reason 60 = .ok (.iconst 3, 1) := by decide +kernel
theorem dL_reason_61 : decode cL_reason 61 = .ok (.iadd, 1) := by decide +kernel
theorem dL_reason_62 : decode cL_reason 62 = .ok (.iaload, 1) := by decide +kernel
theorem dL_reason_63 : decode cL_reason 63 = .ok (.iload 5, 2) := by decide +kernel
theorem dL_reason_65 : decode cL_reason 65 = .ok (.iadd, 1) := by decide +kernel
theorem dL_reason_66 : decode cL_reason 66 = .ok (.aload_n 2, 1) := by decide +kernel
theorem dL_reason_67 : decode cL_reason 67 = .ok (.bipush 17, 2) := by decide +kernel
theorem dL_reason_69 : decode cL_reason 69 = .ok (.iaload, 1) := by decide +kernel
theorem dL_reason_70 : decode cL_reason 70 = .ok (.if_icmp .le 7, 3) := by decide +kernel
theorem dL_reason_73 : decode cL_reason 73 = .ok (.iconst 3, 1) := by decide +kernel
theorem dL_reason_74 : decode cL_reason 74 = .ok (.goto 4, 3) := by decide +kernel
theorem dL_reason_77 : decode cL_reason 77 = .ok (.iconst 0, 1) := by decide +kernel
theorem dL_reason_78 : decode cL_reason 78 = .ok (.ireturn, 1) := by decide +kernel
