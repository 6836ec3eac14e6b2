theorem dX3_init_0 : decode cX3_init 0 = .ok (.aload_n 0, 1) := by decide +kernel
theorem dX3_init_1 : decode cX3_init 1 = .ok (.invokespecial 1, 3) := by decide +kernel
theorem dX3_init_4 : decode cX3_init 4 = .ok (.aload_n 0, 1) := by decide +kernel
theorem dX3_init_5 : decode cX3_init 5 = .ok (.bipush 10, 2) := by decide +kernel
theorem dX3_init_7 : decode cX3_init 7 = .ok (.newarray .boolean, 2) := by decide +kernel
theorem dX3_init_9 : decode cX3_init 9 = .ok (.putfield 7, 3) := by decide +kernel
theorem dX3_init_12 : decode cX3_init 12 = .ok (.aload_n 0, 1) := by decide +kernel
theorem dX3_init_13 : decode cX3_init 13 = .ok (.bipush 10, 2) := by decide +kernel
theorem dX3_init_15 : decode cX3_init 15 = .ok (.newarray .boolean, 2) := by decide +kernel
theorem dX3_init_17 : decode cX3_init 17 = .ok (.putfield 13, 3) := by decide +kernel
theorem dX3_init_20 : decode cX3_init 20 = .ok (.aload_n 0, 1) := by decide +kernel
theorem dX3_init_21 : decode cX3_init 21 = .ok (.bipush 10, 2) := by decide +kernel
theorem dX3_init_23 : decode cX3_init 23 = .ok (.newarray .boolean, 2) := by decide +kernel
theorem dX3_init_25 : decode cX3_init 25 = .ok (.putfield 16, 3) := by decide +kernel
theorem dX3_init_28 : decode cX3_init 28 = .ok (.aload_n 0, 1) := by decide +kernel
theorem dX3_init_29 : decode cX3_init 29 = .ok (.bipush 10, 2) := by decide +kernel
theorem dX3_init_31 : decode cX3_init 31 = .ok (.newarray .int, 2) := by decide +kernel
theorem dX3_init_33 : decode cX3_init 33 = .ok (.putfield 19, 3) := by decide +kernel
theorem dX3_init_36 : decode cX3_init 36 = .ok (.aload_n 0, 1) := by decide +kernel
theorem dX3_init_37 : decode cX3_init 37 = .ok (.bipush 10, 2) := by decide +kernel
theorem dX3_init_39 : decode cX3_init 39 = .ok (.newarray .int, 2) := by decide +kernel
theorem dX3_init_41 : decode cX3_init 41 = .ok (.putfield 23, 3) := by decide +kernel
theorem dX3_init_44 : decode cX3_init 44 = .ok (.aload_n 0, 1) := by decide +kernel
theorem dX3_init_45 : decode cX3_init 45 = .ok (.bipush 10, 2) := by decide +kernel
theorem dX3_init_47 : decode cX3_init 47 = .ok (.newarray .int, 2) := by decide +kernel
theorem dX3_init_49 : decode cX3_init 49 = .ok (.putfield 26, 3) := by decide +kernel
theorem dX3_init_52 : decode cX3_init 52 = .ok (.aload_n 0, 1) := by decide +kernel
theorem dX3_init_53 : decode cX3_init 53 = .ok (.bipush 10, 2) := by decide +kernel
theorem dX3_init_55 : decode cX3_init 55 = .ok (.newarray .int, 2) := by decide +kernel
theorem dX3_init_57 : decode cX3_init 57 = .ok (.putfield 29, 3) := by decide +kernel
theorem dX3_init_60 : decode cX3_init 60 = .ok (.aload_n 0, 1) := by decide +kernel
theorem dX3_init_61 : decode cX3_init 61 = .ok (.bipush 10, 2) := by decide +kernel
theorem dX3_init_63 : decode cX3_init 63 = .ok (.newarray .int, 2) := by decide +kernel
theorem dX3_init_65 : decode cX3_init 65 = .ok (.putfield 32, 3) := by decide +kernel
theorem dX3_init_68 : decode cX3_init 68 = .ok (.aload_n 0, 1) := by decide +kernel
theorem dX3_init_69 : decode cX3_init 69 = .ok (.bipush 10, 2) := by decide +kernel
theorem dX3_init_71 : decode cX3_init 71 = .ok (.newarray .int, 2) := by decide +kernel
theorem dX3_init_73 : decode cX3_init 73 = .ok (.putfield 35, 3) := by decide +kernel
theorem dX3_init_76 : decode cX3_init 76 = .ok (.aload_n 0, 1) := by decide +kernel
theorem dX3_init_77 : decode cX3_init 77 = .ok (.bipush 10, 2) := by decide +kernel
theorem dX3_init_79 : decode cX3_init 79 = .ok (.newarray .int, 2) := by decide +kernel
theorem dX3_init_81 : decode cX3_init 81 = .ok (.putfield 38, 3) := by decide +kernel
theorem dX3_init_84 : decode cX3_init 84 = .ok (.aload_n 0, 1) := by decide +kernel
theorem dX3_init_85 : decode cX3_init 85 = .ok (.sipush 400, 3) := by decide +kernel
theorem dX3_init_88 : decode cX3_init 88 = .ok (.newarray .int, 2) := by decide +kernel
theorem dX3_init_90 : decode cX3_init 90 = .ok (.putfield 41, 3) := by decide +kernel
theorem dX3_init_93 : decode cX3_init 93 = .ok (.aload_n 0, 1) := by decide +kernel
theorem dX3_init_94 : decode cX3_init 94 = .ok (.bipush 40, 2) := by decide +kernel
theorem dX3_init_96 : decode cX3_init 96 = .ok (.newarray .int, 2) := by decide +kernel
theorem dX3_init_98 : decode cX3_init 98 = .ok (.putfield 44, 3) := by decide +kernel
theorem dX3_init_101 : decode cX3_init 101 = .ok (.aload_n 0, 1) := by decide +kernel
theorem dX3_init_102 : decode cX3_init 102 = .ok (.bipush 10, 2) := by decide +kernel
theorem dX3_init_104 : decode cX3_init 104 = .ok (.newarray .boolean, 2) := by decide +kernel
theorem dX3_init_106 : decode cX3_init 106 = .ok (.putfield 47, 3) := by decide +kernel
theorem dX3_init_109 : decode cX3_init 109 = .ok (.aload_n 0, 1) := by decide +kernel
theorem dX3_init_110 : decode cX3_init 110 = .ok (.iconst 5, 1) := by decide +kernel
theorem dX3_init_111 : decode cX3_init 111 = .ok (.newarray .int, 2) := by decide +kernel
theorem dX3_init_113 : decode cX3_init 113 = .ok (.putfield 50, 3) := by decide +kernel
theorem dX3_init_116 : decode cX3_init 116 = .ok (.aload_n 0, 1) := by decide +kernel
theorem dX3_init_117 : decode cX3_init 117 = .ok (.bipush 8, 2) := by decide +kernel
theorem dX3_init_119 : decode cX3_init 119 = .ok (.newarray .int, 2) := by decide +kernel
theorem dX3_init_121 : decode cX3_init 121 = .ok (.putfield 53, 3) := by decide +kernel
theorem dX3_init_124 : decode cX3_init 124 = .ok (.aload_n 0, 1) := by decide +kernel
theorem dX3_init_125 : decode cX3_init 125 = .ok (.iconst 3, 1) := by decide +kernel
theorem dX3_init_126 : decode cX3_init 126 = .ok (.newarray .boolean, 2) := by decide +kernel
theorem dX3_init_128 : decode cX3_init 128 = .ok (.putfield 56, 3) := by decide +kernel
theorem dX3_init_131 : decode cX3_init 131 = .ok (.aload_n 0, 1) := by decide +kernel
theorem dX3_init_132 : decode cX3_init 132 = .ok (.bipush 6, 2) := by decide +kernel
theorem dX3_init_134 : decode cX3_init 134 = .ok (.newarray .int, 2) := by decide +kernel
theorem dX3_init_136 : decode cX3_init 136 = .ok (.putfield 59, 3) := by decide +kernel
theorem dX3_init_139 : decode cX3_init 139 = .ok (.aload_n 0, 1) := by decide +kernel
theorem dX3_init_140 : decode cX3_init 140 = .ok (.bipush 10, 2) := by decide +kernel
theorem dX3_init_142 : decode cX3_init 142 = .ok (.putfield 62, 3) := by decide +kernel
theorem dX3_init_145 : decode cX3_init 145 = .ok (.aload_n 0, 1) := by decide +kernel
theorem dX3_init_146 : decode cX3_init 146 = .ok (.sipush 12345, 3) := by decide +kernel
theorem dX3_init_149 : decode cX3_init 149 = .ok (.putfield 66, 3) := by decide +kernel
theorem dX3_init_152 : decode cX3_init 152 = .ok (.aload_n 0, 1) := by decide +kernel
theorem dX3_init_153 : decode cX3_init 153 = .ok (.sipush 200, 3) := by decide +kernel
theorem dX3_init_156 : decode cX3_init 156 = .ok (.putfield 69, 3) := by decide +kernel
theorem dX3_init_159 : decode cX3_init 159 = .ok (.aload_n 0, 1) := by decide +kernel
theorem dX3_init_160 : decode cX3_init 160 = .ok (.bipush 20, 2) := by decide +kernel
theorem dX3_init_162 : decode cX3_init 162 = .ok (.putfield 72, 3) := by decide +kernel
theorem dX3_init_165 : decode cX3_init 165 = .ok (.aload_n 0, 1) := by decide +kernel
theorem dX3_init_166 : decode cX3_init 166 = .ok (.getfield 50, 3) := by decide +kernel
theorem dX3_init_169 : decode cX3_init 169 = .ok (.iconst 0, 1) := by decide +kernel
theorem dX3_init_170 : decode cX3_init 170 = .ok (.bipush 10, 2) := by decide +kernel
theorem dX3_init_172 : decode cX3_init 172 = .ok (.iastore, 1) := by decide +kernel
theorem dX3_init_173 : decode cX3_init 173 = .ok (.aload_n 0, 1) := by decide +kernel
theorem dX3_init_174 : decode cX3_init 174 = .ok (.getfield 50, 3) := by decide +kernel
theorem dX3_init_177 : decode cX3_init 177 = .ok (.iconst 1, 1) := by decide +kernel
theorem dX3_init_178 : decode cX3_init 178 = .ok (.bipush 20, 2) := by decide +kernel
theorem dX3_init_180 : decode cX3_init 180 = .ok (.iastore, 1) := by decide +kernel
theorem dX3_init_181 : decode cX3_init 181 = .ok (.iconst 0, 1) := by decide +kernel
theorem dX3_init_182 : decode cX3_init 182 = .ok (.istore_n 1, 1) := by decide +kernel
theorem dX3_init_183 : decode cX3_init 183 = .ok (.iload_n 1, 1) := by decide +kernel
theorem dX3_init_184 : decode cX3_init 184 = .ok (.bipush 8, 2) := by decide +kernel
theorem dX3_init_186 : decode cX3_init 186 = .ok (.if_icmp .ge 17, 3) := by decide +kernel
theorem dX3_init_189 : decode cX3_init 189 = .ok (.aload_n 0, 1) := by decide +kernel
theorem dX3_init_190 : decode cX3_init 190 = .ok (.getfield 53, 3) := by decide +kernel
theorem dX3_init_193 : decode cX3_init 193 = .ok (.iload_n 1, 1) := by decide +kernel
theorem dX3_init_194 : decode cX3_init 194 = .ok (.bipush 10, 2) := by decide +kernel
theorem dX3_init_196 : decode cX3_init 196 = .ok (.iastore, 1) := by decide +kernel
theorem dX3_init_197 : decode cX3_init 197 = .ok (.iinc 1 1, 3) := by decide +kernel
theorem dX3_init_200 : decode cX3_init 200 = .ok (.goto (-17), 3) := by decide +kernel
theorem dX3_init_203 : decode cX3_init 203 = .ok (.return_, 1) := by decide +kernel
theorem dX3_thrown_0 : decode cX3_thrown 0 = .ok (.aload_n 0, 1) := by decide +kernel
theorem dX3_thrown_1 : decode cX3_thrown 1 = .ok (.getfield 75, 3) := by decide +kernel
theorem dX3_thrown_4 : decode cX3_thrown 4 = .ok (.ireturn, 1) := by decide +kernel
theorem dX3_in_0 : decode cX3_in 0 = .ok (.iload_n 0, 1) := by decide +kernel
theorem dX3_in_1 : decode cX3_in 1 = .ok (.iload_n 1, 1) := by decide +kernel
theorem dX3_in_2 : decode cX3_in 2 = .ok (.if_icmp .lt 12, 3) := by decide +kernel
theorem dX3_in_5 : decode cX3_in 5 = .ok (.iload_n 0, 1) := by decide +kernel
theorem dX3_in_6 : decode cX3_in 6 = .ok (.iload_n 2, 1) := by decide +kernel
theorem dX3_in_7 : decode cX3_in 7 = .ok (.if_icmp .gt 7, 3) := by decide +kernel
theorem dX3_in_10 : decode cX3_in 10 = .ok (.iconst 1, 1) := by decide +kernel
theorem dX3_in_11 : decode cX3_in 11 = .ok (.goto 4, 3) := by decide +kernel
theorem dX3_in_14 : decode cX3_in 14 = .ok (.iconst 0, 1) := by decide +kernel
theorem dX3_in_15 : decode cX3_in 15 = .ok (.ireturn, 1) := by decide +kernel
theorem dX3_goes_0 : decode cX3_goes 0 = .ok (.aload_n 0, 1) := by decide +kernel
theorem dX3_goes_1 : decode cX3_goes 1 = .ok (.iload_n 1, 1) := by decide +kernel
theorem dX3_goes_2 : decode cX3_goes 2 = .ok (.ifCond .ne 7, 3) := by decide +kernel
theorem dX3_goes_5 : decode cX3_goes 5 = .ok (.iconst 1, 1) := by decide +kernel
theorem dX3_goes_6 : decode cX3_goes 6 = .ok (.goto 20, 3) := by decide +kernel
theorem dX3_goes_9 : decode cX3_goes 9 = .ok (.iload_n 2, 1) := by decide +kernel
theorem dX3_goes_10 : decode cX3_goes 10 = .ok (.ifCond .ne 7, 3) := by decide +kernel
theorem dX3_goes_13 : decode cX3_goes 13 = .ok (.iconst 2, 1) := by decide +kernel
theorem dX3_goes_14 : decode cX3_goes 14 = .ok (.goto 12, 3) := by decide +kernel
theorem dX3_goes_17 : decode cX3_goes 17 = .ok (.iload_n 3, 1) := by decide +kernel
theorem dX3_goes_18 : decode cX3_goes 18 = .ok (.ifCond .eq 7, 3) := by decide +kernel
theorem dX3_goes_21 : decode cX3_goes 21 = .ok (.iconst 0, 1) := by decide +kernel
theorem dX3_goes_22 : decode cX3_goes 22 = .ok (.goto 4, 3) := by decide +kernel
theorem dX3_goes_25 : decode cX3_goes 25 = .ok (.iconst 3, 1) := by decide +kernel
theorem dX3_goes_26 : decode cX3_goes 26 = .ok (.putfield 75, 3) := by decide +kernel
theorem dX3_goes_29 : decode cX3_goes 29 = .ok (.aload_n 0, 1) := by decide +kernel
theorem dX3_goes_30 : decode cX3_goes 30 = .ok (.getfield 75, 3) := by decide +kernel
theorem dX3_goes_33 : decode cX3_goes 33 = .ok (.ifCond .ne 7, 3) := by decide +kernel
theorem dX3_goes_36 : decode cX3_goes 36 = .ok (.iconst 1, 1) := by decide +kernel
theorem dX3_goes_37 : decode cX3_goes 37 = .ok (.goto 4, 3) := by decide +kernel
theorem dX3_goes_40 : decode cX3_goes 40 = .ok (.iconst 0, 1) := by decide +kernel
theorem dX3_goes_41 : decode cX3_goes 41 = .ok (.ireturn, 1) := by decide +kernel
theorem dX3_isMiner_0 : decode cX3_isMiner 0 = .ok (.iload_n 1, 1) := by decide +kernel
theorem dX3_isMiner_1 : decode cX3_isMiner 1 = .ok (.iconst 0, 1) := by decide +kernel
theorem dX3_isMiner_2 : decode cX3_isMiner 2 = .ok (.aload_n 0, 1) := by decide +kernel
theorem dX3_isMiner_3 : decode cX3_isMiner 3 = .ok (.getfield 78, 3) := by decide +kernel
theorem dX3_isMiner_6 : decode cX3_isMiner 6 = .ok (.iconst 1, 1) := by decide +kernel
theorem dX3_isMiner_7 : decode cX3_isMiner 7 = .ok (.isub, 1) := by decide +kernel
theorem dX3_isMiner_8 : decode cX3_isMiner 8 = .ok (.invokestatic 81, 3) := by decide +kernel
theorem dX3_isMiner_11 : decode cX3_isMiner 11 = .ok (.ireturn, 1) := by decide +kernel
theorem dX3_isGoods_0 : decode cX3_isGoods 0 = .ok (.iload_n 0, 1) := by decide +kernel
theorem dX3_isGoods_1 : decode cX3_isGoods 1 = .ok (.iconst 0, 1) := by decide +kernel
theorem dX3_isGoods_2 : decode cX3_isGoods 2 = .ok (.iconst 3, 1) := by decide +kernel
theorem dX3_isGoods_3 : decode cX3_isGoods 3 = .ok (.invokestatic 81, 3) := by decide +kernel
theorem dX3_isGoods_6 : decode cX3_isGoods 6 = .ok (.ireturn, 1) := by decide +kernel
theorem dX3_isAlive_0 : decode cX3_isAlive 0 = .ok (.aload_n 0, 1) := by decide +kernel
theorem dX3_isAlive_1 : decode cX3_isAlive 1 = .ok (.iload_n 1, 1) := by decide +kernel
theorem dX3_isAlive_2 : decode cX3_isAlive 2 = .ok (.invokevirtual 85, 3) := by decide +kernel
theorem dX3_isAlive_5 : decode cX3_isAlive 5 = .ok (.ifCond .eq 16, 3) := by decide +kernel
theorem dX3_isAlive_8 : decode cX3_isAlive 8 = .ok (.aload_n 0, 1) := by decide +kernel
theorem dX3_isAlive_9 : decode cX3_isAlive 9 = .ok (.getfield 7, 3) := by decide +kernel
theorem dX3_isAlive_12 : decode cX3_isAlive 12 = .ok (.iload_n 1, 1) := by decide +kernel
theorem dX3_isAlive_13 : decode cX3_isAlive 13 = .ok (.baload, 1) := by decide +kernel
theorem dX3_isAlive_14 : decode cX3_isAlive 14 = .ok (.ifCond .eq 7, 3) := by decide +kernel
theorem dX3_isAlive_17 : decode cX3_isAlive 17 = .ok (.iconst 1, 1) := by decide +kernel
theorem dX3_isAlive_18 : decode cX3_isAlive 18 = .ok (.goto 4, 3) := by decide +kernel
theorem dX3_isAlive_21 : decode cX3_isAlive 21 = .ok (.iconst 0, 1) := by decide +kernel
theorem dX3_isAlive_22 : decode cX3_isAlive 22 = .ok (.ireturn, 1) := by decide +kernel
theorem dX3_miner_0 : decode cX3_miner 0 = .ok (.aload_n 0, 1) := by decide +kernel
theorem dX3_miner_1 : decode cX3_miner 1 = .ok (.aload_n 0, 1) := by decide +kernel
theorem dX3_miner_2 : decode cX3_miner 2 = .ok (.getfield 78, 3) := by decide +kernel
theorem dX3_miner_5 : decode cX3_miner 5 = .ok (.bipush 10, 2) := by decide +kernel
theorem dX3_miner_7 : decode cX3_miner 7 = .ok (.if_icmp .ge 7, 3) := by decide +kernel
theorem dX3_miner_10 : decode cX3_miner 10 = .ok (.iconst 1, 1) := by decide +kernel
theorem dX3_miner_11 : decode cX3_miner 11 = .ok (.goto 4, 3) := by decide +kernel
theorem dX3_miner_14 : decode cX3_miner 14 = .ok (.iconst 0, 1) := by decide +kernel
theorem dX3_miner_15 : decode cX3_miner 15 = .ok (.iconst 1, 1) := by decide +kernel
theorem dX3_miner_16 : decode cX3_miner 16 = .ok (.iconst 1, 1) := by decide +kernel
theorem dX3_miner_17 : decode cX3_miner 17 = .ok (.invokevirtual 89, 3) := by decide +kernel
theorem dX3_miner_20 : decode cX3_miner 20 = .ok (.ifCond .ne 5, 3) := by decide +kernel
theorem dX3_miner_23 : decode cX3_miner 23 = .ok (.iconst 0, 1) := by decide +kernel
theorem dX3_miner_24 : decode cX3_miner 24 = .ok (.ireturn, 1) := by decide +kernel
theorem dX3_miner_25 : decode cX3_miner 25 = .ok (.aload_n 0, 1) := by decide +kernel
theorem dX3_miner_26 : decode cX3_miner 26 = .ok (.getfield 7, 3) := by decide +kernel
theorem dX3_miner_29 : decode cX3_miner 29 = .ok (.aload_n 0, 1) := by decide +kernel
theorem dX3_miner_30 : decode cX3_miner 30 = .ok (.getfield 78, 3) := by decide +kernel
theorem dX3_miner_33 : decode cX3_miner 33 = .ok (.iconst 1, 1) := by decide +kernel
theorem dX3_miner_34 : decode cX3_miner 34 = .ok (.bastore, 1) := by decide +kernel
theorem dX3_miner_35 : decode cX3_miner 35 = .ok (.aload_n 0, 1) := by decide +kernel
theorem dX3_miner_36 : decode cX3_miner 36 = .ok (.getfield 13, 3) := by decide +kernel
theorem dX3_miner_39 : decode cX3_miner 39 = .ok (.aload_n 0, 1) := by decide +kernel
theorem dX3_miner_40 : decode cX3_miner 40 = .ok (.getfield 78, 3) := by decide +kernel
theorem dX3_miner_43 : decode cX3_miner 43 = .ok (.iconst 1, 1) := by decide +kernel
theorem dX3_miner_44 : decode cX3_miner 44 = .ok (.bastore, 1) := by decide +kernel
theorem dX3_miner_45 : decode cX3_miner 45 = .ok (.aload_n 0, 1) := by decide +kernel
theorem dX3_miner_46 : decode cX3_miner 46 = .ok (.getfield 38, 3) := by decide +kernel
theorem dX3_miner_49 : decode cX3_miner 49 = .ok (.aload_n 0, 1) := by decide +kernel
theorem dX3_miner_50 : decode cX3_miner 50 = .ok (.getfield 78, 3) := by decide +kernel
theorem dX3_miner_53 : decode cX3_miner 53 = .ok (.iconst (-1), 1) := by decide +kernel
theorem dX3_miner_54 : decode cX3_miner 54 = .ok (.iastore, 1) := by decide +kernel
theorem dX3_miner_55 : decode cX3_miner 55 = .ok (.aload_n 0, 1) := by decide +kernel
theorem dX3_miner_56 : decode cX3_miner 56 = .ok (.dup, 1) := by decide +kernel
theorem dX3_miner_57 : decode cX3_miner 57 = .ok (.getfield 78, 3) := by decide +kernel
theorem dX3_miner_60 : decode cX3_miner 60 = .ok (.iconst 1, 1) := by decide +kernel
theorem dX3_miner_61 : decode cX3_miner 61 = .ok (.iadd, 1) := by decide +kernel
theorem dX3_miner_62 : decode cX3_miner 62 = .ok (.putfield 78, 3) := by decide +kernel
theorem dX3_miner_65 : decode cX3_miner 65 = .ok (.aload_n 0, 1) := by decide +kernel
theorem dX3_miner_66 : decode cX3_miner 66 = .ok (.getfield 78, 3) := by decide +kernel
theorem dX3_miner_69 : decode cX3_miner 69 = .ok (.iconst 1, 1) := by decide +kernel
theorem dX3_miner_70 : decode cX3_miner 70 = .ok (.isub, 1) := by decide +kernel
theorem dX3_miner_71 : decode cX3_miner 71 = .ok (.ireturn, 1) := by decide +kernel
theorem dX3_kin_0 : decode cX3_kin 0 = .ok (.aload_n 0, 1) := by decide +kernel
theorem dX3_kin_1 : decode cX3_kin 1 = .ok (.aload_n 0, 1) := by decide +kernel
theorem dX3_kin_2 : decode cX3_kin 2 = .ok (.iload_n 1, 1) := by decide +kernel
theorem dX3_kin_3 : decode cX3_kin 3 = .ok (.invokevirtual 85, 3) := by decide +kernel
theorem dX3_kin_6 : decode cX3_kin 6 = .ok (.ifCond .eq 20, 3) := by decide +kernel
theorem dX3_kin_9 : decode cX3_kin 9 = .ok (.iload_n 2, 1) := by decide +kernel
theorem dX3_kin_10 : decode cX3_kin 10 = .ok (.iconst (-1), 1) := by decide +kernel
theorem dX3_kin_11 : decode cX3_kin 11 = .ok (.if_icmp .eq 11, 3) := by decide +kernel
theorem dX3_kin_14 : decode cX3_kin 14 = .ok (.aload_n 0, 1) := by decide +kernel
theorem dX3_kin_15 : decode cX3_kin 15 = .ok (.iload_n 2, 1) := by decide +kernel
theorem dX3_kin_16 : decode cX3_kin 16 = .ok (.invokevirtual 85, 3) := by decide +kernel
theorem dX3_kin_19 : decode cX3_kin 19 = .ok (.ifCond .eq 7, 3) := by decide +kernel
theorem dX3_kin_22 : decode cX3_kin 22 = .ok (.iconst 1, 1) := by decide +kernel
theorem dX3_kin_23 : decode cX3_kin 23 = .ok (.goto 4, 3) := by decide +kernel
theorem dX3_kin_26 : decode cX3_kin 26 = .ok (.iconst 0, 1) := by decide +kernel
theorem dX3_kin_27 : decode cX3_kin 27 = .ok (.iload_n 1, 1) := by decide +kernel
theorem dX3_kin_28 : decode cX3_kin 28 = .ok (.iload_n 2, 1) := by decide +kernel
theorem dX3_kin_29 : decode cX3_kin 29 = .ok (.if_icmp .eq 7, 3) := by decide +kernel
theorem dX3_kin_32 : decode cX3_kin 32 = .ok (.iconst 1, 1) := by decide +kernel
theorem dX3_kin_33 : decode cX3_kin 33 = .ok (.goto 4, 3) := by decide +kernel
theorem dX3_kin_36 : decode cX3_kin 36 = .ok (.iconst 0, 1) := by decide +kernel
theorem dX3_kin_37 : decode cX3_kin 37 = .ok (.iconst 1, 1) := by decide +kernel
theorem dX3_kin_38 : decode cX3_kin 38 = .ok (.invokevirtual 89, 3) := by decide +kernel
theorem dX3_kin_41 : decode cX3_kin 41 = .ok (.ifCond .ne 5, 3) := by decide +kernel
theorem dX3_kin_44 : decode cX3_kin 44 = .ok (.iconst 0, 1) := by decide +kernel
theorem dX3_kin_45 : decode cX3_kin 45 = .ok (.ireturn, 1) := by decide +kernel
theorem dX3_kin_46 : decode cX3_kin 46 = .ok (.aload_n 0, 1) := by decide +kernel
theorem dX3_kin_47 : decode cX3_kin 47 = .ok (.getfield 38, 3) := by decide +kernel
theorem dX3_kin_50 : decode cX3_kin 50 = .ok (.iload_n 1, 1) := by decide +kernel
theorem dX3_kin_51 : decode cX3_kin 51 = .ok (.iaload, 1) := by decide +kernel
theorem dX3_kin_52 : decode cX3_kin 52 = .ok (.istore_n 3, 1) := by decide +kernel
theorem dX3_kin_53 : decode cX3_kin 53 = .ok (.aload_n 0, 1) := by decide +kernel
theorem dX3_kin_54 : decode cX3_kin 54 = .ok (.getfield 38, 3) := by decide +kernel
theorem dX3_kin_57 : decode cX3_kin 57 = .ok (.iload_n 1, 1) := by decide +kernel
theorem dX3_kin_58 : decode cX3_kin 58 = .ok (.iload_n 2, 1) := by decide +kernel
theorem dX3_kin_59 : decode cX3_kin 59 = .ok (.iastore, 1) := by decide +kernel
theorem dX3_kin_60 : decode cX3_kin 60 = .ok (.iload_n 3, 1) := by decide +kernel
theorem dX3_kin_61 : decode cX3_kin 61 = .ok (.ireturn, 1) := by decide +kernel
theorem dX3_dock_0 : decode cX3_dock 0 = .ok (.aload_n 0, 1) := by decide +kernel
theorem dX3_dock_1 : decode cX3_dock 1 = .ok (.iload_n 1, 1) := by decide +kernel
theorem dX3_dock_2 : decode cX3_dock 2 = .ok (.iconst 0, 1) := by decide +kernel
theorem dX3_dock_3 : decode cX3_dock 3 = .ok (.bipush 50, 2) := by decide +kernel
theorem dX3_dock_5 : decode cX3_dock 5 = .ok (.invokestatic 81, 3) := by decide +kernel
theorem dX3_dock_8 : decode cX3_dock 8 = .ok (.iconst 1, 1) := by decide +kernel
theorem dX3_dock_9 : decode cX3_dock 9 = .ok (.iconst 1, 1) := by decide +kernel
theorem dX3_dock_10 : decode cX3_dock 10 = .ok (.invokevirtual 89, 3) := by decide +kernel
theorem dX3_dock_13 : decode cX3_dock 13 = .ok (.ifCond .ne 5, 3) := by decide +kernel
theorem dX3_dock_16 : decode cX3_dock 16 = .ok (.iconst 0, 1) := by decide +kernel
theorem dX3_dock_17 : decode cX3_dock 17 = .ok (.ireturn, 1) := by decide +kernel
theorem dX3_dock_18 : decode cX3_dock 18 = .ok (.aload_n 0, 1) := by decide +kernel
theorem dX3_dock_19 : decode cX3_dock 19 = .ok (.getfield 62, 3) := by decide +kernel
theorem dX3_dock_22 : decode cX3_dock 22 = .ok (.istore_n 2, 1) := by decide +kernel
theorem dX3_dock_23 : decode cX3_dock 23 = .ok (.aload_n 0, 1) := by decide +kernel
theorem dX3_dock_24 : decode cX3_dock 24 = .ok (.iload_n 1, 1) := by decide +kernel
theorem dX3_dock_25 : decode cX3_dock 25 = .ok (.putfield 62, 3) := by decide +kernel
theorem dX3_dock_28 : decode cX3_dock 28 = .ok (.iload_n 2, 1) := by decide +kernel
theorem dX3_dock_29 : decode cX3_dock 29 = .ok (.ireturn, 1) := by decide +kernel
theorem dX3_check_0 : decode cX3_check 0 = .ok (.aload_n 0, 1) := by decide +kernel
theorem dX3_check_1 : decode cX3_check 1 = .ok (.iconst 0, 1) := by decide +kernel
theorem dX3_check_2 : decode cX3_check 2 = .ok (.putfield 75, 3) := by decide +kernel
theorem dX3_check_5 : decode cX3_check 5 = .ok (.aload_n 0, 1) := by decide +kernel
theorem dX3_check_6 : decode cX3_check 6 = .ok (.getfield 93, 3) := by decide +kernel
theorem dX3_check_9 : decode cX3_check 9 = .ok (.istore_n 2, 1) := by decide +kernel
theorem dX3_check_10 : decode cX3_check 10 = .ok (.aload_n 0, 1) := by decide +kernel
theorem dX3_check_11 : decode cX3_check 11 = .ok (.iload_n 1, 1) := by decide +kernel
theorem dX3_check_12 : decode cX3_check 12 = .ok (.putfield 93, 3) := by decide +kernel
theorem dX3_check_15 : decode cX3_check 15 = .ok (.iload_n 2, 1) := by decide +kernel
theorem dX3_check_16 : decode cX3_check 16 = .ok (.ireturn, 1) := by decide +kernel
theorem dX3_hew_0 : decode cX3_hew 0 = .ok (.aload_n 0, 1) := by decide +kernel
theorem dX3_hew_1 : decode cX3_hew 1 = .ok (.aload_n 0, 1) := by decide +kernel
theorem dX3_hew_2 : decode cX3_hew 2 = .ok (.iload_n 1, 1) := by decide +kernel
theorem dX3_hew_3 : decode cX3_hew 3 = .ok (.invokevirtual 85, 3) := by decide +kernel
theorem dX3_hew_6 : decode cX3_hew 6 = .ok (.iload_n 2, 1) := by decide +kernel
theorem dX3_hew_7 : decode cX3_hew 7 = .ok (.iconst 1, 1) := by decide +kernel
theorem dX3_hew_8 : decode cX3_hew 8 = .ok (.sipush 1000, 3) := by decide +kernel
theorem dX3_hew_11 : decode cX3_hew 11 = .ok (.invokestatic 81, 3) := by decide +kernel
theorem dX3_hew_14 : decode cX3_hew 14 = .ok (.aload_n 0, 1) := by decide +kernel
theorem dX3_hew_15 : decode cX3_hew 15 = .ok (.iload_n 1, 1) := by decide +kernel
theorem dX3_hew_16 : decode cX3_hew 16 = .ok (.invokevirtual 97, 3) := by decide +kernel
theorem dX3_hew_19 : decode cX3_hew 19 = .ok (.ifCond .eq 21, 3) := by decide +kernel
theorem dX3_hew_22 : decode cX3_hew 22 = .ok (.aload_n 0, 1) := by decide +kernel
theorem dX3_hew_23 : decode cX3_hew 23 = .ok (.getfield 100, 3) := by decide +kernel
theorem dX3_hew_26 : decode cX3_hew 26 = .ok (.ifCond .ne 14, 3) := by decide +kernel
theorem dX3_hew_29 : decode cX3_hew 29 = .ok (.aload_n 0, 1) := by decide +kernel
theorem dX3_hew_30 : decode cX3_hew 30 = .ok (.getfield 103, 3) := by decide +kernel
theorem dX3_hew_33 : decode cX3_hew 33 = .ok (.ifCond .ne 7, 3) := by decide +kernel
theorem dX3_hew_36 : decode cX3_hew 36 = .ok (.iconst 1, 1) := by decide +kernel
theorem dX3_hew_37 : decode cX3_hew 37 = .ok (.goto 4, 3) := by decide +kernel
theorem dX3_hew_40 : decode cX3_hew 40 = .ok (.iconst 0, 1) := by decide +kernel
theorem dX3_hew_41 : decode cX3_hew 41 = .ok (.invokevirtual 89, 3) := by decide +kernel
theorem dX3_hew_44 : decode cX3_hew 44 = .ok (.ifCond .ne 5, 3) := by decide +kernel
theorem dX3_hew_47 : decode cX3_hew 47 = .ok (.iconst 0, 1) := by decide +kernel
theorem dX3_hew_48 : decode cX3_hew 48 = .ok (.ireturn, 1) := by decide +kernel
theorem dX3_hew_49 : decode cX3_hew 49 = .ok (.aload_n 0, 1) := by decide +kernel
theorem dX3_hew_50 : decode cX3_hew 50 = .ok (.getfield 19, 3) := by decide +kernel
theorem dX3_hew_53 : decode cX3_hew 53 = .ok (.iload_n 1, 1) := by decide +kernel
theorem dX3_hew_54 : decode cX3_hew 54 = .ok (.dup2, 1) := by decide +kernel
theorem dX3_hew_55 : decode cX3_hew 55 = .ok (.iaload, 1) := by decide +kernel
theorem dX3_hew_56 : decode cX3_hew 56 = .ok (.aload_n 0, 1) := by decide +kernel
theorem dX3_hew_57 : decode cX3_hew 57 = .ok (.getfield 93, 3) := by decide +kernel
theorem dX3_hew_60 : decode cX3_hew 60 = .ok (.ifCond .eq 7, 3) := by decide +kernel
theorem dX3_hew_63 : decode cX3_hew 63 = .ok (.iload_n 2, 1) := by decide +kernel
theorem dX3_hew_64 : decode cX3_hew 64 = .ok (.goto 15, 3) := by decide +kernel
theorem dX3_hew_67 : decode cX3_hew 67 = .ok (.iload_n 2, 1) := by decide +kernel
theorem dX3_hew_68 : decode cX3_hew 68 = .ok (.bipush 100, 2) := by decide +kernel
theorem dX3_hew_70 : decode cX3_hew 70 = .ok (.aload_n 0, 1) := by decide +kernel
theorem dX3_hew_71 : decode cX3_hew 71 = .ok (.getfield 62, 3) := by decide +kernel
theorem dX3_hew_74 : decode cX3_hew 74 = .ok (.isub, 1) := by decide +kernel
theorem dX3_hew_75 : decode cX3_hew 75 = .ok (.imul, 1) := by decide +kernel
theorem dX3_hew_76 : decode cX3_hew 76 = .ok (.bipush 100, 2) := by decide +kernel
theorem dX3_hew_78 : decode cX3_hew 78 = .ok (.idiv, 1) := by decide +kernel
theorem dX3_hew_79 : decode cX3_hew 79 = .ok (.iadd, 1) := by decide +kernel
theorem dX3_hew_80 : decode cX3_hew 80 = .ok (.iastore, 1) := by decide +kernel
theorem dX3_hew_81 : decode cX3_hew 81 = .ok (.aload_n 0, 1) := by decide +kernel
theorem dX3_hew_82 : decode cX3_hew 82 = .ok (.getfield 19, 3) := by decide +kernel
theorem dX3_hew_85 : decode cX3_hew 85 = .ok (.iload_n 1, 1) := by decide +kernel
theorem dX3_hew_86 : decode cX3_hew 86 = .ok (.iaload, 1) := by decide +kernel
theorem dX3_hew_87 : decode cX3_hew 87 = .ok (.ireturn, 1) := by decide +kernel
theorem dX3_isEdition_0 : decode cX3_isEdition 0 = .ok (.iconst 0, 1) := by decide +kernel
theorem dX3_isEdition_1 : decode cX3_isEdition 1 = .ok (.istore_n 1, 1) := by decide +kernel
theorem dX3_isEdition_2 : decode cX3_isEdition 2 = .ok (.iload_n 0, 1) := by decide +kernel
theorem dX3_isEdition_3 : decode cX3_isEdition 3 = .ok (.istore_n 2, 1) := by decide +kernel
theorem dX3_isEdition_4 : decode cX3_isEdition 4 = .ok (.iload_n 0, 1) := by decide +kernel
theorem dX3_isEdition_5 : decode cX3_isEdition 5 = .ok (.ifCond .lt 7, 3) := by decide +kernel
theorem dX3_isEdition_8 : decode cX3_isEdition 8 = .ok (.iconst 1, 1) := by decide +kernel
theorem dX3_isEdition_9 : decode cX3_isEdition 9 = .ok (.goto 4, 3) := by decide +kernel
theorem dX3_isEdition_12 : decode cX3_isEdition 12 = .ok (.iconst 0, 1) := by decide +kernel
theorem dX3_isEdition_13 : decode cX3_isEdition 13 = .ok (.istore_n 3, 1) := by decide +kernel
theorem dX3_isEdition_14 : decode cX3_isEdition 14 = .ok (.iload_n 3, 1) := by decide +kernel
theorem dX3_isEdition_15 : decode cX3_isEdition 15 = .ok (.ifCond .eq 61, 3) := by decide +kernel
theorem dX3_isEdition_18 : decode cX3_isEdition 18 = .ok (.iload_n 2, 1) := by decide +kernel
theorem dX3_isEdition_19 : decode cX3_isEdition 19 = .ok (.ifCond .le 57, 3) := by decide +kernel
theorem dX3_isEdition_22 : decode cX3_isEdition 22 = .ok (.iload_n 2, 1) := by decide +kernel
theorem dX3_isEdition_23 : decode cX3_isEdition 23 = .ok (.bipush 10, 2) := by decide +kernel
theorem dX3_isEdition_25 : decode cX3_isEdition 25 = .ok (.irem, 1) := by decide +kernel
theorem dX3_isEdition_26 : decode cX3_isEdition 26 = .ok (.istore 4, 2) := by decide +kernel
theorem dX3_isEdition_28 : decode cX3_isEdition 28 = .ok (.iload 4, 2) := by decide +kernel
theorem dX3_isEdition_30 : decode cX3_isEdition 30 = .ok (.iconst 1, 1) := by decide +kernel
theorem dX3_isEdition_31 : decode cX3_isEdition 31 = .ok (.iconst 5, 1) := by decide +kernel
theorem dX3_isEdition_32 : decode cX3_isEdition 32 = .ok (.invokestatic 81, 3) := by decide +kernel
theorem dX3_isEdition_35 : decode cX3_isEdition 35 = .ok (.ifCond .eq 16, 3) := by decide +kernel
theorem dX3_isEdition_38 : decode cX3_isEdition 38 = .ok (.iload_n 1, 1) := by decide +kernel
theorem dX3_isEdition_39 : decode cX3_isEdition 39 = .ok (.iload 4, 2) := by decide +kernel
theorem dX3_isEdition_41 : decode cX3_isEdition 41 = .ok (.ishr, 1) := by decide +kernel
theorem dX3_isEdition_42 : decode cX3_isEdition 42 = .ok (.iconst 1, 1) := by decide +kernel
theorem dX3_isEdition_43 : decode cX3_isEdition 43 = .ok (.iand, 1) := by decide +kernel
theorem dX3_isEdition_44 : decode cX3_isEdition 44 = .ok (.ifCond .ne 7, 3) := by decide +kernel
theorem dX3_isEdition_47 : decode cX3_isEdition 47 = .ok (.iconst 1, 1) := by decide +kernel
theorem dX3_isEdition_48 : decode cX3_isEdition 48 = .ok (.goto 4, 3) := by decide +kernel
theorem dX3_isEdition_51 : decode cX3_isEdition 51 = .ok (.iconst 0, 1) := by decide +kernel
theorem dX3_isEdition_52 : decode cX3_isEdition 52 = .ok (.istore_n 3, 1) := by decide +kernel
theorem dX3_isEdition_53 : decode cX3_isEdition 53 = .ok (.iload_n 1, 1) := by decide +kernel
theorem dX3_isEdition_54 : decode cX3_isEdition 54 = .ok (.iload_n 3, 1) := by decide +kernel
theorem dX3_isEdition_55 : decode cX3_isEdition 55 = .ok (.ifCond .eq 10, 3) := by decide +kernel
theorem dX3_isEdition_58 : decode cX3_isEdition 58 = .ok (.iconst 1, 1) := by decide +kernel
theorem dX3_isEdition_59 : decode cX3_isEdition 59 = .ok (.iload 4, 2) := by decide +kernel
theorem dX3_isEdition_61 : decode cX3_isEdition 61 = .ok (.ishl, 1) := by decide +kernel
theorem dX3_isEdition_62 : decode cX3_isEdition 62 = .ok (.goto 4, 3) := by decide +kernel
theorem dX3_isEdition_65 : decode cX3_isEdition 65 = .ok (.iconst 0, 1) := by decide +kernel
theorem dX3_isEdition_66 : decode cX3_isEdition 66 = .ok (.ior, 1) := by decide +kernel
theorem dX3_isEdition_67 : decode cX3_isEdition 67 = .ok (.istore_n 1, 1) := by decide +kernel
theorem dX3_isEdition_68 : decode cX3_isEdition 68 = .ok (.iload_n 2, 1) := by decide +kernel
theorem dX3_isEdition_69 : decode cX3_isEdition 69 = .ok (.bipush 10, 2) := by decide +kernel
theorem dX3_isEdition_71 : decode cX3_isEdition 71 = .ok (.idiv, 1) := by decide +kernel
theorem dX3_isEdition_72 : decode cX3_isEdition 72 = .ok (.istore_n 2, 1) := by decide +kernel
theorem dX3_isEdition_73 : decode cX3_isEdition 73 = .ok (.goto (-59), 3) := by decide +kernel
theorem dX3_isEdition_76 : decode cX3_isEdition 76 = .ok (.iload_n 3, 1) := by decide +kernel
theorem dX3_isEdition_77 : decode cX3_isEdition 77 = .ok (.ireturn, 1) := by decide +kernel
theorem dX3_edition_0 : decode cX3_edition 0 = .ok (.aload_n 0, 1) := by decide +kernel
theorem dX3_edition_1 : decode cX3_edition 1 = .ok (.iload_n 1, 1) := by decide +kernel
theorem dX3_edition_2 : decode cX3_edition 2 = .ok (.invokestatic 106, 3) := by decide +kernel
theorem dX3_edition_5 : decode cX3_edition 5 = .ok (.iconst 1, 1) := by decide +kernel
theorem dX3_edition_6 : decode cX3_edition 6 = .ok (.iconst 1, 1) := by decide +kernel
theorem dX3_edition_7 : decode cX3_edition 7 = .ok (.invokevirtual 89, 3) := by decide +kernel
theorem dX3_edition_10 : decode cX3_edition 10 = .ok (.ifCond .ne 5, 3) := by decide +kernel
theorem dX3_edition_13 : decode cX3_edition 13 = .ok (.iconst 0, 1) := by decide +kernel
theorem dX3_edition_14 : decode cX3_edition 14 = .ok (.ireturn, 1) := by decide +kernel
theorem dX3_edition_15 : decode cX3_edition 15 = .ok (.aload_n 0, 1) := by decide +kernel
theorem dX3_edition_16 : decode cX3_edition 16 = .ok (.getfield 66, 3) := by decide +kernel
theorem dX3_edition_19 : decode cX3_edition 19 = .ok (.istore_n 2, 1) := by decide +kernel
theorem dX3_edition_20 : decode cX3_edition 20 = .ok (.aload_n 0, 1) := by decide +kernel
theorem dX3_edition_21 : decode cX3_edition 21 = .ok (.iload_n 1, 1) := by decide +kernel
theorem dX3_edition_22 : decode cX3_edition 22 = .ok (.putfield 66, 3) := by decide +kernel
theorem dX3_edition_25 : decode cX3_edition 25 = .ok (.iload_n 2, 1) := by decide +kernel
theorem dX3_edition_26 : decode cX3_edition 26 = .ok (.ireturn, 1) := by decide +kernel
theorem dX3_tell_0 : decode cX3_tell 0 = .ok (.aload_n 0, 1) := by decide +kernel
theorem dX3_tell_1 : decode cX3_tell 1 = .ok (.iload_n 1, 1) := by decide +kernel
theorem dX3_tell_2 : decode cX3_tell 2 = .ok (.iconst 0, 1) := by decide +kernel
theorem dX3_tell_3 : decode cX3_tell 3 = .ok (.iconst 4, 1) := by decide +kernel
theorem dX3_tell_4 : decode cX3_tell 4 = .ok (.invokestatic 81, 3) := by decide +kernel
theorem dX3_tell_7 : decode cX3_tell 7 = .ok (.ifCond .eq 34, 3) := by decide +kernel
theorem dX3_tell_10 : decode cX3_tell 10 = .ok (.iload_n 2, 1) := by decide +kernel
theorem dX3_tell_11 : decode cX3_tell 11 = .ok (.iload_n 1, 1) := by decide +kernel
theorem dX3_tell_12 : decode cX3_tell 12 = .ok (.ifCond .ne 7, 3) := by decide +kernel
theorem dX3_tell_15 : decode cX3_tell 15 = .ok (.iconst 1, 1) := by decide +kernel
theorem dX3_tell_16 : decode cX3_tell 16 = .ok (.goto 4, 3) := by decide +kernel
theorem dX3_tell_19 : decode cX3_tell 19 = .ok (.iconst 0, 1) := by decide +kernel
theorem dX3_tell_20 : decode cX3_tell 20 = .ok (.iload_n 1, 1) := by decide +kernel
theorem dX3_tell_21 : decode cX3_tell 21 = .ok (.ifCond .ne 8, 3) := by decide +kernel
theorem dX3_tell_24 : decode cX3_tell 24 = .ok (.bipush 50, 2) := by decide +kernel
theorem dX3_tell_26 : decode cX3_tell 26 = .ok (.goto 5, 3) := by decide +kernel
theorem dX3_tell_29 : decode cX3_tell 29 = .ok (.bipush 100, 2) := by decide +kernel
theorem dX3_tell_31 : decode cX3_tell 31 = .ok (.invokestatic 81, 3) := by decide +kernel
theorem dX3_tell_34 : decode cX3_tell 34 = .ok (.ifCond .eq 7, 3) := by decide +kernel
theorem dX3_tell_37 : decode cX3_tell 37 = .ok (.iconst 1, 1) := by decide +kernel
theorem dX3_tell_38 : decode cX3_tell 38 = .ok (.goto 4, 3) := by decide +kernel
theorem dX3_tell_41 : decode cX3_tell 41 = .ok (.iconst 0, 1) := by decide +kernel
theorem dX3_tell_42 : decode cX3_tell 42 = .ok (.iconst 1, 1) := by decide +kernel
theorem dX3_tell_43 : decode cX3_tell 43 = .ok (.iconst 1, 1) := by decide +kernel
theorem dX3_tell_44 : decode cX3_tell 44 = .ok (.invokevirtual 89, 3) := by decide +kernel
theorem dX3_tell_47 : decode cX3_tell 47 = .ok (.ifCond .ne 5, 3) := by decide +kernel
theorem dX3_tell_50 : decode cX3_tell 50 = .ok (.iconst 0, 1) := by decide +kernel
theorem dX3_tell_51 : decode cX3_tell 51 = .ok (.ireturn, 1) := by decide +kernel
theorem dX3_tell_52 : decode cX3_tell 52 = .ok (.aload_n 0, 1) := by decide +kernel
theorem dX3_tell_53 : decode cX3_tell 53 = .ok (.getfield 50, 3) := by decide +kernel
theorem dX3_tell_56 : decode cX3_tell 56 = .ok (.iload_n 1, 1) := by decide +kernel
theorem dX3_tell_57 : decode cX3_tell 57 = .ok (.iaload, 1) := by decide +kernel
theorem dX3_tell_58 : decode cX3_tell 58 = .ok (.istore_n 3, 1) := by decide +kernel
theorem dX3_tell_59 : decode cX3_tell 59 = .ok (.aload_n 0, 1) := by decide +kernel
theorem dX3_tell_60 : decode cX3_tell 60 = .ok (.getfield 50, 3) := by decide +kernel
theorem dX3_tell_63 : decode cX3_tell 63 = .ok (.iload_n 1, 1) := by decide +kernel
theorem dX3_tell_64 : decode cX3_tell 64 = .ok (.iload_n 2, 1) := by decide +kernel
theorem dX3_tell_65 : decode cX3_tell 65 = .ok (.iastore, 1) := by decide +kernel
theorem dX3_tell_66 : decode cX3_tell 66 = .ok (.iload_n 3, 1) := by decide +kernel
theorem dX3_tell_67 : decode cX3_tell 67 = .ok (.ireturn, 1) := by decide +kernel
theorem dX3_isSpared_0 : decode cX3_isSpared 0 = .ok (.aload_n 0, 1) := by decide +kernel
theorem dX3_isSpared_1 : decode cX3_isSpared 1 = .ok (.getfield 109, 3) := by decide +kernel
theorem dX3_isSpared_4 : decode cX3_isSpared 4 = .ok (.ifCond .eq 16, 3) := by decide +kernel
theorem dX3_isSpared_7 : decode cX3_isSpared 7 = .ok (.aload_n 0, 1) := by decide +kernel
theorem dX3_isSpared_8 : decode cX3_isSpared 8 = .ok (.getfield 56, 3) := by decide +kernel
theorem dX3_isSpared_11 : decode cX3_isSpared 11 = .ok (.iconst 1, 1) := by decide +kernel
theorem dX3_isSpared_12 : decode cX3_isSpared 12 = .ok (.baload, 1) := by decide +kernel
theorem dX3_isSpared_13 : decode cX3_isSpared 13 = .ok (.ifCond .eq 7, 3) := by decide +kernel
theorem dX3_isSpared_16 : decode cX3_isSpared 16 = .ok (.iconst 1, 1) := by decide +kernel
theorem dX3_isSpared_17 : decode cX3_isSpared 17 = .ok (.goto 4, 3) := by decide +kernel
theorem dX3_isSpared_20 : decode cX3_isSpared 20 = .ok (.iconst 0, 1) := by decide +kernel
theorem dX3_isSpared_21 : decode cX3_isSpared 21 = .ok (.ireturn, 1) := by decide +kernel
theorem dX3_pays_0 : decode cX3_pays 0 = .ok (.aload_n 0, 1) := by decide +kernel
theorem dX3_pays_1 : decode cX3_pays 1 = .ok (.getfield 19, 3) := by decide +kernel
theorem dX3_pays_4 : decode cX3_pays 4 = .ok (.iload_n 1, 1) := by decide +kernel
theorem dX3_pays_5 : decode cX3_pays 5 = .ok (.iaload, 1) := by decide +kernel
theorem dX3_pays_6 : decode cX3_pays 6 = .ok (.i2l, 1) := by decide +kernel
theorem dX3_pays_7 : decode cX3_pays 7 = .ok (.aload_n 0, 1) := by decide +kernel
theorem dX3_pays_8 : decode cX3_pays 8 = .ok (.getfield 50, 3) := by decide +kernel
theorem dX3_pays_11 : decode cX3_pays 11 = .ok (.iconst 0, 1) := by decide +kernel
theorem dX3_pays_12 : decode cX3_pays 12 = .ok (.iaload, 1) := by decide +kernel
theorem dX3_pays_13 : decode cX3_pays 13 = .ok (.i2l, 1) := by decide +kernel
theorem dX3_pays_14 : decode cX3_pays 14 = .ok (.lmul, 1) := by decide +kernel
theorem dX3_pays_15 : decode cX3_pays 15 = .ok (.ldc2_w 112, 3) := by decide +kernel
theorem dX3_pays_18 : decode cX3_pays 18 = .ok (.ldiv, 1) := by decide +kernel
theorem dX3_pays_19 : decode cX3_pays 19 = .ok (.lstore_n 2, 1) := by decide +kernel
theorem dX3_pays_20 : decode cX3_pays 20 = .ok (.lload_n 2, 1) := by decide +kernel
theorem dX3_pays_21 : decode cX3_pays 21 = .ok (.l2i, 1) := by decide +kernel
theorem dX3_pays_22 : decode cX3_pays 22 = .ok (.istore 4, 2) := by decide +kernel
theorem dX3_pays_24 : decode cX3_pays 24 = .ok (.aload_n 0, 1) := by decide +kernel
theorem dX3_pays_25 : decode cX3_pays 25 = .ok (.getfield 19, 3) := by decide +kernel
theorem dX3_pays_28 : decode cX3_pays 28 = .ok (.iload_n 1, 1) := by decide +kernel
theorem dX3_pays_29 : decode cX3_pays 29 = .ok (.iconst 0, 1) := by decide +kernel
theorem dX3_pays_30 : decode cX3_pays 30 = .ok (.iastore, 1) := by decide +kernel
theorem dX3_pays_31 : decode cX3_pays 31 = .ok (.aload_n 0, 1) := by decide +kernel
theorem dX3_pays_32 : decode cX3_pays 32 = .ok (.getfield 29, 3) := by decide +kernel
theorem dX3_pays_35 : decode cX3_pays 35 = .ok (.iload_n 1, 1) := by decide +kernel
theorem dX3_pays_36 : decode cX3_pays 36 = .ok (.iaload, 1) := by decide +kernel
theorem dX3_pays_37 : decode cX3_pays 37 = .ok (.aload_n 0, 1) := by decide +kernel
theorem dX3_pays_38 : decode cX3_pays 38 = .ok (.getfield 13, 3) := by decide +kernel
theorem dX3_pays_41 : decode cX3_pays 41 = .ok (.iload_n 1, 1) := by decide +kernel
theorem dX3_pays_42 : decode cX3_pays 42 = .ok (.baload, 1) := by decide +kernel
theorem dX3_pays_43 : decode cX3_pays 43 = .ok (.ifCond .eq 12, 3) := by decide +kernel
theorem dX3_pays_46 : decode cX3_pays 46 = .ok (.aload_n 0, 1) := by decide +kernel
theorem dX3_pays_47 : decode cX3_pays 47 = .ok (.getfield 50, 3) := by decide +kernel
theorem dX3_pays_50 : decode cX3_pays 50 = .ok (.iconst 1, 1) := by decide +kernel
theorem dX3_pays_51 : decode cX3_pays 51 = .ok (.iaload, 1) := by decide +kernel
theorem dX3_pays_52 : decode cX3_pays 52 = .ok (.goto 4, 3) := by decide +kernel
theorem dX3_pays_55 : decode cX3_pays 55 = .ok (.iconst 0, 1) := by decide +kernel
theorem dX3_pays_56 : decode cX3_pays 56 = .ok (.iadd, 1) := by decide +kernel
theorem dX3_pays_57 : decode cX3_pays 57 = .ok (.istore 5, 2) := by decide +kernel
theorem dX3_pays_59 : decode cX3_pays 59 = .ok (.aload_n 0, 1) := by decide +kernel
theorem dX3_pays_60 : decode cX3_pays 60 = .ok (.getfield 29, 3) := by decide +kernel
theorem dX3_pays_63 : decode cX3_pays 63 = .ok (.iload_n 1, 1) := by decide +kernel
theorem dX3_pays_64 : decode cX3_pays 64 = .ok (.iload 5, 2) := by decide +kernel
theorem dX3_pays_66 : decode cX3_pays 66 = .ok (.iastore, 1) := by decide +kernel
theorem dX3_pays_67 : decode cX3_pays 67 = .ok (.iconst 0, 1) := by decide +kernel
theorem dX3_pays_68 : decode cX3_pays 68 = .ok (.istore 6, 2) := by decide +kernel
theorem dX3_pays_70 : decode cX3_pays 70 = .ok (.sipush 10000, 3) := by decide +kernel
theorem dX3_pays_73 : decode cX3_pays 73 = .ok (.istore 7, 2) := by decide +kernel
theorem dX3_pays_75 : decode cX3_pays 75 = .ok (.iload 7, 2) := by decide +kernel
theorem dX3_pays_77 : decode cX3_pays 77 = .ok (.ifCond .le 164, 3) := by decide +kernel
theorem dX3_pays_80 : decode cX3_pays 80 = .ok (.aload_n 0, 1) := by decide +kernel
theorem dX3_pays_81 : decode cX3_pays 81 = .ok (.getfield 66, 3) := by decide +kernel
theorem dX3_pays_84 : decode cX3_pays 84 = .ok (.iload 7, 2) := by decide +kernel
theorem dX3_pays_86 : decode cX3_pays 86 = .ok (.idiv, 1) := by decide +kernel
theorem dX3_pays_87 : decode cX3_pays 87 = .ok (.bipush 10, 2) := by decide +kernel
theorem dX3_pays_89 : decode cX3_pays 89 = .ok (.irem, 1) := by decide +kernel
theorem dX3_pays_90 : decode cX3_pays 90 = .ok (.istore 8, 2) := by decide +kernel
theorem dX3_pays_92 : decode cX3_pays 92 = .ok (.iload 8, 2) := by decide +kernel
theorem dX3_pays_94 : decode cX3_pays 94 = .ok (.ifCond .eq 16, 3) := by decide +kernel
theorem dX3_pays_97 : decode cX3_pays 97 = .ok (.iload 8, 2) := by decide +kernel
theorem dX3_pays_99 : decode cX3_pays 99 = .ok (.iconst 2, 1) := by decide +kernel
theorem dX3_pays_100 : decode cX3_pays 100 = .ok (.if_icmp .le 14, 3) := by decide +kernel
theorem dX3_pays_103 : decode cX3_pays 103 = .ok (.aload_n 0, 1) := by decide +kernel
theorem dX3_pays_104 : decode cX3_pays 104 = .ok (.invokevirtual 114, 3) := by decide +kernel
theorem dX3_pays_107 : decode cX3_pays 107 = .ok (.ifCond .eq 7, 3) := by decide +kernel
theorem dX3_pays_110 : decode cX3_pays 110 = .ok (.iconst 0, 1) := by decide +kernel
theorem dX3_pays_111 : decode cX3_pays 111 = .ok (.goto 36, 3) := by decide +kernel
theorem dX3_pays_114 : decode cX3_pays 114 = .ok (.iload 8, 2) := by decide +kernel
theorem dX3_pays_116 : decode cX3_pays 116 = .ok (.iconst 1, 1) := by decide +kernel
theorem dX3_pays_117 : decode cX3_pays 117 = .ok (.if_icmp .ne 8, 3) := by decide +kernel
theorem dX3_pays_120 : decode cX3_pays 120 = .ok (.iload 5, 2) := by decide +kernel
theorem dX3_pays_122 : decode cX3_pays 122 = .ok (.goto 25, 3) := by decide +kernel
theorem dX3_pays_125 : decode cX3_pays 125 = .ok (.iload 8, 2) := by decide +kernel
theorem dX3_pays_127 : decode cX3_pays 127 = .ok (.iconst 5, 1) := by decide +kernel
theorem dX3_pays_128 : decode cX3_pays 128 = .ok (.if_icmp .ne 12, 3) := by decide +kernel
theorem dX3_pays_131 : decode cX3_pays 131 = .ok (.aload_n 0, 1) := by decide +kernel
theorem dX3_pays_132 : decode cX3_pays 132 = .ok (.getfield 26, 3) := by decide +kernel
theorem dX3_pays_135 : decode cX3_pays 135 = .ok (.iload_n 1, 1) := by decide +kernel
theorem dX3_pays_136 : decode cX3_pays 136 = .ok (.iaload, 1) := by decide +kernel
theorem dX3_pays_137 : decode cX3_pays 137 = .ok (.goto 10, 3) := by decide +kernel
theorem dX3_pays_140 : decode cX3_pays 140 = .ok (.aload_n 0, 1) := by decide +kernel
theorem dX3_pays_141 : decode cX3_pays 141 = .ok (.getfield 50, 3) := by decide +kernel
theorem dX3_pays_144 : decode cX3_pays 144 = .ok (.iload 8, 2) := by decide +kernel
theorem dX3_pays_146 : decode cX3_pays 146 = .ok (.iaload, 1) := by decide +kernel
theorem dX3_pays_147 : decode cX3_pays 147 = .ok (.istore 9, 2) := by decide +kernel
theorem dX3_pays_149 : decode cX3_pays 149 = .ok (.iload 9, 2) := by decide +kernel
theorem dX3_pays_151 : decode cX3_pays 151 = .ok (.iload 4, 2) := by decide +kernel
theorem dX3_pays_153 : decode cX3_pays 153 = .ok (.if_icmp .ge 8, 3) := by decide +kernel
theorem dX3_pays_156 : decode cX3_pays 156 = .ok (.iload 9, 2) := by decide +kernel
theorem dX3_pays_158 : decode cX3_pays 158 = .ok (.goto 5, 3) := by decide +kernel
theorem dX3_pays_161 : decode cX3_pays 161 = .ok (.iload 4, 2) := by decide +kernel
theorem dX3_pays_163 : decode cX3_pays 163 = .ok (.istore 10, 2) := by decide +kernel
theorem dX3_pays_165 : decode cX3_pays 165 = .ok (.iload 4, 2) := by decide +kernel
theorem dX3_pays_167 : decode cX3_pays 167 = .ok (.iload 10, 2) := by decide +kernel
theorem dX3_pays_169 : decode cX3_pays 169 = .ok (.isub, 1) := by decide +kernel
theorem dX3_pays_170 : decode cX3_pays 170 = .ok (.istore 4, 2) := by decide +kernel
theorem dX3_pays_172 : decode cX3_pays 172 = .ok (.aload_n 0, 1) := by decide +kernel
theorem dX3_pays_173 : decode cX3_pays 173 = .ok (.getfield 29, 3) := by decide +kernel
theorem dX3_pays_176 : decode cX3_pays 176 = .ok (.iload_n 1, 1) := by decide +kernel
theorem dX3_pays_177 : decode cX3_pays 177 = .ok (.dup2, 1) := by decide +kernel
theorem dX3_pays_178 : decode cX3_pays 178 = .ok (.iaload, 1) := by decide +kernel
theorem dX3_pays_179 : decode cX3_pays 179 = .ok (.iload 8, 2) := by decide +kernel
theorem dX3_pays_181 : decode cX3_pays 181 = .ok (.iconst 1, 1) := by decide +kernel
theorem dX3_pays_182 : decode cX3_pays 182 = .ok (.if_icmp .ne 8, 3) := by decide +kernel
theorem dX3_pays_185 : decode cX3_pays 185 = .ok (.iload 10, 2) := by decide +kernel
theorem dX3_pays_187 : decode cX3_pays 187 = .ok (.goto 4, 3) := by decide +kernel
theorem dX3_pays_190 : decode cX3_pays 190 = .ok (.iconst 0, 1) := by decide +kernel
theorem dX3_pays_191 : decode cX3_pays 191 = .ok (.isub, 1) := by decide +kernel
theorem dX3_pays_192 : decode cX3_pays 192 = .ok (.iastore, 1) := by decide +kernel
theorem dX3_pays_193 : decode cX3_pays 193 = .ok (.aload_n 0, 1) := by decide +kernel
theorem dX3_pays_194 : decode cX3_pays 194 = .ok (.getfield 26, 3) := by decide +kernel
theorem dX3_pays_197 : decode cX3_pays 197 = .ok (.iload_n 1, 1) := by decide +kernel
theorem dX3_pays_198 : decode cX3_pays 198 = .ok (.dup2, 1) := by decide +kernel
theorem dX3_pays_199 : decode cX3_pays 199 = .ok (.iaload, 1) := by decide +kernel
theorem dX3_pays_200 : decode cX3_pays 200 = .ok (.iload 8, 2) := by decide +kernel
theorem dX3_pays_202 : decode cX3_pays 202 = .ok (.iconst 5, 1) := by decide +kernel
theorem dX3_pays_203 : decode cX3_pays 203 = .ok (.if_icmp .ne 8, 3) := by decide +kernel
theorem dX3_pays_206 : decode cX3_pays 206 = .ok (.iload 10, 2) := by decide +kernel
theorem dX3_pays_208 : decode cX3_pays 208 = .ok (.goto 4, 3) := by decide +kernel
theorem dX3_pays_211 : decode cX3_pays 211 = .ok (.iconst 0, 1) := by decide +kernel
theorem dX3_pays_212 : decode cX3_pays 212 = .ok (.isub, 1) := by decide +kernel
theorem dX3_pays_213 : decode cX3_pays 213 = .ok (.iastore, 1) := by decide +kernel
theorem dX3_pays_214 : decode cX3_pays 214 = .ok (.iload 6, 2) := by decide +kernel
theorem dX3_pays_216 : decode cX3_pays 216 = .ok (.iload 8, 2) := by decide +kernel
theorem dX3_pays_218 : decode cX3_pays 218 = .ok (.iconst 2, 1) := by decide +kernel
theorem dX3_pays_219 : decode cX3_pays 219 = .ok (.if_icmp .le 8, 3) := by decide +kernel
theorem dX3_pays_222 : decode cX3_pays 222 = .ok (.iload 10, 2) := by decide +kernel
theorem dX3_pays_224 : decode cX3_pays 224 = .ok (.goto 4, 3) := by decide +kernel
theorem dX3_pays_227 : decode cX3_pays 227 = .ok (.iconst 0, 1) := by decide +kernel
theorem dX3_pays_228 : decode cX3_pays 228 = .ok (.iadd, 1) := by decide +kernel
theorem dX3_pays_229 : decode cX3_pays 229 = .ok (.istore 6, 2) := by decide +kernel
theorem dX3_pays_231 : decode cX3_pays 231 = .ok (.iload 7, 2) := by decide +kernel
theorem dX3_pays_233 : decode cX3_pays 233 = .ok (.bipush 10, 2) := by decide +kernel
theorem dX3_pays_235 : decode cX3_pays 235 = .ok (.idiv, 1) := by decide +kernel
theorem dX3_pays_236 : decode cX3_pays 236 = .ok (.istore 7, 2) := by decide +kernel
theorem dX3_pays_238 : decode cX3_pays 238 = .ok (.goto (-163), 3) := by decide +kernel
theorem dX3_pays_241 : decode cX3_pays 241 = .ok (.aload_n 0, 1) := by decide +kernel
theorem dX3_pays_242 : decode cX3_pays 242 = .ok (.getfield 13, 3) := by decide +kernel
theorem dX3_pays_245 : decode cX3_pays 245 = .ok (.iload_n 1, 1) := by decide +kernel
theorem dX3_pays_246 : decode cX3_pays 246 = .ok (.aload_n 0, 1) := by decide +kernel
theorem dX3_pays_247 : decode cX3_pays 247 = .ok (.getfield 13, 3) := by decide +kernel
theorem dX3_pays_250 : decode cX3_pays 250 = .ok (.iload_n 1, 1) := by decide +kernel
theorem dX3_pays_251 : decode cX3_pays 251 = .ok (.baload, 1) := by decide +kernel
theorem dX3_pays_252 : decode cX3_pays 252 = .ok (.ifCond .eq 33, 3) := by decide +kernel
theorem dX3_pays_255 : decode cX3_pays 255 = .ok (.aload_n 0, 1) := by decide +kernel
theorem dX3_pays_256 : decode cX3_pays 256 = .ok (.getfield 50, 3) := by decide +kernel
theorem dX3_pays_259 : decode cX3_pays 259 = .ok (.iconst 1, 1) := by decide +kernel
theorem dX3_pays_260 : decode cX3_pays 260 = .ok (.iaload, 1) := by decide +kernel
theorem dX3_pays_261 : decode cX3_pays 261 = .ok (.ifCond .eq 20, 3) := by decide +kernel
theorem dX3_pays_264 : decode cX3_pays 264 = .ok (.aload_n 0, 1) := by decide +kernel
theorem dX3_pays_265 : decode cX3_pays 265 = .ok (.getfield 29, 3) := by decide +kernel
theorem dX3_pays_268 : decode cX3_pays 268 = .ok (.iload_n 1, 1) := by decide +kernel
theorem dX3_pays_269 : decode cX3_pays 269 = .ok (.iaload, 1) := by decide +kernel
theorem dX3_pays_270 : decode cX3_pays 270 = .ok (.iconst 3, 1) := by decide +kernel
theorem dX3_pays_271 : decode cX3_pays 271 = .ok (.aload_n 0, 1) := by decide +kernel
theorem dX3_pays_272 : decode cX3_pays 272 = .ok (.getfield 50, 3) := by decide +kernel
theorem dX3_pays_275 : decode cX3_pays 275 = .ok (.iconst 1, 1) := by decide +kernel
theorem dX3_pays_276 : decode cX3_pays 276 = .ok (.iaload, 1) := by decide +kernel
theorem dX3_pays_277 : decode cX3_pays 277 = .ok (.imul, 1) := by decide +kernel
theorem dX3_pays_278 : decode cX3_pays 278 = .ok (.if_icmp .gt 7, 3) := by decide +kernel
theorem dX3_pays_281 : decode cX3_pays 281 = .ok (.iconst 1, 1) := by decide +kernel
theorem dX3_pays_282 : decode cX3_pays 282 = .ok (.goto 4, 3) := by decide +kernel
theorem dX3_pays_285 : decode cX3_pays 285 = .ok (.iconst 0, 1) := by decide +kernel
theorem dX3_pays_286 : decode cX3_pays 286 = .ok (.bastore, 1) := by decide +kernel
theorem dX3_pays_287 : decode cX3_pays 287 = .ok (.aload_n 0, 1) := by decide +kernel
theorem dX3_pays_288 : decode cX3_pays 288 = .ok (.iload_n 1, 1) := by decide +kernel
theorem dX3_pays_289 : decode cX3_pays 289 = .ok (.aload_n 0, 1) := by decide +kernel
theorem dX3_pays_290 : decode cX3_pays 290 = .ok (.getfield 56, 3) := by decide +kernel
theorem dX3_pays_293 : decode cX3_pays 293 = .ok (.iconst 0, 1) := by decide +kernel
theorem dX3_pays_294 : decode cX3_pays 294 = .ok (.baload, 1) := by decide +kernel
theorem dX3_pays_295 : decode cX3_pays 295 = .ok (.ifCond .eq 8, 3) := by decide +kernel
theorem dX3_pays_298 : decode cX3_pays 298 = .ok (.iload 4, 2) := by decide +kernel
theorem dX3_pays_300 : decode cX3_pays 300 = .ok (.goto 4, 3) := by decide +kernel
theorem dX3_pays_303 : decode cX3_pays 303 = .ok (.iconst 0, 1) := by decide +kernel
theorem dX3_pays_304 : decode cX3_pays 304 = .ok (.invokevirtual 118, 3) := by decide +kernel
theorem dX3_pays_307 : decode cX3_pays 307 = .ok (.aload_n 0, 1) := by decide +kernel
theorem dX3_pays_308 : decode cX3_pays 308 = .ok (.iload_n 1, 1) := by decide +kernel
theorem dX3_pays_309 : decode cX3_pays 309 = .ok (.aload_n 0, 1) := by decide +kernel
theorem dX3_pays_310 : decode cX3_pays 310 = .ok (.getfield 56, 3) := by decide +kernel
theorem dX3_pays_313 : decode cX3_pays 313 = .ok (.iconst 1, 1) := by decide +kernel
theorem dX3_pays_314 : decode cX3_pays 314 = .ok (.baload, 1) := by decide +kernel
theorem dX3_pays_315 : decode cX3_pays 315 = .ok (.ifCond .eq 8, 3) := by decide +kernel
theorem dX3_pays_318 : decode cX3_pays 318 = .ok (.iload 6, 2) := by decide +kernel
theorem dX3_pays_320 : decode cX3_pays 320 = .ok (.goto 4, 3) := by decide +kernel
theorem dX3_pays_323 : decode cX3_pays 323 = .ok (.iconst 0, 1) := by decide +kernel
theorem dX3_pays_324 : decode cX3_pays 324 = .ok (.invokevirtual 118, 3) := by decide +kernel
theorem dX3_pays_327 : decode cX3_pays 327 = .ok (.iload 4, 2) := by decide +kernel
theorem dX3_pays_329 : decode cX3_pays 329 = .ok (.ireturn, 1) := by decide +kernel
theorem dX3_breaks_0 : decode cX3_breaks 0 = .ok (.aload_n 0, 1) := by decide +kernel
theorem dX3_breaks_1 : decode cX3_breaks 1 = .ok (.getfield 109, 3) := by decide +kernel
theorem dX3_breaks_4 : decode cX3_breaks 4 = .ok (.ifCond .ne 27, 3) := by decide +kernel
theorem dX3_breaks_7 : decode cX3_breaks 7 = .ok (.iload_n 2, 1) := by decide +kernel
theorem dX3_breaks_8 : decode cX3_breaks 8 = .ok (.ifCond .le 23, 3) := by decide +kernel
theorem dX3_breaks_11 : decode cX3_breaks 11 = .ok (.aload_n 0, 1) := by decide +kernel
theorem dX3_breaks_12 : decode cX3_breaks 12 = .ok (.dup, 1) := by decide +kernel
theorem dX3_breaks_13 : decode cX3_breaks 13 = .ok (.getfield 122, 3) := by decide +kernel
theorem dX3_breaks_16 : decode cX3_breaks 16 = .ok (.iconst 1, 1) := by decide +kernel
theorem dX3_breaks_17 : decode cX3_breaks 17 = .ok (.iadd, 1) := by decide +kernel
theorem dX3_breaks_18 : decode cX3_breaks 18 = .ok (.putfield 122, 3) := by decide +kernel
theorem dX3_breaks_21 : decode cX3_breaks 21 = .ok (.aload_n 0, 1) := by decide +kernel
theorem dX3_breaks_22 : decode cX3_breaks 22 = .ok (.getfield 32, 3) := by decide +kernel
theorem dX3_breaks_25 : decode cX3_breaks 25 = .ok (.iload_n 1, 1) := by decide +kernel
theorem dX3_breaks_26 : decode cX3_breaks 26 = .ok (.dup2, 1) := by decide +kernel
theorem dX3_breaks_27 : decode cX3_breaks 27 = .ok (.iaload, 1) := by decide +kernel
theorem dX3_breaks_28 : decode cX3_breaks 28 = .ok (.iload_n 2, 1) := by decide +kernel
theorem dX3_breaks_29 : decode cX3_breaks 29 = .ok (.iadd, 1) := by decide +kernel
theorem dX3_breaks_30 : decode cX3_breaks 30 = .ok (.iastore, 1) := by decide +kernel
theorem dX3_breaks_31 : decode cX3_breaks 31 = .ok (.return_, 1) := by decide +kernel
theorem dX3_payday_0 : decode cX3_payday 0 = .ok (.aload_n 0, 1) := by decide +kernel
theorem dX3_payday_1 : decode cX3_payday 1 = .ok (.aload_n 0, 1) := by decide +kernel
theorem dX3_payday_2 : decode cX3_payday 2 = .ok (.getfield 125, 3) := by decide +kernel
theorem dX3_payday_5 : decode cX3_payday 5 = .ok (.bipush 40, 2) := by decide +kernel
theorem dX3_payday_7 : decode cX3_payday 7 = .ok (.if_icmp .ge 14, 3) := by decide +kernel
theorem dX3_payday_10 : decode cX3_payday 10 = .ok (.aload_n 0, 1) := by decide +kernel
theorem dX3_payday_11 : decode cX3_payday 11 = .ok (.getfield 103, 3) := by decide +kernel
theorem dX3_payday_14 : decode cX3_payday 14 = .ok (.ifCond .ne 7, 3) := by decide +kernel
theorem dX3_payday_17 : decode cX3_payday 17 = .ok (.iconst 1, 1) := by decide +kernel
theorem dX3_payday_18 : decode cX3_payday 18 = .ok (.goto 4, 3) := by decide +kernel
theorem dX3_payday_21 : decode cX3_payday 21 = .ok (.iconst 0, 1) := by decide +kernel
theorem dX3_payday_22 : decode cX3_payday 22 = .ok (.iconst 1, 1) := by decide +kernel
theorem dX3_payday_23 : decode cX3_payday 23 = .ok (.iconst 1, 1) := by decide +kernel
theorem dX3_payday_24 : decode cX3_payday 24 = .ok (.invokevirtual 89, 3) := by decide +kernel
theorem dX3_payday_27 : decode cX3_payday 27 = .ok (.ifCond .ne 5, 3) := by decide +kernel
theorem dX3_payday_30 : decode cX3_payday 30 = .ok (.iconst 0, 1) := by decide +kernel
theorem dX3_payday_31 : decode cX3_payday 31 = .ok (.ireturn, 1) := by decide +kernel
theorem dX3_payday_32 : decode cX3_payday 32 = .ok (.iconst 0, 1) := by decide +kernel
theorem dX3_payday_33 : decode cX3_payday 33 = .ok (.istore_n 1, 1) := by decide +kernel
theorem dX3_payday_34 : decode cX3_payday 34 = .ok (.iconst 0, 1) := by decide +kernel
theorem dX3_payday_35 : decode cX3_payday 35 = .ok (.istore_n 2, 1) := by decide +kernel
theorem dX3_payday_36 : decode cX3_payday 36 = .ok (.iload_n 2, 1) := by decide +kernel
theorem dX3_payday_37 : decode cX3_payday 37 = .ok (.aload_n 0, 1) := by decide +kernel
theorem dX3_payday_38 : decode cX3_payday 38 = .ok (.getfield 78, 3) := by decide +kernel
theorem dX3_payday_41 : decode cX3_payday 41 = .ok (.if_icmp .ge 110, 3) := by decide +kernel
theorem dX3_payday_44 : decode cX3_payday 44 = .ok (.aload_n 0, 1) := by decide +kernel
theorem dX3_payday_45 : decode cX3_payday 45 = .ok (.getfield 7, 3) := by decide +kernel
theorem dX3_payday_48 : decode cX3_payday 48 = .ok (.iload_n 2, 1) := by decide +kernel
theorem dX3_payday_49 : decode cX3_payday 49 = .ok (.baload, 1) := by decide +kernel
theorem dX3_payday_50 : decode cX3_payday 50 = .ok (.ifCond .eq 95, 3) := by decide +kernel
theorem dX3_payday_53 : decode cX3_payday 53 = .ok (.aload_n 0, 1) := by decide +kernel
theorem dX3_payday_54 : decode cX3_payday 54 = .ok (.getfield 35, 3) := by decide +kernel
theorem dX3_payday_57 : decode cX3_payday 57 = .ok (.iload_n 2, 1) := by decide +kernel
theorem dX3_payday_58 : decode cX3_payday 58 = .ok (.aload_n 0, 1) := by decide +kernel
theorem dX3_payday_59 : decode cX3_payday 59 = .ok (.iload_n 2, 1) := by decide +kernel
theorem dX3_payday_60 : decode cX3_payday 60 = .ok (.invokevirtual 128, 3) := by decide +kernel
theorem dX3_payday_63 : decode cX3_payday 63 = .ok (.iastore, 1) := by decide +kernel
theorem dX3_payday_64 : decode cX3_payday 64 = .ok (.iload_n 1, 1) := by decide +kernel
theorem dX3_payday_65 : decode cX3_payday 65 = .ok (.aload_n 0, 1) := by decide +kernel
theorem dX3_payday_66 : decode cX3_payday 66 = .ok (.getfield 35, 3) := by decide +kernel
theorem dX3_payday_69 : decode cX3_payday 69 = .ok (.iload_n 2, 1) := by decide +kernel
theorem dX3_payday_70 : decode cX3_payday 70 = .ok (.iaload, 1) := by decide +kernel
theorem dX3_payday_71 : decode cX3_payday 71 = .ok (.iadd, 1) := by decide +kernel
theorem dX3_payday_72 : decode cX3_payday 72 = .ok (.istore_n 1, 1) := by decide +kernel
theorem dX3_payday_73 : decode cX3_payday 73 = .ok (.aload_n 0, 1) := by decide +kernel
theorem dX3_payday_74 : decode cX3_payday 74 = .ok (.getfield 109, 3) := by decide +kernel
theorem dX3_payday_77 : decode cX3_payday 77 = .ok (.ifCond .eq 30, 3) := by decide +kernel
theorem dX3_payday_80 : decode cX3_payday 80 = .ok (.aload_n 0, 1) := by decide +kernel
theorem dX3_payday_81 : decode cX3_payday 81 = .ok (.getfield 56, 3) := by decide +kernel
theorem dX3_payday_84 : decode cX3_payday 84 = .ok (.iconst 0, 1) := by decide +kernel
theorem dX3_payday_85 : decode cX3_payday 85 = .ok (.baload, 1) := by decide +kernel
theorem dX3_payday_86 : decode cX3_payday 86 = .ok (.ifCond .eq 21, 3) := by decide +kernel
theorem dX3_payday_89 : decode cX3_payday 89 = .ok (.aload_n 0, 1) := by decide +kernel
theorem dX3_payday_90 : decode cX3_payday 90 = .ok (.getfield 23, 3) := by decide +kernel
theorem dX3_payday_93 : decode cX3_payday 93 = .ok (.iload_n 2, 1) := by decide +kernel
theorem dX3_payday_94 : decode cX3_payday 94 = .ok (.dup2, 1) := by decide +kernel
theorem dX3_payday_95 : decode cX3_payday 95 = .ok (.iaload, 1) := by decide +kernel
theorem dX3_payday_96 : decode cX3_payday 96 = .ok (.aload_n 0, 1) := by decide +kernel
theorem dX3_payday_97 : decode cX3_payday 97 = .ok (.getfield 35, 3) := by decide +kernel
theorem dX3_payday_100 : decode cX3_payday 100 = .ok (.iload_n 2, 1) := by decide +kernel
theorem dX3_payday_101 : decode cX3_payday 101 = .ok (.iaload, 1) := by decide +kernel
theorem dX3_payday_102 : decode cX3_payday 102 = .ok (.iadd, 1) := by decide +kernel
theorem dX3_payday_103 : decode cX3_payday 103 = .ok (.iastore, 1) := by decide +kernel
theorem dX3_payday_104 : decode cX3_payday 104 = .ok (.goto 41, 3) := by decide +kernel
theorem dX3_payday_107 : decode cX3_payday 107 = .ok (.aload_n 0, 1) := by decide +kernel
theorem dX3_payday_108 : decode cX3_payday 108 = .ok (.getfield 41, 3) := by decide +kernel
theorem dX3_payday_111 : decode cX3_payday 111 = .ok (.bipush 40, 2) := by decide +kernel
theorem dX3_payday_113 : decode cX3_payday 113 = .ok (.iload_n 2, 1) := by decide +kernel
theorem dX3_payday_114 : decode cX3_payday 114 = .ok (.imul, 1) := by decide +kernel
theorem dX3_payday_115 : decode cX3_payday 115 = .ok (.aload_n 0, 1) := by decide +kernel
theorem dX3_payday_116 : decode cX3_payday 116 = .ok (.getfield 125, 3) := by decide +kernel
theorem dX3_payday_119 : decode cX3_payday 119 = .ok (.iadd, 1) := by decide +kernel
theorem dX3_payday_120 : decode cX3_payday 120 = .ok (.dup2, 1) := by decide +kernel
theorem dX3_payday_121 : decode cX3_payday 121 = .ok (.iaload, 1) := by decide +kernel
theorem dX3_payday_122 : decode cX3_payday 122 = .ok (.aload_n 0, 1) := by decide +kernel
theorem dX3_payday_123 : decode cX3_payday 123 = .ok (.getfield 35, 3) := by decide +kernel
theorem dX3_payday_126 : decode cX3_payday 126 = .ok (.iload_n 2, 1) := by decide +kernel
theorem dX3_payday_127 : decode cX3_payday 127 = .ok (.iaload, 1) := by decide +kernel
theorem dX3_payday_128 : decode cX3_payday 128 = .ok (.iadd, 1) := by decide +kernel
theorem dX3_payday_129 : decode cX3_payday 129 = .ok (.iastore, 1) := by decide +kernel
theorem dX3_payday_130 : decode cX3_payday 130 = .ok (.aload_n 0, 1) := by decide +kernel
theorem dX3_payday_131 : decode cX3_payday 131 = .ok (.getfield 59, 3) := by decide +kernel
theorem dX3_payday_134 : decode cX3_payday 134 = .ok (.iconst 0, 1) := by decide +kernel
theorem dX3_payday_135 : decode cX3_payday 135 = .ok (.dup2, 1) := by decide +kernel
theorem dX3_payday_136 : decode cX3_payday 136 = .ok (.iaload, 1) := by decide +kernel
theorem dX3_payday_137 : decode cX3_payday 137 = .ok (.aload_n 0, 1) := by decide +kernel
theorem dX3_payday_138 : decode cX3_payday 138 = .ok (.getfield 35, 3) := by decide +kernel
theorem dX3_payday_141 : decode cX3_payday 141 = .ok (.iload_n 2, 1) := by decide +kernel
theorem dX3_payday_142 : decode cX3_payday 142 = .ok (.iaload, 1) := by decide +kernel
theorem dX3_payday_143 : decode cX3_payday 143 = .ok (.iadd, 1) := by decide +kernel
theorem dX3_payday_144 : decode cX3_payday 144 = .ok (.iastore, 1) := by decide +kernel
theorem dX3_payday_145 : decode cX3_payday 145 = .ok (.iinc 2 1, 3) := by decide +kernel
theorem dX3_payday_148 : decode cX3_payday 148 = .ok (.goto (-112), 3) := by decide +kernel
theorem dX3_payday_151 : decode cX3_payday 151 = .ok (.iconst 0, 1) := by decide +kernel
theorem dX3_payday_152 : decode cX3_payday 152 = .ok (.istore_n 2, 1) := by decide +kernel
theorem dX3_payday_153 : decode cX3_payday 153 = .ok (.iload_n 2, 1) := by decide +kernel
theorem dX3_payday_154 : decode cX3_payday 154 = .ok (.bipush 40, 2) := by decide +kernel
theorem dX3_payday_156 : decode cX3_payday 156 = .ok (.aload_n 0, 1) := by decide +kernel
theorem dX3_payday_157 : decode cX3_payday 157 = .ok (.getfield 78, 3) := by decide +kernel
theorem dX3_payday_160 : decode cX3_payday 160 = .ok (.imul, 1) := by decide +kernel
theorem dX3_payday_161 : decode cX3_payday 161 = .ok (.if_icmp .ge 44, 3) := by decide +kernel
theorem dX3_payday_164 : decode cX3_payday 164 = .ok (.iload_n 2, 1) := by decide +kernel
theorem dX3_payday_165 : decode cX3_payday 165 = .ok (.bipush 40, 2) := by decide +kernel
theorem dX3_payday_167 : decode cX3_payday 167 = .ok (.irem, 1) := by decide +kernel
theorem dX3_payday_168 : decode cX3_payday 168 = .ok (.aload_n 0, 1) := by decide +kernel
theorem dX3_payday_169 : decode cX3_payday 169 = .ok (.getfield 125, 3) := by decide +kernel
theorem dX3_payday_172 : decode cX3_payday 172 = .ok (.iconst 4, 1) := by decide +kernel
theorem dX3_payday_173 : decode cX3_payday 173 = .ok (.isub, 1) := by decide +kernel
theorem dX3_payday_174 : decode cX3_payday 174 = .ok (.if_icmp .gt 25, 3) := by decide +kernel
theorem dX3_payday_177 : decode cX3_payday 177 = .ok (.aload_n 0, 1) := by decide +kernel
theorem dX3_payday_178 : decode cX3_payday 178 = .ok (.getfield 59, 3) := by decide +kernel
theorem dX3_payday_181 : decode cX3_payday 181 = .ok (.iconst 3, 1) := by decide +kernel
theorem dX3_payday_182 : decode cX3_payday 182 = .ok (.dup2, 1) := by decide +kernel
theorem dX3_payday_183 : decode cX3_payday 183 = .ok (.iaload, 1) := by decide +kernel
theorem dX3_payday_184 : decode cX3_payday 184 = .ok (.aload_n 0, 1) := by decide +kernel
theorem dX3_payday_185 : decode cX3_payday 185 = .ok (.getfield 41, 3) := by decide +kernel
theorem dX3_payday_188 : decode cX3_payday 188 = .ok (.iload_n 2, 1) := by decide +kernel
theorem dX3_payday_189 : decode cX3_payday 189 = .ok (.iaload, 1) := by decide +kernel
theorem dX3_payday_190 : decode cX3_payday 190 = .ok (.iadd, 1) := by decide +kernel
theorem dX3_payday_191 : decode cX3_payday 191 = .ok (.iastore, 1) := by decide +kernel
theorem dX3_payday_192 : decode cX3_payday 192 = .ok (.aload_n 0, 1) := by decide +kernel
theorem dX3_payday_193 : decode cX3_payday 193 = .ok (.getfield 41, 3) := by decide +kernel
theorem dX3_payday_196 : decode cX3_payday 196 = .ok (.iload_n 2, 1) := by decide +kernel
theorem dX3_payday_197 : decode cX3_payday 197 = .ok (.iconst 0, 1) := by decide +kernel
theorem dX3_payday_198 : decode cX3_payday 198 = .ok (.iastore, 1) := by decide +kernel
theorem dX3_payday_199 : decode cX3_payday 199 = .ok (.iinc 2 1, 3) := by decide +kernel
theorem dX3_payday_202 : decode cX3_payday 202 = .ok (.goto (-49), 3) := by decide +kernel
theorem dX3_payday_205 : decode cX3_payday 205 = .ok (.aload_n 0, 1) := by decide +kernel
theorem dX3_payday_206 : decode cX3_payday 206 = .ok (.dup, 1) := by decide +kernel
theorem dX3_payday_207 : decode cX3_payday 207 = .ok (.getfield 125, 3) := by decide +kernel
theorem dX3_payday_210 : decode cX3_payday 210 = .ok (.iconst 1, 1) := by decide +kernel
theorem dX3_payday_211 : decode cX3_payday 211 = .ok (.iadd, 1) := by decide +kernel
theorem dX3_payday_212 : decode cX3_payday 212 = .ok (.putfield 125, 3) := by decide +kernel
theorem dX3_payday_215 : decode cX3_payday 215 = .ok (.iload_n 1, 1) := by decide +kernel
theorem dX3_payday_216 : decode cX3_payday 216 = .ok (.ireturn, 1) := by decide +kernel
theorem dX3_house_0 : decode cX3_house 0 = .ok (.aload_n 0, 1) := by decide +kernel
theorem dX3_house_1 : decode cX3_house 1 = .ok (.aload_n 0, 1) := by decide +kernel
theorem dX3_house_2 : decode cX3_house 2 = .ok (.iload_n 1, 1) := by decide +kernel
theorem dX3_house_3 : decode cX3_house 3 = .ok (.invokevirtual 85, 3) := by decide +kernel
theorem dX3_house_6 : decode cX3_house 6 = .ok (.aload_n 0, 1) := by decide +kernel
theorem dX3_house_7 : decode cX3_house 7 = .ok (.iload_n 1, 1) := by decide +kernel
theorem dX3_house_8 : decode cX3_house 8 = .ok (.invokevirtual 97, 3) := by decide +kernel
theorem dX3_house_11 : decode cX3_house 11 = .ok (.ifCond .eq 49, 3) := by decide +kernel
theorem dX3_house_14 : decode cX3_house 14 = .ok (.aload_n 0, 1) := by decide +kernel
theorem dX3_house_15 : decode cX3_house 15 = .ok (.getfield 13, 3) := by decide +kernel
theorem dX3_house_18 : decode cX3_house 18 = .ok (.aload_n 0, 1) := by decide +kernel
theorem dX3_house_19 : decode cX3_house 19 = .ok (.iload_n 1, 1) := by decide +kernel
theorem dX3_house_20 : decode cX3_house 20 = .ok (.invokevirtual 85, 3) := by decide +kernel
theorem dX3_house_23 : decode cX3_house 23 = .ok (.ifCond .eq 7, 3) := by decide +kernel
theorem dX3_house_26 : decode cX3_house 26 = .ok (.iload_n 1, 1) := by decide +kernel
theorem dX3_house_27 : decode cX3_house 27 = .ok (.goto 4, 3) := by decide +kernel
theorem dX3_house_30 : decode cX3_house 30 = .ok (.iconst 0, 1) := by decide +kernel
theorem dX3_house_31 : decode cX3_house 31 = .ok (.baload, 1) := by decide +kernel
theorem dX3_house_32 : decode cX3_house 32 = .ok (.ifCond .ne 28, 3) := by decide +kernel
theorem dX3_house_35 : decode cX3_house 35 = .ok (.aload_n 0, 1) := by decide +kernel
theorem dX3_house_36 : decode cX3_house 36 = .ok (.getfield 29, 3) := by decide +kernel
theorem dX3_house_39 : decode cX3_house 39 = .ok (.aload_n 0, 1) := by decide +kernel
theorem dX3_house_40 : decode cX3_house 40 = .ok (.iload_n 1, 1) := by decide +kernel
theorem dX3_house_41 : decode cX3_house 41 = .ok (.invokevirtual 85, 3) := by decide +kernel
theorem dX3_house_44 : decode cX3_house 44 = .ok (.ifCond .eq 7, 3) := by decide +kernel
theorem dX3_house_47 : decode cX3_house 47 = .ok (.iload_n 1, 1) := by decide +kernel
theorem dX3_house_48 : decode cX3_house 48 = .ok (.goto 4, 3) := by decide +kernel
theorem dX3_house_51 : decode cX3_house 51 = .ok (.iconst 0, 1) := by decide +kernel
theorem dX3_house_52 : decode cX3_house 52 = .ok (.iaload, 1) := by decide +kernel
theorem dX3_house_53 : decode cX3_house 53 = .ok (.ifCond .ne 7, 3) := by decide +kernel
theorem dX3_house_56 : decode cX3_house 56 = .ok (.iconst 1, 1) := by decide +kernel
theorem dX3_house_57 : decode cX3_house 57 = .ok (.goto 4, 3) := by decide +kernel
theorem dX3_house_60 : decode cX3_house 60 = .ok (.iconst 0, 1) := by decide +kernel
theorem dX3_house_61 : decode cX3_house 61 = .ok (.iconst 1, 1) := by decide +kernel
theorem dX3_house_62 : decode cX3_house 62 = .ok (.invokevirtual 89, 3) := by decide +kernel
theorem dX3_house_65 : decode cX3_house 65 = .ok (.ifCond .eq 10, 3) := by decide +kernel
theorem dX3_house_68 : decode cX3_house 68 = .ok (.aload_n 0, 1) := by decide +kernel
theorem dX3_house_69 : decode cX3_house 69 = .ok (.getfield 13, 3) := by decide +kernel
theorem dX3_house_72 : decode cX3_house 72 = .ok (.iload_n 1, 1) := by decide +kernel
theorem dX3_house_73 : decode cX3_house 73 = .ok (.iconst 1, 1) := by decide +kernel
theorem dX3_house_74 : decode cX3_house 74 = .ok (.bastore, 1) := by decide +kernel
theorem dX3_house_75 : decode cX3_house 75 = .ok (.return_, 1) := by decide +kernel
theorem dX3_price_0 : decode cX3_price 0 = .ok (.aload_n 0, 1) := by decide +kernel
theorem dX3_price_1 : decode cX3_price 1 = .ok (.iload_n 1, 1) := by decide +kernel
theorem dX3_price_2 : decode cX3_price 2 = .ok (.invokestatic 132, 3) := by decide +kernel
theorem dX3_price_5 : decode cX3_price 5 = .ok (.iload_n 2, 1) := by decide +kernel
theorem dX3_price_6 : decode cX3_price 6 = .ok (.iconst 1, 1) := by decide +kernel
theorem dX3_price_7 : decode cX3_price 7 = .ok (.bipush 100, 2) := by decide +kernel
theorem dX3_price_9 : decode cX3_price 9 = .ok (.invokestatic 81, 3) := by decide +kernel
theorem dX3_price_12 : decode cX3_price 12 = .ok (.iconst 1, 1) := by decide +kernel
theorem dX3_price_13 : decode cX3_price 13 = .ok (.invokevirtual 89, 3) := by decide +kernel
theorem dX3_price_16 : decode cX3_price 16 = .ok (.ifCond .ne 5, 3) := by decide +kernel
theorem dX3_price_19 : decode cX3_price 19 = .ok (.iconst 0, 1) := by decide +kernel
theorem dX3_price_20 : decode cX3_price 20 = .ok (.ireturn, 1) := by decide +kernel
theorem dX3_price_21 : decode cX3_price 21 = .ok (.iload_n 3, 1) := by decide +kernel
theorem dX3_price_22 : decode cX3_price 22 = .ok (.ifCond .eq 9, 3) := by decide +kernel
theorem dX3_price_25 : decode cX3_price 25 = .ok (.iload_n 1, 1) := by decide +kernel
theorem dX3_price_26 : decode cX3_price 26 = .ok (.iconst 4, 1) := by decide +kernel
theorem dX3_price_27 : decode cX3_price 27 = .ok (.iadd, 1) := by decide +kernel
theorem dX3_price_28 : decode cX3_price 28 = .ok (.goto 4, 3) := by decide +kernel
theorem dX3_price_31 : decode cX3_price 31 = .ok (.iload_n 1, 1) := by decide +kernel
theorem dX3_price_32 : decode cX3_price 32 = .ok (.istore 4, 2) := by decide +kernel
theorem dX3_price_34 : decode cX3_price 34 = .ok (.aload_n 0, 1) := by decide +kernel
theorem dX3_price_35 : decode cX3_price 35 = .ok (.getfield 53, 3) := by decide +kernel
theorem dX3_price_38 : decode cX3_price 38 = .ok (.iload 4, 2) := by decide +kernel
theorem dX3_price_40 : decode cX3_price 40 = .ok (.iaload, 1) := by decide +kernel
theorem dX3_price_41 : decode cX3_price 41 = .ok (.istore 5, 2) := by decide +kernel
theorem dX3_price_43 : decode cX3_price 43 = .ok (.aload_n 0, 1) := by decide +kernel
theorem dX3_price_44 : decode cX3_price 44 = .ok (.getfield 53, 3) := by decide +kernel
theorem dX3_price_47 : decode cX3_price 47 = .ok (.iload 4, 2) := by decide +kernel
theorem dX3_price_49 : decode cX3_price 49 = .ok (.iload_n 2, 1) := by decide +kernel
theorem dX3_price_50 : decode cX3_price 50 = .ok (.iastore, 1) := by decide +kernel
theorem dX3_price_51 : decode cX3_price 51 = .ok (.iload 5, 2) := by decide +kernel
theorem dX3_price_53 : decode cX3_price 53 = .ok (.ireturn, 1) := by decide +kernel
theorem dX3_raisedFor_0 : decode cX3_raisedFor 0 = .ok (.aload_n 0, 1) := by decide +kernel
theorem dX3_raisedFor_1 : decode cX3_raisedFor 1 = .ok (.getfield 53, 3) := by decide +kernel
theorem dX3_raisedFor_4 : decode cX3_raisedFor 4 = .ok (.iload_n 2, 1) := by decide +kernel
theorem dX3_raisedFor_5 : decode cX3_raisedFor 5 = .ok (.iaload, 1) := by decide +kernel
theorem dX3_raisedFor_6 : decode cX3_raisedFor 6 = .ok (.i2l, 1) := by decide +kernel
theorem dX3_raisedFor_7 : decode cX3_raisedFor 7 = .ok (.aload_n 0, 1) := by decide +kernel
theorem dX3_raisedFor_8 : decode cX3_raisedFor 8 = .ok (.getfield 26, 3) := by decide +kernel
theorem dX3_raisedFor_11 : decode cX3_raisedFor 11 = .ok (.iload_n 1, 1) := by decide +kernel
theorem dX3_raisedFor_12 : decode cX3_raisedFor 12 = .ok (.iaload, 1) := by decide +kernel
theorem dX3_raisedFor_13 : decode cX3_raisedFor 13 = .ok (.i2l, 1) := by decide +kernel
theorem dX3_raisedFor_14 : decode cX3_raisedFor 14 = .ok (.lmul, 1) := by decide +kernel
theorem dX3_raisedFor_15 : decode cX3_raisedFor 15 = .ok (.ldc2_w 135, 3) := by decide +kernel
theorem dX3_raisedFor_18 : decode cX3_raisedFor 18 = .ok (.ldiv, 1) := by decide +kernel
theorem dX3_raisedFor_19 : decode cX3_raisedFor 19 = .ok (.lstore_n 3, 1) := by decide +kernel
theorem dX3_raisedFor_20 : decode cX3_raisedFor 20 = .ok (.aload_n 0, 1) := by decide +kernel
theorem dX3_raisedFor_21 : decode cX3_raisedFor 21 = .ok (.getfield 53, 3) := by decide +kernel
theorem dX3_raisedFor_24 : decode cX3_raisedFor 24 = .ok (.iload_n 2, 1) := by decide +kernel
theorem dX3_raisedFor_25 : decode cX3_raisedFor 25 = .ok (.iaload, 1) := by decide +kernel
theorem dX3_raisedFor_26 : decode cX3_raisedFor 26 = .ok (.lload_n 3, 1) := by decide +kernel
theorem dX3_raisedFor_27 : decode cX3_raisedFor 27 = .ok (.l2i, 1) := by decide +kernel
theorem dX3_raisedFor_28 : decode cX3_raisedFor 28 = .ok (.iadd, 1) := by decide +kernel
theorem dX3_raisedFor_29 : decode cX3_raisedFor 29 = .ok (.ireturn, 1) := by decide +kernel
theorem dX3_raised_0 : decode cX3_raised 0 = .ok (.aload_n 0, 1) := by decide +kernel
theorem dX3_raised_1 : decode cX3_raised 1 = .ok (.aload_n 0, 1) := by decide +kernel
theorem dX3_raised_2 : decode cX3_raised 2 = .ok (.iload_n 1, 1) := by decide +kernel
theorem dX3_raised_3 : decode cX3_raised 3 = .ok (.invokevirtual 85, 3) := by decide +kernel
theorem dX3_raised_6 : decode cX3_raised 6 = .ok (.ifCond .eq 14, 3) := by decide +kernel
theorem dX3_raised_9 : decode cX3_raised 9 = .ok (.iload_n 2, 1) := by decide +kernel
theorem dX3_raised_10 : decode cX3_raised 10 = .ok (.invokestatic 132, 3) := by decide +kernel
theorem dX3_raised_13 : decode cX3_raised 13 = .ok (.ifCond .eq 7, 3) := by decide +kernel
theorem dX3_raised_16 : decode cX3_raised 16 = .ok (.iconst 1, 1) := by decide +kernel
theorem dX3_raised_17 : decode cX3_raised 17 = .ok (.goto 4, 3) := by decide +kernel
theorem dX3_raised_20 : decode cX3_raised 20 = .ok (.iconst 0, 1) := by decide +kernel
theorem dX3_raised_21 : decode cX3_raised 21 = .ok (.iconst 1, 1) := by decide +kernel
theorem dX3_raised_22 : decode cX3_raised 22 = .ok (.iconst 1, 1) := by decide +kernel
theorem dX3_raised_23 : decode cX3_raised 23 = .ok (.invokevirtual 89, 3) := by decide +kernel
theorem dX3_raised_26 : decode cX3_raised 26 = .ok (.ifCond .eq 12, 3) := by decide +kernel
theorem dX3_raised_29 : decode cX3_raised 29 = .ok (.aload_n 0, 1) := by decide +kernel
theorem dX3_raised_30 : decode cX3_raised 30 = .ok (.iload_n 1, 1) := by decide +kernel
theorem dX3_raised_31 : decode cX3_raised 31 = .ok (.iload_n 2, 1) := by decide +kernel
theorem dX3_raised_32 : decode cX3_raised 32 = .ok (.invokevirtual 137, 3) := by decide +kernel
theorem dX3_raised_35 : decode cX3_raised 35 = .ok (.goto 4, 3) := by decide +kernel
theorem dX3_raised_38 : decode cX3_raised 38 = .ok (.iconst 0, 1) := by decide +kernel
theorem dX3_raised_39 : decode cX3_raised 39 = .ok (.ireturn, 1) := by decide +kernel
theorem dX3_limit_0 : decode cX3_limit 0 = .ok (.aload_n 0, 1) := by decide +kernel
theorem dX3_limit_1 : decode cX3_limit 1 = .ok (.iload_n 1, 1) := by decide +kernel
theorem dX3_limit_2 : decode cX3_limit 2 = .ok (.iconst 0, 1) := by decide +kernel
theorem dX3_limit_3 : decode cX3_limit 3 = .ok (.sipush 1000, 3) := by decide +kernel
theorem dX3_limit_6 : decode cX3_limit 6 = .ok (.invokestatic 81, 3) := by decide +kernel
theorem dX3_limit_9 : decode cX3_limit 9 = .ok (.iconst 1, 1) := by decide +kernel
theorem dX3_limit_10 : decode cX3_limit 10 = .ok (.iconst 1, 1) := by decide +kernel
theorem dX3_limit_11 : decode cX3_limit 11 = .ok (.invokevirtual 89, 3) := by decide +kernel
theorem dX3_limit_14 : decode cX3_limit 14 = .ok (.ifCond .ne 5, 3) := by decide +kernel
theorem dX3_limit_17 : decode cX3_limit 17 = .ok (.iconst 0, 1) := by decide +kernel
theorem dX3_limit_18 : decode cX3_limit 18 = .ok (.ireturn, 1) := by decide +kernel
theorem dX3_limit_19 : decode cX3_limit 19 = .ok (.aload_n 0, 1) := by decide +kernel
theorem dX3_limit_20 : decode cX3_limit 20 = .ok (.getfield 69, 3) := by decide +kernel
theorem dX3_limit_23 : decode cX3_limit 23 = .ok (.istore_n 2, 1) := by decide +kernel
theorem dX3_limit_24 : decode cX3_limit 24 = .ok (.aload_n 0, 1) := by decide +kernel
theorem dX3_limit_25 : decode cX3_limit 25 = .ok (.iload_n 1, 1) := by decide +kernel
theorem dX3_limit_26 : decode cX3_limit 26 = .ok (.putfield 69, 3) := by decide +kernel
theorem dX3_limit_29 : decode cX3_limit 29 = .ok (.iload_n 2, 1) := by decide +kernel
theorem dX3_limit_30 : decode cX3_limit 30 = .ok (.ireturn, 1) := by decide +kernel
theorem dX3_scripOf_0 : decode cX3_scripOf 0 = .ok (.iconst 0, 1) := by decide +kernel
theorem dX3_scripOf_1 : decode cX3_scripOf 1 = .ok (.istore_n 2, 1) := by decide +kernel
theorem dX3_scripOf_2 : decode cX3_scripOf 2 = .ok (.iconst 0, 1) := by decide +kernel
theorem dX3_scripOf_3 : decode cX3_scripOf 3 = .ok (.istore_n 3, 1) := by decide +kernel
theorem dX3_scripOf_4 : decode cX3_scripOf 4 = .ok (.iload_n 3, 1) := by decide +kernel
theorem dX3_scripOf_5 : decode cX3_scripOf 5 = .ok (.bipush 40, 2) := by decide +kernel
theorem dX3_scripOf_7 : decode cX3_scripOf 7 = .ok (.if_icmp .ge 23, 3) := by decide +kernel
theorem dX3_scripOf_10 : decode cX3_scripOf 10 = .ok (.iload_n 2, 1) := by decide +kernel
theorem dX3_scripOf_11 : decode cX3_scripOf 11 = .ok (.aload_n 0, 1) := by decide +kernel
theorem dX3_scripOf_12 : decode cX3_scripOf 12 = .ok (.getfield 41, 3) := by decide +kernel
theorem dX3_scripOf_15 : decode cX3_scripOf 15 = .ok (.bipush 40, 2) := by decide +kernel
theorem dX3_scripOf_17 : decode cX3_scripOf 17 = .ok (.iload_n 1, 1) := by decide +kernel
theorem dX3_scripOf_18 : decode cX3_scripOf 18 = .ok (.imul, 1) := by decide +kernel
theorem dX3_scripOf_19 : decode cX3_scripOf 19 = .ok (.iload_n 3, 1) := by decide +kernel
theorem dX3_scripOf_20 : decode cX3_scripOf 20 = .ok (.iadd, 1) := by decide +kernel
theorem dX3_scripOf_21 : decode cX3_scripOf 21 = .ok (.iaload, 1) := by decide +kernel
theorem dX3_scripOf_22 : decode cX3_scripOf 22 = .ok (.iadd, 1) := by decide +kernel
theorem dX3_scripOf_23 : decode cX3_scripOf 23 = .ok (.istore_n 2, 1) := by decide +kernel
theorem dX3_scripOf_24 : decode cX3_scripOf 24 = .ok (.iinc 3 1, 3) := by decide +kernel
theorem dX3_scripOf_27 : decode cX3_scripOf 27 = .ok (.goto (-23), 3) := by decide +kernel
theorem dX3_scripOf_30 : decode cX3_scripOf 30 = .ok (.iload_n 2, 1) := by decide +kernel
theorem dX3_scripOf_31 : decode cX3_scripOf 31 = .ok (.ireturn, 1) := by decide +kernel
theorem dX3_lacks_0 : decode cX3_lacks 0 = .ok (.iload_n 2, 1) := by decide +kernel
theorem dX3_lacks_1 : decode cX3_lacks 1 = .ok (.aload_n 0, 1) := by decide +kernel
theorem dX3_lacks_2 : decode cX3_lacks 2 = .ok (.iload_n 1, 1) := by decide +kernel
theorem dX3_lacks_3 : decode cX3_lacks 3 = .ok (.invokevirtual 141, 3) := by decide +kernel
theorem dX3_lacks_6 : decode cX3_lacks 6 = .ok (.isub, 1) := by decide +kernel
theorem dX3_lacks_7 : decode cX3_lacks 7 = .ok (.aload_n 0, 1) := by decide +kernel
theorem dX3_lacks_8 : decode cX3_lacks 8 = .ok (.getfield 23, 3) := by decide +kernel
theorem dX3_lacks_11 : decode cX3_lacks 11 = .ok (.iload_n 1, 1) := by decide +kernel
theorem dX3_lacks_12 : decode cX3_lacks 12 = .ok (.iaload, 1) := by decide +kernel
theorem dX3_lacks_13 : decode cX3_lacks 13 = .ok (.isub, 1) := by decide +kernel
theorem dX3_lacks_14 : decode cX3_lacks 14 = .ok (.istore_n 3, 1) := by decide +kernel
theorem dX3_lacks_15 : decode cX3_lacks 15 = .ok (.iload_n 3, 1) := by decide +kernel
theorem dX3_lacks_16 : decode cX3_lacks 16 = .ok (.ifCond .le 7, 3) := by decide +kernel
theorem dX3_lacks_19 : decode cX3_lacks 19 = .ok (.iload_n 3, 1) := by decide +kernel
theorem dX3_lacks_20 : decode cX3_lacks 20 = .ok (.goto 4, 3) := by decide +kernel
theorem dX3_lacks_23 : decode cX3_lacks 23 = .ok (.iconst 0, 1) := by decide +kernel
theorem dX3_lacks_24 : decode cX3_lacks 24 = .ok (.ireturn, 1) := by decide +kernel
theorem dX3_reason_0 : decode cX3_reason 0 = .ok (.aload_n 0, 1) := by decide +kernel
theorem dX3_reason_1 : decode cX3_reason 1 = .ok (.getfield 103, 3) := by decide +kernel
theorem dX3_reason_4 : decode cX3_reason 4 = .ok (.ifCond .ne 10, 3) := by decide +kernel
theorem dX3_reason_7 : decode cX3_reason 7 = .ok (.aload_n 0, 1) := by decide +kernel
theorem dX3_reason_8 : decode cX3_reason 8 = .ok (.getfield 100, 3) := by decide +kernel
theorem dX3_reason_11 : decode cX3_reason 11 = .ok (.ifCond .eq 5, 3) := by decide +kernel
theorem dX3_reason_14 : decode cX3_reason 14 = .ok (.iconst 1, 1) := by decide +kernel
theorem dX3_reason_15 : decode cX3_reason 15 = .ok (.ireturn, 1) := by decide +kernel
theorem dX3_reason_16 : decode cX3_reason 16 = .ok (.aload_n 0, 1) := by decide +kernel
theorem dX3_reason_17 : decode cX3_reason 17 = .ok (.getfield 7, 3) := by decide +kernel
theorem dX3_reason_20 : decode cX3_reason 20 = .ok (.iload_n 1, 1) := by decide +kernel
theorem dX3_reason_21 : decode cX3_reason 21 = .ok (.baload, 1) := by decide +kernel
theorem dX3_reason_22 : decode cX3_reason 22 = .ok (.ifCond .ne 5, 3) := by decide +kernel
theorem dX3_reason_25 : decode cX3_reason 25 = .ok (.iconst 2, 1) := by decide +kernel
theorem dX3_reason_26 : decode cX3_reason 26 = .ok (.ireturn, 1) := by decide +kernel
theorem dX3_reason_27 : decode cX3_reason 27 = .ok (.aload_n 0, 1) := by decide +kernel
theorem dX3_reason_28 : decode cX3_reason 28 = .ok (.iload_n 1, 1) := by decide +kernel
theorem dX3_reason_29 : decode cX3_reason 29 = .ok (.iload_n 3, 1) := by decide +kernel
theorem dX3_reason_30 : decode cX3_reason 30 = .ok (.aload_n 0, 1) := by decide +kernel
theorem dX3_reason_31 : decode cX3_reason 31 = .ok (.iload_n 1, 1) := by decide +kernel
theorem dX3_reason_32 : decode cX3_reason 32 = .ok (.iload_n 2, 1) := by decide +kernel
theorem dX3_reason_33 : decode cX3_reason 33 = .ok (.invokevirtual 137, 3) := by decide +kernel
theorem dX3_reason_36 : decode cX3_reason 36 = .ok (.imul, 1) := by decide +kernel
theorem dX3_reason_37 : decode cX3_reason 37 = .ok (.invokevirtual 144, 3) := by decide +kernel
theorem dX3_reason_40 : decode cX3_reason 40 = .ok (.istore 4, 2) := by decide +kernel
theorem dX3_reason_42 : decode cX3_reason 42 = .ok (.iload 4, 2) := by decide +kernel
theorem dX3_reason_44 : decode cX3_reason 44 = .ok (.ifCond .le 23, 3) := by decide +kernel
theorem dX3_reason_47 : decode cX3_reason 47 = .ok (.aload_n 0, 1) := by decide +kernel
theorem dX3_reason_48 : decode cX3_reason 48 = .ok (.getfield 26, 3) := by decide +kernel
theorem dX3_reason_51 : decode cX3_reason 51 = .ok (.iload_n 1, 1) := by decide +kernel
theorem dX3_reason_52 : decode cX3_reason 52 = .ok (.iaload, 1) := by decide +kernel
theorem dX3_reason_53 : decode cX3_reason 53 = .ok (.iload 4, 2) := by decide +kernel
theorem dX3_reason_55 : decode cX3_reason 55 = .ok (.iadd, 1) := by decide +kernel
theorem dX3_reason_56 : decode cX3_reason 56 = .ok (.aload_n 0, 1) := by decide +kernel
theorem dX3_reason_57 : decode cX3_reason 57 = .ok (.getfield 69, 3) := by decide +kernel
theorem dX3_reason_60 : decode cX3_reason 60 = .ok (.if_icmp .le 7, 3) := by decide +kernel
theorem dX3_reason_63 : decode cX3_reason 63 = .ok (.iconst 3, 1) := by decide +kernel
theorem dX3_reason_64 : decode cX3_reason 64 = .ok (.goto 4, 3) := by decide +kernel
theorem dX3_reason_67 : decode cX3_reason 67 = .ok (.iconst 0, 1) := by decide +kernel
theorem dX3_reason_68 : decode cX3_reason 68 = .ok (.ireturn, 1) := by decide +kernel
theorem dX3_whyNot_0 : decode cX3_whyNot 0 = .ok (.aload_n 0, 1) := by decide +kernel
theorem dX3_whyNot_1 : decode cX3_whyNot 1 = .ok (.aload_n 0, 1) := by decide +kernel
theorem dX3_whyNot_2 : decode cX3_whyNot 2 = .ok (.iload_n 1, 1) := by decide +kernel
theorem dX3_whyNot_3 : decode cX3_whyNot 3 = .ok (.invokevirtual 85, 3) := by decide +kernel
theorem dX3_whyNot_6 : decode cX3_whyNot 6 = .ok (.ifCond .eq 14, 3) := by decide +kernel
theorem dX3_whyNot_9 : decode cX3_whyNot 9 = .ok (.iload_n 2, 1) := by decide +kernel
theorem dX3_whyNot_10 : decode cX3_whyNot 10 = .ok (.invokestatic 132, 3) := by decide +kernel
theorem dX3_whyNot_13 : decode cX3_whyNot 13 = .ok (.ifCond .eq 7, 3) := by decide +kernel
theorem dX3_whyNot_16 : decode cX3_whyNot 16 = .ok (.iconst 1, 1) := by decide +kernel
theorem dX3_whyNot_17 : decode cX3_whyNot 17 = .ok (.goto 4, 3) := by decide +kernel
theorem dX3_whyNot_20 : decode cX3_whyNot 20 = .ok (.iconst 0, 1) := by decide +kernel
theorem dX3_whyNot_21 : decode cX3_whyNot 21 = .ok (.iload_n 3, 1) := by decide +kernel
theorem dX3_whyNot_22 : decode cX3_whyNot 22 = .ok (.iconst 1, 1) := by decide +kernel
theorem dX3_whyNot_23 : decode cX3_whyNot 23 = .ok (.bipush 50, 2) := by decide +kernel
theorem dX3_whyNot_25 : decode cX3_whyNot 25 = .ok (.invokestatic 81, 3) := by decide +kernel
theorem dX3_whyNot_28 : decode cX3_whyNot 28 = .ok (.iconst 1, 1) := by decide +kernel
theorem dX3_whyNot_29 : decode cX3_whyNot 29 = .ok (.invokevirtual 89, 3) := by decide +kernel
theorem dX3_whyNot_32 : decode cX3_whyNot 32 = .ok (.ifCond .eq 13, 3) := by decide +kernel
theorem dX3_whyNot_35 : decode cX3_whyNot 35 = .ok (.aload_n 0, 1) := by decide +kernel
theorem dX3_whyNot_36 : decode cX3_whyNot 36 = .ok (.iload_n 1, 1) := by decide +kernel
theorem dX3_whyNot_37 : decode cX3_whyNot 37 = .ok (.iload_n 2, 1) := by decide +kernel
theorem dX3_whyNot_38 : decode cX3_whyNot 38 = .ok (.iload_n 3, 1) := by decide +kernel
theorem dX3_whyNot_39 : decode cX3_whyNot 39 = .ok (.invokevirtual 147, 3) := by decide +kernel
theorem dX3_whyNot_42 : decode cX3_whyNot 42 = .ok (.goto 4, 3) := by decide +kernel
theorem dX3_whyNot_45 : decode cX3_whyNot 45 = .ok (.iconst 0, 1) := by decide +kernel
theorem dX3_whyNot_46 : decode cX3_whyNot 46 = .ok (.ireturn, 1) := by decide +kernel
theorem dX3_takes_0 : decode cX3_takes 0 = .ok (.iload_n 2, 1) := by decide +kernel
theorem dX3_takes_1 : decode cX3_takes 1 = .ok (.istore_n 3, 1) := by decide +kernel
theorem dX3_takes_2 : decode cX3_takes 2 = .ok (.bipush 40, 2) := by decide +kernel
theorem dX3_takes_4 : decode cX3_takes 4 = .ok (.iload_n 1, 1) := by decide +kernel
theorem dX3_takes_5 : decode cX3_takes 5 = .ok (.imul, 1) := by decide +kernel
theorem dX3_takes_6 : decode cX3_takes 6 = .ok (.istore 4, 2) := by decide +kernel
theorem dX3_takes_8 : decode cX3_takes 8 = .ok (.iload 4, 2) := by decide +kernel
theorem dX3_takes_10 : decode cX3_takes 10 = .ok (.bipush 40, 2) := by decide +kernel
theorem dX3_takes_12 : decode cX3_takes 12 = .ok (.iload_n 1, 1) := by decide +kernel
theorem dX3_takes_13 : decode cX3_takes 13 = .ok (.imul, 1) := by decide +kernel
theorem dX3_takes_14 : decode cX3_takes 14 = .ok (.bipush 40, 2) := by decide +kernel
theorem dX3_takes_16 : decode cX3_takes 16 = .ok (.iadd, 1) := by decide +kernel
theorem dX3_takes_17 : decode cX3_takes 17 = .ok (.if_icmp .ge 50, 3) := by decide +kernel
theorem dX3_takes_20 : decode cX3_takes 20 = .ok (.aload_n 0, 1) := by decide +kernel
theorem dX3_takes_21 : decode cX3_takes 21 = .ok (.getfield 41, 3) := by decide +kernel
theorem dX3_takes_24 : decode cX3_takes 24 = .ok (.iload 4, 2) := by decide +kernel
theorem dX3_takes_26 : decode cX3_takes 26 = .ok (.iaload, 1) := by decide +kernel
theorem dX3_takes_27 : decode cX3_takes 27 = .ok (.iload_n 3, 1) := by decide +kernel
theorem dX3_takes_28 : decode cX3_takes 28 = .ok (.if_icmp .ge 13, 3) := by decide +kernel
theorem dX3_takes_31 : decode cX3_takes 31 = .ok (.aload_n 0, 1) := by decide +kernel
theorem dX3_takes_32 : decode cX3_takes 32 = .ok (.getfield 41, 3) := by decide +kernel
theorem dX3_takes_35 : decode cX3_takes 35 = .ok (.iload 4, 2) := by decide +kernel
theorem dX3_takes_37 : decode cX3_takes 37 = .ok (.iaload, 1) := by decide +kernel
theorem dX3_takes_38 : decode cX3_takes 38 = .ok (.goto 4, 3) := by decide +kernel
theorem dX3_takes_41 : decode cX3_takes 41 = .ok (.iload_n 3, 1) := by decide +kernel
theorem dX3_takes_42 : decode cX3_takes 42 = .ok (.istore 5, 2) := by decide +kernel
theorem dX3_takes_44 : decode cX3_takes 44 = .ok (.aload_n 0, 1) := by decide +kernel
theorem dX3_takes_45 : decode cX3_takes 45 = .ok (.getfield 41, 3) := by decide +kernel
theorem dX3_takes_48 : decode cX3_takes 48 = .ok (.iload 4, 2) := by decide +kernel
theorem dX3_takes_50 : decode cX3_takes 50 = .ok (.dup2, 1) := by decide +kernel
theorem dX3_takes_51 : decode cX3_takes 51 = .ok (.iaload, 1) := by decide +kernel
theorem dX3_takes_52 : decode cX3_takes 52 = .ok (.iload 5, 2) := by decide +kernel
theorem dX3_takes_54 : decode cX3_takes 54 = .ok (.isub, 1) := by decide +kernel
theorem dX3_takes_55 : decode cX3_takes 55 = .ok (.iastore, 1) := by decide +kernel
theorem dX3_takes_56 : decode cX3_takes 56 = .ok (.iload_n 3, 1) := by decide +kernel
theorem dX3_takes_57 : decode cX3_takes 57 = .ok (.iload 5, 2) := by decide +kernel
theorem dX3_takes_59 : decode cX3_takes 59 = .ok (.isub, 1) := by decide +kernel
theorem dX3_takes_60 : decode cX3_takes 60 = .ok (.istore_n 3, 1) := by decide +kernel
theorem dX3_takes_61 : decode cX3_takes 61 = .ok (.iinc 4 1, 3) := by decide +kernel
theorem dX3_takes_64 : decode cX3_takes 64 = .ok (.goto (-56), 3) := by decide +kernel
theorem dX3_takes_67 : decode cX3_takes 67 = .ok (.iload_n 2, 1) := by decide +kernel
theorem dX3_takes_68 : decode cX3_takes 68 = .ok (.iload_n 3, 1) := by decide +kernel
theorem dX3_takes_69 : decode cX3_takes 69 = .ok (.isub, 1) := by decide +kernel
theorem dX3_takes_70 : decode cX3_takes 70 = .ok (.ireturn, 1) := by decide +kernel
theorem dX3_buy_0 : decode cX3_buy 0 = .ok (.aload_n 0, 1) := by decide +kernel
theorem dX3_buy_1 : decode cX3_buy 1 = .ok (.iload_n 1, 1) := by decide +kernel
theorem dX3_buy_2 : decode cX3_buy 2 = .ok (.invokevirtual 85, 3) := by decide +kernel
theorem dX3_buy_5 : decode cX3_buy 5 = .ok (.ifCond .eq 14, 3) := by decide +kernel
theorem dX3_buy_8 : decode cX3_buy 8 = .ok (.iload_n 2, 1) := by decide +kernel
theorem dX3_buy_9 : decode cX3_buy 9 = .ok (.invokestatic 132, 3) := by decide +kernel
theorem dX3_buy_12 : decode cX3_buy 12 = .ok (.ifCond .eq 7, 3) := by decide +kernel
theorem dX3_buy_15 : decode cX3_buy 15 = .ok (.iconst 1, 1) := by decide +kernel
theorem dX3_buy_16 : decode cX3_buy 16 = .ok (.goto 4, 3) := by decide +kernel
theorem dX3_buy_19 : decode cX3_buy 19 = .ok (.iconst 0, 1) := by decide +kernel
theorem dX3_buy_20 : decode cX3_buy 20 = .ok (.istore 4, 2) := by decide +kernel
theorem dX3_buy_22 : decode cX3_buy 22 = .ok (.iload_n 3, 1) := by decide +kernel
theorem dX3_buy_23 : decode cX3_buy 23 = .ok (.iconst 1, 1) := by decide +kernel
theorem dX3_buy_24 : decode cX3_buy 24 = .ok (.bipush 50, 2) := by decide +kernel
theorem dX3_buy_26 : decode cX3_buy 26 = .ok (.invokestatic 81, 3) := by decide +kernel
theorem dX3_buy_29 : decode cX3_buy 29 = .ok (.istore 5, 2) := by decide +kernel
theorem dX3_buy_31 : decode cX3_buy 31 = .ok (.aload_n 0, 1) := by decide +kernel
theorem dX3_buy_32 : decode cX3_buy 32 = .ok (.iload 4, 2) := by decide +kernel
theorem dX3_buy_34 : decode cX3_buy 34 = .ok (.iload 5, 2) := by decide +kernel
theorem dX3_buy_36 : decode cX3_buy 36 = .ok (.iload 4, 2) := by decide +kernel
theorem dX3_buy_38 : decode cX3_buy 38 = .ok (.ifCond .eq 22, 3) := by decide +kernel
theorem dX3_buy_41 : decode cX3_buy 41 = .ok (.iload 5, 2) := by decide +kernel
theorem dX3_buy_43 : decode cX3_buy 43 = .ok (.ifCond .eq 17, 3) := by decide +kernel
theorem dX3_buy_46 : decode cX3_buy 46 = .ok (.aload_n 0, 1) := by decide +kernel
theorem dX3_buy_47 : decode cX3_buy 47 = .ok (.iload_n 1, 1) := by decide +kernel
theorem dX3_buy_48 : decode cX3_buy 48 = .ok (.iload_n 2, 1) := by decide +kernel
theorem dX3_buy_49 : decode cX3_buy 49 = .ok (.iload_n 3, 1) := by decide +kernel
theorem dX3_buy_50 : decode cX3_buy 50 = .ok (.invokevirtual 147, 3) := by decide +kernel
theorem dX3_buy_53 : decode cX3_buy 53 = .ok (.ifCond .ne 7, 3) := by decide +kernel
theorem dX3_buy_56 : decode cX3_buy 56 = .ok (.iconst 1, 1) := by decide +kernel
theorem dX3_buy_57 : decode cX3_buy 57 = .ok (.goto 4, 3) := by decide +kernel
theorem dX3_buy_60 : decode cX3_buy 60 = .ok (.iconst 0, 1) := by decide +kernel
theorem dX3_buy_61 : decode cX3_buy 61 = .ok (.invokevirtual 89, 3) := by decide +kernel
theorem dX3_buy_64 : decode cX3_buy 64 = .ok (.ifCond .ne 5, 3) := by decide +kernel
theorem dX3_buy_67 : decode cX3_buy 67 = .ok (.iconst 0, 1) := by decide +kernel
theorem dX3_buy_68 : decode cX3_buy 68 = .ok (.ireturn, 1) := by decide +kernel
theorem dX3_buy_69 : decode cX3_buy 69 = .ok (.iload_n 3, 1) := by decide +kernel
theorem dX3_buy_70 : decode cX3_buy 70 = .ok (.aload_n 0, 1) := by decide +kernel
theorem dX3_buy_71 : decode cX3_buy 71 = .ok (.iload_n 1, 1) := by decide +kernel
theorem dX3_buy_72 : decode cX3_buy 72 = .ok (.iload_n 2, 1) := by decide +kernel
theorem dX3_buy_73 : decode cX3_buy 73 = .ok (.invokevirtual 137, 3) := by decide +kernel
theorem dX3_buy_76 : decode cX3_buy 76 = .ok (.imul, 1) := by decide +kernel
theorem dX3_buy_77 : decode cX3_buy 77 = .ok (.istore 6, 2) := by decide +kernel
theorem dX3_buy_79 : decode cX3_buy 79 = .ok (.aload_n 0, 1) := by decide +kernel
theorem dX3_buy_80 : decode cX3_buy 80 = .ok (.iload_n 1, 1) := by decide +kernel
theorem dX3_buy_81 : decode cX3_buy 81 = .ok (.iload 6, 2) := by decide +kernel
theorem dX3_buy_83 : decode cX3_buy 83 = .ok (.invokevirtual 151, 3) := by decide +kernel
theorem dX3_buy_86 : decode cX3_buy 86 = .ok (.istore 7, 2) := by decide +kernel
theorem dX3_buy_88 : decode cX3_buy 88 = .ok (.aload_n 0, 1) := by decide +kernel
theorem dX3_buy_89 : decode cX3_buy 89 = .ok (.getfield 59, 3) := by decide +kernel
theorem dX3_buy_92 : decode cX3_buy 92 = .ok (.iconst 1, 1) := by decide +kernel
theorem dX3_buy_93 : decode cX3_buy 93 = .ok (.dup2, 1) := by decide +kernel
theorem dX3_buy_94 : decode cX3_buy 94 = .ok (.iaload, 1) := by decide +kernel
theorem dX3_buy_95 : decode cX3_buy 95 = .ok (.iload 7, 2) := by decide +kernel
theorem dX3_buy_97 : decode cX3_buy 97 = .ok (.iadd, 1) := by decide +kernel
theorem dX3_buy_98 : decode cX3_buy 98 = .ok (.iastore, 1) := by decide +kernel
theorem dX3_buy_99 : decode cX3_buy 99 = .ok (.iload 6, 2) := by decide +kernel
theorem dX3_buy_101 : decode cX3_buy 101 = .ok (.iload 7, 2) := by decide +kernel
theorem dX3_buy_103 : decode cX3_buy 103 = .ok (.isub, 1) := by decide +kernel
theorem dX3_buy_104 : decode cX3_buy 104 = .ok (.istore 6, 2) := by decide +kernel
theorem dX3_buy_106 : decode cX3_buy 106 = .ok (.aload_n 0, 1) := by decide +kernel
theorem dX3_buy_107 : decode cX3_buy 107 = .ok (.getfield 23, 3) := by decide +kernel
theorem dX3_buy_110 : decode cX3_buy 110 = .ok (.iload_n 1, 1) := by decide +kernel
theorem dX3_buy_111 : decode cX3_buy 111 = .ok (.iaload, 1) := by decide +kernel
theorem dX3_buy_112 : decode cX3_buy 112 = .ok (.iload 6, 2) := by decide +kernel
theorem dX3_buy_114 : decode cX3_buy 114 = .ok (.if_icmp .ge 12, 3) := by decide +kernel
theorem dX3_buy_117 : decode cX3_buy 117 = .ok (.aload_n 0, 1) := by decide +kernel
theorem dX3_buy_118 : decode cX3_buy 118 = .ok (.getfield 23, 3) := by decide +kernel
theorem dX3_buy_121 : decode cX3_buy 121 = .ok (.iload_n 1, 1) := by decide +kernel
theorem dX3_buy_122 : decode cX3_buy 122 = .ok (.iaload, 1) := by decide +kernel
theorem dX3_buy_123 : decode cX3_buy 123 = .ok (.goto 5, 3) := by decide +kernel
theorem dX3_buy_126 : decode cX3_buy 126 = .ok (.iload 6, 2) := by decide +kernel
theorem dX3_buy_128 : decode cX3_buy 128 = .ok (.istore 8, 2) := by decide +kernel
theorem dX3_buy_130 : decode cX3_buy 130 = .ok (.aload_n 0, 1) := by decide +kernel
theorem dX3_buy_131 : decode cX3_buy 131 = .ok (.getfield 23, 3) := by decide +kernel
theorem dX3_buy_134 : decode cX3_buy 134 = .ok (.iload_n 1, 1) := by decide +kernel
theorem dX3_buy_135 : decode cX3_buy 135 = .ok (.dup2, 1) := by decide +kernel
theorem dX3_buy_136 : decode cX3_buy 136 = .ok (.iaload, 1) := by decide +kernel
theorem dX3_buy_137 : decode cX3_buy 137 = .ok (.iload 8, 2) := by decide +kernel
theorem dX3_buy_139 : decode cX3_buy 139 = .ok (.isub, 1) := by decide +kernel
theorem dX3_buy_140 : decode cX3_buy 140 = .ok (.iastore, 1) := by decide +kernel
theorem dX3_buy_141 : decode cX3_buy 141 = .ok (.aload_n 0, 1) := by decide +kernel
theorem dX3_buy_142 : decode cX3_buy 142 = .ok (.getfield 26, 3) := by decide +kernel
theorem dX3_buy_145 : decode cX3_buy 145 = .ok (.iload_n 1, 1) := by decide +kernel
theorem dX3_buy_146 : decode cX3_buy 146 = .ok (.dup2, 1) := by decide +kernel
theorem dX3_buy_147 : decode cX3_buy 147 = .ok (.iaload, 1) := by decide +kernel
theorem dX3_buy_148 : decode cX3_buy 148 = .ok (.iload 6, 2) := by decide +kernel
theorem dX3_buy_150 : decode cX3_buy 150 = .ok (.iload 8, 2) := by decide +kernel
theorem dX3_buy_152 : decode cX3_buy 152 = .ok (.isub, 1) := by decide +kernel
theorem dX3_buy_153 : decode cX3_buy 153 = .ok (.iadd, 1) := by decide +kernel
theorem dX3_buy_154 : decode cX3_buy 154 = .ok (.iastore, 1) := by decide +kernel
theorem dX3_buy_155 : decode cX3_buy 155 = .ok (.aload_n 0, 1) := by decide +kernel
theorem dX3_buy_156 : decode cX3_buy 156 = .ok (.getfield 44, 3) := by decide +kernel
theorem dX3_buy_159 : decode cX3_buy 159 = .ok (.iconst 4, 1) := by decide +kernel
theorem dX3_buy_160 : decode cX3_buy 160 = .ok (.iload_n 1, 1) := by decide +kernel
theorem dX3_buy_161 : decode cX3_buy 161 = .ok (.imul, 1) := by decide +kernel
theorem dX3_buy_162 : decode cX3_buy 162 = .ok (.iload_n 2, 1) := by decide +kernel
theorem dX3_buy_163 : decode cX3_buy 163 = .ok (.iadd, 1) := by decide +kernel
theorem dX3_buy_164 : decode cX3_buy 164 = .ok (.dup2, 1) := by decide +kernel
theorem dX3_buy_165 : decode cX3_buy 165 = .ok (.iaload, 1) := by decide +kernel
theorem dX3_buy_166 : decode cX3_buy 166 = .ok (.iload_n 3, 1) := by decide +kernel
theorem dX3_buy_167 : decode cX3_buy 167 = .ok (.iadd, 1) := by decide +kernel
theorem dX3_buy_168 : decode cX3_buy 168 = .ok (.iastore, 1) := by decide +kernel
theorem dX3_buy_169 : decode cX3_buy 169 = .ok (.aload_n 0, 1) := by decide +kernel
theorem dX3_buy_170 : decode cX3_buy 170 = .ok (.getfield 26, 3) := by decide +kernel
theorem dX3_buy_173 : decode cX3_buy 173 = .ok (.iload_n 1, 1) := by decide +kernel
theorem dX3_buy_174 : decode cX3_buy 174 = .ok (.iaload, 1) := by decide +kernel
theorem dX3_buy_175 : decode cX3_buy 175 = .ok (.ireturn, 1) := by decide +kernel
theorem dX3_over_0 : decode cX3_over 0 = .ok (.aload_n 0, 1) := by decide +kernel
theorem dX3_over_1 : decode cX3_over 1 = .ok (.iload_n 1, 1) := by decide +kernel
theorem dX3_over_2 : decode cX3_over 2 = .ok (.invokevirtual 85, 3) := by decide +kernel
theorem dX3_over_5 : decode cX3_over 5 = .ok (.ifCond .eq 14, 3) := by decide +kernel
theorem dX3_over_8 : decode cX3_over 8 = .ok (.iload_n 2, 1) := by decide +kernel
theorem dX3_over_9 : decode cX3_over 9 = .ok (.invokestatic 132, 3) := by decide +kernel
theorem dX3_over_12 : decode cX3_over 12 = .ok (.ifCond .eq 7, 3) := by decide +kernel
theorem dX3_over_15 : decode cX3_over 15 = .ok (.iconst 1, 1) := by decide +kernel
theorem dX3_over_16 : decode cX3_over 16 = .ok (.goto 4, 3) := by decide +kernel
theorem dX3_over_19 : decode cX3_over 19 = .ok (.iconst 0, 1) := by decide +kernel
theorem dX3_over_20 : decode cX3_over 20 = .ok (.istore 4, 2) := by decide +kernel
theorem dX3_over_22 : decode cX3_over 22 = .ok (.iload 4, 2) := by decide +kernel
theorem dX3_over_24 : decode cX3_over 24 = .ok (.ifCond .eq 16, 3) := by decide +kernel
theorem dX3_over_27 : decode cX3_over 27 = .ok (.iload_n 3, 1) := by decide +kernel
theorem dX3_over_28 : decode cX3_over 28 = .ok (.aload_n 0, 1) := by decide +kernel
theorem dX3_over_29 : decode cX3_over 29 = .ok (.getfield 53, 3) := by decide +kernel
theorem dX3_over_32 : decode cX3_over 32 = .ok (.iconst 4, 1) := by decide +kernel
theorem dX3_over_33 : decode cX3_over 33 = .ok (.iload_n 2, 1) := by decide +kernel
theorem dX3_over_34 : decode cX3_over 34 = .ok (.iadd, 1) := by decide +kernel
theorem dX3_over_35 : decode cX3_over 35 = .ok (.iaload, 1) := by decide +kernel
theorem dX3_over_36 : decode cX3_over 36 = .ok (.imul, 1) := by decide +kernel
theorem dX3_over_37 : decode cX3_over 37 = .ok (.goto 4, 3) := by decide +kernel
theorem dX3_over_40 : decode cX3_over 40 = .ok (.iconst 0, 1) := by decide +kernel
theorem dX3_over_41 : decode cX3_over 41 = .ok (.istore 5, 2) := by decide +kernel
theorem dX3_over_43 : decode cX3_over 43 = .ok (.aload_n 0, 1) := by decide +kernel
theorem dX3_over_44 : decode cX3_over 44 = .ok (.iload 4, 2) := by decide +kernel
theorem dX3_over_46 : decode cX3_over 46 = .ok (.iload_n 3, 1) := by decide +kernel
theorem dX3_over_47 : decode cX3_over 47 = .ok (.iconst 1, 1) := by decide +kernel
theorem dX3_over_48 : decode cX3_over 48 = .ok (.bipush 50, 2) := by decide +kernel
theorem dX3_over_50 : decode cX3_over 50 = .ok (.invokestatic 81, 3) := by decide +kernel
theorem dX3_over_53 : decode cX3_over 53 = .ok (.iload 4, 2) := by decide +kernel
theorem dX3_over_55 : decode cX3_over 55 = .ok (.ifCond .eq 27, 3) := by decide +kernel
theorem dX3_over_58 : decode cX3_over 58 = .ok (.aload_n 0, 1) := by decide +kernel
theorem dX3_over_59 : decode cX3_over 59 = .ok (.getfield 7, 3) := by decide +kernel
theorem dX3_over_62 : decode cX3_over 62 = .ok (.iload_n 1, 1) := by decide +kernel
theorem dX3_over_63 : decode cX3_over 63 = .ok (.baload, 1) := by decide +kernel
theorem dX3_over_64 : decode cX3_over 64 = .ok (.ifCond .eq 18, 3) := by decide +kernel
theorem dX3_over_67 : decode cX3_over 67 = .ok (.aload_n 0, 1) := by decide +kernel
theorem dX3_over_68 : decode cX3_over 68 = .ok (.getfield 23, 3) := by decide +kernel
theorem dX3_over_71 : decode cX3_over 71 = .ok (.iload_n 1, 1) := by decide +kernel
theorem dX3_over_72 : decode cX3_over 72 = .ok (.iaload, 1) := by decide +kernel
theorem dX3_over_73 : decode cX3_over 73 = .ok (.iload 5, 2) := by decide +kernel
theorem dX3_over_75 : decode cX3_over 75 = .ok (.if_icmp .lt 7, 3) := by decide +kernel
theorem dX3_over_78 : decode cX3_over 78 = .ok (.iconst 1, 1) := by decide +kernel
theorem dX3_over_79 : decode cX3_over 79 = .ok (.goto 4, 3) := by decide +kernel
theorem dX3_over_82 : decode cX3_over 82 = .ok (.iconst 0, 1) := by decide +kernel
theorem dX3_over_83 : decode cX3_over 83 = .ok (.invokevirtual 89, 3) := by decide +kernel
theorem dX3_over_86 : decode cX3_over 86 = .ok (.ifCond .ne 5, 3) := by decide +kernel
theorem dX3_over_89 : decode cX3_over 89 = .ok (.iconst 0, 1) := by decide +kernel
theorem dX3_over_90 : decode cX3_over 90 = .ok (.ireturn, 1) := by decide +kernel
theorem dX3_over_91 : decode cX3_over 91 = .ok (.aload_n 0, 1) := by decide +kernel
theorem dX3_over_92 : decode cX3_over 92 = .ok (.getfield 23, 3) := by decide +kernel
theorem dX3_over_95 : decode cX3_over 95 = .ok (.iload_n 1, 1) := by decide +kernel
theorem dX3_over_96 : decode cX3_over 96 = .ok (.dup2, 1) := by decide +kernel
theorem dX3_over_97 : decode cX3_over 97 = .ok (.iaload, 1) := by decide +kernel
theorem dX3_over_98 : decode cX3_over 98 = .ok (.iload 5, 2) := by decide +kernel
theorem dX3_over_100 : decode cX3_over 100 = .ok (.isub, 1) := by decide +kernel
theorem dX3_over_101 : decode cX3_over 101 = .ok (.iastore, 1) := by decide +kernel
theorem dX3_over_102 : decode cX3_over 102 = .ok (.aload_n 0, 1) := by decide +kernel
theorem dX3_over_103 : decode cX3_over 103 = .ok (.getfield 44, 3) := by decide +kernel
theorem dX3_over_106 : decode cX3_over 106 = .ok (.iconst 4, 1) := by decide +kernel
theorem dX3_over_107 : decode cX3_over 107 = .ok (.iload_n 1, 1) := by decide +kernel
theorem dX3_over_108 : decode cX3_over 108 = .ok (.imul, 1) := by decide +kernel
theorem dX3_over_109 : decode cX3_over 109 = .ok (.iload_n 2, 1) := by decide +kernel
theorem dX3_over_110 : decode cX3_over 110 = .ok (.iadd, 1) := by decide +kernel
theorem dX3_over_111 : decode cX3_over 111 = .ok (.dup2, 1) := by decide +kernel
theorem dX3_over_112 : decode cX3_over 112 = .ok (.iaload, 1) := by decide +kernel
theorem dX3_over_113 : decode cX3_over 113 = .ok (.iload_n 3, 1) := by decide +kernel
theorem dX3_over_114 : decode cX3_over 114 = .ok (.iadd, 1) := by decide +kernel
theorem dX3_over_115 : decode cX3_over 115 = .ok (.iastore, 1) := by decide +kernel
theorem dX3_over_116 : decode cX3_over 116 = .ok (.aload_n 0, 1) := by decide +kernel
theorem dX3_over_117 : decode cX3_over 117 = .ok (.getfield 23, 3) := by decide +kernel
theorem dX3_over_120 : decode cX3_over 120 = .ok (.iload_n 1, 1) := by decide +kernel
theorem dX3_over_121 : decode cX3_over 121 = .ok (.iaload, 1) := by decide +kernel
theorem dX3_over_122 : decode cX3_over 122 = .ok (.ireturn, 1) := by decide +kernel
theorem dX3_discount_0 : decode cX3_discount 0 = .ok (.aload_n 0, 1) := by decide +kernel
theorem dX3_discount_1 : decode cX3_discount 1 = .ok (.iload_n 1, 1) := by decide +kernel
theorem dX3_discount_2 : decode cX3_discount 2 = .ok (.iconst 0, 1) := by decide +kernel
theorem dX3_discount_3 : decode cX3_discount 3 = .ok (.bipush 90, 2) := by decide +kernel
theorem dX3_discount_5 : decode cX3_discount 5 = .ok (.invokestatic 81, 3) := by decide +kernel
theorem dX3_discount_8 : decode cX3_discount 8 = .ok (.iconst 1, 1) := by decide +kernel
theorem dX3_discount_9 : decode cX3_discount 9 = .ok (.iconst 1, 1) := by decide +kernel
theorem dX3_discount_10 : decode cX3_discount 10 = .ok (.invokevirtual 89, 3) := by decide +kernel
theorem dX3_discount_13 : decode cX3_discount 13 = .ok (.ifCond .ne 5, 3) := by decide +kernel
theorem dX3_discount_16 : decode cX3_discount 16 = .ok (.iconst 0, 1) := by decide +kernel
theorem dX3_discount_17 : decode cX3_discount 17 = .ok (.ireturn, 1) := by decide +kernel
theorem dX3_discount_18 : decode cX3_discount 18 = .ok (.aload_n 0, 1) := by decide +kernel
theorem dX3_discount_19 : decode cX3_discount 19 = .ok (.getfield 72, 3) := by decide +kernel
theorem dX3_discount_22 : decode cX3_discount 22 = .ok (.istore_n 2, 1) := by decide +kernel
theorem dX3_discount_23 : decode cX3_discount 23 = .ok (.aload_n 0, 1) := by decide +kernel
theorem dX3_discount_24 : decode cX3_discount 24 = .ok (.iload_n 1, 1) := by decide +kernel
theorem dX3_discount_25 : decode cX3_discount 25 = .ok (.putfield 72, 3) := by decide +kernel
theorem dX3_discount_28 : decode cX3_discount 28 = .ok (.iload_n 2, 1) := by decide +kernel
theorem dX3_discount_29 : decode cX3_discount 29 = .ok (.ireturn, 1) := by decide +kernel
theorem dX3_change_0 : decode cX3_change 0 = .ok (.aload_n 0, 1) := by decide +kernel
theorem dX3_change_1 : decode cX3_change 1 = .ok (.iload_n 1, 1) := by decide +kernel
theorem dX3_change_2 : decode cX3_change 2 = .ok (.invokevirtual 85, 3) := by decide +kernel
theorem dX3_change_5 : decode cX3_change 5 = .ok (.istore_n 3, 1) := by decide +kernel
theorem dX3_change_6 : decode cX3_change 6 = .ok (.aload_n 0, 1) := by decide +kernel
theorem dX3_change_7 : decode cX3_change 7 = .ok (.iload_n 3, 1) := by decide +kernel
theorem dX3_change_8 : decode cX3_change 8 = .ok (.iload_n 2, 1) := by decide +kernel
theorem dX3_change_9 : decode cX3_change 9 = .ok (.iconst 1, 1) := by decide +kernel
theorem dX3_change_10 : decode cX3_change 10 = .ok (.ldc 154, 2) := by decide +kernel
theorem dX3_change_12 : decode cX3_change 12 = .ok (.invokestatic 81, 3) := by decide +kernel
theorem dX3_change_15 : decode cX3_change 15 = .ok (.iload_n 3, 1) := by decide +kernel
theorem dX3_change_16 : decode cX3_change 16 = .ok (.ifCond .eq 25, 3) := by decide +kernel
theorem dX3_change_19 : decode cX3_change 19 = .ok (.aload_n 0, 1) := by decide +kernel
theorem dX3_change_20 : decode cX3_change 20 = .ok (.getfield 7, 3) := by decide +kernel
theorem dX3_change_23 : decode cX3_change 23 = .ok (.iload_n 1, 1) := by decide +kernel
theorem dX3_change_24 : decode cX3_change 24 = .ok (.baload, 1) := by decide +kernel
theorem dX3_change_25 : decode cX3_change 25 = .ok (.ifCond .eq 16, 3) := by decide +kernel
theorem dX3_change_28 : decode cX3_change 28 = .ok (.aload_n 0, 1) := by decide +kernel
theorem dX3_change_29 : decode cX3_change 29 = .ok (.iload_n 1, 1) := by decide +kernel
theorem dX3_change_30 : decode cX3_change 30 = .ok (.invokevirtual 141, 3) := by decide +kernel
theorem dX3_change_33 : decode cX3_change 33 = .ok (.iload_n 2, 1) := by decide +kernel
theorem dX3_change_34 : decode cX3_change 34 = .ok (.if_icmp .lt 7, 3) := by decide +kernel
theorem dX3_change_37 : decode cX3_change 37 = .ok (.iconst 1, 1) := by decide +kernel
theorem dX3_change_38 : decode cX3_change 38 = .ok (.goto 4, 3) := by decide +kernel
theorem dX3_change_41 : decode cX3_change 41 = .ok (.iconst 0, 1) := by decide +kernel
theorem dX3_change_42 : decode cX3_change 42 = .ok (.invokevirtual 89, 3) := by decide +kernel
theorem dX3_change_45 : decode cX3_change 45 = .ok (.ifCond .ne 5, 3) := by decide +kernel
theorem dX3_change_48 : decode cX3_change 48 = .ok (.iconst 0, 1) := by decide +kernel
theorem dX3_change_49 : decode cX3_change 49 = .ok (.ireturn, 1) := by decide +kernel
theorem dX3_change_50 : decode cX3_change 50 = .ok (.aload_n 0, 1) := by decide +kernel
theorem dX3_change_51 : decode cX3_change 51 = .ok (.getfield 59, 3) := by decide +kernel
theorem dX3_change_54 : decode cX3_change 54 = .ok (.iconst 2, 1) := by decide +kernel
theorem dX3_change_55 : decode cX3_change 55 = .ok (.dup2, 1) := by decide +kernel
theorem dX3_change_56 : decode cX3_change 56 = .ok (.iaload, 1) := by decide +kernel
theorem dX3_change_57 : decode cX3_change 57 = .ok (.aload_n 0, 1) := by decide +kernel
theorem dX3_change_58 : decode cX3_change 58 = .ok (.iload_n 1, 1) := by decide +kernel
theorem dX3_change_59 : decode cX3_change 59 = .ok (.iload_n 2, 1) := by decide +kernel
theorem dX3_change_60 : decode cX3_change 60 = .ok (.invokevirtual 151, 3) := by decide +kernel
theorem dX3_change_63 : decode cX3_change 63 = .ok (.iadd, 1) := by decide +kernel
theorem dX3_change_64 : decode cX3_change 64 = .ok (.iastore, 1) := by decide +kernel
theorem dX3_change_65 : decode cX3_change 65 = .ok (.iload_n 2, 1) := by decide +kernel
theorem dX3_change_66 : decode cX3_change 66 = .ok (.bipush 100, 2) := by decide +kernel
theorem dX3_change_68 : decode cX3_change 68 = .ok (.aload_n 0, 1) := by decide +kernel
theorem dX3_change_69 : decode cX3_change 69 = .ok (.getfield 72, 3) := by decide +kernel
theorem dX3_change_72 : decode cX3_change 72 = .ok (.isub, 1) := by decide +kernel
theorem dX3_change_73 : decode cX3_change 73 = .ok (.imul, 1) := by decide +kernel
theorem dX3_change_74 : decode cX3_change 74 = .ok (.bipush 100, 2) := by decide +kernel
theorem dX3_change_76 : decode cX3_change 76 = .ok (.idiv, 1) := by decide +kernel
theorem dX3_change_77 : decode cX3_change 77 = .ok (.istore 4, 2) := by decide +kernel
theorem dX3_change_79 : decode cX3_change 79 = .ok (.aload_n 0, 1) := by decide +kernel
theorem dX3_change_80 : decode cX3_change 80 = .ok (.getfield 23, 3) := by decide +kernel
theorem dX3_change_83 : decode cX3_change 83 = .ok (.iload_n 1, 1) := by decide +kernel
theorem dX3_change_84 : decode cX3_change 84 = .ok (.dup2, 1) := by decide +kernel
theorem dX3_change_85 : decode cX3_change 85 = .ok (.iaload, 1) := by decide +kernel
theorem dX3_change_86 : decode cX3_change 86 = .ok (.iload 4, 2) := by decide +kernel
theorem dX3_change_88 : decode cX3_change 88 = .ok (.iadd, 1) := by decide +kernel
theorem dX3_change_89 : decode cX3_change 89 = .ok (.iastore, 1) := by decide +kernel
theorem dX3_change_90 : decode cX3_change 90 = .ok (.iload 4, 2) := by decide +kernel
theorem dX3_change_92 : decode cX3_change 92 = .ok (.ireturn, 1) := by decide +kernel
theorem dX3_law_0 : decode cX3_law 0 = .ok (.aload_n 0, 1) := by decide +kernel
theorem dX3_law_1 : decode cX3_law 1 = .ok (.iload_n 1, 1) := by decide +kernel
theorem dX3_law_2 : decode cX3_law 2 = .ok (.iconst 0, 1) := by decide +kernel
theorem dX3_law_3 : decode cX3_law 3 = .ok (.iconst 2, 1) := by decide +kernel
theorem dX3_law_4 : decode cX3_law 4 = .ok (.invokestatic 81, 3) := by decide +kernel
theorem dX3_law_7 : decode cX3_law 7 = .ok (.iconst 1, 1) := by decide +kernel
theorem dX3_law_8 : decode cX3_law 8 = .ok (.iconst 1, 1) := by decide +kernel
theorem dX3_law_9 : decode cX3_law 9 = .ok (.invokevirtual 89, 3) := by decide +kernel
theorem dX3_law_12 : decode cX3_law 12 = .ok (.ifCond .ne 5, 3) := by decide +kernel
theorem dX3_law_15 : decode cX3_law 15 = .ok (.iconst 0, 1) := by decide +kernel
theorem dX3_law_16 : decode cX3_law 16 = .ok (.ireturn, 1) := by decide +kernel
theorem dX3_law_17 : decode cX3_law 17 = .ok (.aload_n 0, 1) := by decide +kernel
theorem dX3_law_18 : decode cX3_law 18 = .ok (.getfield 56, 3) := by decide +kernel
theorem dX3_law_21 : decode cX3_law 21 = .ok (.iload_n 1, 1) := by decide +kernel
theorem dX3_law_22 : decode cX3_law 22 = .ok (.baload, 1) := by decide +kernel
theorem dX3_law_23 : decode cX3_law 23 = .ok (.istore_n 3, 1) := by decide +kernel
theorem dX3_law_24 : decode cX3_law 24 = .ok (.aload_n 0, 1) := by decide +kernel
theorem dX3_law_25 : decode cX3_law 25 = .ok (.getfield 56, 3) := by decide +kernel
theorem dX3_law_28 : decode cX3_law 28 = .ok (.iload_n 1, 1) := by decide +kernel
theorem dX3_law_29 : decode cX3_law 29 = .ok (.iload_n 2, 1) := by decide +kernel
theorem dX3_law_30 : decode cX3_law 30 = .ok (.bastore, 1) := by decide +kernel
theorem dX3_law_31 : decode cX3_law 31 = .ok (.iload_n 3, 1) := by decide +kernel
theorem dX3_law_32 : decode cX3_law 32 = .ok (.ireturn, 1) := by decide +kernel
theorem dX3_obey_0 : decode cX3_obey 0 = .ok (.aload_n 0, 1) := by decide +kernel
theorem dX3_obey_1 : decode cX3_obey 1 = .ok (.iconst 0, 1) := by decide +kernel
theorem dX3_obey_2 : decode cX3_obey 2 = .ok (.putfield 75, 3) := by decide +kernel
theorem dX3_obey_5 : decode cX3_obey 5 = .ok (.aload_n 0, 1) := by decide +kernel
theorem dX3_obey_6 : decode cX3_obey 6 = .ok (.getfield 109, 3) := by decide +kernel
theorem dX3_obey_9 : decode cX3_obey 9 = .ok (.istore_n 2, 1) := by decide +kernel
theorem dX3_obey_10 : decode cX3_obey 10 = .ok (.aload_n 0, 1) := by decide +kernel
theorem dX3_obey_11 : decode cX3_obey 11 = .ok (.iload_n 1, 1) := by decide +kernel
theorem dX3_obey_12 : decode cX3_obey 12 = .ok (.putfield 109, 3) := by decide +kernel
theorem dX3_obey_15 : decode cX3_obey 15 = .ok (.iload_n 2, 1) := by decide +kernel
theorem dX3_obey_16 : decode cX3_obey 16 = .ok (.ireturn, 1) := by decide +kernel
theorem dX3_breaches_0 : decode cX3_breaches 0 = .ok (.aload_n 0, 1) := by decide +kernel
theorem dX3_breaches_1 : decode cX3_breaches 1 = .ok (.iconst 0, 1) := by decide +kernel
theorem dX3_breaches_2 : decode cX3_breaches 2 = .ok (.putfield 75, 3) := by decide +kernel
theorem dX3_breaches_5 : decode cX3_breaches 5 = .ok (.aload_n 0, 1) := by decide +kernel
theorem dX3_breaches_6 : decode cX3_breaches 6 = .ok (.getfield 122, 3) := by decide +kernel
theorem dX3_breaches_9 : decode cX3_breaches 9 = .ok (.ireturn, 1) := by decide +kernel
theorem dX3_heirOf_0 : decode cX3_heirOf 0 = .ok (.iconst 0, 1) := by decide +kernel
theorem dX3_heirOf_1 : decode cX3_heirOf 1 = .ok (.istore_n 2, 1) := by decide +kernel
theorem dX3_heirOf_2 : decode cX3_heirOf 2 = .ok (.iload_n 2, 1) := by decide +kernel
theorem dX3_heirOf_3 : decode cX3_heirOf 3 = .ok (.bipush 10, 2) := by decide +kernel
theorem dX3_heirOf_5 : decode cX3_heirOf 5 = .ok (.if_icmp .ge 25, 3) := by decide +kernel
theorem dX3_heirOf_8 : decode cX3_heirOf 8 = .ok (.aload_n 0, 1) := by decide +kernel
theorem dX3_heirOf_9 : decode cX3_heirOf 9 = .ok (.getfield 47, 3) := by decide +kernel
theorem dX3_heirOf_12 : decode cX3_heirOf 12 = .ok (.iload_n 2, 1) := by decide +kernel
theorem dX3_heirOf_13 : decode cX3_heirOf 13 = .ok (.iload_n 2, 1) := by decide +kernel
theorem dX3_heirOf_14 : decode cX3_heirOf 14 = .ok (.iload_n 1, 1) := by decide +kernel
theorem dX3_heirOf_15 : decode cX3_heirOf 15 = .ok (.if_icmp .ne 7, 3) := by decide +kernel
theorem dX3_heirOf_18 : decode cX3_heirOf 18 = .ok (.iconst 1, 1) := by decide +kernel
theorem dX3_heirOf_19 : decode cX3_heirOf 19 = .ok (.goto 4, 3) := by decide +kernel
theorem dX3_heirOf_22 : decode cX3_heirOf 22 = .ok (.iconst 0, 1) := by decide +kernel
theorem dX3_heirOf_23 : decode cX3_heirOf 23 = .ok (.bastore, 1) := by decide +kernel
theorem dX3_heirOf_24 : decode cX3_heirOf 24 = .ok (.iinc 2 1, 3) := by decide +kernel
theorem dX3_heirOf_27 : decode cX3_heirOf 27 = .ok (.goto (-25), 3) := by decide +kernel
theorem dX3_heirOf_30 : decode cX3_heirOf 30 = .ok (.aload_n 0, 1) := by decide +kernel
theorem dX3_heirOf_31 : decode cX3_heirOf 31 = .ok (.getfield 38, 3) := by decide +kernel
theorem dX3_heirOf_34 : decode cX3_heirOf 34 = .ok (.iload_n 1, 1) := by decide +kernel
theorem dX3_heirOf_35 : decode cX3_heirOf 35 = .ok (.iaload, 1) := by decide +kernel
theorem dX3_heirOf_36 : decode cX3_heirOf 36 = .ok (.istore_n 2, 1) := by decide +kernel
theorem dX3_heirOf_37 : decode cX3_heirOf 37 = .ok (.iload_n 2, 1) := by decide +kernel
theorem dX3_heirOf_38 : decode cX3_heirOf 38 = .ok (.iconst (-1), 1) := by decide +kernel
theorem dX3_heirOf_39 : decode cX3_heirOf 39 = .ok (.if_icmp .eq 38, 3) := by decide +kernel
theorem dX3_heirOf_42 : decode cX3_heirOf 42 = .ok (.aload_n 0, 1) := by decide +kernel
theorem dX3_heirOf_43 : decode cX3_heirOf 43 = .ok (.getfield 47, 3) := by decide +kernel
theorem dX3_heirOf_46 : decode cX3_heirOf 46 = .ok (.iload_n 2, 1) := by decide +kernel
theorem dX3_heirOf_47 : decode cX3_heirOf 47 = .ok (.baload, 1) := by decide +kernel
theorem dX3_heirOf_48 : decode cX3_heirOf 48 = .ok (.ifCond .ne 29, 3) := by decide +kernel
theorem dX3_heirOf_51 : decode cX3_heirOf 51 = .ok (.aload_n 0, 1) := by decide +kernel
theorem dX3_heirOf_52 : decode cX3_heirOf 52 = .ok (.getfield 7, 3) := by decide +kernel
theorem dX3_heirOf_55 : decode cX3_heirOf 55 = .ok (.iload_n 2, 1) := by decide +kernel
theorem dX3_heirOf_56 : decode cX3_heirOf 56 = .ok (.baload, 1) := by decide +kernel
theorem dX3_heirOf_57 : decode cX3_heirOf 57 = .ok (.ifCond .ne 20, 3) := by decide +kernel
theorem dX3_heirOf_60 : decode cX3_heirOf 60 = .ok (.aload_n 0, 1) := by decide +kernel
theorem dX3_heirOf_61 : decode cX3_heirOf 61 = .ok (.getfield 47, 3) := by decide +kernel
theorem dX3_heirOf_64 : decode cX3_heirOf 64 = .ok (.iload_n 2, 1) := by decide +kernel
theorem dX3_heirOf_65 : decode cX3_heirOf 65 = .ok (.iconst 1, 1) := by decide +kernel
theorem dX3_heirOf_66 : decode cX3_heirOf 66 = .ok (.bastore, 1) := by decide +kernel
theorem dX3_heirOf_67 : decode cX3_heirOf 67 = .ok (.aload_n 0, 1) := by decide +kernel
theorem dX3_heirOf_68 : decode cX3_heirOf 68 = .ok (.getfield 38, 3) := by decide +kernel
theorem dX3_heirOf_71 : decode cX3_heirOf 71 = .ok (.iload_n 2, 1) := by decide +kernel
theorem dX3_heirOf_72 : decode cX3_heirOf 72 = .ok (.iaload, 1) := by decide +kernel
theorem dX3_heirOf_73 : decode cX3_heirOf 73 = .ok (.istore_n 2, 1) := by decide +kernel
theorem dX3_heirOf_74 : decode cX3_heirOf 74 = .ok (.goto (-37), 3) := by decide +kernel
theorem dX3_heirOf_77 : decode cX3_heirOf 77 = .ok (.iload_n 2, 1) := by decide +kernel
theorem dX3_heirOf_78 : decode cX3_heirOf 78 = .ok (.iconst (-1), 1) := by decide +kernel
theorem dX3_heirOf_79 : decode cX3_heirOf 79 = .ok (.if_icmp .eq 16, 3) := by decide +kernel
theorem dX3_heirOf_82 : decode cX3_heirOf 82 = .ok (.aload_n 0, 1) := by decide +kernel
theorem dX3_heirOf_83 : decode cX3_heirOf 83 = .ok (.getfield 47, 3) := by decide +kernel
theorem dX3_heirOf_86 : decode cX3_heirOf 86 = .ok (.iload_n 2, 1) := by decide +kernel
theorem dX3_heirOf_87 : decode cX3_heirOf 87 = .ok (.baload, 1) := by decide +kernel
theorem dX3_heirOf_88 : decode cX3_heirOf 88 = .ok (.ifCond .eq 7, 3) := by decide +kernel
theorem dX3_heirOf_91 : decode cX3_heirOf 91 = .ok (.iconst (-1), 1) := by decide +kernel
theorem dX3_heirOf_92 : decode cX3_heirOf 92 = .ok (.goto 4, 3) := by decide +kernel
theorem dX3_heirOf_95 : decode cX3_heirOf 95 = .ok (.iload_n 2, 1) := by decide +kernel
theorem dX3_heirOf_96 : decode cX3_heirOf 96 = .ok (.ireturn, 1) := by decide +kernel
theorem dX3_leaves_0 : decode cX3_leaves 0 = .ok (.iload_n 2, 1) := by decide +kernel
theorem dX3_leaves_1 : decode cX3_leaves 1 = .ok (.iconst (-1), 1) := by decide +kernel
theorem dX3_leaves_2 : decode cX3_leaves 2 = .ok (.if_icmp .eq 12, 3) := by decide +kernel
theorem dX3_leaves_5 : decode cX3_leaves 5 = .ok (.aload_n 0, 1) := by decide +kernel
theorem dX3_leaves_6 : decode cX3_leaves 6 = .ok (.getfield 56, 3) := by decide +kernel
theorem dX3_leaves_9 : decode cX3_leaves 9 = .ok (.iconst 2, 1) := by decide +kernel
theorem dX3_leaves_10 : decode cX3_leaves 10 = .ok (.baload, 1) := by decide +kernel
theorem dX3_leaves_11 : decode cX3_leaves 11 = .ok (.ifCond .eq 7, 3) := by decide +kernel
theorem dX3_leaves_14 : decode cX3_leaves 14 = .ok (.iconst 1, 1) := by decide +kernel
theorem dX3_leaves_15 : decode cX3_leaves 15 = .ok (.goto 4, 3) := by decide +kernel
theorem dX3_leaves_18 : decode cX3_leaves 18 = .ok (.iconst 0, 1) := by decide +kernel
theorem dX3_leaves_19 : decode cX3_leaves 19 = .ok (.istore_n 3, 1) := by decide +kernel
theorem dX3_leaves_20 : decode cX3_leaves 20 = .ok (.iconst 0, 1) := by decide +kernel
theorem dX3_leaves_21 : decode cX3_leaves 21 = .ok (.istore 4, 2) := by decide +kernel
theorem dX3_leaves_23 : decode cX3_leaves 23 = .ok (.iload 4, 2) := by decide +kernel
theorem dX3_leaves_25 : decode cX3_leaves 25 = .ok (.bipush 40, 2) := by decide +kernel
theorem dX3_leaves_27 : decode cX3_leaves 27 = .ok (.if_icmp .ge 78, 3) := by decide +kernel
theorem dX3_leaves_30 : decode cX3_leaves 30 = .ok (.iload_n 2, 1) := by decide +kernel
theorem dX3_leaves_31 : decode cX3_leaves 31 = .ok (.iconst (-1), 1) := by decide +kernel
theorem dX3_leaves_32 : decode cX3_leaves 32 = .ok (.if_icmp .ne 27, 3) := by decide +kernel
theorem dX3_leaves_35 : decode cX3_leaves 35 = .ok (.aload_n 0, 1) := by decide +kernel
theorem dX3_leaves_36 : decode cX3_leaves 36 = .ok (.getfield 59, 3) := by decide +kernel
theorem dX3_leaves_39 : decode cX3_leaves 39 = .ok (.iconst 4, 1) := by decide +kernel
theorem dX3_leaves_40 : decode cX3_leaves 40 = .ok (.dup2, 1) := by decide +kernel
theorem dX3_leaves_41 : decode cX3_leaves 41 = .ok (.iaload, 1) := by decide +kernel
theorem dX3_leaves_42 : decode cX3_leaves 42 = .ok (.aload_n 0, 1) := by decide +kernel
theorem dX3_leaves_43 : decode cX3_leaves 43 = .ok (.getfield 41, 3) := by decide +kernel
theorem dX3_leaves_46 : decode cX3_leaves 46 = .ok (.bipush 40, 2) := by decide +kernel
theorem dX3_leaves_48 : decode cX3_leaves 48 = .ok (.iload_n 1, 1) := by decide +kernel
theorem dX3_leaves_49 : decode cX3_leaves 49 = .ok (.imul, 1) := by decide +kernel
theorem dX3_leaves_50 : decode cX3_leaves 50 = .ok (.iload 4, 2) := by decide +kernel
theorem dX3_leaves_52 : decode cX3_leaves 52 = .ok (.iadd, 1) := by decide +kernel
theorem dX3_leaves_53 : decode cX3_leaves 53 = .ok (.iaload, 1) := by decide +kernel
theorem dX3_leaves_54 : decode cX3_leaves 54 = .ok (.iadd, 1) := by decide +kernel
theorem dX3_leaves_55 : decode cX3_leaves 55 = .ok (.iastore, 1) := by decide +kernel
theorem dX3_leaves_56 : decode cX3_leaves 56 = .ok (.goto 30, 3) := by decide +kernel
theorem dX3_leaves_59 : decode cX3_leaves 59 = .ok (.aload_n 0, 1) := by decide +kernel
theorem dX3_leaves_60 : decode cX3_leaves 60 = .ok (.getfield 41, 3) := by decide +kernel
theorem dX3_leaves_63 : decode cX3_leaves 63 = .ok (.bipush 40, 2) := by decide +kernel
theorem dX3_leaves_65 : decode cX3_leaves 65 = .ok (.iload_n 2, 1) := by decide +kernel
theorem dX3_leaves_66 : decode cX3_leaves 66 = .ok (.imul, 1) := by decide +kernel
theorem dX3_leaves_67 : decode cX3_leaves 67 = .ok (.iload 4, 2) := by decide +kernel
theorem dX3_leaves_69 : decode cX3_leaves 69 = .ok (.iadd, 1) := by decide +kernel
theorem dX3_leaves_70 : decode cX3_leaves 70 = .ok (.dup2, 1) := by decide +kernel
theorem dX3_leaves_71 : decode cX3_leaves 71 = .ok (.iaload, 1) := by decide +kernel
theorem dX3_leaves_72 : decode cX3_leaves 72 = .ok (.aload_n 0, 1) := by decide +kernel
theorem dX3_leaves_73 : decode cX3_leaves 73 = .ok (.getfield 41, 3) := by decide +kernel
theorem dX3_leaves_76 : decode cX3_leaves 76 = .ok (.bipush 40, 2) := by decide +kernel
theorem dX3_leaves_78 : decode cX3_leaves 78 = .ok (.iload_n 1, 1) := by decide +kernel
theorem dX3_leaves_79 : decode cX3_leaves 79 = .ok (.imul, 1) := by decide +kernel
theorem dX3_leaves_80 : decode cX3_leaves 80 = .ok (.iload 4, 2) := by decide +kernel
theorem dX3_leaves_82 : decode cX3_leaves 82 = .ok (.iadd, 1) := by decide +kernel
theorem dX3_leaves_83 : decode cX3_leaves 83 = .ok (.iaload, 1) := by decide +kernel
theorem dX3_leaves_84 : decode cX3_leaves 84 = .ok (.iadd, 1) := by decide +kernel
theorem dX3_leaves_85 : decode cX3_leaves 85 = .ok (.iastore, 1) := by decide +kernel
theorem dX3_leaves_86 : decode cX3_leaves 86 = .ok (.aload_n 0, 1) := by decide +kernel
theorem dX3_leaves_87 : decode cX3_leaves 87 = .ok (.getfield 41, 3) := by decide +kernel
theorem dX3_leaves_90 : decode cX3_leaves 90 = .ok (.bipush 40, 2) := by decide +kernel
theorem dX3_leaves_92 : decode cX3_leaves 92 = .ok (.iload_n 1, 1) := by decide +kernel
theorem dX3_leaves_93 : decode cX3_leaves 93 = .ok (.imul, 1) := by decide +kernel
theorem dX3_leaves_94 : decode cX3_leaves 94 = .ok (.iload 4, 2) := by decide +kernel
theorem dX3_leaves_96 : decode cX3_leaves 96 = .ok (.iadd, 1) := by decide +kernel
theorem dX3_leaves_97 : decode cX3_leaves 97 = .ok (.iconst 0, 1) := by decide +kernel
theorem dX3_leaves_98 : decode cX3_leaves 98 = .ok (.iastore, 1) := by decide +kernel
theorem dX3_leaves_99 : decode cX3_leaves 99 = .ok (.iinc 4 1, 3) := by decide +kernel
theorem dX3_leaves_102 : decode cX3_leaves 102 = .ok (.goto (-79), 3) := by decide +kernel
theorem dX3_leaves_105 : decode cX3_leaves 105 = .ok (.iconst 0, 1) := by decide +kernel
theorem dX3_leaves_106 : decode cX3_leaves 106 = .ok (.istore 4, 2) := by decide +kernel
theorem dX3_leaves_108 : decode cX3_leaves 108 = .ok (.iload 4, 2) := by decide +kernel
theorem dX3_leaves_110 : decode cX3_leaves 110 = .ok (.iconst 4, 1) := by decide +kernel
theorem dX3_leaves_111 : decode cX3_leaves 111 = .ok (.if_icmp .ge 51, 3) := by decide +kernel
theorem dX3_leaves_114 : decode cX3_leaves 114 = .ok (.iload_n 2, 1) := by decide +kernel
theorem dX3_leaves_115 : decode cX3_leaves 115 = .ok (.iconst (-1), 1) := by decide +kernel
theorem dX3_leaves_116 : decode cX3_leaves 116 = .ok (.if_icmp .eq 28, 3) := by decide +kernel
theorem dX3_leaves_119 : decode cX3_leaves 119 = .ok (.aload_n 0, 1) := by decide +kernel
theorem dX3_leaves_120 : decode cX3_leaves 120 = .ok (.getfield 44, 3) := by decide +kernel
theorem dX3_leaves_123 : decode cX3_leaves 123 = .ok (.iconst 4, 1) := by decide +kernel
theorem dX3_leaves_124 : decode cX3_leaves 124 = .ok (.iload_n 2, 1) := by decide +kernel
theorem dX3_leaves_125 : decode cX3_leaves 125 = .ok (.imul, 1) := by decide +kernel
theorem dX3_leaves_126 : decode cX3_leaves 126 = .ok (.iload 4, 2) := by decide +kernel
theorem dX3_leaves_128 : decode cX3_leaves 128 = .ok (.iadd, 1) := by decide +kernel
theorem dX3_leaves_129 : decode cX3_leaves 129 = .ok (.dup2, 1) := by decide +kernel
theorem dX3_leaves_130 : decode cX3_leaves 130 = .ok (.iaload, 1) := by decide +kernel
theorem dX3_leaves_131 : decode cX3_leaves 131 = .ok (.aload_n 0, 1) := by decide +kernel
theorem dX3_leaves_132 : decode cX3_leaves 132 = .ok (.getfield 44, 3) := by decide +kernel
theorem dX3_leaves_135 : decode cX3_leaves 135 = .ok (.iconst 4, 1) := by decide +kernel
theorem dX3_leaves_136 : decode cX3_leaves 136 = .ok (.iload_n 1, 1) := by decide +kernel
theorem dX3_leaves_137 : decode cX3_leaves 137 = .ok (.imul, 1) := by decide +kernel
theorem dX3_leaves_138 : decode cX3_leaves 138 = .ok (.iload 4, 2) := by decide +kernel
theorem dX3_leaves_140 : decode cX3_leaves 140 = .ok (.iadd, 1) := by decide +kernel
theorem dX3_leaves_141 : decode cX3_leaves 141 = .ok (.iaload, 1) := by decide +kernel
theorem dX3_leaves_142 : decode cX3_leaves 142 = .ok (.iadd, 1) := by decide +kernel
theorem dX3_leaves_143 : decode cX3_leaves 143 = .ok (.iastore, 1) := by decide +kernel
theorem dX3_leaves_144 : decode cX3_leaves 144 = .ok (.aload_n 0, 1) := by decide +kernel
theorem dX3_leaves_145 : decode cX3_leaves 145 = .ok (.getfield 44, 3) := by decide +kernel
theorem dX3_leaves_148 : decode cX3_leaves 148 = .ok (.iconst 4, 1) := by decide +kernel
theorem dX3_leaves_149 : decode cX3_leaves 149 = .ok (.iload_n 1, 1) := by decide +kernel
theorem dX3_leaves_150 : decode cX3_leaves 150 = .ok (.imul, 1) := by decide +kernel
theorem dX3_leaves_151 : decode cX3_leaves 151 = .ok (.iload 4, 2) := by decide +kernel
theorem dX3_leaves_153 : decode cX3_leaves 153 = .ok (.iadd, 1) := by decide +kernel
theorem dX3_leaves_154 : decode cX3_leaves 154 = .ok (.iconst 0, 1) := by decide +kernel
theorem dX3_leaves_155 : decode cX3_leaves 155 = .ok (.iastore, 1) := by decide +kernel
theorem dX3_leaves_156 : decode cX3_leaves 156 = .ok (.iinc 4 1, 3) := by decide +kernel
theorem dX3_leaves_159 : decode cX3_leaves 159 = .ok (.goto (-51), 3) := by decide +kernel
theorem dX3_leaves_162 : decode cX3_leaves 162 = .ok (.iload_n 2, 1) := by decide +kernel
theorem dX3_leaves_163 : decode cX3_leaves 163 = .ok (.iconst (-1), 1) := by decide +kernel
theorem dX3_leaves_164 : decode cX3_leaves 164 = .ok (.if_icmp .eq 64, 3) := by decide +kernel
theorem dX3_leaves_167 : decode cX3_leaves 167 = .ok (.aload_n 0, 1) := by decide +kernel
theorem dX3_leaves_168 : decode cX3_leaves 168 = .ok (.getfield 23, 3) := by decide +kernel
theorem dX3_leaves_171 : decode cX3_leaves 171 = .ok (.iload_n 2, 1) := by decide +kernel
theorem dX3_leaves_172 : decode cX3_leaves 172 = .ok (.dup2, 1) := by decide +kernel
theorem dX3_leaves_173 : decode cX3_leaves 173 = .ok (.iaload, 1) := by decide +kernel
theorem dX3_leaves_174 : decode cX3_leaves 174 = .ok (.aload_n 0, 1) := by decide +kernel
theorem dX3_leaves_175 : decode cX3_leaves 175 = .ok (.getfield 23, 3) := by decide +kernel
theorem dX3_leaves_178 : decode cX3_leaves 178 = .ok (.iload_n 1, 1) := by decide +kernel
theorem dX3_leaves_179 : decode cX3_leaves 179 = .ok (.iaload, 1) := by decide +kernel
theorem dX3_leaves_180 : decode cX3_leaves 180 = .ok (.iadd, 1) := by decide +kernel
theorem dX3_leaves_181 : decode cX3_leaves 181 = .ok (.iastore, 1) := by decide +kernel
theorem dX3_leaves_182 : decode cX3_leaves 182 = .ok (.aload_n 0, 1) := by decide +kernel
theorem dX3_leaves_183 : decode cX3_leaves 183 = .ok (.getfield 26, 3) := by decide +kernel
theorem dX3_leaves_186 : decode cX3_leaves 186 = .ok (.iload_n 2, 1) := by decide +kernel
theorem dX3_leaves_187 : decode cX3_leaves 187 = .ok (.dup2, 1) := by decide +kernel
theorem dX3_leaves_188 : decode cX3_leaves 188 = .ok (.iaload, 1) := by decide +kernel
theorem dX3_leaves_189 : decode cX3_leaves 189 = .ok (.iload_n 3, 1) := by decide +kernel
theorem dX3_leaves_190 : decode cX3_leaves 190 = .ok (.ifCond .eq 7, 3) := by decide +kernel
theorem dX3_leaves_193 : decode cX3_leaves 193 = .ok (.iconst 0, 1) := by decide +kernel
theorem dX3_leaves_194 : decode cX3_leaves 194 = .ok (.goto 9, 3) := by decide +kernel
theorem dX3_leaves_197 : decode cX3_leaves 197 = .ok (.aload_n 0, 1) := by decide +kernel
theorem dX3_leaves_198 : decode cX3_leaves 198 = .ok (.getfield 26, 3) := by decide +kernel
theorem dX3_leaves_201 : decode cX3_leaves 201 = .ok (.iload_n 1, 1) := by decide +kernel
theorem dX3_leaves_202 : decode cX3_leaves 202 = .ok (.iaload, 1) := by decide +kernel
theorem dX3_leaves_203 : decode cX3_leaves 203 = .ok (.iadd, 1) := by decide +kernel
theorem dX3_leaves_204 : decode cX3_leaves 204 = .ok (.iastore, 1) := by decide +kernel
theorem dX3_leaves_205 : decode cX3_leaves 205 = .ok (.aload_n 0, 1) := by decide +kernel
theorem dX3_leaves_206 : decode cX3_leaves 206 = .ok (.getfield 29, 3) := by decide +kernel
theorem dX3_leaves_209 : decode cX3_leaves 209 = .ok (.iload_n 2, 1) := by decide +kernel
theorem dX3_leaves_210 : decode cX3_leaves 210 = .ok (.dup2, 1) := by decide +kernel
theorem dX3_leaves_211 : decode cX3_leaves 211 = .ok (.iaload, 1) := by decide +kernel
theorem dX3_leaves_212 : decode cX3_leaves 212 = .ok (.iload_n 3, 1) := by decide +kernel
theorem dX3_leaves_213 : decode cX3_leaves 213 = .ok (.ifCond .eq 7, 3) := by decide +kernel
theorem dX3_leaves_216 : decode cX3_leaves 216 = .ok (.iconst 0, 1) := by decide +kernel
theorem dX3_leaves_217 : decode cX3_leaves 217 = .ok (.goto 9, 3) := by decide +kernel
theorem dX3_leaves_220 : decode cX3_leaves 220 = .ok (.aload_n 0, 1) := by decide +kernel
theorem dX3_leaves_221 : decode cX3_leaves 221 = .ok (.getfield 29, 3) := by decide +kernel
theorem dX3_leaves_224 : decode cX3_leaves 224 = .ok (.iload_n 1, 1) := by decide +kernel
theorem dX3_leaves_225 : decode cX3_leaves 225 = .ok (.iaload, 1) := by decide +kernel
theorem dX3_leaves_226 : decode cX3_leaves 226 = .ok (.iadd, 1) := by decide +kernel
theorem dX3_leaves_227 : decode cX3_leaves 227 = .ok (.iastore, 1) := by decide +kernel
theorem dX3_leaves_228 : decode cX3_leaves 228 = .ok (.aload_n 0, 1) := by decide +kernel
theorem dX3_leaves_229 : decode cX3_leaves 229 = .ok (.getfield 23, 3) := by decide +kernel
theorem dX3_leaves_232 : decode cX3_leaves 232 = .ok (.iload_n 1, 1) := by decide +kernel
theorem dX3_leaves_233 : decode cX3_leaves 233 = .ok (.iconst 0, 1) := by decide +kernel
theorem dX3_leaves_234 : decode cX3_leaves 234 = .ok (.iastore, 1) := by decide +kernel
theorem dX3_leaves_235 : decode cX3_leaves 235 = .ok (.aload_n 0, 1) := by decide +kernel
theorem dX3_leaves_236 : decode cX3_leaves 236 = .ok (.getfield 26, 3) := by decide +kernel
theorem dX3_leaves_239 : decode cX3_leaves 239 = .ok (.iload_n 1, 1) := by decide +kernel
theorem dX3_leaves_240 : decode cX3_leaves 240 = .ok (.iconst 0, 1) := by decide +kernel
theorem dX3_leaves_241 : decode cX3_leaves 241 = .ok (.iastore, 1) := by decide +kernel
theorem dX3_leaves_242 : decode cX3_leaves 242 = .ok (.aload_n 0, 1) := by decide +kernel
theorem dX3_leaves_243 : decode cX3_leaves 243 = .ok (.getfield 29, 3) := by decide +kernel
theorem dX3_leaves_246 : decode cX3_leaves 246 = .ok (.iload_n 1, 1) := by decide +kernel
theorem dX3_leaves_247 : decode cX3_leaves 247 = .ok (.iconst 0, 1) := by decide +kernel
theorem dX3_leaves_248 : decode cX3_leaves 248 = .ok (.iastore, 1) := by decide +kernel
theorem dX3_leaves_249 : decode cX3_leaves 249 = .ok (.return_, 1) := by decide +kernel
theorem dX3_die_0 : decode cX3_die 0 = .ok (.aload_n 0, 1) := by decide +kernel
theorem dX3_die_1 : decode cX3_die 1 = .ok (.aload_n 0, 1) := by decide +kernel
theorem dX3_die_2 : decode cX3_die 2 = .ok (.iload_n 1, 1) := by decide +kernel
theorem dX3_die_3 : decode cX3_die 3 = .ok (.invokevirtual 85, 3) := by decide +kernel
theorem dX3_die_6 : decode cX3_die 6 = .ok (.aload_n 0, 1) := by decide +kernel
theorem dX3_die_7 : decode cX3_die 7 = .ok (.iload_n 1, 1) := by decide +kernel
theorem dX3_die_8 : decode cX3_die 8 = .ok (.invokevirtual 97, 3) := by decide +kernel
theorem dX3_die_11 : decode cX3_die 11 = .ok (.iconst 1, 1) := by decide +kernel
theorem dX3_die_12 : decode cX3_die 12 = .ok (.invokevirtual 89, 3) := by decide +kernel
theorem dX3_die_15 : decode cX3_die 15 = .ok (.ifCond .ne 5, 3) := by decide +kernel
theorem dX3_die_18 : decode cX3_die 18 = .ok (.iconst 0, 1) := by decide +kernel
theorem dX3_die_19 : decode cX3_die 19 = .ok (.ireturn, 1) := by decide +kernel
theorem dX3_die_20 : decode cX3_die 20 = .ok (.aload_n 0, 1) := by decide +kernel
theorem dX3_die_21 : decode cX3_die 21 = .ok (.getfield 7, 3) := by decide +kernel
theorem dX3_die_24 : decode cX3_die 24 = .ok (.iload_n 1, 1) := by decide +kernel
theorem dX3_die_25 : decode cX3_die 25 = .ok (.iconst 0, 1) := by decide +kernel
theorem dX3_die_26 : decode cX3_die 26 = .ok (.bastore, 1) := by decide +kernel
theorem dX3_die_27 : decode cX3_die 27 = .ok (.aload_n 0, 1) := by decide +kernel
theorem dX3_die_28 : decode cX3_die 28 = .ok (.getfield 19, 3) := by decide +kernel
theorem dX3_die_31 : decode cX3_die 31 = .ok (.iload_n 1, 1) := by decide +kernel
theorem dX3_die_32 : decode cX3_die 32 = .ok (.iconst 0, 1) := by decide +kernel
theorem dX3_die_33 : decode cX3_die 33 = .ok (.iastore, 1) := by decide +kernel
theorem dX3_die_34 : decode cX3_die 34 = .ok (.aload_n 0, 1) := by decide +kernel
theorem dX3_die_35 : decode cX3_die 35 = .ok (.getfield 13, 3) := by decide +kernel
theorem dX3_die_38 : decode cX3_die 38 = .ok (.iload_n 1, 1) := by decide +kernel
theorem dX3_die_39 : decode cX3_die 39 = .ok (.iconst 0, 1) := by decide +kernel
theorem dX3_die_40 : decode cX3_die 40 = .ok (.bastore, 1) := by decide +kernel
theorem dX3_die_41 : decode cX3_die 41 = .ok (.aload_n 0, 1) := by decide +kernel
theorem dX3_die_42 : decode cX3_die 42 = .ok (.iload_n 1, 1) := by decide +kernel
theorem dX3_die_43 : decode cX3_die 43 = .ok (.invokevirtual 155, 3) := by decide +kernel
theorem dX3_die_46 : decode cX3_die 46 = .ok (.istore_n 2, 1) := by decide +kernel
theorem dX3_die_47 : decode cX3_die 47 = .ok (.aload_n 0, 1) := by decide +kernel
theorem dX3_die_48 : decode cX3_die 48 = .ok (.iload_n 1, 1) := by decide +kernel
theorem dX3_die_49 : decode cX3_die 49 = .ok (.iload_n 2, 1) := by decide +kernel
theorem dX3_die_50 : decode cX3_die 50 = .ok (.invokevirtual 158, 3) := by decide +kernel
theorem dX3_die_53 : decode cX3_die 53 = .ok (.iload_n 2, 1) := by decide +kernel
theorem dX3_die_54 : decode cX3_die 54 = .ok (.ireturn, 1) := by decide +kernel
theorem dX3_vote_0 : decode cX3_vote 0 = .ok (.aload_n 0, 1) := by decide +kernel
theorem dX3_vote_1 : decode cX3_vote 1 = .ok (.aload_n 0, 1) := by decide +kernel
theorem dX3_vote_2 : decode cX3_vote 2 = .ok (.iload_n 1, 1) := by decide +kernel
theorem dX3_vote_3 : decode cX3_vote 3 = .ok (.invokevirtual 85, 3) := by decide +kernel
theorem dX3_vote_6 : decode cX3_vote 6 = .ok (.iconst 1, 1) := by decide +kernel
theorem dX3_vote_7 : decode cX3_vote 7 = .ok (.iconst 1, 1) := by decide +kernel
theorem dX3_vote_8 : decode cX3_vote 8 = .ok (.invokevirtual 89, 3) := by decide +kernel
theorem dX3_vote_11 : decode cX3_vote 11 = .ok (.ifCond .ne 5, 3) := by decide +kernel
theorem dX3_vote_14 : decode cX3_vote 14 = .ok (.iconst 0, 1) := by decide +kernel
theorem dX3_vote_15 : decode cX3_vote 15 = .ok (.ireturn, 1) := by decide +kernel
theorem dX3_vote_16 : decode cX3_vote 16 = .ok (.aload_n 0, 1) := by decide +kernel
theorem dX3_vote_17 : decode cX3_vote 17 = .ok (.getfield 16, 3) := by decide +kernel
theorem dX3_vote_20 : decode cX3_vote 20 = .ok (.iload_n 1, 1) := by decide +kernel
theorem dX3_vote_21 : decode cX3_vote 21 = .ok (.baload, 1) := by decide +kernel
theorem dX3_vote_22 : decode cX3_vote 22 = .ok (.istore_n 3, 1) := by decide +kernel
theorem dX3_vote_23 : decode cX3_vote 23 = .ok (.aload_n 0, 1) := by decide +kernel
theorem dX3_vote_24 : decode cX3_vote 24 = .ok (.getfield 16, 3) := by decide +kernel
theorem dX3_vote_27 : decode cX3_vote 27 = .ok (.iload_n 1, 1) := by decide +kernel
theorem dX3_vote_28 : decode cX3_vote 28 = .ok (.iload_n 2, 1) := by decide +kernel
theorem dX3_vote_29 : decode cX3_vote 29 = .ok (.bastore, 1) := by decide +kernel
theorem dX3_vote_30 : decode cX3_vote 30 = .ok (.iload_n 3, 1) := by decide +kernel
theorem dX3_vote_31 : decode cX3_vote 31 = .ok (.ireturn, 1) := by decide +kernel
theorem dX3_strike_0 : decode cX3_strike 0 = .ok (.iconst 0, 1) := by decide +kernel
theorem dX3_strike_1 : decode cX3_strike 1 = .ok (.istore_n 1, 1) := by decide +kernel
theorem dX3_strike_2 : decode cX3_strike 2 = .ok (.iconst 0, 1) := by decide +kernel
theorem dX3_strike_3 : decode cX3_strike 3 = .ok (.istore_n 2, 1) := by decide +kernel
theorem dX3_strike_4 : decode cX3_strike 4 = .ok (.iload_n 2, 1) := by decide +kernel
theorem dX3_strike_5 : decode cX3_strike 5 = .ok (.aload_n 0, 1) := by decide +kernel
theorem dX3_strike_6 : decode cX3_strike 6 = .ok (.getfield 78, 3) := by decide +kernel
theorem dX3_strike_9 : decode cX3_strike 9 = .ok (.if_icmp .ge 39, 3) := by decide +kernel
theorem dX3_strike_12 : decode cX3_strike 12 = .ok (.iload_n 1, 1) := by decide +kernel
theorem dX3_strike_13 : decode cX3_strike 13 = .ok (.aload_n 0, 1) := by decide +kernel
theorem dX3_strike_14 : decode cX3_strike 14 = .ok (.getfield 7, 3) := by decide +kernel
theorem dX3_strike_17 : decode cX3_strike 17 = .ok (.iload_n 2, 1) := by decide +kernel
theorem dX3_strike_18 : decode cX3_strike 18 = .ok (.baload, 1) := by decide +kernel
theorem dX3_strike_19 : decode cX3_strike 19 = .ok (.ifCond .ne 7, 3) := by decide +kernel
theorem dX3_strike_22 : decode cX3_strike 22 = .ok (.iconst 0, 1) := by decide +kernel
theorem dX3_strike_23 : decode cX3_strike 23 = .ok (.goto 17, 3) := by decide +kernel
theorem dX3_strike_26 : decode cX3_strike 26 = .ok (.aload_n 0, 1) := by decide +kernel
theorem dX3_strike_27 : decode cX3_strike 27 = .ok (.getfield 16, 3) := by decide +kernel
theorem dX3_strike_30 : decode cX3_strike 30 = .ok (.iload_n 2, 1) := by decide +kernel
theorem dX3_strike_31 : decode cX3_strike 31 = .ok (.baload, 1) := by decide +kernel
theorem dX3_strike_32 : decode cX3_strike 32 = .ok (.ifCond .eq 7, 3) := by decide +kernel
theorem dX3_strike_35 : decode cX3_strike 35 = .ok (.iconst 1, 1) := by decide +kernel
theorem dX3_strike_36 : decode cX3_strike 36 = .ok (.goto 4, 3) := by decide +kernel
theorem dX3_strike_39 : decode cX3_strike 39 = .ok (.iconst (-1), 1) := by decide +kernel
theorem dX3_strike_40 : decode cX3_strike 40 = .ok (.iadd, 1) := by decide +kernel
theorem dX3_strike_41 : decode cX3_strike 41 = .ok (.istore_n 1, 1) := by decide +kernel
theorem dX3_strike_42 : decode cX3_strike 42 = .ok (.iinc 2 1, 3) := by decide +kernel
theorem dX3_strike_45 : decode cX3_strike 45 = .ok (.goto (-41), 3) := by decide +kernel
theorem dX3_strike_48 : decode cX3_strike 48 = .ok (.aload_n 0, 1) := by decide +kernel
theorem dX3_strike_49 : decode cX3_strike 49 = .ok (.aload_n 0, 1) := by decide +kernel
theorem dX3_strike_50 : decode cX3_strike 50 = .ok (.getfield 103, 3) := by decide +kernel
theorem dX3_strike_53 : decode cX3_strike 53 = .ok (.ifCond .ne 18, 3) := by decide +kernel
theorem dX3_strike_56 : decode cX3_strike 56 = .ok (.aload_n 0, 1) := by decide +kernel
theorem dX3_strike_57 : decode cX3_strike 57 = .ok (.getfield 100, 3) := by decide +kernel
theorem dX3_strike_60 : decode cX3_strike 60 = .ok (.ifCond .ne 7, 3) := by decide +kernel
theorem dX3_strike_63 : decode cX3_strike 63 = .ok (.iload_n 1, 1) := by decide +kernel
theorem dX3_strike_64 : decode cX3_strike 64 = .ok (.ifCond .le 7, 3) := by decide +kernel
theorem dX3_strike_67 : decode cX3_strike 67 = .ok (.iconst 1, 1) := by decide +kernel
theorem dX3_strike_68 : decode cX3_strike 68 = .ok (.goto 4, 3) := by decide +kernel
theorem dX3_strike_71 : decode cX3_strike 71 = .ok (.iconst 0, 1) := by decide +kernel
theorem dX3_strike_72 : decode cX3_strike 72 = .ok (.iconst 1, 1) := by decide +kernel
theorem dX3_strike_73 : decode cX3_strike 73 = .ok (.iconst 1, 1) := by decide +kernel
theorem dX3_strike_74 : decode cX3_strike 74 = .ok (.invokevirtual 89, 3) := by decide +kernel
theorem dX3_strike_77 : decode cX3_strike 77 = .ok (.ifCond .ne 5, 3) := by decide +kernel
theorem dX3_strike_80 : decode cX3_strike 80 = .ok (.iconst 0, 1) := by decide +kernel
theorem dX3_strike_81 : decode cX3_strike 81 = .ok (.ireturn, 1) := by decide +kernel
theorem dX3_strike_82 : decode cX3_strike 82 = .ok (.aload_n 0, 1) := by decide +kernel
theorem dX3_strike_83 : decode cX3_strike 83 = .ok (.aload_n 0, 1) := by decide +kernel
theorem dX3_strike_84 : decode cX3_strike 84 = .ok (.getfield 100, 3) := by decide +kernel
theorem dX3_strike_87 : decode cX3_strike 87 = .ok (.ifCond .ne 7, 3) := by decide +kernel
theorem dX3_strike_90 : decode cX3_strike 90 = .ok (.iconst 1, 1) := by decide +kernel
theorem dX3_strike_91 : decode cX3_strike 91 = .ok (.goto 4, 3) := by decide +kernel
theorem dX3_strike_94 : decode cX3_strike 94 = .ok (.iconst 0, 1) := by decide +kernel
theorem dX3_strike_95 : decode cX3_strike 95 = .ok (.putfield 100, 3) := by decide +kernel
theorem dX3_strike_98 : decode cX3_strike 98 = .ok (.aload_n 0, 1) := by decide +kernel
theorem dX3_strike_99 : decode cX3_strike 99 = .ok (.getfield 100, 3) := by decide +kernel
theorem dX3_strike_102 : decode cX3_strike 102 = .ok (.ireturn, 1) := by decide +kernel
theorem dX3_give_0 : decode cX3_give 0 = .ok (.aload_n 0, 1) := by decide +kernel
theorem dX3_give_1 : decode cX3_give 1 = .ok (.iload_n 1, 1) := by decide +kernel
theorem dX3_give_2 : decode cX3_give 2 = .ok (.iconst 1, 1) := by decide +kernel
theorem dX3_give_3 : decode cX3_give 3 = .ok (.sipush 1000, 3) := by decide +kernel
theorem dX3_give_6 : decode cX3_give 6 = .ok (.invokestatic 81, 3) := by decide +kernel
theorem dX3_give_9 : decode cX3_give 9 = .ok (.iconst 1, 1) := by decide +kernel
theorem dX3_give_10 : decode cX3_give 10 = .ok (.iconst 1, 1) := by decide +kernel
theorem dX3_give_11 : decode cX3_give 11 = .ok (.invokevirtual 89, 3) := by decide +kernel
theorem dX3_give_14 : decode cX3_give 14 = .ok (.ifCond .ne 5, 3) := by decide +kernel
theorem dX3_give_17 : decode cX3_give 17 = .ok (.iconst 0, 1) := by decide +kernel
theorem dX3_give_18 : decode cX3_give 18 = .ok (.ireturn, 1) := by decide +kernel
theorem dX3_give_19 : decode cX3_give 19 = .ok (.aload_n 0, 1) := by decide +kernel
theorem dX3_give_20 : decode cX3_give 20 = .ok (.dup, 1) := by decide +kernel
theorem dX3_give_21 : decode cX3_give 21 = .ok (.getfield 161, 3) := by decide +kernel
theorem dX3_give_24 : decode cX3_give 24 = .ok (.iload_n 1, 1) := by decide +kernel
theorem dX3_give_25 : decode cX3_give 25 = .ok (.iadd, 1) := by decide +kernel
theorem dX3_give_26 : decode cX3_give 26 = .ok (.putfield 161, 3) := by decide +kernel
theorem dX3_give_29 : decode cX3_give 29 = .ok (.aload_n 0, 1) := by decide +kernel
theorem dX3_give_30 : decode cX3_give 30 = .ok (.getfield 161, 3) := by decide +kernel
theorem dX3_give_33 : decode cX3_give 33 = .ok (.ireturn, 1) := by decide +kernel
theorem dX3_soup_0 : decode cX3_soup 0 = .ok (.aload_n 0, 1) := by decide +kernel
theorem dX3_soup_1 : decode cX3_soup 1 = .ok (.aload_n 0, 1) := by decide +kernel
theorem dX3_soup_2 : decode cX3_soup 2 = .ok (.getfield 100, 3) := by decide +kernel
theorem dX3_soup_5 : decode cX3_soup 5 = .ok (.iconst 1, 1) := by decide +kernel
theorem dX3_soup_6 : decode cX3_soup 6 = .ok (.iconst 1, 1) := by decide +kernel
theorem dX3_soup_7 : decode cX3_soup 7 = .ok (.invokevirtual 89, 3) := by decide +kernel
theorem dX3_soup_10 : decode cX3_soup 10 = .ok (.ifCond .ne 5, 3) := by decide +kernel
theorem dX3_soup_13 : decode cX3_soup 13 = .ok (.iconst 0, 1) := by decide +kernel
theorem dX3_soup_14 : decode cX3_soup 14 = .ok (.ireturn, 1) := by decide +kernel
theorem dX3_soup_15 : decode cX3_soup 15 = .ok (.iconst 0, 1) := by decide +kernel
theorem dX3_soup_16 : decode cX3_soup 16 = .ok (.istore_n 1, 1) := by decide +kernel
theorem dX3_soup_17 : decode cX3_soup 17 = .ok (.iconst 0, 1) := by decide +kernel
theorem dX3_soup_18 : decode cX3_soup 18 = .ok (.istore_n 2, 1) := by decide +kernel
theorem dX3_soup_19 : decode cX3_soup 19 = .ok (.aload_n 0, 1) := by decide +kernel
theorem dX3_soup_20 : decode cX3_soup 20 = .ok (.getfield 161, 3) := by decide +kernel
theorem dX3_soup_23 : decode cX3_soup 23 = .ok (.iconst 2, 1) := by decide +kernel
theorem dX3_soup_24 : decode cX3_soup 24 = .ok (.if_icmp .lt 117, 3) := by decide +kernel
theorem dX3_soup_27 : decode cX3_soup 27 = .ok (.iload_n 2, 1) := by decide +kernel
theorem dX3_soup_28 : decode cX3_soup 28 = .ok (.iconst (-1), 1) := by decide +kernel
theorem dX3_soup_29 : decode cX3_soup 29 = .ok (.if_icmp .eq 112, 3) := by decide +kernel
theorem dX3_soup_32 : decode cX3_soup 32 = .ok (.iconst (-1), 1) := by decide +kernel
theorem dX3_soup_33 : decode cX3_soup 33 = .ok (.istore_n 2, 1) := by decide +kernel
theorem dX3_soup_34 : decode cX3_soup 34 = .ok (.iconst 0, 1) := by decide +kernel
theorem dX3_soup_35 : decode cX3_soup 35 = .ok (.istore_n 3, 1) := by decide +kernel
theorem dX3_soup_36 : decode cX3_soup 36 = .ok (.iload_n 3, 1) := by decide +kernel
theorem dX3_soup_37 : decode cX3_soup 37 = .ok (.aload_n 0, 1) := by decide +kernel
theorem dX3_soup_38 : decode cX3_soup 38 = .ok (.getfield 78, 3) := by decide +kernel
theorem dX3_soup_41 : decode cX3_soup 41 = .ok (.if_icmp .ge 76, 3) := by decide +kernel
theorem dX3_soup_44 : decode cX3_soup 44 = .ok (.aload_n 0, 1) := by decide +kernel
theorem dX3_soup_45 : decode cX3_soup 45 = .ok (.getfield 7, 3) := by decide +kernel
theorem dX3_soup_48 : decode cX3_soup 48 = .ok (.iload_n 3, 1) := by decide +kernel
theorem dX3_soup_49 : decode cX3_soup 49 = .ok (.baload, 1) := by decide +kernel
theorem dX3_soup_50 : decode cX3_soup 50 = .ok (.ifCond .eq 15, 3) := by decide +kernel
theorem dX3_soup_53 : decode cX3_soup 53 = .ok (.iload_n 1, 1) := by decide +kernel
theorem dX3_soup_54 : decode cX3_soup 54 = .ok (.iload_n 3, 1) := by decide +kernel
theorem dX3_soup_55 : decode cX3_soup 55 = .ok (.ishr, 1) := by decide +kernel
theorem dX3_soup_56 : decode cX3_soup 56 = .ok (.iconst 1, 1) := by decide +kernel
theorem dX3_soup_57 : decode cX3_soup 57 = .ok (.iand, 1) := by decide +kernel
theorem dX3_soup_58 : decode cX3_soup 58 = .ok (.ifCond .ne 7, 3) := by decide +kernel
theorem dX3_soup_61 : decode cX3_soup 61 = .ok (.iconst 1, 1) := by decide +kernel
theorem dX3_soup_62 : decode cX3_soup 62 = .ok (.goto 4, 3) := by decide +kernel
theorem dX3_soup_65 : decode cX3_soup 65 = .ok (.iconst 0, 1) := by decide +kernel
theorem dX3_soup_66 : decode cX3_soup 66 = .ok (.istore 4, 2) := by decide +kernel
theorem dX3_soup_68 : decode cX3_soup 68 = .ok (.iload 4, 2) := by decide +kernel
theorem dX3_soup_70 : decode cX3_soup 70 = .ok (.ifCond .eq 39, 3) := by decide +kernel
theorem dX3_soup_73 : decode cX3_soup 73 = .ok (.iload_n 2, 1) := by decide +kernel
theorem dX3_soup_74 : decode cX3_soup 74 = .ok (.iconst (-1), 1) := by decide +kernel
theorem dX3_soup_75 : decode cX3_soup 75 = .ok (.if_icmp .eq 30, 3) := by decide +kernel
theorem dX3_soup_78 : decode cX3_soup 78 = .ok (.aload_n 0, 1) := by decide +kernel
theorem dX3_soup_79 : decode cX3_soup 79 = .ok (.getfield 23, 3) := by decide +kernel
theorem dX3_soup_82 : decode cX3_soup 82 = .ok (.iload_n 3, 1) := by decide +kernel
theorem dX3_soup_83 : decode cX3_soup 83 = .ok (.iaload, 1) := by decide +kernel
theorem dX3_soup_84 : decode cX3_soup 84 = .ok (.aload_n 0, 1) := by decide +kernel
theorem dX3_soup_85 : decode cX3_soup 85 = .ok (.iload_n 3, 1) := by decide +kernel
theorem dX3_soup_86 : decode cX3_soup 86 = .ok (.invokevirtual 141, 3) := by decide +kernel
theorem dX3_soup_89 : decode cX3_soup 89 = .ok (.iadd, 1) := by decide +kernel
theorem dX3_soup_90 : decode cX3_soup 90 = .ok (.aload_n 0, 1) := by decide +kernel
theorem dX3_soup_91 : decode cX3_soup 91 = .ok (.getfield 23, 3) := by decide +kernel
theorem dX3_soup_94 : decode cX3_soup 94 = .ok (.iload_n 2, 1) := by decide +kernel
theorem dX3_soup_95 : decode cX3_soup 95 = .ok (.iaload, 1) := by decide +kernel
theorem dX3_soup_96 : decode cX3_soup 96 = .ok (.aload_n 0, 1) := by decide +kernel
theorem dX3_soup_97 : decode cX3_soup 97 = .ok (.iload_n 2, 1) := by decide +kernel
theorem dX3_soup_98 : decode cX3_soup 98 = .ok (.invokevirtual 141, 3) := by decide +kernel
theorem dX3_soup_101 : decode cX3_soup 101 = .ok (.iadd, 1) := by decide +kernel
theorem dX3_soup_102 : decode cX3_soup 102 = .ok (.if_icmp .ge 7, 3) := by decide +kernel
theorem dX3_soup_105 : decode cX3_soup 105 = .ok (.iload_n 3, 1) := by decide +kernel
theorem dX3_soup_106 : decode cX3_soup 106 = .ok (.goto 4, 3) := by decide +kernel
theorem dX3_soup_109 : decode cX3_soup 109 = .ok (.iload_n 2, 1) := by decide +kernel
theorem dX3_soup_110 : decode cX3_soup 110 = .ok (.istore_n 2, 1) := by decide +kernel
theorem dX3_soup_111 : decode cX3_soup 111 = .ok (.iinc 3 1, 3) := by decide +kernel
theorem dX3_soup_114 : decode cX3_soup 114 = .ok (.goto (-78), 3) := by decide +kernel
theorem dX3_soup_117 : decode cX3_soup 117 = .ok (.iload_n 2, 1) := by decide +kernel
theorem dX3_soup_118 : decode cX3_soup 118 = .ok (.iconst (-1), 1) := by decide +kernel
theorem dX3_soup_119 : decode cX3_soup 119 = .ok (.if_icmp .eq (-100), 3) := by decide +kernel
theorem dX3_soup_122 : decode cX3_soup 122 = .ok (.iload_n 1, 1) := by decide +kernel
theorem dX3_soup_123 : decode cX3_soup 123 = .ok (.iconst 1, 1) := by decide +kernel
theorem dX3_soup_124 : decode cX3_soup 124 = .ok (.iload_n 2, 1) := by decide +kernel
theorem dX3_soup_125 : decode cX3_soup 125 = .ok (.ishl, 1) := by decide +kernel
theorem dX3_soup_126 : decode cX3_soup 126 = .ok (.ior, 1) := by decide +kernel
theorem dX3_soup_127 : decode cX3_soup 127 = .ok (.istore_n 1, 1) := by decide +kernel
theorem dX3_soup_128 : decode cX3_soup 128 = .ok (.aload_n 0, 1) := by decide +kernel
theorem dX3_soup_129 : decode cX3_soup 129 = .ok (.dup, 1) := by decide +kernel
theorem dX3_soup_130 : decode cX3_soup 130 = .ok (.getfield 161, 3) := by decide +kernel
theorem dX3_soup_133 : decode cX3_soup 133 = .ok (.iconst 2, 1) := by decide +kernel
theorem dX3_soup_134 : decode cX3_soup 134 = .ok (.isub, 1) := by decide +kernel
theorem dX3_soup_135 : decode cX3_soup 135 = .ok (.putfield 161, 3) := by decide +kernel
theorem dX3_soup_138 : decode cX3_soup 138 = .ok (.goto (-119), 3) := by decide +kernel
theorem dX3_soup_141 : decode cX3_soup 141 = .ok (.iload_n 1, 1) := by decide +kernel
theorem dX3_soup_142 : decode cX3_soup 142 = .ok (.ireturn, 1) := by decide +kernel
theorem dX3_redeems_0 : decode cX3_redeems 0 = .ok (.lconst 0, 1) := by decide +kernel
theorem dX3_redeems_1 : decode cX3_redeems 1 = .ok (.lstore_n 3, 1) := by decide +kernel
theorem dX3_redeems_2 : decode cX3_redeems 2 = .ok (.iconst 0, 1) := by decide +kernel
theorem dX3_redeems_3 : decode cX3_redeems 3 = .ok (.istore 5, 2) := by decide +kernel
theorem dX3_redeems_5 : decode cX3_redeems 5 = .ok (.iload 5, 2) := by decide +kernel
theorem dX3_redeems_7 : decode cX3_redeems 7 = .ok (.aload_n 0, 1) := by decide +kernel
theorem dX3_redeems_8 : decode cX3_redeems 8 = .ok (.getfield 78, 3) := by decide +kernel
theorem dX3_redeems_11 : decode cX3_redeems 11 = .ok (.if_icmp .ge 25, 3) := by decide +kernel
theorem dX3_redeems_14 : decode cX3_redeems 14 = .ok (.lload_n 3, 1) := by decide +kernel
theorem dX3_redeems_15 : decode cX3_redeems 15 = .ok (.aload_n 0, 1) := by decide +kernel
theorem dX3_redeems_16 : decode cX3_redeems 16 = .ok (.getfield 41, 3) := by decide +kernel
theorem dX3_redeems_19 : decode cX3_redeems 19 = .ok (.bipush 40, 2) := by decide +kernel
theorem dX3_redeems_21 : decode cX3_redeems 21 = .ok (.iload 5, 2) := by decide +kernel
theorem dX3_redeems_23 : decode cX3_redeems 23 = .ok (.imul, 1) := by decide +kernel
theorem dX3_redeems_24 : decode cX3_redeems 24 = .ok (.iload_n 1, 1) := by decide +kernel
theorem dX3_redeems_25 : decode cX3_redeems 25 = .ok (.iadd, 1) := by decide +kernel
theorem dX3_redeems_26 : decode cX3_redeems 26 = .ok (.iaload, 1) := by decide +kernel
theorem dX3_redeems_27 : decode cX3_redeems 27 = .ok (.i2l, 1) := by decide +kernel
theorem dX3_redeems_28 : decode cX3_redeems 28 = .ok (.ladd, 1) := by decide +kernel
theorem dX3_redeems_29 : decode cX3_redeems 29 = .ok (.lstore_n 3, 1) := by decide +kernel
theorem dX3_redeems_30 : decode cX3_redeems 30 = .ok (.iinc 5 1, 3) := by decide +kernel
theorem dX3_redeems_33 : decode cX3_redeems 33 = .ok (.goto (-28), 3) := by decide +kernel
theorem dX3_redeems_36 : decode cX3_redeems 36 = .ok (.iload_n 2, 1) := by decide +kernel
theorem dX3_redeems_37 : decode cX3_redeems 37 = .ok (.istore 5, 2) := by decide +kernel
theorem dX3_redeems_39 : decode cX3_redeems 39 = .ok (.iconst 0, 1) := by decide +kernel
theorem dX3_redeems_40 : decode cX3_redeems 40 = .ok (.istore 6, 2) := by decide +kernel
theorem dX3_redeems_42 : decode cX3_redeems 42 = .ok (.iload 6, 2) := by decide +kernel
theorem dX3_redeems_44 : decode cX3_redeems 44 = .ok (.aload_n 0, 1) := by decide +kernel
theorem dX3_redeems_45 : decode cX3_redeems 45 = .ok (.getfield 78, 3) := by decide +kernel
theorem dX3_redeems_48 : decode cX3_redeems 48 = .ok (.if_icmp .ge 103, 3) := by decide +kernel
theorem dX3_redeems_51 : decode cX3_redeems 51 = .ok (.aload_n 0, 1) := by decide +kernel
theorem dX3_redeems_52 : decode cX3_redeems 52 = .ok (.getfield 41, 3) := by decide +kernel
theorem dX3_redeems_55 : decode cX3_redeems 55 = .ok (.bipush 40, 2) := by decide +kernel
theorem dX3_redeems_57 : decode cX3_redeems 57 = .ok (.iload 6, 2) := by decide +kernel
theorem dX3_redeems_59 : decode cX3_redeems 59 = .ok (.imul, 1) := by decide +kernel
theorem dX3_redeems_60 : decode cX3_redeems 60 = .ok (.iload_n 1, 1) := by decide +kernel
theorem dX3_redeems_61 : decode cX3_redeems 61 = .ok (.iadd, 1) := by decide +kernel
theorem dX3_redeems_62 : decode cX3_redeems 62 = .ok (.iaload, 1) := by decide +kernel
theorem dX3_redeems_63 : decode cX3_redeems 63 = .ok (.istore 7, 2) := by decide +kernel
theorem dX3_redeems_65 : decode cX3_redeems 65 = .ok (.lload_n 3, 1) := by decide +kernel
theorem dX3_redeems_66 : decode cX3_redeems 66 = .ok (.lconst 0, 1) := by decide +kernel
theorem dX3_redeems_67 : decode cX3_redeems 67 = .ok (.lcmp, 1) := by decide +kernel
theorem dX3_redeems_68 : decode cX3_redeems 68 = .ok (.ifCond .ne 7, 3) := by decide +kernel
theorem dX3_redeems_71 : decode cX3_redeems 71 = .ok (.lconst 0, 1) := by decide +kernel
theorem dX3_redeems_72 : decode cX3_redeems 72 = .ok (.goto 11, 3) := by decide +kernel
theorem dX3_redeems_75 : decode cX3_redeems 75 = .ok (.iload 7, 2) := by decide +kernel
theorem dX3_redeems_77 : decode cX3_redeems 77 = .ok (.i2l, 1) := by decide +kernel
theorem dX3_redeems_78 : decode cX3_redeems 78 = .ok (.iload_n 2, 1) := by decide +kernel
theorem dX3_redeems_79 : decode cX3_redeems 79 = .ok (.i2l, 1) := by decide +kernel
theorem dX3_redeems_80 : decode cX3_redeems 80 = .ok (.lmul, 1) := by decide +kernel
theorem dX3_redeems_81 : decode cX3_redeems 81 = .ok (.lload_n 3, 1) := by decide +kernel
theorem dX3_redeems_82 : decode cX3_redeems 82 = .ok (.ldiv, 1) := by decide +kernel
theorem dX3_redeems_83 : decode cX3_redeems 83 = .ok (.lstore 8, 2) := by decide +kernel
theorem dX3_redeems_85 : decode cX3_redeems 85 = .ok (.iload_n 2, 1) := by decide +kernel
theorem dX3_redeems_86 : decode cX3_redeems 86 = .ok (.i2l, 1) := by decide +kernel
theorem dX3_redeems_87 : decode cX3_redeems 87 = .ok (.lload_n 3, 1) := by decide +kernel
theorem dX3_redeems_88 : decode cX3_redeems 88 = .ok (.lcmp, 1) := by decide +kernel
theorem dX3_redeems_89 : decode cX3_redeems 89 = .ok (.ifCond .lt 8, 3) := by decide +kernel
theorem dX3_redeems_92 : decode cX3_redeems 92 = .ok (.iload 7, 2) := by decide +kernel
theorem dX3_redeems_94 : decode cX3_redeems 94 = .ok (.goto 6, 3) := by decide +kernel
theorem dX3_redeems_97 : decode cX3_redeems 97 = .ok (.lload 8, 2) := by decide +kernel
theorem dX3_redeems_99 : decode cX3_redeems 99 = .ok (.l2i, 1) := by decide +kernel
theorem dX3_redeems_100 : decode cX3_redeems 100 = .ok (.istore 10, 2) := by decide +kernel
theorem dX3_redeems_102 : decode cX3_redeems 102 = .ok (.aload_n 0, 1) := by decide +kernel
theorem dX3_redeems_103 : decode cX3_redeems 103 = .ok (.getfield 23, 3) := by decide +kernel
theorem dX3_redeems_106 : decode cX3_redeems 106 = .ok (.iload 6, 2) := by decide +kernel
theorem dX3_redeems_108 : decode cX3_redeems 108 = .ok (.dup2, 1) := by decide +kernel
theorem dX3_redeems_109 : decode cX3_redeems 109 = .ok (.iaload, 1) := by decide +kernel
theorem dX3_redeems_110 : decode cX3_redeems 110 = .ok (.iload 10, 2) := by decide +kernel
theorem dX3_redeems_112 : decode cX3_redeems 112 = .ok (.iadd, 1) := by decide +kernel
theorem dX3_redeems_113 : decode cX3_redeems 113 = .ok (.iastore, 1) := by decide +kernel
theorem dX3_redeems_114 : decode cX3_redeems 114 = .ok (.iload 5, 2) := by decide +kernel
theorem dX3_redeems_116 : decode cX3_redeems 116 = .ok (.iload 10, 2) := by decide +kernel
theorem dX3_redeems_118 : decode cX3_redeems 118 = .ok (.isub, 1) := by decide +kernel
theorem dX3_redeems_119 : decode cX3_redeems 119 = .ok (.istore 5, 2) := by decide +kernel
theorem dX3_redeems_121 : decode cX3_redeems 121 = .ok (.aload_n 0, 1) := by decide +kernel
theorem dX3_redeems_122 : decode cX3_redeems 122 = .ok (.getfield 59, 3) := by decide +kernel
theorem dX3_redeems_125 : decode cX3_redeems 125 = .ok (.iconst 5, 1) := by decide +kernel
theorem dX3_redeems_126 : decode cX3_redeems 126 = .ok (.dup2, 1) := by decide +kernel
theorem dX3_redeems_127 : decode cX3_redeems 127 = .ok (.iaload, 1) := by decide +kernel
theorem dX3_redeems_128 : decode cX3_redeems 128 = .ok (.iload 7, 2) := by decide +kernel
theorem dX3_redeems_130 : decode cX3_redeems 130 = .ok (.iadd, 1) := by decide +kernel
theorem dX3_redeems_131 : decode cX3_redeems 131 = .ok (.iastore, 1) := by decide +kernel
theorem dX3_redeems_132 : decode cX3_redeems 132 = .ok (.aload_n 0, 1) := by decide +kernel
theorem dX3_redeems_133 : decode cX3_redeems 133 = .ok (.getfield 41, 3) := by decide +kernel
theorem dX3_redeems_136 : decode cX3_redeems 136 = .ok (.bipush 40, 2) := by decide +kernel
theorem dX3_redeems_138 : decode cX3_redeems 138 = .ok (.iload 6, 2) := by decide +kernel
theorem dX3_redeems_140 : decode cX3_redeems 140 = .ok (.imul, 1) := by decide +kernel
theorem dX3_redeems_141 : decode cX3_redeems 141 = .ok (.iload_n 1, 1) := by decide +kernel
theorem dX3_redeems_142 : decode cX3_redeems 142 = .ok (.iadd, 1) := by decide +kernel
theorem dX3_redeems_143 : decode cX3_redeems 143 = .ok (.iconst 0, 1) := by decide +kernel
theorem dX3_redeems_144 : decode cX3_redeems 144 = .ok (.iastore, 1) := by decide +kernel
theorem dX3_redeems_145 : decode cX3_redeems 145 = .ok (.iinc 6 1, 3) := by decide +kernel
theorem dX3_redeems_148 : decode cX3_redeems 148 = .ok (.goto (-106), 3) := by decide +kernel
theorem dX3_redeems_151 : decode cX3_redeems 151 = .ok (.iload 5, 2) := by decide +kernel
theorem dX3_redeems_153 : decode cX3_redeems 153 = .ok (.ireturn, 1) := by decide +kernel
theorem dX3_close_0 : decode cX3_close 0 = .ok (.aload_n 0, 1) := by decide +kernel
theorem dX3_close_1 : decode cX3_close 1 = .ok (.iload_n 1, 1) := by decide +kernel
theorem dX3_close_2 : decode cX3_close 2 = .ok (.iconst 0, 1) := by decide +kernel
theorem dX3_close_3 : decode cX3_close 3 = .ok (.ldc 154, 2) := by decide +kernel
theorem dX3_close_5 : decode cX3_close 5 = .ok (.invokestatic 81, 3) := by decide +kernel
theorem dX3_close_8 : decode cX3_close 8 = .ok (.aload_n 0, 1) := by decide +kernel
theorem dX3_close_9 : decode cX3_close 9 = .ok (.getfield 103, 3) := by decide +kernel
theorem dX3_close_12 : decode cX3_close 12 = .ok (.ifCond .ne 7, 3) := by decide +kernel
theorem dX3_close_15 : decode cX3_close 15 = .ok (.iconst 1, 1) := by decide +kernel
theorem dX3_close_16 : decode cX3_close 16 = .ok (.goto 4, 3) := by decide +kernel
theorem dX3_close_19 : decode cX3_close 19 = .ok (.iconst 0, 1) := by decide +kernel
theorem dX3_close_20 : decode cX3_close 20 = .ok (.iconst 1, 1) := by decide +kernel
theorem dX3_close_21 : decode cX3_close 21 = .ok (.invokevirtual 89, 3) := by decide +kernel
theorem dX3_close_24 : decode cX3_close 24 = .ok (.ifCond .ne 5, 3) := by decide +kernel
theorem dX3_close_27 : decode cX3_close 27 = .ok (.iconst 0, 1) := by decide +kernel
theorem dX3_close_28 : decode cX3_close 28 = .ok (.ireturn, 1) := by decide +kernel
theorem dX3_close_29 : decode cX3_close 29 = .ok (.iload_n 1, 1) := by decide +kernel
theorem dX3_close_30 : decode cX3_close 30 = .ok (.istore_n 2, 1) := by decide +kernel
theorem dX3_close_31 : decode cX3_close 31 = .ok (.iconst 0, 1) := by decide +kernel
theorem dX3_close_32 : decode cX3_close 32 = .ok (.istore_n 3, 1) := by decide +kernel
theorem dX3_close_33 : decode cX3_close 33 = .ok (.iload_n 3, 1) := by decide +kernel
theorem dX3_close_34 : decode cX3_close 34 = .ok (.bipush 40, 2) := by decide +kernel
theorem dX3_close_36 : decode cX3_close 36 = .ok (.if_icmp .ge 16, 3) := by decide +kernel
theorem dX3_close_39 : decode cX3_close 39 = .ok (.aload_n 0, 1) := by decide +kernel
theorem dX3_close_40 : decode cX3_close 40 = .ok (.iload_n 3, 1) := by decide +kernel
theorem dX3_close_41 : decode cX3_close 41 = .ok (.iload_n 2, 1) := by decide +kernel
theorem dX3_close_42 : decode cX3_close 42 = .ok (.invokevirtual 164, 3) := by decide +kernel
theorem dX3_close_45 : decode cX3_close 45 = .ok (.istore_n 2, 1) := by decide +kernel
theorem dX3_close_46 : decode cX3_close 46 = .ok (.iinc 3 1, 3) := by decide +kernel
theorem dX3_close_49 : decode cX3_close 49 = .ok (.goto (-16), 3) := by decide +kernel
theorem dX3_close_52 : decode cX3_close 52 = .ok (.aload_n 0, 1) := by decide +kernel
theorem dX3_close_53 : decode cX3_close 53 = .ok (.iconst 1, 1) := by decide +kernel
theorem dX3_close_54 : decode cX3_close 54 = .ok (.putfield 103, 3) := by decide +kernel
theorem dX3_close_57 : decode cX3_close 57 = .ok (.aload_n 0, 1) := by decide +kernel
theorem dX3_close_58 : decode cX3_close 58 = .ok (.iconst 0, 1) := by decide +kernel
theorem dX3_close_59 : decode cX3_close 59 = .ok (.putfield 100, 3) := by decide +kernel
theorem dX3_close_62 : decode cX3_close 62 = .ok (.iload_n 2, 1) := by decide +kernel
theorem dX3_close_63 : decode cX3_close 63 = .ok (.ireturn, 1) := by decide +kernel
theorem dX3_about_0 : decode cX3_about 0 = .ok (.aload_n 0, 1) := by decide +kernel
theorem dX3_about_1 : decode cX3_about 1 = .ok (.aload_n 0, 1) := by decide +kernel
theorem dX3_about_2 : decode cX3_about 2 = .ok (.iload_n 1, 1) := by decide +kernel
theorem dX3_about_3 : decode cX3_about 3 = .ok (.invokevirtual 85, 3) := by decide +kernel
theorem dX3_about_6 : decode cX3_about 6 = .ok (.iload_n 2, 1) := by decide +kernel
theorem dX3_about_7 : decode cX3_about 7 = .ok (.iconst 0, 1) := by decide +kernel
theorem dX3_about_8 : decode cX3_about 8 = .ok (.bipush 9, 2) := by decide +kernel
theorem dX3_about_10 : decode cX3_about 10 = .ok (.invokestatic 81, 3) := by decide +kernel
theorem dX3_about_13 : decode cX3_about 13 = .ok (.iconst 1, 1) := by decide +kernel
theorem dX3_about_14 : decode cX3_about 14 = .ok (.invokevirtual 89, 3) := by decide +kernel
theorem dX3_about_17 : decode cX3_about 17 = .ok (.ifCond .ne 5, 3) := by decide +kernel
theorem dX3_about_20 : decode cX3_about 20 = .ok (.iconst 0, 1) := by decide +kernel
theorem dX3_about_21 : decode cX3_about 21 = .ok (.ireturn, 1) := by decide +kernel
theorem dX3_about_22 : decode cX3_about 22 = .ok (.iload_n 2, 1) := by decide +kernel
theorem dX3_about_23 : decode cX3_about 23 = .ok (.tableswitch 127 0 8 #[49, 64, 71, 78, 84, 91, 98, 113, 120], 49) := by decide +kernel
theorem dX3_about_72 : decode cX3_about 72 = .ok (.aload_n 0, 1) := by decide +kernel
theorem dX3_about_73 : decode cX3_about 73 = .ok (.getfield 7, 3) := by decide +kernel
theorem dX3_about_76 : decode cX3_about 76 = .ok (.iload_n 1, 1) := by decide +kernel
theorem dX3_about_77 : decode cX3_about 77 = .ok (.baload, 1) := by decide +kernel
theorem dX3_about_78 : decode cX3_about 78 = .ok (.ifCond .eq 7, 3) := by decide +kernel
theorem dX3_about_81 : decode cX3_about 81 = .ok (.iconst 1, 1) := by decide +kernel
theorem dX3_about_82 : decode cX3_about 82 = .ok (.goto 4, 3) := by decide +kernel
theorem dX3_about_85 : decode cX3_about 85 = .ok (.iconst 0, 1) := by decide +kernel
theorem dX3_about_86 : decode cX3_about 86 = .ok (.ireturn, 1) := by decide +kernel
theorem dX3_about_87 : decode cX3_about 87 = .ok (.aload_n 0, 1) := by decide +kernel
theorem dX3_about_88 : decode cX3_about 88 = .ok (.getfield 19, 3) := by decide +kernel
theorem dX3_about_91 : decode cX3_about 91 = .ok (.iload_n 1, 1) := by decide +kernel
theorem dX3_about_92 : decode cX3_about 92 = .ok (.iaload, 1) := by decide +kernel
theorem dX3_about_93 : decode cX3_about 93 = .ok (.ireturn, 1) := by decide +kernel
theorem dX3_about_94 : decode cX3_about 94 = .ok (.aload_n 0, 1) := by decide +kernel
theorem dX3_about_95 : decode cX3_about 95 = .ok (.getfield 23, 3) := by decide +kernel
theorem dX3_about_98 : decode cX3_about 98 = .ok (.iload_n 1, 1) := by decide +kernel
theorem dX3_about_99 : decode cX3_about 99 = .ok (.iaload, 1) := by decide +kernel
theorem dX3_about_100 : decode cX3_about 100 = .ok (.ireturn, 1) := by decide +kernel
theorem dX3_about_101 : decode cX3_about 101 = .ok (.aload_n 0, 1) := by decide +kernel
theorem dX3_about_102 : decode cX3_about 102 = .ok (.iload_n 1, 1) := by decide +kernel
theorem dX3_about_103 : decode cX3_about 103 = .ok (.invokevirtual 141, 3) := by decide +kernel
theorem dX3_about_106 : decode cX3_about 106 = .ok (.ireturn, 1) := by decide +kernel
theorem dX3_about_107 : decode cX3_about 107 = .ok (.aload_n 0, 1) := by decide +kernel
theorem dX3_about_108 : decode cX3_about 108 = .ok (.getfield 26, 3) := by decide +kernel
theorem dX3_about_111 : decode cX3_about 111 = .ok (.iload_n 1, 1) := by decide +kernel
theorem dX3_about_112 : decode cX3_about 112 = .ok (.iaload, 1) := by decide +kernel
theorem dX3_about_113 : decode cX3_about 113 = .ok (.ireturn, 1) := by decide +kernel
theorem dX3_about_114 : decode cX3_about 114 = .ok (.aload_n 0, 1) := by decide +kernel
theorem dX3_about_115 : decode cX3_about 115 = .ok (.getfield 29, 3) := by decide +kernel
theorem dX3_about_118 : decode cX3_about 118 = .ok (.iload_n 1, 1) := by decide +kernel
theorem dX3_about_119 : decode cX3_about 119 = .ok (.iaload, 1) := by decide +kernel
theorem dX3_about_120 : decode cX3_about 120 = .ok (.ireturn, 1) := by decide +kernel
theorem dX3_about_121 : decode cX3_about 121 = .ok (.aload_n 0, 1) := by decide +kernel
theorem dX3_about_122 : decode cX3_about 122 = .ok (.getfield 13, 3) := by decide +kernel
theorem dX3_about_125 : decode cX3_about 125 = .ok (.iload_n 1, 1) := by decide +kernel
theorem dX3_about_126 : decode cX3_about 126 = .ok (.baload, 1) := by decide +kernel
theorem dX3_about_127 : decode cX3_about 127 = .ok (.ifCond .eq 7, 3) := by decide +kernel
theorem dX3_about_130 : decode cX3_about 130 = .ok (.iconst 1, 1) := by decide +kernel
theorem dX3_about_131 : decode cX3_about 131 = .ok (.goto 4, 3) := by decide +kernel
theorem dX3_about_134 : decode cX3_about 134 = .ok (.iconst 0, 1) := by decide +kernel
theorem dX3_about_135 : decode cX3_about 135 = .ok (.ireturn, 1) := by decide +kernel
theorem dX3_about_136 : decode cX3_about 136 = .ok (.aload_n 0, 1) := by decide +kernel
theorem dX3_about_137 : decode cX3_about 137 = .ok (.getfield 32, 3) := by decide +kernel
theorem dX3_about_140 : decode cX3_about 140 = .ok (.iload_n 1, 1) := by decide +kernel
theorem dX3_about_141 : decode cX3_about 141 = .ok (.iaload, 1) := by decide +kernel
theorem dX3_about_142 : decode cX3_about 142 = .ok (.ireturn, 1) := by decide +kernel
theorem dX3_about_143 : decode cX3_about 143 = .ok (.aload_n 0, 1) := by decide +kernel
theorem dX3_about_144 : decode cX3_about 144 = .ok (.getfield 35, 3) := by decide +kernel
theorem dX3_about_147 : decode cX3_about 147 = .ok (.iload_n 1, 1) := by decide +kernel
theorem dX3_about_148 : decode cX3_about 148 = .ok (.iaload, 1) := by decide +kernel
theorem dX3_about_149 : decode cX3_about 149 = .ok (.ireturn, 1) := by decide +kernel
theorem dX3_about_150 : decode cX3_about 150 = .ok (.aload_n 0, 1) := by decide +kernel
theorem dX3_about_151 : decode cX3_about 151 = .ok (.getfield 38, 3) := by decide +kernel
theorem dX3_about_154 : decode cX3_about 154 = .ok (.iload_n 1, 1) := by decide +kernel
theorem dX3_about_155 : decode cX3_about 155 = .ok (.iaload, 1) := by decide +kernel
theorem dX3_about_156 : decode cX3_about 156 = .ok (.ireturn, 1) := by decide +kernel
theorem dX3_has_0 : decode cX3_has 0 = .ok (.aload_n 0, 1) := by decide +kernel
theorem dX3_has_1 : decode cX3_has 1 = .ok (.aload_n 0, 1) := by decide +kernel
theorem dX3_has_2 : decode cX3_has 2 = .ok (.iload_n 1, 1) := by decide +kernel
theorem dX3_has_3 : decode cX3_has 3 = .ok (.invokevirtual 85, 3) := by decide +kernel
theorem dX3_has_6 : decode cX3_has 6 = .ok (.ifCond .eq 14, 3) := by decide +kernel
theorem dX3_has_9 : decode cX3_has 9 = .ok (.iload_n 2, 1) := by decide +kernel
theorem dX3_has_10 : decode cX3_has 10 = .ok (.invokestatic 132, 3) := by decide +kernel
theorem dX3_has_13 : decode cX3_has 13 = .ok (.ifCond .eq 7, 3) := by decide +kernel
theorem dX3_has_16 : decode cX3_has 16 = .ok (.iconst 1, 1) := by decide +kernel
theorem dX3_has_17 : decode cX3_has 17 = .ok (.goto 4, 3) := by decide +kernel
theorem dX3_has_20 : decode cX3_has 20 = .ok (.iconst 0, 1) := by decide +kernel
theorem dX3_has_21 : decode cX3_has 21 = .ok (.iconst 1, 1) := by decide +kernel
theorem dX3_has_22 : decode cX3_has 22 = .ok (.iconst 1, 1) := by decide +kernel
theorem dX3_has_23 : decode cX3_has 23 = .ok (.invokevirtual 89, 3) := by decide +kernel
theorem dX3_has_26 : decode cX3_has 26 = .ok (.ifCond .eq 16, 3) := by decide +kernel
theorem dX3_has_29 : decode cX3_has 29 = .ok (.aload_n 0, 1) := by decide +kernel
theorem dX3_has_30 : decode cX3_has 30 = .ok (.getfield 44, 3) := by decide +kernel
theorem dX3_has_33 : decode cX3_has 33 = .ok (.iconst 4, 1) := by decide +kernel
theorem dX3_has_34 : decode cX3_has 34 = .ok (.iload_n 1, 1) := by decide +kernel
theorem dX3_has_35 : decode cX3_has 35 = .ok (.imul, 1) := by decide +kernel
theorem dX3_has_36 : decode cX3_has 36 = .ok (.iload_n 2, 1) := by decide +kernel
theorem dX3_has_37 : decode cX3_has 37 = .ok (.iadd, 1) := by decide +kernel
theorem dX3_has_38 : decode cX3_has 38 = .ok (.iaload, 1) := by decide +kernel
theorem dX3_has_39 : decode cX3_has 39 = .ok (.goto 4, 3) := by decide +kernel
theorem dX3_has_42 : decode cX3_has 42 = .ok (.iconst 0, 1) := by decide +kernel
theorem dX3_has_43 : decode cX3_has 43 = .ok (.ireturn, 1) := by decide +kernel
theorem dX3_scrip_0 : decode cX3_scrip 0 = .ok (.aload_n 0, 1) := by decide +kernel
theorem dX3_scrip_1 : decode cX3_scrip 1 = .ok (.aload_n 0, 1) := by decide +kernel
theorem dX3_scrip_2 : decode cX3_scrip 2 = .ok (.iload_n 1, 1) := by decide +kernel
theorem dX3_scrip_3 : decode cX3_scrip 3 = .ok (.invokevirtual 85, 3) := by decide +kernel
theorem dX3_scrip_6 : decode cX3_scrip 6 = .ok (.iload_n 2, 1) := by decide +kernel
theorem dX3_scrip_7 : decode cX3_scrip 7 = .ok (.iconst 0, 1) := by decide +kernel
theorem dX3_scrip_8 : decode cX3_scrip 8 = .ok (.bipush 39, 2) := by decide +kernel
theorem dX3_scrip_10 : decode cX3_scrip 10 = .ok (.invokestatic 81, 3) := by decide +kernel
theorem dX3_scrip_13 : decode cX3_scrip 13 = .ok (.iconst 1, 1) := by decide +kernel
theorem dX3_scrip_14 : decode cX3_scrip 14 = .ok (.invokevirtual 89, 3) := by decide +kernel
theorem dX3_scrip_17 : decode cX3_scrip 17 = .ok (.ifCond .eq 17, 3) := by decide +kernel
theorem dX3_scrip_20 : decode cX3_scrip 20 = .ok (.aload_n 0, 1) := by decide +kernel
theorem dX3_scrip_21 : decode cX3_scrip 21 = .ok (.getfield 41, 3) := by decide +kernel
theorem dX3_scrip_24 : decode cX3_scrip 24 = .ok (.bipush 40, 2) := by decide +kernel
theorem dX3_scrip_26 : decode cX3_scrip 26 = .ok (.iload_n 1, 1) := by decide +kernel
theorem dX3_scrip_27 : decode cX3_scrip 27 = .ok (.imul, 1) := by decide +kernel
theorem dX3_scrip_28 : decode cX3_scrip 28 = .ok (.iload_n 2, 1) := by decide +kernel
theorem dX3_scrip_29 : decode cX3_scrip 29 = .ok (.iadd, 1) := by decide +kernel
theorem dX3_scrip_30 : decode cX3_scrip 30 = .ok (.iaload, 1) := by decide +kernel
theorem dX3_scrip_31 : decode cX3_scrip 31 = .ok (.goto 4, 3) := by decide +kernel
theorem dX3_scrip_34 : decode cX3_scrip 34 = .ok (.iconst 0, 1) := by decide +kernel
theorem dX3_scrip_35 : decode cX3_scrip 35 = .ok (.ireturn, 1) := by decide +kernel
theorem dX3_scripAnew_0 : decode cX3_scripAnew 0 = .ok (.aload_n 0, 1) := by decide +kernel
theorem dX3_scripAnew_1 : decode cX3_scripAnew 1 = .ok (.aload_n 0, 1) := by decide +kernel
theorem dX3_scripAnew_2 : decode cX3_scripAnew 2 = .ok (.iload_n 1, 1) := by decide +kernel
theorem dX3_scripAnew_3 : decode cX3_scripAnew 3 = .ok (.invokevirtual 85, 3) := by decide +kernel
theorem dX3_scripAnew_6 : decode cX3_scripAnew 6 = .ok (.iconst 1, 1) := by decide +kernel
theorem dX3_scripAnew_7 : decode cX3_scripAnew 7 = .ok (.iconst 1, 1) := by decide +kernel
theorem dX3_scripAnew_8 : decode cX3_scripAnew 8 = .ok (.invokevirtual 89, 3) := by decide +kernel
theorem dX3_scripAnew_11 : decode cX3_scripAnew 11 = .ok (.ifCond .eq 11, 3) := by decide +kernel
theorem dX3_scripAnew_14 : decode cX3_scripAnew 14 = .ok (.aload_n 0, 1) := by decide +kernel
theorem dX3_scripAnew_15 : decode cX3_scripAnew 15 = .ok (.iload_n 1, 1) := by decide +kernel
theorem dX3_scripAnew_16 : decode cX3_scripAnew 16 = .ok (.invokevirtual 141, 3) := by decide +kernel
theorem dX3_scripAnew_19 : decode cX3_scripAnew 19 = .ok (.goto 4, 3) := by decide +kernel
theorem dX3_scripAnew_22 : decode cX3_scripAnew 22 = .ok (.iconst 0, 1) := by decide +kernel
theorem dX3_scripAnew_23 : decode cX3_scripAnew 23 = .ok (.ireturn, 1) := by decide +kernel
theorem dX3_baskets_0 : decode cX3_baskets 0 = .ok (.aload_n 0, 1) := by decide +kernel
theorem dX3_baskets_1 : decode cX3_baskets 1 = .ok (.aload_n 0, 1) := by decide +kernel
theorem dX3_baskets_2 : decode cX3_baskets 2 = .ok (.iload_n 1, 1) := by decide +kernel
theorem dX3_baskets_3 : decode cX3_baskets 3 = .ok (.invokevirtual 85, 3) := by decide +kernel
theorem dX3_baskets_6 : decode cX3_baskets 6 = .ok (.iconst 1, 1) := by decide +kernel
theorem dX3_baskets_7 : decode cX3_baskets 7 = .ok (.iconst 1, 1) := by decide +kernel
theorem dX3_baskets_8 : decode cX3_baskets 8 = .ok (.invokevirtual 89, 3) := by decide +kernel
theorem dX3_baskets_11 : decode cX3_baskets 11 = .ok (.ifCond .ne 5, 3) := by decide +kernel
theorem dX3_baskets_14 : decode cX3_baskets 14 = .ok (.iconst 0, 1) := by decide +kernel
theorem dX3_baskets_15 : decode cX3_baskets 15 = .ok (.ireturn, 1) := by decide +kernel
theorem dX3_baskets_16 : decode cX3_baskets 16 = .ok (.iconst 0, 1) := by decide +kernel
theorem dX3_baskets_17 : decode cX3_baskets 17 = .ok (.istore_n 2, 1) := by decide +kernel
theorem dX3_baskets_18 : decode cX3_baskets 18 = .ok (.iconst 0, 1) := by decide +kernel
theorem dX3_baskets_19 : decode cX3_baskets 19 = .ok (.istore_n 3, 1) := by decide +kernel
theorem dX3_baskets_20 : decode cX3_baskets 20 = .ok (.iload_n 3, 1) := by decide +kernel
theorem dX3_baskets_21 : decode cX3_baskets 21 = .ok (.iconst 4, 1) := by decide +kernel
theorem dX3_baskets_22 : decode cX3_baskets 22 = .ok (.if_icmp .ge 18, 3) := by decide +kernel
theorem dX3_baskets_25 : decode cX3_baskets 25 = .ok (.iload_n 2, 1) := by decide +kernel
theorem dX3_baskets_26 : decode cX3_baskets 26 = .ok (.aload_n 0, 1) := by decide +kernel
theorem dX3_baskets_27 : decode cX3_baskets 27 = .ok (.iload_n 1, 1) := by decide +kernel
theorem dX3_baskets_28 : decode cX3_baskets 28 = .ok (.iload_n 3, 1) := by decide +kernel
theorem dX3_baskets_29 : decode cX3_baskets 29 = .ok (.invokevirtual 137, 3) := by decide +kernel
theorem dX3_baskets_32 : decode cX3_baskets 32 = .ok (.iadd, 1) := by decide +kernel
theorem dX3_baskets_33 : decode cX3_baskets 33 = .ok (.istore_n 2, 1) := by decide +kernel
theorem dX3_baskets_34 : decode cX3_baskets 34 = .ok (.iinc 3 1, 3) := by decide +kernel
theorem dX3_baskets_37 : decode cX3_baskets 37 = .ok (.goto (-17), 3) := by decide +kernel
theorem dX3_baskets_40 : decode cX3_baskets 40 = .ok (.aload_n 0, 1) := by decide +kernel
theorem dX3_baskets_41 : decode cX3_baskets 41 = .ok (.getfield 35, 3) := by decide +kernel
theorem dX3_baskets_44 : decode cX3_baskets 44 = .ok (.iload_n 1, 1) := by decide +kernel
theorem dX3_baskets_45 : decode cX3_baskets 45 = .ok (.iaload, 1) := by decide +kernel
theorem dX3_baskets_46 : decode cX3_baskets 46 = .ok (.iload_n 2, 1) := by decide +kernel
theorem dX3_baskets_47 : decode cX3_baskets 47 = .ok (.idiv, 1) := by decide +kernel
theorem dX3_baskets_48 : decode cX3_baskets 48 = .ok (.ireturn, 1) := by decide +kernel
theorem dX3_books_0 : decode cX3_books 0 = .ok (.aload_n 0, 1) := by decide +kernel
theorem dX3_books_1 : decode cX3_books 1 = .ok (.iload_n 1, 1) := by decide +kernel
theorem dX3_books_2 : decode cX3_books 2 = .ok (.iconst 0, 1) := by decide +kernel
theorem dX3_books_3 : decode cX3_books 3 = .ok (.iconst 5, 1) := by decide +kernel
theorem dX3_books_4 : decode cX3_books 4 = .ok (.invokestatic 81, 3) := by decide +kernel
theorem dX3_books_7 : decode cX3_books 7 = .ok (.iconst 1, 1) := by decide +kernel
theorem dX3_books_8 : decode cX3_books 8 = .ok (.iconst 1, 1) := by decide +kernel
theorem dX3_books_9 : decode cX3_books 9 = .ok (.invokevirtual 89, 3) := by decide +kernel
theorem dX3_books_12 : decode cX3_books 12 = .ok (.ifCond .eq 12, 3) := by decide +kernel
theorem dX3_books_15 : decode cX3_books 15 = .ok (.aload_n 0, 1) := by decide +kernel
theorem dX3_books_16 : decode cX3_books 16 = .ok (.getfield 59, 3) := by decide +kernel
theorem dX3_books_19 : decode cX3_books 19 = .ok (.iload_n 1, 1) := by decide +kernel
theorem dX3_books_20 : decode cX3_books 20 = .ok (.iaload, 1) := by decide +kernel
theorem dX3_books_21 : decode cX3_books 21 = .ok (.goto 4, 3) := by decide +kernel
theorem dX3_books_24 : decode cX3_books 24 = .ok (.iconst 0, 1) := by decide +kernel
theorem dX3_books_25 : decode cX3_books 25 = .ok (.ireturn, 1) := by decide +kernel
