theorem dL_miner_0 : decode cL_miner 0 = .ok (.aload_n 1, 1) := by decide +kernel
theorem dL_miner_1 : decode cL_miner 1 = .ok (.iconst 0, 1) := by decide +kernel
theorem dL_miner_2 : decode cL_miner 2 = .ok (.aload_n 0, 1) := by decide +kernel
theorem dL_miner_3 : decode cL_miner 3 = .ok (.invokevirtual 7, 3) := by decide +kernel
theorem dL_miner_6 : decode cL_miner 6 = .ok (.i2l, 1) := by decide +kernel
theorem dL_miner_7 : decode cL_miner 7 = .ok (.lastore, 1) := by decide +kernel
theorem dL_miner_8 : decode cL_miner 8 = .ok (.goto 6, 3) := by decide +kernel
theorem dL_miner_11 : decode cL_miner 11 = .ok (.astore_n 2, 1) := by decide +kernel
theorem dL_miner_12 : decode cL_miner 12 = .ok (.iconst 1, 1) := by decide +kernel
theorem dL_miner_13 : decode cL_miner 13 = .ok (.ireturn, 1) := by decide +kernel
theorem dL_miner_14 : decode cL_miner 14 = .ok (.iconst 0, 1) := by decide +kernel
theorem dL_miner_15 : decode cL_miner 15 = .ok (.ireturn, 1) := by decide +kernel
theorem dL_kin_0 : decode cL_kin 0 = .ok (.aload_n 3, 1) := by decide +kernel
theorem dL_kin_1 : decode cL_kin 1 = .ok (.iconst 0, 1) := by decide +kernel
theorem dL_kin_2 : decode cL_kin 2 = .ok (.aload_n 0, 1) := by decide +kernel
theorem dL_kin_3 : decode cL_kin 3 = .ok (.iload_n 1, 1) := by decide +kernel
theorem dL_kin_4 : decode cL_kin 4 = .ok (.iload_n 2, 1) := by decide +kernel
theorem dL_kin_5 : decode cL_kin 5 = .ok (.invokevirtual 15, 3) := by decide +kernel
theorem dL_kin_8 : decode cL_kin 8 = .ok (.i2l, 1) := by decide +kernel
theorem dL_kin_9 : decode cL_kin 9 = .ok (.lastore, 1) := by decide +kernel
theorem dL_kin_10 : decode cL_kin 10 = .ok (.goto 11, 3) := by decide +kernel
theorem dL_kin_13 : decode cL_kin 13 = .ok (.astore 4, 2) := by decide +kernel
theorem dL_kin_15 : decode cL_kin 15 = .ok (.iconst 1, 1) := by decide +kernel
theorem dL_kin_16 : decode cL_kin 16 = .ok (.ireturn, 1) := by decide +kernel
theorem dL_kin_17 : decode cL_kin 17 = .ok (.astore 4, 2) := by decide +kernel
theorem dL_kin_19 : decode cL_kin 19 = .ok (.iconst 2, 1) := by decide +kernel
theorem dL_kin_20 : decode cL_kin 20 = .ok (.ireturn, 1) := by decide +kernel
theorem dL_kin_21 : decode cL_kin 21 = .ok (.iconst 0, 1) := by decide +kernel
theorem dL_kin_22 : decode cL_kin 22 = .ok (.ireturn, 1) := by decide +kernel
theorem dL_dock_0 : decode cL_dock 0 = .ok (.aload_n 2, 1) := by decide +kernel
theorem dL_dock_1 : decode cL_dock 1 = .ok (.iconst 0, 1) := by decide +kernel
theorem dL_dock_2 : decode cL_dock 2 = .ok (.aload_n 0, 1) := by decide +kernel
theorem dL_dock_3 : decode cL_dock 3 = .ok (.iload_n 1, 1) := by decide +kernel
theorem dL_dock_4 : decode cL_dock 4 = .ok (.invokevirtual 23, 3) := by decide +kernel
theorem dL_dock_7 : decode cL_dock 7 = .ok (.i2l, 1) := by decide +kernel
theorem dL_dock_8 : decode cL_dock 8 = .ok (.lastore, 1) := by decide +kernel
theorem dL_dock_9 : decode cL_dock 9 = .ok (.goto 6, 3) := by decide +kernel
theorem dL_dock_12 : decode cL_dock 12 = .ok (.astore_n 3, 1) := by decide +kernel
theorem dL_dock_13 : decode cL_dock 13 = .ok (.iconst 1, 1) := by decide +kernel
theorem dL_dock_14 : decode cL_dock 14 = .ok (.ireturn, 1) := by decide +kernel
theorem dL_dock_15 : decode cL_dock 15 = .ok (.iconst 0, 1) := by decide +kernel
theorem dL_dock_16 : decode cL_dock 16 = .ok (.ireturn, 1) := by decide +kernel
theorem dL_hew_0 : decode cL_hew 0 = .ok (.aload_n 3, 1) := by decide +kernel
theorem dL_hew_1 : decode cL_hew 1 = .ok (.iconst 0, 1) := by decide +kernel
theorem dL_hew_2 : decode cL_hew 2 = .ok (.aload_n 0, 1) := by decide +kernel
theorem dL_hew_3 : decode cL_hew 3 = .ok (.iload_n 1, 1) := by decide +kernel
theorem dL_hew_4 : decode cL_hew 4 = .ok (.iload_n 2, 1) := by decide +kernel
theorem dL_hew_5 : decode cL_hew 5 = .ok (.invokevirtual 27, 3) := by decide +kernel
theorem dL_hew_8 : decode cL_hew 8 = .ok (.i2l, 1) := by decide +kernel
theorem dL_hew_9 : decode cL_hew 9 = .ok (.lastore, 1) := by decide +kernel
theorem dL_hew_10 : decode cL_hew 10 = .ok (.goto 15, 3) := by decide +kernel
theorem dL_hew_13 : decode cL_hew 13 = .ok (.astore 4, 2) := by decide +kernel
theorem dL_hew_15 : decode cL_hew 15 = .ok (.iconst 1, 1) := by decide +kernel
theorem dL_hew_16 : decode cL_hew 16 = .ok (.ireturn, 1) := by decide +kernel
theorem dL_hew_17 : decode cL_hew 17 = .ok (.astore 4, 2) := by decide +kernel
theorem dL_hew_19 : decode cL_hew 19 = .ok (.iconst 2, 1) := by decide +kernel
theorem dL_hew_20 : decode cL_hew 20 = .ok (.ireturn, 1) := by decide +kernel
theorem dL_hew_21 : decode cL_hew 21 = .ok (.astore 4, 2) := by decide +kernel
theorem dL_hew_23 : decode cL_hew 23 = .ok (.iconst 3, 1) := by decide +kernel
theorem dL_hew_24 : decode cL_hew 24 = .ok (.ireturn, 1) := by decide +kernel
theorem dL_hew_25 : decode cL_hew 25 = .ok (.iconst 0, 1) := by decide +kernel
theorem dL_hew_26 : decode cL_hew 26 = .ok (.ireturn, 1) := by decide +kernel
theorem dL_edition_0 : decode cL_edition 0 = .ok (.aload_n 2, 1) := by decide +kernel
theorem dL_edition_1 : decode cL_edition 1 = .ok (.iconst 0, 1) := by decide +kernel
theorem dL_edition_2 : decode cL_edition 2 = .ok (.aload_n 0, 1) := by decide +kernel
theorem dL_edition_3 : decode cL_edition 3 = .ok (.iload_n 1, 1) := by decide +kernel
theorem dL_edition_4 : decode cL_edition 4 = .ok (.invokevirtual 30, 3) := by decide +kernel
theorem dL_edition_7 : decode cL_edition 7 = .ok (.i2l, 1) := by decide +kernel
theorem dL_edition_8 : decode cL_edition 8 = .ok (.lastore, 1) := by decide +kernel
theorem dL_edition_9 : decode cL_edition 9 = .ok (.goto 6, 3) := by decide +kernel
theorem dL_edition_12 : decode cL_edition 12 = .ok (.astore_n 3, 1) := by decide +kernel
theorem dL_edition_13 : decode cL_edition 13 = .ok (.iconst 1, 1) := by decide +kernel
theorem dL_edition_14 : decode cL_edition 14 = .ok (.ireturn, 1) := by decide +kernel
theorem dL_edition_15 : decode cL_edition 15 = .ok (.iconst 0, 1) := by decide +kernel
theorem dL_edition_16 : decode cL_edition 16 = .ok (.ireturn, 1) := by decide +kernel
theorem dL_tell_0 : decode cL_tell 0 = .ok (.aload_n 3, 1) := by decide +kernel
theorem dL_tell_1 : decode cL_tell 1 = .ok (.iconst 0, 1) := by decide +kernel
theorem dL_tell_2 : decode cL_tell 2 = .ok (.aload_n 0, 1) := by decide +kernel
theorem dL_tell_3 : decode cL_tell 3 = .ok (.iload_n 1, 1) := by decide +kernel
theorem dL_tell_4 : decode cL_tell 4 = .ok (.iload_n 2, 1) := by decide +kernel
theorem dL_tell_5 : decode cL_tell 5 = .ok (.invokevirtual 33, 3) := by decide +kernel
theorem dL_tell_8 : decode cL_tell 8 = .ok (.i2l, 1) := by decide +kernel
theorem dL_tell_9 : decode cL_tell 9 = .ok (.lastore, 1) := by decide +kernel
theorem dL_tell_10 : decode cL_tell 10 = .ok (.goto 7, 3) := by decide +kernel
theorem dL_tell_13 : decode cL_tell 13 = .ok (.astore 4, 2) := by decide +kernel
theorem dL_tell_15 : decode cL_tell 15 = .ok (.iconst 1, 1) := by decide +kernel
theorem dL_tell_16 : decode cL_tell 16 = .ok (.ireturn, 1) := by decide +kernel
theorem dL_tell_17 : decode cL_tell 17 = .ok (.iconst 0, 1) := by decide +kernel
theorem dL_tell_18 : decode cL_tell 18 = .ok (.ireturn, 1) := by decide +kernel
theorem dL_payday_0 : decode cL_payday 0 = .ok (.aload_n 1, 1) := by decide +kernel
theorem dL_payday_1 : decode cL_payday 1 = .ok (.iconst 0, 1) := by decide +kernel
theorem dL_payday_2 : decode cL_payday 2 = .ok (.aload_n 0, 1) := by decide +kernel
theorem dL_payday_3 : decode cL_payday 3 = .ok (.invokevirtual 36, 3) := by decide +kernel
theorem dL_payday_6 : decode cL_payday 6 = .ok (.i2l, 1) := by decide +kernel
theorem dL_payday_7 : decode cL_payday 7 = .ok (.lastore, 1) := by decide +kernel
theorem dL_payday_8 : decode cL_payday 8 = .ok (.goto 6, 3) := by decide +kernel
theorem dL_payday_11 : decode cL_payday 11 = .ok (.astore_n 2, 1) := by decide +kernel
theorem dL_payday_12 : decode cL_payday 12 = .ok (.iconst 1, 1) := by decide +kernel
theorem dL_payday_13 : decode cL_payday 13 = .ok (.ireturn, 1) := by decide +kernel
theorem dL_payday_14 : decode cL_payday 14 = .ok (.iconst 0, 1) := by decide +kernel
theorem dL_payday_15 : decode cL_payday 15 = .ok (.ireturn, 1) := by decide +kernel
theorem dL_house_0 : decode cL_house 0 = .ok (.aload_n 0, 1) := by decide +kernel
theorem dL_house_1 : decode cL_house 1 = .ok (.iload_n 1, 1) := by decide +kernel
theorem dL_house_2 : decode cL_house 2 = .ok (.invokevirtual 39, 3) := by decide +kernel
theorem dL_house_5 : decode cL_house 5 = .ok (.goto 9, 3) := by decide +kernel
theorem dL_house_8 : decode cL_house 8 = .ok (.astore_n 2, 1) := by decide +kernel
theorem dL_house_9 : decode cL_house 9 = .ok (.iconst 1, 1) := by decide +kernel
theorem dL_house_10 : decode cL_house 10 = .ok (.ireturn, 1) := by decide +kernel
theorem dL_house_11 : decode cL_house 11 = .ok (.astore_n 2, 1) := by decide +kernel
theorem dL_house_12 : decode cL_house 12 = .ok (.iconst 2, 1) := by decide +kernel
theorem dL_house_13 : decode cL_house 13 = .ok (.ireturn, 1) := by decide +kernel
theorem dL_house_14 : decode cL_house 14 = .ok (.iconst 0, 1) := by decide +kernel
theorem dL_house_15 : decode cL_house 15 = .ok (.ireturn, 1) := by decide +kernel
theorem dL_price_0 : decode cL_price 0 = .ok (.aload 4, 2) := by decide +kernel
theorem dL_price_2 : decode cL_price 2 = .ok (.iconst 0, 1) := by decide +kernel
theorem dL_price_3 : decode cL_price 3 = .ok (.aload_n 0, 1) := by decide +kernel
theorem dL_price_4 : decode cL_price 4 = .ok (.iload_n 1, 1) := by decide +kernel
theorem dL_price_5 : decode cL_price 5 = .ok (.iload_n 2, 1) := by decide +kernel
theorem dL_price_6 : decode cL_price 6 = .ok (.iload_n 3, 1) := by decide +kernel
theorem dL_price_7 : decode cL_price 7 = .ok (.invokevirtual 43, 3) := by decide +kernel
theorem dL_price_10 : decode cL_price 10 = .ok (.i2l, 1) := by decide +kernel
theorem dL_price_11 : decode cL_price 11 = .ok (.lastore, 1) := by decide +kernel
theorem dL_price_12 : decode cL_price 12 = .ok (.goto 11, 3) := by decide +kernel
theorem dL_price_15 : decode cL_price 15 = .ok (.astore 5, 2) := by decide +kernel
theorem dL_price_17 : decode cL_price 17 = .ok (.iconst 1, 1) := by decide +kernel
theorem dL_price_18 : decode cL_price 18 = .ok (.ireturn, 1) := by decide +kernel
theorem dL_price_19 : decode cL_price 19 = .ok (.astore 5, 2) := by decide +kernel
theorem dL_price_21 : decode cL_price 21 = .ok (.iconst 2, 1) := by decide +kernel
theorem dL_price_22 : decode cL_price 22 = .ok (.ireturn, 1) := by decide +kernel
theorem dL_price_23 : decode cL_price 23 = .ok (.iconst 0, 1) := by decide +kernel
theorem dL_price_24 : decode cL_price 24 = .ok (.ireturn, 1) := by decide +kernel
theorem dL_raised_0 : decode cL_raised 0 = .ok (.aload_n 3, 1) := by decide +kernel
theorem dL_raised_1 : decode cL_raised 1 = .ok (.iconst 0, 1) := by decide +kernel
theorem dL_raised_2 : decode cL_raised 2 = .ok (.aload_n 0, 1) := by decide +kernel
theorem dL_raised_3 : decode cL_raised 3 = .ok (.iload_n 1, 1) := by decide +kernel
theorem dL_raised_4 : decode cL_raised 4 = .ok (.iload_n 2, 1) := by decide +kernel
theorem dL_raised_5 : decode cL_raised 5 = .ok (.invokevirtual 47, 3) := by decide +kernel
theorem dL_raised_8 : decode cL_raised 8 = .ok (.i2l, 1) := by decide +kernel
theorem dL_raised_9 : decode cL_raised 9 = .ok (.lastore, 1) := by decide +kernel
theorem dL_raised_10 : decode cL_raised 10 = .ok (.goto 7, 3) := by decide +kernel
theorem dL_raised_13 : decode cL_raised 13 = .ok (.astore 4, 2) := by decide +kernel
theorem dL_raised_15 : decode cL_raised 15 = .ok (.iconst 1, 1) := by decide +kernel
theorem dL_raised_16 : decode cL_raised 16 = .ok (.ireturn, 1) := by decide +kernel
theorem dL_raised_17 : decode cL_raised 17 = .ok (.iconst 0, 1) := by decide +kernel
theorem dL_raised_18 : decode cL_raised 18 = .ok (.ireturn, 1) := by decide +kernel
theorem dL_limit_0 : decode cL_limit 0 = .ok (.aload_n 2, 1) := by decide +kernel
theorem dL_limit_1 : decode cL_limit 1 = .ok (.iconst 0, 1) := by decide +kernel
theorem dL_limit_2 : decode cL_limit 2 = .ok (.aload_n 0, 1) := by decide +kernel
theorem dL_limit_3 : decode cL_limit 3 = .ok (.iload_n 1, 1) := by decide +kernel
theorem dL_limit_4 : decode cL_limit 4 = .ok (.invokevirtual 50, 3) := by decide +kernel
theorem dL_limit_7 : decode cL_limit 7 = .ok (.i2l, 1) := by decide +kernel
theorem dL_limit_8 : decode cL_limit 8 = .ok (.lastore, 1) := by decide +kernel
theorem dL_limit_9 : decode cL_limit 9 = .ok (.goto 6, 3) := by decide +kernel
theorem dL_limit_12 : decode cL_limit 12 = .ok (.astore_n 3, 1) := by decide +kernel
theorem dL_limit_13 : decode cL_limit 13 = .ok (.iconst 1, 1) := by decide +kernel
theorem dL_limit_14 : decode cL_limit 14 = .ok (.ireturn, 1) := by decide +kernel
theorem dL_limit_15 : decode cL_limit 15 = .ok (.iconst 0, 1) := by decide +kernel
theorem dL_limit_16 : decode cL_limit 16 = .ok (.ireturn, 1) := by decide +kernel
theorem dL_whyNot_0 : decode cL_whyNot 0 = .ok (.aload 4, 2) := by decide +kernel
theorem dL_whyNot_2 : decode cL_whyNot 2 = .ok (.iconst 0, 1) := by decide +kernel
theorem dL_whyNot_3 : decode cL_whyNot 3 = .ok (.aload_n 0, 1) := by decide +kernel
theorem dL_whyNot_4 : decode cL_whyNot 4 = .ok (.iload_n 1, 1) := by decide +kernel
theorem dL_whyNot_5 : decode cL_whyNot 5 = .ok (.iload_n 2, 1) := by decide +kernel
theorem dL_whyNot_6 : decode cL_whyNot 6 = .ok (.iload_n 3, 1) := by decide +kernel
theorem dL_whyNot_7 : decode cL_whyNot 7 = .ok (.invokevirtual 53, 3) := by decide +kernel
theorem dL_whyNot_10 : decode cL_whyNot 10 = .ok (.i2l, 1) := by decide +kernel
theorem dL_whyNot_11 : decode cL_whyNot 11 = .ok (.lastore, 1) := by decide +kernel
theorem dL_whyNot_12 : decode cL_whyNot 12 = .ok (.goto 11, 3) := by decide +kernel
theorem dL_whyNot_15 : decode cL_whyNot 15 = .ok (.astore 5, 2) := by decide +kernel
theorem dL_whyNot_17 : decode cL_whyNot 17 = .ok (.iconst 1, 1) := by decide +kernel
theorem dL_whyNot_18 : decode cL_whyNot 18 = .ok (.ireturn, 1) := by decide +kernel
theorem dL_whyNot_19 : decode cL_whyNot 19 = .ok (.astore 5, 2) := by decide +kernel
theorem dL_whyNot_21 : decode cL_whyNot 21 = .ok (.iconst 2, 1) := by decide +kernel
theorem dL_whyNot_22 : decode cL_whyNot 22 = .ok (.ireturn, 1) := by decide +kernel
theorem dL_whyNot_23 : decode cL_whyNot 23 = .ok (.iconst 0, 1) := by decide +kernel
theorem dL_whyNot_24 : decode cL_whyNot 24 = .ok (.ireturn, 1) := by decide +kernel
theorem dL_buy_0 : decode cL_buy 0 = .ok (.aload 4, 2) := by decide +kernel
theorem dL_buy_2 : decode cL_buy 2 = .ok (.iconst 0, 1) := by decide +kernel
theorem dL_buy_3 : decode cL_buy 3 = .ok (.aload_n 0, 1) := by decide +kernel
theorem dL_buy_4 : decode cL_buy 4 = .ok (.iload_n 1, 1) := by decide +kernel
theorem dL_buy_5 : decode cL_buy 5 = .ok (.iload_n 2, 1) := by decide +kernel
theorem dL_buy_6 : decode cL_buy 6 = .ok (.iload_n 3, 1) := by decide +kernel
theorem dL_buy_7 : decode cL_buy 7 = .ok (.invokevirtual 57, 3) := by decide +kernel
theorem dL_buy_10 : decode cL_buy 10 = .ok (.i2l, 1) := by decide +kernel
theorem dL_buy_11 : decode cL_buy 11 = .ok (.lastore, 1) := by decide +kernel
theorem dL_buy_12 : decode cL_buy 12 = .ok (.goto 15, 3) := by decide +kernel
theorem dL_buy_15 : decode cL_buy 15 = .ok (.astore 5, 2) := by decide +kernel
theorem dL_buy_17 : decode cL_buy 17 = .ok (.iconst 1, 1) := by decide +kernel
theorem dL_buy_18 : decode cL_buy 18 = .ok (.ireturn, 1) := by decide +kernel
theorem dL_buy_19 : decode cL_buy 19 = .ok (.astore 5, 2) := by decide +kernel
theorem dL_buy_21 : decode cL_buy 21 = .ok (.iconst 2, 1) := by decide +kernel
theorem dL_buy_22 : decode cL_buy 22 = .ok (.ireturn, 1) := by decide +kernel
theorem dL_buy_23 : decode cL_buy 23 = .ok (.astore 5, 2) := by decide +kernel
theorem dL_buy_25 : decode cL_buy 25 = .ok (.iconst 3, 1) := by decide +kernel
theorem dL_buy_26 : decode cL_buy 26 = .ok (.ireturn, 1) := by decide +kernel
theorem dL_buy_27 : decode cL_buy 27 = .ok (.iconst 0, 1) := by decide +kernel
theorem dL_buy_28 : decode cL_buy 28 = .ok (.ireturn, 1) := by decide +kernel
theorem dL_over_0 : decode cL_over 0 = .ok (.aload 4, 2) := by decide +kernel
theorem dL_over_2 : decode cL_over 2 = .ok (.iconst 0, 1) := by decide +kernel
theorem dL_over_3 : decode cL_over 3 = .ok (.aload_n 0, 1) := by decide +kernel
theorem dL_over_4 : decode cL_over 4 = .ok (.iload_n 1, 1) := by decide +kernel
theorem dL_over_5 : decode cL_over 5 = .ok (.iload_n 2, 1) := by decide +kernel
theorem dL_over_6 : decode cL_over 6 = .ok (.iload_n 3, 1) := by decide +kernel
theorem dL_over_7 : decode cL_over 7 = .ok (.invokevirtual 60, 3) := by decide +kernel
theorem dL_over_10 : decode cL_over 10 = .ok (.i2l, 1) := by decide +kernel
theorem dL_over_11 : decode cL_over 11 = .ok (.lastore, 1) := by decide +kernel
theorem dL_over_12 : decode cL_over 12 = .ok (.goto 15, 3) := by decide +kernel
theorem dL_over_15 : decode cL_over 15 = .ok (.astore 5, 2) := by decide +kernel
theorem dL_over_17 : decode cL_over 17 = .ok (.iconst 1, 1) := by decide +kernel
theorem dL_over_18 : decode cL_over 18 = .ok (.ireturn, 1) := by decide +kernel
theorem dL_over_19 : decode cL_over 19 = .ok (.astore 5, 2) := by decide +kernel
theorem dL_over_21 : decode cL_over 21 = .ok (.iconst 2, 1) := by decide +kernel
theorem dL_over_22 : decode cL_over 22 = .ok (.ireturn, 1) := by decide +kernel
theorem dL_over_23 : decode cL_over 23 = .ok (.astore 5, 2) := by decide +kernel
theorem dL_over_25 : decode cL_over 25 = .ok (.iconst 3, 1) := by decide +kernel
theorem dL_over_26 : decode cL_over 26 = .ok (.ireturn, 1) := by decide +kernel
theorem dL_over_27 : decode cL_over 27 = .ok (.iconst 0, 1) := by decide +kernel
theorem dL_over_28 : decode cL_over 28 = .ok (.ireturn, 1) := by decide +kernel
theorem dL_discount_0 : decode cL_discount 0 = .ok (.aload_n 2, 1) := by decide +kernel
theorem dL_discount_1 : decode cL_discount 1 = .ok (.iconst 0, 1) := by decide +kernel
theorem dL_discount_2 : decode cL_discount 2 = .ok (.aload_n 0, 1) := by decide +kernel
theorem dL_discount_3 : decode cL_discount 3 = .ok (.iload_n 1, 1) := by decide +kernel
theorem dL_discount_4 : decode cL_discount 4 = .ok (.invokevirtual 63, 3) := by decide +kernel
theorem dL_discount_7 : decode cL_discount 7 = .ok (.i2l, 1) := by decide +kernel
theorem dL_discount_8 : decode cL_discount 8 = .ok (.lastore, 1) := by decide +kernel
theorem dL_discount_9 : decode cL_discount 9 = .ok (.goto 6, 3) := by decide +kernel
theorem dL_discount_12 : decode cL_discount 12 = .ok (.astore_n 3, 1) := by decide +kernel
theorem dL_discount_13 : decode cL_discount 13 = .ok (.iconst 1, 1) := by decide +kernel
theorem dL_discount_14 : decode cL_discount 14 = .ok (.ireturn, 1) := by decide +kernel
theorem dL_discount_15 : decode cL_discount 15 = .ok (.iconst 0, 1) := by decide +kernel
theorem dL_discount_16 : decode cL_discount 16 = .ok (.ireturn, 1) := by decide +kernel
theorem dL_change_0 : decode cL_change 0 = .ok (.aload_n 3, 1) := by decide +kernel
theorem dL_change_1 : decode cL_change 1 = .ok (.iconst 0, 1) := by decide +kernel
theorem dL_change_2 : decode cL_change 2 = .ok (.aload_n 0, 1) := by decide +kernel
theorem dL_change_3 : decode cL_change 3 = .ok (.iload_n 1, 1) := by decide +kernel
theorem dL_change_4 : decode cL_change 4 = .ok (.iload_n 2, 1) := by decide +kernel
theorem dL_change_5 : decode cL_change 5 = .ok (.invokevirtual 66, 3) := by decide +kernel
theorem dL_change_8 : decode cL_change 8 = .ok (.i2l, 1) := by decide +kernel
theorem dL_change_9 : decode cL_change 9 = .ok (.lastore, 1) := by decide +kernel
theorem dL_change_10 : decode cL_change 10 = .ok (.goto 15, 3) := by decide +kernel
theorem dL_change_13 : decode cL_change 13 = .ok (.astore 4, 2) := by decide +kernel
theorem dL_change_15 : decode cL_change 15 = .ok (.iconst 1, 1) := by decide +kernel
theorem dL_change_16 : decode cL_change 16 = .ok (.ireturn, 1) := by decide +kernel
theorem dL_change_17 : decode cL_change 17 = .ok (.astore 4, 2) := by decide +kernel
theorem dL_change_19 : decode cL_change 19 = .ok (.iconst 2, 1) := by decide +kernel
theorem dL_change_20 : decode cL_change 20 = .ok (.ireturn, 1) := by decide +kernel
theorem dL_change_21 : decode cL_change 21 = .ok (.astore 4, 2) := by decide +kernel
theorem dL_change_23 : decode cL_change 23 = .ok (.iconst 3, 1) := by decide +kernel
theorem dL_change_24 : decode cL_change 24 = .ok (.ireturn, 1) := by decide +kernel
theorem dL_change_25 : decode cL_change 25 = .ok (.iconst 0, 1) := by decide +kernel
theorem dL_change_26 : decode cL_change 26 = .ok (.ireturn, 1) := by decide +kernel
theorem dL_law_0 : decode cL_law 0 = .ok (.aload_n 3, 1) := by decide +kernel
theorem dL_law_1 : decode cL_law 1 = .ok (.iconst 0, 1) := by decide +kernel
theorem dL_law_2 : decode cL_law 2 = .ok (.aload_n 0, 1) := by decide +kernel
theorem dL_law_3 : decode cL_law 3 = .ok (.iload_n 1, 1) := by decide +kernel
theorem dL_law_4 : decode cL_law 4 = .ok (.iload_n 2, 1) := by decide +kernel
theorem dL_law_5 : decode cL_law 5 = .ok (.invokevirtual 69, 3) := by decide +kernel
theorem dL_law_8 : decode cL_law 8 = .ok (.ifCond .eq 7, 3) := by decide +kernel
theorem dL_law_11 : decode cL_law 11 = .ok (.lconst 1, 1) := by decide +kernel
theorem dL_law_12 : decode cL_law 12 = .ok (.goto 4, 3) := by decide +kernel
theorem dL_law_15 : decode cL_law 15 = .ok (.lconst 0, 1) := by decide +kernel
theorem dL_law_16 : decode cL_law 16 = .ok (.lastore, 1) := by decide +kernel
theorem dL_law_17 : decode cL_law 17 = .ok (.goto 7, 3) := by decide +kernel
theorem dL_law_20 : decode cL_law 20 = .ok (.astore 4, 2) := by decide +kernel
theorem dL_law_22 : decode cL_law 22 = .ok (.iconst 1, 1) := by decide +kernel
theorem dL_law_23 : decode cL_law 23 = .ok (.ireturn, 1) := by decide +kernel
theorem dL_law_24 : decode cL_law 24 = .ok (.iconst 0, 1) := by decide +kernel
theorem dL_law_25 : decode cL_law 25 = .ok (.ireturn, 1) := by decide +kernel
theorem dL_die_0 : decode cL_die 0 = .ok (.aload_n 2, 1) := by decide +kernel
theorem dL_die_1 : decode cL_die 1 = .ok (.iconst 0, 1) := by decide +kernel
theorem dL_die_2 : decode cL_die 2 = .ok (.aload_n 0, 1) := by decide +kernel
theorem dL_die_3 : decode cL_die 3 = .ok (.iload_n 1, 1) := by decide +kernel
theorem dL_die_4 : decode cL_die 4 = .ok (.invokevirtual 73, 3) := by decide +kernel
theorem dL_die_7 : decode cL_die 7 = .ok (.i2l, 1) := by decide +kernel
theorem dL_die_8 : decode cL_die 8 = .ok (.lastore, 1) := by decide +kernel
theorem dL_die_9 : decode cL_die 9 = .ok (.goto 9, 3) := by decide +kernel
theorem dL_die_12 : decode cL_die 12 = .ok (.astore_n 3, 1) := by decide +kernel
theorem dL_die_13 : decode cL_die 13 = .ok (.iconst 1, 1) := by decide +kernel
theorem dL_die_14 : decode cL_die 14 = .ok (.ireturn, 1) := by decide +kernel
theorem dL_die_15 : decode cL_die 15 = .ok (.astore_n 3, 1) := by decide +kernel
theorem dL_die_16 : decode cL_die 16 = .ok (.iconst 2, 1) := by decide +kernel
theorem dL_die_17 : decode cL_die 17 = .ok (.ireturn, 1) := by decide +kernel
theorem dL_die_18 : decode cL_die 18 = .ok (.iconst 0, 1) := by decide +kernel
theorem dL_die_19 : decode cL_die 19 = .ok (.ireturn, 1) := by decide +kernel
theorem dL_vote_0 : decode cL_vote 0 = .ok (.aload_n 3, 1) := by decide +kernel
theorem dL_vote_1 : decode cL_vote 1 = .ok (.iconst 0, 1) := by decide +kernel
theorem dL_vote_2 : decode cL_vote 2 = .ok (.aload_n 0, 1) := by decide +kernel
theorem dL_vote_3 : decode cL_vote 3 = .ok (.iload_n 1, 1) := by decide +kernel
theorem dL_vote_4 : decode cL_vote 4 = .ok (.iload_n 2, 1) := by decide +kernel
theorem dL_vote_5 : decode cL_vote 5 = .ok (.invokevirtual 76, 3) := by decide +kernel
theorem dL_vote_8 : decode cL_vote 8 = .ok (.ifCond .eq 7, 3) := by decide +kernel
theorem dL_vote_11 : decode cL_vote 11 = .ok (.lconst 1, 1) := by decide +kernel
theorem dL_vote_12 : decode cL_vote 12 = .ok (.goto 4, 3) := by decide +kernel
theorem dL_vote_15 : decode cL_vote 15 = .ok (.lconst 0, 1) := by decide +kernel
theorem dL_vote_16 : decode cL_vote 16 = .ok (.lastore, 1) := by decide +kernel
theorem dL_vote_17 : decode cL_vote 17 = .ok (.goto 7, 3) := by decide +kernel
theorem dL_vote_20 : decode cL_vote 20 = .ok (.astore 4, 2) := by decide +kernel
theorem dL_vote_22 : decode cL_vote 22 = .ok (.iconst 1, 1) := by decide +kernel
theorem dL_vote_23 : decode cL_vote 23 = .ok (.ireturn, 1) := by decide +kernel
theorem dL_vote_24 : decode cL_vote 24 = .ok (.iconst 0, 1) := by decide +kernel
theorem dL_vote_25 : decode cL_vote 25 = .ok (.ireturn, 1) := by decide +kernel
theorem dL_strike_0 : decode cL_strike 0 = .ok (.aload_n 1, 1) := by decide +kernel
theorem dL_strike_1 : decode cL_strike 1 = .ok (.iconst 0, 1) := by decide +kernel
theorem dL_strike_2 : decode cL_strike 2 = .ok (.aload_n 0, 1) := by decide +kernel
theorem dL_strike_3 : decode cL_strike 3 = .ok (.invokevirtual 79, 3) := by decide +kernel
theorem dL_strike_6 : decode cL_strike 6 = .ok (.ifCond .eq 7, 3) := by decide +kernel
theorem dL_strike_9 : decode cL_strike 9 = .ok (.lconst 1, 1) := by decide +kernel
theorem dL_strike_10 : decode cL_strike 10 = .ok (.goto 4, 3) := by decide +kernel
theorem dL_strike_13 : decode cL_strike 13 = .ok (.lconst 0, 1) := by decide +kernel
theorem dL_strike_14 : decode cL_strike 14 = .ok (.lastore, 1) := by decide +kernel
theorem dL_strike_15 : decode cL_strike 15 = .ok (.goto 6, 3) := by decide +kernel
theorem dL_strike_18 : decode cL_strike 18 = .ok (.astore_n 2, 1) := by decide +kernel
theorem dL_strike_19 : decode cL_strike 19 = .ok (.iconst 1, 1) := by decide +kernel
theorem dL_strike_20 : decode cL_strike 20 = .ok (.ireturn, 1) := by decide +kernel
theorem dL_strike_21 : decode cL_strike 21 = .ok (.iconst 0, 1) := by decide +kernel
theorem dL_strike_22 : decode cL_strike 22 = .ok (.ireturn, 1) := by decide +kernel
theorem dL_give_0 : decode cL_give 0 = .ok (.aload_n 2, 1) := by decide +kernel
theorem dL_give_1 : decode cL_give 1 = .ok (.iconst 0, 1) := by decide +kernel
theorem dL_give_2 : decode cL_give 2 = .ok (.aload_n 0, 1) := by decide +kernel
theorem dL_give_3 : decode cL_give 3 = .ok (.iload_n 1, 1) := by decide +kernel
theorem dL_give_4 : decode cL_give 4 = .ok (.invokevirtual 83, 3) := by decide +kernel
theorem dL_give_7 : decode cL_give 7 = .ok (.i2l, 1) := by decide +kernel
theorem dL_give_8 : decode cL_give 8 = .ok (.lastore, 1) := by decide +kernel
theorem dL_give_9 : decode cL_give 9 = .ok (.goto 6, 3) := by decide +kernel
theorem dL_give_12 : decode cL_give 12 = .ok (.astore_n 3, 1) := by decide +kernel
theorem dL_give_13 : decode cL_give 13 = .ok (.iconst 1, 1) := by decide +kernel
theorem dL_give_14 : decode cL_give 14 = .ok (.ireturn, 1) := by decide +kernel
theorem dL_give_15 : decode cL_give 15 = .ok (.iconst 0, 1) := by decide +kernel
theorem dL_give_16 : decode cL_give 16 = .ok (.ireturn, 1) := by decide +kernel
theorem dL_soup_0 : decode cL_soup 0 = .ok (.aload_n 1, 1) := by decide +kernel
theorem dL_soup_1 : decode cL_soup 1 = .ok (.iconst 0, 1) := by decide +kernel
theorem dL_soup_2 : decode cL_soup 2 = .ok (.aload_n 0, 1) := by decide +kernel
theorem dL_soup_3 : decode cL_soup 3 = .ok (.invokevirtual 86, 3) := by decide +kernel
theorem dL_soup_6 : decode cL_soup 6 = .ok (.i2l, 1) := by decide +kernel
theorem dL_soup_7 : decode cL_soup 7 = .ok (.lastore, 1) := by decide +kernel
theorem dL_soup_8 : decode cL_soup 8 = .ok (.goto 6, 3) := by decide +kernel
theorem dL_soup_11 : decode cL_soup 11 = .ok (.astore_n 2, 1) := by decide +kernel
theorem dL_soup_12 : decode cL_soup 12 = .ok (.iconst 1, 1) := by decide +kernel
theorem dL_soup_13 : decode cL_soup 13 = .ok (.ireturn, 1) := by decide +kernel
theorem dL_soup_14 : decode cL_soup 14 = .ok (.iconst 0, 1) := by decide +kernel
theorem dL_soup_15 : decode cL_soup 15 = .ok (.ireturn, 1) := by decide +kernel
theorem dL_close_0 : decode cL_close 0 = .ok (.aload_n 2, 1) := by decide +kernel
theorem dL_close_1 : decode cL_close 1 = .ok (.iconst 0, 1) := by decide +kernel
theorem dL_close_2 : decode cL_close 2 = .ok (.aload_n 0, 1) := by decide +kernel
theorem dL_close_3 : decode cL_close 3 = .ok (.iload_n 1, 1) := by decide +kernel
theorem dL_close_4 : decode cL_close 4 = .ok (.invokevirtual 89, 3) := by decide +kernel
theorem dL_close_7 : decode cL_close 7 = .ok (.i2l, 1) := by decide +kernel
theorem dL_close_8 : decode cL_close 8 = .ok (.lastore, 1) := by decide +kernel
theorem dL_close_9 : decode cL_close 9 = .ok (.goto 9, 3) := by decide +kernel
theorem dL_close_12 : decode cL_close 12 = .ok (.astore_n 3, 1) := by decide +kernel
theorem dL_close_13 : decode cL_close 13 = .ok (.iconst 1, 1) := by decide +kernel
theorem dL_close_14 : decode cL_close 14 = .ok (.ireturn, 1) := by decide +kernel
theorem dL_close_15 : decode cL_close 15 = .ok (.astore_n 3, 1) := by decide +kernel
theorem dL_close_16 : decode cL_close 16 = .ok (.iconst 2, 1) := by decide +kernel
theorem dL_close_17 : decode cL_close 17 = .ok (.ireturn, 1) := by decide +kernel
theorem dL_close_18 : decode cL_close 18 = .ok (.iconst 0, 1) := by decide +kernel
theorem dL_close_19 : decode cL_close 19 = .ok (.ireturn, 1) := by decide +kernel
theorem dL_about_0 : decode cL_about 0 = .ok (.aload_n 3, 1) := by decide +kernel
theorem dL_about_1 : decode cL_about 1 = .ok (.iconst 0, 1) := by decide +kernel
theorem dL_about_2 : decode cL_about 2 = .ok (.aload_n 0, 1) := by decide +kernel
theorem dL_about_3 : decode cL_about 3 = .ok (.iload_n 1, 1) := by decide +kernel
theorem dL_about_4 : decode cL_about 4 = .ok (.iload_n 2, 1) := by decide +kernel
theorem dL_about_5 : decode cL_about 5 = .ok (.invokevirtual 92, 3) := by decide +kernel
theorem dL_about_8 : decode cL_about 8 = .ok (.i2l, 1) := by decide +kernel
theorem dL_about_9 : decode cL_about 9 = .ok (.lastore, 1) := by decide +kernel
theorem dL_about_10 : decode cL_about 10 = .ok (.goto 11, 3) := by decide +kernel
theorem dL_about_13 : decode cL_about 13 = .ok (.astore 4, 2) := by decide +kernel
theorem dL_about_15 : decode cL_about 15 = .ok (.iconst 1, 1) := by decide +kernel
theorem dL_about_16 : decode cL_about 16 = .ok (.ireturn, 1) := by decide +kernel
theorem dL_about_17 : decode cL_about 17 = .ok (.astore 4, 2) := by decide +kernel
theorem dL_about_19 : decode cL_about 19 = .ok (.iconst 2, 1) := by decide +kernel
theorem dL_about_20 : decode cL_about 20 = .ok (.ireturn, 1) := by decide +kernel
theorem dL_about_21 : decode cL_about 21 = .ok (.iconst 0, 1) := by decide +kernel
theorem dL_about_22 : decode cL_about 22 = .ok (.ireturn, 1) := by decide +kernel
theorem dL_has_0 : decode cL_has 0 = .ok (.aload_n 3, 1) := by decide +kernel
theorem dL_has_1 : decode cL_has 1 = .ok (.iconst 0, 1) := by decide +kernel
theorem dL_has_2 : decode cL_has 2 = .ok (.aload_n 0, 1) := by decide +kernel
theorem dL_has_3 : decode cL_has 3 = .ok (.iload_n 1, 1) := by decide +kernel
theorem dL_has_4 : decode cL_has 4 = .ok (.iload_n 2, 1) := by decide +kernel
theorem dL_has_5 : decode cL_has 5 = .ok (.invokevirtual 95, 3) := by decide +kernel
theorem dL_has_8 : decode cL_has 8 = .ok (.i2l, 1) := by decide +kernel
theorem dL_has_9 : decode cL_has 9 = .ok (.lastore, 1) := by decide +kernel
theorem dL_has_10 : decode cL_has 10 = .ok (.goto 7, 3) := by decide +kernel
theorem dL_has_13 : decode cL_has 13 = .ok (.astore 4, 2) := by decide +kernel
theorem dL_has_15 : decode cL_has 15 = .ok (.iconst 1, 1) := by decide +kernel
theorem dL_has_16 : decode cL_has 16 = .ok (.ireturn, 1) := by decide +kernel
theorem dL_has_17 : decode cL_has 17 = .ok (.iconst 0, 1) := by decide +kernel
theorem dL_has_18 : decode cL_has 18 = .ok (.ireturn, 1) := by decide +kernel
theorem dL_scrip_0 : decode cL_scrip 0 = .ok (.aload_n 3, 1) := by decide +kernel
theorem dL_scrip_1 : decode cL_scrip 1 = .ok (.iconst 0, 1) := by decide +kernel
theorem dL_scrip_2 : decode cL_scrip 2 = .ok (.aload_n 0, 1) := by decide +kernel
theorem dL_scrip_3 : decode cL_scrip 3 = .ok (.iload_n 1, 1) := by decide +kernel
theorem dL_scrip_4 : decode cL_scrip 4 = .ok (.iload_n 2, 1) := by decide +kernel
theorem dL_scrip_5 : decode cL_scrip 5 = .ok (.invokevirtual 98, 3) := by decide +kernel
theorem dL_scrip_8 : decode cL_scrip 8 = .ok (.i2l, 1) := by decide +kernel
theorem dL_scrip_9 : decode cL_scrip 9 = .ok (.lastore, 1) := by decide +kernel
theorem dL_scrip_10 : decode cL_scrip 10 = .ok (.goto 11, 3) := by decide +kernel
theorem dL_scrip_13 : decode cL_scrip 13 = .ok (.astore 4, 2) := by decide +kernel
theorem dL_scrip_15 : decode cL_scrip 15 = .ok (.iconst 1, 1) := by decide +kernel
theorem dL_scrip_16 : decode cL_scrip 16 = .ok (.ireturn, 1) := by decide +kernel
theorem dL_scrip_17 : decode cL_scrip 17 = .ok (.astore 4, 2) := by decide +kernel
theorem dL_scrip_19 : decode cL_scrip 19 = .ok (.iconst 2, 1) := by decide +kernel
theorem dL_scrip_20 : decode cL_scrip 20 = .ok (.ireturn, 1) := by decide +kernel
theorem dL_scrip_21 : decode cL_scrip 21 = .ok (.iconst 0, 1) := by decide +kernel
theorem dL_scrip_22 : decode cL_scrip 22 = .ok (.ireturn, 1) := by decide +kernel
theorem dL_scripAnew_0 : decode cL_scripAnew 0 = .ok (.aload_n 2, 1) := by decide +kernel
theorem dL_scripAnew_1 : decode cL_scripAnew 1 = .ok (.iconst 0, 1) := by decide +kernel
theorem dL_scripAnew_2 : decode cL_scripAnew 2 = .ok (.aload_n 0, 1) := by decide +kernel
theorem dL_scripAnew_3 : decode cL_scripAnew 3 = .ok (.iload_n 1, 1) := by decide +kernel
theorem dL_scripAnew_4 : decode cL_scripAnew 4 = .ok (.invokevirtual 101, 3) := by decide +kernel
theorem dL_scripAnew_7 : decode cL_scripAnew 7 = .ok (.i2l, 1) := by decide +kernel
theorem dL_scripAnew_8 : decode cL_scripAnew 8 = .ok (.lastore, 1) := by decide +kernel
theorem dL_scripAnew_9 : decode cL_scripAnew 9 = .ok (.goto 6, 3) := by decide +kernel
theorem dL_scripAnew_12 : decode cL_scripAnew 12 = .ok (.astore_n 3, 1) := by decide +kernel
theorem dL_scripAnew_13 : decode cL_scripAnew 13 = .ok (.iconst 1, 1) := by decide +kernel
theorem dL_scripAnew_14 : decode cL_scripAnew 14 = .ok (.ireturn, 1) := by decide +kernel
theorem dL_scripAnew_15 : decode cL_scripAnew 15 = .ok (.iconst 0, 1) := by decide +kernel
theorem dL_scripAnew_16 : decode cL_scripAnew 16 = .ok (.ireturn, 1) := by decide +kernel
theorem dL_baskets_0 : decode cL_baskets 0 = .ok (.aload_n 2, 1) := by decide +kernel
theorem dL_baskets_1 : decode cL_baskets 1 = .ok (.iconst 0, 1) := by decide +kernel
theorem dL_baskets_2 : decode cL_baskets 2 = .ok (.aload_n 0, 1) := by decide +kernel
theorem dL_baskets_3 : decode cL_baskets 3 = .ok (.iload_n 1, 1) := by decide +kernel
theorem dL_baskets_4 : decode cL_baskets 4 = .ok (.invokevirtual 104, 3) := by decide +kernel
theorem dL_baskets_7 : decode cL_baskets 7 = .ok (.i2l, 1) := by decide +kernel
theorem dL_baskets_8 : decode cL_baskets 8 = .ok (.lastore, 1) := by decide +kernel
theorem dL_baskets_9 : decode cL_baskets 9 = .ok (.goto 6, 3) := by decide +kernel
theorem dL_baskets_12 : decode cL_baskets 12 = .ok (.astore_n 3, 1) := by decide +kernel
theorem dL_baskets_13 : decode cL_baskets 13 = .ok (.iconst 1, 1) := by decide +kernel
theorem dL_baskets_14 : decode cL_baskets 14 = .ok (.ireturn, 1) := by decide +kernel
theorem dL_baskets_15 : decode cL_baskets 15 = .ok (.iconst 0, 1) := by decide +kernel
theorem dL_baskets_16 : decode cL_baskets 16 = .ok (.ireturn, 1) := by decide +kernel
theorem dL_books_0 : decode cL_books 0 = .ok (.aload_n 2, 1) := by decide +kernel
theorem dL_books_1 : decode cL_books 1 = .ok (.iconst 0, 1) := by decide +kernel
theorem dL_books_2 : decode cL_books 2 = .ok (.aload_n 0, 1) := by decide +kernel
theorem dL_books_3 : decode cL_books 3 = .ok (.iload_n 1, 1) := by decide +kernel
theorem dL_books_4 : decode cL_books 4 = .ok (.invokevirtual 107, 3) := by decide +kernel
theorem dL_books_7 : decode cL_books 7 = .ok (.i2l, 1) := by decide +kernel
theorem dL_books_8 : decode cL_books 8 = .ok (.lastore, 1) := by decide +kernel
theorem dL_books_9 : decode cL_books 9 = .ok (.goto 6, 3) := by decide +kernel
theorem dL_books_12 : decode cL_books 12 = .ok (.astore_n 3, 1) := by decide +kernel
theorem dL_books_13 : decode cL_books 13 = .ok (.iconst 1, 1) := by decide +kernel
theorem dL_books_14 : decode cL_books 14 = .ok (.ireturn, 1) := by decide +kernel
theorem dL_books_15 : decode cL_books 15 = .ok (.iconst 0, 1) := by decide +kernel
theorem dL_books_16 : decode cL_books 16 = .ok (.ireturn, 1) := by decide +kernel
theorem dL_law__0 : decode cL_law_ 0 = .ok (.new 8, 3) := by decide +kernel
theorem dL_law__3 : decode cL_law_ 3 = .ok (.dup, 1) := by decide +kernel
theorem dL_law__4 : decode cL_law_ 4 = .ok (.invokespecial 110, 3) := by decide +kernel
theorem dL_law__7 : decode cL_law_ 7 = .ok (.astore_n 1, 1) := by decide +kernel
theorem dL_law__8 : decode cL_law_ 8 = .ok (.new 111, 3) := by decide +kernel
theorem dL_law__11 : decode cL_law_ 11 = .ok (.dup, 1) := by decide +kernel
theorem dL_law__12 : decode cL_law_ 12 = .ok (.invokespecial 113, 3) := by decide +kernel
theorem dL_law__15 : decode cL_law_ 15 = .ok (.astore_n 2, 1) := by decide +kernel
theorem dL_law__16 : decode cL_law_ 16 = .ok (.iconst 1, 1) := by decide +kernel
theorem dL_law__17 : decode cL_law_ 17 = .ok (.newarray .long, 2) := by decide +kernel
theorem dL_law__19 : decode cL_law_ 19 = .ok (.astore_n 3, 1) := by decide +kernel
theorem dL_law__20 : decode cL_law_ 20 = .ok (.iconst 0, 1) := by decide +kernel
theorem dL_law__21 : decode cL_law_ 21 = .ok (.istore 4, 2) := by decide +kernel
theorem dL_law__23 : decode cL_law_ 23 = .ok (.iload 4, 2) := by decide +kernel
theorem dL_law__25 : decode cL_law_ 25 = .ok (.aload_n 0, 1) := by decide +kernel
theorem dL_law__26 : decode cL_law_ 26 = .ok (.arraylength, 1) := by decide +kernel
theorem dL_law__27 : decode cL_law_ 27 = .ok (.iconst 4, 1) := by decide +kernel
theorem dL_law__28 : decode cL_law_ 28 = .ok (.isub, 1) := by decide +kernel
theorem dL_law__29 : decode cL_law_ 29 = .ok (.if_icmp .gt 2093, 3) := by decide +kernel
theorem dL_law__32 : decode cL_law_ 32 = .ok (.aload_n 0, 1) := by decide +kernel
theorem dL_law__33 : decode cL_law_ 33 = .ok (.iload 4, 2) := by decide +kernel
theorem dL_law__35 : decode cL_law_ 35 = .ok (.iaload, 1) := by decide +kernel
theorem dL_law__36 : decode cL_law_ 36 = .ok (.bipush 31, 2) := by decide +kernel
theorem dL_law__38 : decode cL_law_ 38 = .ok (.iand, 1) := by decide +kernel
theorem dL_law__39 : decode cL_law_ 39 = .ok (.tableswitch 2077 0 31 #[141, 185, 253, 309, 350, 418, 474, 542, 586, 622, 718, 786, 842, 922, 1002, 1082, 1138, 1206, 1297, 1338, 1351, 1407, 1498, 1549, 1605, 1649, 1705, 1773, 1841, 1909, 1965, 2021], 141) := by decide +kernel
theorem dL_law__180 : decode cL_law_ 180 = .ok (.aload_n 1, 1) := by decide +kernel
theorem dL_law__181 : decode cL_law_ 181 = .ok (.aload_n 3, 1) := by decide +kernel
theorem dL_law__182 : decode cL_law_ 182 = .ok (.invokestatic 114, 3) := by decide +kernel
theorem dL_law__185 : decode cL_law_ 185 = .ok (.istore 5, 2) := by decide +kernel
theorem dL_law__187 : decode cL_law_ 187 = .ok (.aload_n 2, 1) := by decide +kernel
theorem dL_law__188 : decode cL_law_ 188 = .ok (.invokevirtual 119, 3) := by decide +kernel
theorem dL_law__191 : decode cL_law_ 191 = .ok (.istore 6, 2) := by decide +kernel
theorem dL_law__193 : decode cL_law_ 193 = .ok (.aload_n 2, 1) := by decide +kernel
theorem dL_law__194 : decode cL_law_ 194 = .ok (.invokevirtual 120, 3) := by decide +kernel
theorem dL_law__197 : decode cL_law_ 197 = .ok (.iload 5, 2) := by decide +kernel
theorem dL_law__199 : decode cL_law_ 199 = .ok (.if_icmp .eq 5, 3) := by decide +kernel
theorem dL_law__202 : decode cL_law_ 202 = .ok (.iconst 0, 1) := by decide +kernel
theorem dL_law__203 : decode cL_law_ 203 = .ok (.ireturn, 1) := by decide +kernel
theorem dL_law__204 : decode cL_law_ 204 = .ok (.iload 5, 2) := by decide +kernel
theorem dL_law__206 : decode cL_law_ 206 = .ok (.ifCond .ne 15, 3) := by decide +kernel
theorem dL_law__209 : decode cL_law_ 209 = .ok (.aload_n 3, 1) := by decide +kernel
theorem dL_law__210 : decode cL_law_ 210 = .ok (.iconst 0, 1) := by decide +kernel
theorem dL_law__211 : decode cL_law_ 211 = .ok (.laload, 1) := by decide +kernel
theorem dL_law__212 : decode cL_law_ 212 = .ok (.iload 6, 2) := by decide +kernel
theorem dL_law__214 : decode cL_law_ 214 = .ok (.i2l, 1) := by decide +kernel
theorem dL_law__215 : decode cL_law_ 215 = .ok (.lcmp, 1) := by decide +kernel
theorem dL_law__216 : decode cL_law_ 216 = .ok (.ifCond .eq 5, 3) := by decide +kernel
theorem dL_law__219 : decode cL_law_ 219 = .ok (.iconst 0, 1) := by decide +kernel
theorem dL_law__220 : decode cL_law_ 220 = .ok (.ireturn, 1) := by decide +kernel
theorem dL_law__221 : decode cL_law_ 221 = .ok (.goto 1895, 3) := by decide +kernel
theorem dL_law__224 : decode cL_law_ 224 = .ok (.aload_n 1, 1) := by decide +kernel
theorem dL_law__225 : decode cL_law_ 225 = .ok (.aload_n 0, 1) := by decide +kernel
theorem dL_law__226 : decode cL_law_ 226 = .ok (.iload 4, 2) := by decide +kernel
theorem dL_law__228 : decode cL_law_ 228 = .ok (.iconst 1, 1) := by decide +kernel
theorem dL_law__229 : decode cL_law_ 229 = .ok (.iadd, 1) := by decide +kernel
theorem dL_law__230 : decode cL_law_ 230 = .ok (.iaload, 1) := by decide +kernel
theorem dL_law__231 : decode cL_law_ 231 = .ok (.aload_n 0, 1) := by decide +kernel
theorem dL_law__232 : decode cL_law_ 232 = .ok (.iload 4, 2) := by decide +kernel
theorem dL_law__234 : decode cL_law_ 234 = .ok (.iconst 2, 1) := by decide +kernel
theorem dL_law__235 : decode cL_law_ 235 = .ok (.iadd, 1) := by decide +kernel
theorem dL_law__236 : decode cL_law_ 236 = .ok (.iaload, 1) := by decide +kernel
theorem dL_law__237 : decode cL_law_ 237 = .ok (.aload_n 3, 1) := by decide +kernel
theorem dL_law__238 : decode cL_law_ 238 = .ok (.invokestatic 123, 3) := by decide +kernel
theorem dL_law__241 : decode cL_law_ 241 = .ok (.istore 5, 2) := by decide +kernel
theorem dL_law__243 : decode cL_law_ 243 = .ok (.aload_n 2, 1) := by decide +kernel
theorem dL_law__244 : decode cL_law_ 244 = .ok (.aload_n 0, 1) := by decide +kernel
theorem dL_law__245 : decode cL_law_ 245 = .ok (.iload 4, 2) := by decide +kernel
theorem dL_law__247 : decode cL_law_ 247 = .ok (.iconst 1, 1) := by decide +kernel
theorem dL_law__248 : decode cL_law_ 248 = .ok (.iadd, 1) := by decide +kernel
theorem dL_law__249 : decode cL_law_ 249 = .ok (.iaload, 1) := by decide +kernel
theorem dL_law__250 : decode cL_law_ 250 = .ok (.aload_n 0, 1) := by decide +kernel
theorem dL_law__251 : decode cL_law_ 251 = .ok (.iload 4, 2) := by decide +kernel
theorem dL_law__253 : decode cL_law_ 253 = .ok (.iconst 2, 1) := by decide +kernel
theorem dL_law__254 : decode cL_law_ 254 = .ok (.iadd, 1) := by decide +kernel
theorem dL_law__255 : decode cL_law_ 255 = .ok (.iaload, 1) := by decide +kernel
theorem dL_law__256 : decode cL_law_ 256 = .ok (.invokevirtual 126, 3) := by decide +kernel
theorem dL_law__259 : decode cL_law_ 259 = .ok (.istore 6, 2) := by decide +kernel
theorem dL_law__261 : decode cL_law_ 261 = .ok (.aload_n 2, 1) := by decide +kernel
theorem dL_law__262 : decode cL_law_ 262 = .ok (.invokevirtual 120, 3) := by decide +kernel
theorem dL_law__265 : decode cL_law_ 265 = .ok (.iload 5, 2) := by decide +kernel
theorem dL_law__267 : decode cL_law_ 267 = .ok (.if_icmp .eq 5, 3) := by decide +kernel
theorem dL_law__270 : decode cL_law_ 270 = .ok (.iconst 0, 1) := by decide +kernel
theorem dL_law__271 : decode cL_law_ 271 = .ok (.ireturn, 1) := by decide +kernel
theorem dL_law__272 : decode cL_law_ 272 = .ok (.iload 5, 2) := by decide +kernel
theorem dL_law__274 : decode cL_law_ 274 = .ok (.ifCond .ne 15, 3) := by decide +kernel
theorem dL_law__277 : decode cL_law_ 277 = .ok (.aload_n 3, 1) := by decide +kernel
theorem dL_law__278 : decode cL_law_ 278 = .ok (.iconst 0, 1) := by decide +kernel
theorem dL_law__279 : decode cL_law_ 279 = .ok (.laload, 1) := by decide +kernel
theorem dL_law__280 : decode cL_law_ 280 = .ok (.iload 6, 2) := by decide +kernel
theorem dL_law__282 : decode cL_law_ 282 = .ok (.i2l, 1) := by decide +kernel
theorem dL_law__283 : decode cL_law_ 283 = .ok (.lcmp, 1) := by decide +kernel
theorem dL_law__284 : decode cL_law_ 284 = .ok (.ifCond .eq 5, 3) := by decide +kernel
theorem dL_law__287 : decode cL_law_ 287 = .ok (.iconst 0, 1) := by decide +kernel
theorem dL_law__288 : decode cL_law_ 288 = .ok (.ireturn, 1) := by decide +kernel
theorem dL_law__289 : decode cL_law_ 289 = .ok (.goto 1827, 3) := by decide +kernel
theorem dL_law__292 : decode cL_law_ 292 = .ok (.aload_n 1, 1) := by decide +kernel
theorem dL_law__293 : decode cL_law_ 293 = .ok (.aload_n 0, 1) := by decide +kernel
theorem dL_law__294 : decode cL_law_ 294 = .ok (.iload 4, 2) := by decide +kernel
theorem dL_law__296 : decode cL_law_ 296 = .ok (.iconst 1, 1) := by decide +kernel
theorem dL_law__297 : decode cL_law_ 297 = .ok (.iadd, 1) := by decide +kernel
theorem dL_law__298 : decode cL_law_ 298 = .ok (.iaload, 1) := by decide +kernel
theorem dL_law__299 : decode cL_law_ 299 = .ok (.aload_n 3, 1) := by decide +kernel
theorem dL_law__300 : decode cL_law_ 300 = .ok (.invokestatic 127, 3) := by decide +kernel
theorem dL_law__303 : decode cL_law_ 303 = .ok (.istore 5, 2) := by decide +kernel
theorem dL_law__305 : decode cL_law_ 305 = .ok (.aload_n 2, 1) := by decide +kernel
theorem dL_law__306 : decode cL_law_ 306 = .ok (.aload_n 0, 1) := by decide +kernel
theorem dL_law__307 : decode cL_law_ 307 = .ok (.iload 4, 2) := by decide +kernel
theorem dL_law__309 : decode cL_law_ 309 = .ok (.iconst 1, 1) := by decide +kernel
theorem dL_law__310 : decode cL_law_ 310 = .ok (.iadd, 1) := by decide +kernel
theorem dL_law__311 : decode cL_law_ 311 = .ok (.iaload, 1) := by decide +kernel
theorem dL_law__312 : decode cL_law_ 312 = .ok (.invokevirtual 130, 3) := by decide +kernel
theorem dL_law__315 : decode cL_law_ 315 = .ok (.istore 6, 2) := by decide +kernel
theorem dL_law__317 : decode cL_law_ 317 = .ok (.aload_n 2, 1) := by decide +kernel
theorem dL_law__318 : decode cL_law_ 318 = .ok (.invokevirtual 120, 3) := by decide +kernel
theorem dL_law__321 : decode cL_law_ 321 = .ok (.iload 5, 2) := by decide +kernel
theorem dL_law__323 : decode cL_law_ 323 = .ok (.if_icmp .eq 5, 3) := by decide +kernel
theorem dL_law__326 : decode cL_law_ 326 = .ok (.iconst 0, 1) := by decide +kernel
theorem dL_law__327 : decode cL_law_ 327 = .ok (.ireturn, 1) := by decide +kernel
theorem dL_law__328 : decode cL_law_ 328 = .ok (.iload 5, 2) := by decide +kernel
theorem dL_law__330 : decode cL_law_ 330 = .ok (.ifCond .ne 15, 3) := by decide +kernel
theorem dL_law__333 : decode cL_law_ 333 = .ok (.aload_n 3, 1) := by decide +kernel
theorem dL_law__334 : decode cL_law_ 334 = .ok (.iconst 0, 1) := by decide +kernel
theorem dL_law__335 : decode cL_law_ 335 = .ok (.laload, 1) := by decide +kernel
theorem dL_law__336 : decode cL_law_ 336 = .ok (.iload 6, 2) := by decide +kernel
theorem dL_law__338 : decode cL_law_ 338 = .ok (.i2l, 1) := by decide +kernel
theorem dL_law__339 : decode cL_law_ 339 = .ok (.lcmp, 1) := by decide +kernel
theorem dL_law__340 : decode cL_law_ 340 = .ok (.ifCond .eq 5, 3) := by decide +kernel
theorem dL_law__343 : decode cL_law_ 343 = .ok (.iconst 0, 1) := by decide +kernel
theorem dL_law__344 : decode cL_law_ 344 = .ok (.ireturn, 1) := by decide +kernel
theorem dL_law__345 : decode cL_law_ 345 = .ok (.goto 1771, 3) := by decide +kernel
theorem dL_law__348 : decode cL_law_ 348 = .ok (.aload_n 1, 1) := by decide +kernel
theorem dL_law__349 : decode cL_law_ 349 = .ok (.aload_n 0, 1) := by decide +kernel
theorem dL_law__350 : decode cL_law_ 350 = .ok (.iload 4, 2) := by decide +kernel
theorem dL_law__352 : decode cL_law_ 352 = .ok (.iconst 1, 1) := by decide +kernel
theorem dL_law__353 : decode cL_law_ 353 = .ok (.iadd, 1) := by decide +kernel
theorem dL_law__354 : decode cL_law_ 354 = .ok (.iaload, 1) := by decide +kernel
theorem dL_law__355 : decode cL_law_ 355 = .ok (.ifCond .eq 7, 3) := by decide +kernel
theorem dL_law__358 : decode cL_law_ 358 = .ok (.iconst 1, 1) := by decide +kernel
theorem dL_law__359 : decode cL_law_ 359 = .ok (.goto 4, 3) := by decide +kernel
theorem dL_law__362 : decode cL_law_ 362 = .ok (.iconst 0, 1) := by decide +kernel
theorem dL_law__363 : decode cL_law_ 363 = .ok (.invokevirtual 131, 3) := by decide +kernel
theorem dL_law__366 : decode cL_law_ 366 = .ok (.aload_n 2, 1) := by decide +kernel
theorem dL_law__367 : decode cL_law_ 367 = .ok (.aload_n 0, 1) := by decide +kernel
theorem dL_law__368 : decode cL_law_ 368 = .ok (.iload 4, 2) := by decide +kernel
theorem dL_law__370 : decode cL_law_ 370 = .ok (.iconst 1, 1) := by decide +kernel
theorem dL_law__371 : decode cL_law_ 371 = .ok (.iadd, 1) := by decide +kernel
theorem dL_law__372 : decode cL_law_ 372 = .ok (.iaload, 1) := by decide +kernel
theorem dL_law__373 : decode cL_law_ 373 = .ok (.ifCond .eq 7, 3) := by decide +kernel
theorem dL_law__376 : decode cL_law_ 376 = .ok (.iconst 1, 1) := by decide +kernel
theorem dL_law__377 : decode cL_law_ 377 = .ok (.goto 4, 3) := by decide +kernel
theorem dL_law__380 : decode cL_law_ 380 = .ok (.iconst 0, 1) := by decide +kernel
theorem dL_law__381 : decode cL_law_ 381 = .ok (.invokevirtual 135, 3) := by decide +kernel
theorem dL_law__384 : decode cL_law_ 384 = .ok (.if_icmp .eq 1732, 3) := by decide +kernel
theorem dL_law__387 : decode cL_law_ 387 = .ok (.iconst 0, 1) := by decide +kernel
theorem dL_law__388 : decode cL_law_ 388 = .ok (.ireturn, 1) := by decide +kernel
theorem dL_law__389 : decode cL_law_ 389 = .ok (.aload_n 1, 1) := by decide +kernel
theorem dL_law__390 : decode cL_law_ 390 = .ok (.aload_n 0, 1) := by decide +kernel
theorem dL_law__391 : decode cL_law_ 391 = .ok (.iload 4, 2) := by decide +kernel
theorem dL_law__393 : decode cL_law_ 393 = .ok (.iconst 1, 1) := by decide +kernel
theorem dL_law__394 : decode cL_law_ 394 = .ok (.iadd, 1) := by decide +kernel
theorem dL_law__395 : decode cL_law_ 395 = .ok (.iaload, 1) := by decide +kernel
theorem dL_law__396 : decode cL_law_ 396 = .ok (.aload_n 0, 1) := by decide +kernel
theorem dL_law__397 : decode cL_law_ 397 = .ok (.iload 4, 2) := by decide +kernel
theorem dL_law__399 : decode cL_law_ 399 = .ok (.iconst 2, 1) := by decide +kernel
theorem dL_law__400 : decode cL_law_ 400 = .ok (.iadd, 1) := by decide +kernel
theorem dL_law__401 : decode cL_law_ 401 = .ok (.iaload, 1) := by decide +kernel
theorem dL_law__402 : decode cL_law_ 402 = .ok (.aload_n 3, 1) := by decide +kernel
theorem dL_law__403 : decode cL_law_ 403 = .ok (.invokestatic 136, 3) := by decide +kernel
theorem dL_law__406 : decode cL_law_ 406 = .ok (.istore 5, 2) := by decide +kernel
theorem dL_law__408 : decode cL_law_ 408 = .ok (.aload_n 2, 1) := by decide +kernel
theorem dL_law__409 : decode cL_law_ 409 = .ok (.aload_n 0, 1) := by decide +kernel
theorem dL_law__410 : decode cL_law_ 410 = .ok (.iload 4, 2) := by decide +kernel
theorem dL_law__412 : decode cL_law_ 412 = .ok (.iconst 1, 1) := by decide +kernel
theorem dL_law__413 : decode cL_law_ 413 = .ok (.iadd, 1) := by decide +kernel
theorem dL_law__414 : decode cL_law_ 414 = .ok (.iaload, 1) := by decide +kernel
theorem dL_law__415 : decode cL_law_ 415 = .ok (.aload_n 0, 1) := by decide +kernel
theorem dL_law__416 : decode cL_law_ 416 = .ok (.iload 4, 2) := by decide +kernel
theorem dL_law__418 : decode cL_law_ 418 = .ok (.iconst 2, 1) := by decide +kernel
theorem dL_law__419 : decode cL_law_ 419 = .ok (.iadd, 1) := by decide +kernel
theorem dL_law__420 : decode cL_law_ 420 = .ok (.iaload, 1) := by decide +kernel
theorem dL_law__421 : decode cL_law_ 421 = .ok (.invokevirtual 138, 3) := by decide +kernel
theorem dL_law__424 : decode cL_law_ 424 = .ok (.istore 6, 2) := by decide +kernel
theorem dL_law__426 : decode cL_law_ 426 = .ok (.aload_n 2, 1) := by decide +kernel
theorem dL_law__427 : decode cL_law_ 427 = .ok (.invokevirtual 120, 3) := by decide +kernel
theorem dL_law__430 : decode cL_law_ 430 = .ok (.iload 5, 2) := by decide +kernel
theorem dL_law__432 : decode cL_law_ 432 = .ok (.if_icmp .eq 5, 3) := by decide +kernel
theorem dL_law__435 : decode cL_law_ 435 = .ok (.iconst 0, 1) := by decide +kernel
theorem dL_law__436 : decode cL_law_ 436 = .ok (.ireturn, 1) := by decide +kernel
theorem dL_law__437 : decode cL_law_ 437 = .ok (.iload 5, 2) := by decide +kernel
theorem dL_law__439 : decode cL_law_ 439 = .ok (.ifCond .ne 15, 3) := by decide +kernel
theorem dL_law__442 : decode cL_law_ 442 = .ok (.aload_n 3, 1) := by decide +kernel
theorem dL_law__443 : decode cL_law_ 443 = .ok (.iconst 0, 1) := by decide +kernel
theorem dL_law__444 : decode cL_law_ 444 = .ok (.laload, 1) := by decide +kernel
theorem dL_law__445 : decode cL_law_ 445 = .ok (.iload 6, 2) := by decide +kernel
theorem dL_law__447 : decode cL_law_ 447 = .ok (.i2l, 1) := by decide +kernel
theorem dL_law__448 : decode cL_law_ 448 = .ok (.lcmp, 1) := by decide +kernel
theorem dL_law__449 : decode cL_law_ 449 = .ok (.ifCond .eq 5, 3) := by decide +kernel
theorem dL_law__452 : decode cL_law_ 452 = .ok (.iconst 0, 1) := by decide +kernel
theorem dL_law__453 : decode cL_law_ 453 = .ok (.ireturn, 1) := by decide +kernel
theorem dL_law__454 : decode cL_law_ 454 = .ok (.goto 1662, 3) := by decide +kernel
theorem dL_law__457 : decode cL_law_ 457 = .ok (.aload_n 1, 1) := by decide +kernel
theorem dL_law__458 : decode cL_law_ 458 = .ok (.aload_n 0, 1) := by decide +kernel
theorem dL_law__459 : decode cL_law_ 459 = .ok (.iload 4, 2) := by decide +kernel
theorem dL_law__461 : decode cL_law_ 461 = .ok (.iconst 1, 1) := by decide +kernel
theorem dL_law__462 : decode cL_law_ 462 = .ok (.iadd, 1) := by decide +kernel
theorem dL_law__463 : decode cL_law_ 463 = .ok (.iaload, 1) := by decide +kernel
theorem dL_law__464 : decode cL_law_ 464 = .ok (.aload_n 3, 1) := by decide +kernel
theorem dL_law__465 : decode cL_law_ 465 = .ok (.invokestatic 139, 3) := by decide +kernel
theorem dL_law__468 : decode cL_law_ 468 = .ok (.istore 5, 2) := by decide +kernel
theorem dL_law__470 : decode cL_law_ 470 = .ok (.aload_n 2, 1) := by decide +kernel
theorem dL_law__471 : decode cL_law_ 471 = .ok (.aload_n 0, 1) := by decide +kernel
theorem dL_law__472 : decode cL_law_ 472 = .ok (.iload 4, 2) := by decide +kernel
theorem dL_law__474 : decode cL_law_ 474 = .ok (.iconst 1, 1) := by decide +kernel
theorem dL_law__475 : decode cL_law_ 475 = .ok (.iadd, 1) := by decide +kernel
theorem dL_law__476 : decode cL_law_ 476 = .ok (.iaload, 1) := by decide +kernel
theorem dL_law__477 : decode cL_law_ 477 = .ok (.invokevirtual 141, 3) := by decide +kernel
theorem dL_law__480 : decode cL_law_ 480 = .ok (.istore 6, 2) := by decide +kernel
theorem dL_law__482 : decode cL_law_ 482 = .ok (.aload_n 2, 1) := by decide +kernel
theorem dL_law__483 : decode cL_law_ 483 = .ok (.invokevirtual 120, 3) := by decide +kernel
theorem dL_law__486 : decode cL_law_ 486 = .ok (.iload 5, 2) := by decide +kernel
theorem dL_law__488 : decode cL_law_ 488 = .ok (.if_icmp .eq 5, 3) := by decide +kernel
theorem dL_law__491 : decode cL_law_ 491 = .ok (.iconst 0, 1) := by decide +kernel
theorem dL_law__492 : decode cL_law_ 492 = .ok (.ireturn, 1) := by decide +kernel
theorem dL_law__493 : decode cL_law_ 493 = .ok (.iload 5, 2) := by decide +kernel
theorem dL_law__495 : decode cL_law_ 495 = .ok (.ifCond .ne 15, 3) := by decide +kernel
theorem dL_law__498 : decode cL_law_ 498 = .ok (.aload_n 3, 1) := by decide +kernel
theorem dL_law__499 : decode cL_law_ 499 = .ok (.iconst 0, 1) := by decide +kernel
theorem dL_law__500 : decode cL_law_ 500 = .ok (.laload, 1) := by decide +kernel
theorem dL_law__501 : decode cL_law_ 501 = .ok (.iload 6, 2) := by decide +kernel
theorem dL_law__503 : decode cL_law_ 503 = .ok (.i2l, 1) := by decide +kernel
theorem dL_law__504 : decode cL_law_ 504 = .ok (.lcmp, 1) := by decide +kernel
theorem dL_law__505 : decode cL_law_ 505 = .ok (.ifCond .eq 5, 3) := by decide +kernel
theorem dL_law__508 : decode cL_law_ 508 = .ok (.iconst 0, 1) := by decide +kernel
theorem dL_law__509 : decode cL_law_ 509 = .ok (.ireturn, 1) := by decide +kernel
theorem dL_law__510 : decode cL_law_ 510 = .ok (.goto 1606, 3) := by decide +kernel
theorem dL_law__513 : decode cL_law_ 513 = .ok (.aload_n 1, 1) := by decide +kernel
theorem dL_law__514 : decode cL_law_ 514 = .ok (.aload_n 0, 1) := by decide +kernel
theorem dL_law__515 : decode cL_law_ 515 = .ok (.iload 4, 2) := by decide +kernel
theorem dL_law__517 : decode cL_law_ 517 = .ok (.iconst 1, 1) := by decide +kernel
theorem dL_law__518 : decode cL_law_ 518 = .ok (.iadd, 1) := by decide +kernel
theorem dL_law__519 : decode cL_law_ 519 = .ok (.iaload, 1) := by decide +kernel
theorem dL_law__520 : decode cL_law_ 520 = .ok (.aload_n 0, 1) := by decide +kernel
theorem dL_law__521 : decode cL_law_ 521 = .ok (.iload 4, 2) := by decide +kernel
theorem dL_law__523 : decode cL_law_ 523 = .ok (.iconst 2, 1) := by decide +kernel
theorem dL_law__524 : decode cL_law_ 524 = .ok (.iadd, 1) := by decide +kernel
theorem dL_law__525 : decode cL_law_ 525 = .ok (.iaload, 1) := by decide +kernel
theorem dL_law__526 : decode cL_law_ 526 = .ok (.aload_n 3, 1) := by decide +kernel
theorem dL_law__527 : decode cL_law_ 527 = .ok (.invokestatic 142, 3) := by decide +kernel
theorem dL_law__530 : decode cL_law_ 530 = .ok (.istore 5, 2) := by decide +kernel
theorem dL_law__532 : decode cL_law_ 532 = .ok (.aload_n 2, 1) := by decide +kernel
theorem dL_law__533 : decode cL_law_ 533 = .ok (.aload_n 0, 1) := by decide +kernel
theorem dL_law__534 : decode cL_law_ 534 = .ok (.iload 4, 2) := by decide +kernel
theorem dL_law__536 : decode cL_law_ 536 = .ok (.iconst 1, 1) := by decide +kernel
theorem dL_law__537 : decode cL_law_ 537 = .ok (.iadd, 1) := by decide +kernel
theorem dL_law__538 : decode cL_law_ 538 = .ok (.iaload, 1) := by decide +kernel
theorem dL_law__539 : decode cL_law_ 539 = .ok (.aload_n 0, 1) := by decide +kernel
theorem dL_law__540 : decode cL_law_ 540 = .ok (.iload 4, 2) := by decide +kernel
theorem dL_law__542 : decode cL_law_ 542 = .ok (.iconst 2, 1) := by decide +kernel
theorem dL_law__543 : decode cL_law_ 543 = .ok (.iadd, 1) := by decide +kernel
theorem dL_law__544 : decode cL_law_ 544 = .ok (.iaload, 1) := by decide +kernel
theorem dL_law__545 : decode cL_law_ 545 = .ok (.invokevirtual 144, 3) := by decide +kernel
theorem dL_law__548 : decode cL_law_ 548 = .ok (.istore 6, 2) := by decide +kernel
theorem dL_law__550 : decode cL_law_ 550 = .ok (.aload_n 2, 1) := by decide +kernel
theorem dL_law__551 : decode cL_law_ 551 = .ok (.invokevirtual 120, 3) := by decide +kernel
theorem dL_law__554 : decode cL_law_ 554 = .ok (.iload 5, 2) := by decide +kernel
theorem dL_law__556 : decode cL_law_ 556 = .ok (.if_icmp .eq 5, 3) := by decide +kernel
theorem dL_law__559 : decode cL_law_ 559 = .ok (.iconst 0, 1) := by decide +kernel
theorem dL_law__560 : decode cL_law_ 560 = .ok (.ireturn, 1) := by decide +kernel
theorem dL_law__561 : decode cL_law_ 561 = .ok (.iload 5, 2) := by decide +kernel
theorem dL_law__563 : decode cL_law_ 563 = .ok (.ifCond .ne 15, 3) := by decide +kernel
theorem dL_law__566 : decode cL_law_ 566 = .ok (.aload_n 3, 1) := by decide +kernel
theorem dL_law__567 : decode cL_law_ 567 = .ok (.iconst 0, 1) := by decide +kernel
theorem dL_law__568 : decode cL_law_ 568 = .ok (.laload, 1) := by decide +kernel
theorem dL_law__569 : decode cL_law_ 569 = .ok (.iload 6, 2) := by decide +kernel
theorem dL_law__571 : decode cL_law_ 571 = .ok (.i2l, 1) := by decide +kernel
theorem dL_law__572 : decode cL_law_ 572 = .ok (.lcmp, 1) := by decide +kernel
theorem dL_law__573 : decode cL_law_ 573 = .ok (.ifCond .eq 5, 3) := by decide +kernel
theorem dL_law__576 : decode cL_law_ 576 = .ok (.iconst 0, 1) := by decide +kernel
theorem dL_law__577 : decode cL_law_ 577 = .ok (.ireturn, 1) := by decide +kernel
theorem dL_law__578 : decode cL_law_ 578 = .ok (.goto 1538, 3) := by decide +kernel
theorem dL_law__581 : decode cL_law_ 581 = .ok (.aload_n 1, 1) := by decide +kernel
theorem dL_law__582 : decode cL_law_ 582 = .ok (.aload_n 3, 1) := by decide +kernel
theorem dL_law__583 : decode cL_law_ 583 = .ok (.invokestatic 145, 3) := by decide +kernel
theorem dL_law__586 : decode cL_law_ 586 = .ok (.istore 5, 2) := by decide +kernel
theorem dL_law__588 : decode cL_law_ 588 = .ok (.aload_n 2, 1) := by decide +kernel
theorem dL_law__589 : decode cL_law_ 589 = .ok (.invokevirtual 147, 3) := by decide +kernel
theorem dL_law__592 : decode cL_law_ 592 = .ok (.istore 6, 2) := by decide +kernel
theorem dL_law__594 : decode cL_law_ 594 = .ok (.aload_n 2, 1) := by decide +kernel
theorem dL_law__595 : decode cL_law_ 595 = .ok (.invokevirtual 120, 3) := by decide +kernel
theorem dL_law__598 : decode cL_law_ 598 = .ok (.iload 5, 2) := by decide +kernel
theorem dL_law__600 : decode cL_law_ 600 = .ok (.if_icmp .eq 5, 3) := by decide +kernel
theorem dL_law__603 : decode cL_law_ 603 = .ok (.iconst 0, 1) := by decide +kernel
theorem dL_law__604 : decode cL_law_ 604 = .ok (.ireturn, 1) := by decide +kernel
theorem dL_law__605 : decode cL_law_ 605 = .ok (.iload 5, 2) := by decide +kernel
theorem dL_law__607 : decode cL_law_ 607 = .ok (.ifCond .ne 15, 3) := by decide +kernel
theorem dL_law__610 : decode cL_law_ 610 = .ok (.aload_n 3, 1) := by decide +kernel
theorem dL_law__611 : decode cL_law_ 611 = .ok (.iconst 0, 1) := by decide +kernel
theorem dL_law__612 : decode cL_law_ 612 = .ok (.laload, 1) := by decide +kernel
theorem dL_law__613 : decode cL_law_ 613 = .ok (.iload 6, 2) := by decide +kernel
theorem dL_law__615 : decode cL_law_ 615 = .ok (.i2l, 1) := by decide +kernel
theorem dL_law__616 : decode cL_law_ 616 = .ok (.lcmp, 1) := by decide +kernel
theorem dL_law__617 : decode cL_law_ 617 = .ok (.ifCond .eq 5, 3) := by decide +kernel
theorem dL_law__620 : decode cL_law_ 620 = .ok (.iconst 0, 1) := by decide +kernel
theorem dL_law__621 : decode cL_law_ 621 = .ok (.ireturn, 1) := by decide +kernel
theorem dL_law__622 : decode cL_law_ 622 = .ok (.goto 1494, 3) := by decide +kernel
theorem dL_law__625 : decode cL_law_ 625 = .ok (.aload_n 1, 1) := by decide +kernel
theorem dL_law__626 : decode cL_law_ 626 = .ok (.aload_n 0, 1) := by decide +kernel
theorem dL_law__627 : decode cL_law_ 627 = .ok (.iload 4, 2) := by decide +kernel
theorem dL_law__629 : decode cL_law_ 629 = .ok (.iconst 1, 1) := by decide +kernel
theorem dL_law__630 : decode cL_law_ 630 = .ok (.iadd, 1) := by decide +kernel
theorem dL_law__631 : decode cL_law_ 631 = .ok (.iaload, 1) := by decide +kernel
theorem dL_law__632 : decode cL_law_ 632 = .ok (.invokestatic 148, 3) := by decide +kernel
theorem dL_law__635 : decode cL_law_ 635 = .ok (.istore 5, 2) := by decide +kernel
theorem dL_law__637 : decode cL_law_ 637 = .ok (.aload_n 2, 1) := by decide +kernel
theorem dL_law__638 : decode cL_law_ 638 = .ok (.aload_n 0, 1) := by decide +kernel
theorem dL_law__639 : decode cL_law_ 639 = .ok (.iload 4, 2) := by decide +kernel
theorem dL_law__641 : decode cL_law_ 641 = .ok (.iconst 1, 1) := by decide +kernel
theorem dL_law__642 : decode cL_law_ 642 = .ok (.iadd, 1) := by decide +kernel
theorem dL_law__643 : decode cL_law_ 643 = .ok (.iaload, 1) := by decide +kernel
theorem dL_law__644 : decode cL_law_ 644 = .ok (.invokevirtual 151, 3) := by decide +kernel
theorem dL_law__647 : decode cL_law_ 647 = .ok (.aload_n 2, 1) := by decide +kernel
theorem dL_law__648 : decode cL_law_ 648 = .ok (.invokevirtual 120, 3) := by decide +kernel
theorem dL_law__651 : decode cL_law_ 651 = .ok (.iload 5, 2) := by decide +kernel
theorem dL_law__653 : decode cL_law_ 653 = .ok (.if_icmp .eq 5, 3) := by decide +kernel
theorem dL_law__656 : decode cL_law_ 656 = .ok (.iconst 0, 1) := by decide +kernel
theorem dL_law__657 : decode cL_law_ 657 = .ok (.ireturn, 1) := by decide +kernel
theorem dL_law__658 : decode cL_law_ 658 = .ok (.goto 1458, 3) := by decide +kernel
theorem dL_law__661 : decode cL_law_ 661 = .ok (.aload_n 1, 1) := by decide +kernel
theorem dL_law__662 : decode cL_law_ 662 = .ok (.aload_n 0, 1) := by decide +kernel
theorem dL_law__663 : decode cL_law_ 663 = .ok (.iload 4, 2) := by decide +kernel
theorem dL_law__665 : decode cL_law_ 665 = .ok (.iconst 1, 1) := by decide +kernel
theorem dL_law__666 : decode cL_law_ 666 = .ok (.iadd, 1) := by decide +kernel
theorem dL_law__667 : decode cL_law_ 667 = .ok (.iaload, 1) := by decide +kernel
theorem dL_law__668 : decode cL_law_ 668 = .ok (.aload_n 0, 1) := by decide +kernel
theorem dL_law__669 : decode cL_law_ 669 = .ok (.iload 4, 2) := by decide +kernel
theorem dL_law__671 : decode cL_law_ 671 = .ok (.iconst 2, 1) := by decide +kernel
theorem dL_law__672 : decode cL_law_ 672 = .ok (.iadd, 1) := by decide +kernel
theorem dL_law__673 : decode cL_law_ 673 = .ok (.iaload, 1) := by decide +kernel
theorem dL_law__674 : decode cL_law_ 674 = .ok (.aload_n 0, 1) := by decide +kernel
theorem dL_law__675 : decode cL_law_ 675 = .ok (.iload 4, 2) := by decide +kernel
theorem dL_law__677 : decode cL_law_ 677 = .ok (.iconst 3, 1) := by decide +kernel
theorem dL_law__678 : decode cL_law_ 678 = .ok (.iadd, 1) := by decide +kernel
theorem dL_law__679 : decode cL_law_ 679 = .ok (.iaload, 1) := by decide +kernel
theorem dL_law__680 : decode cL_law_ 680 = .ok (.ifCond .eq 7, 3) := by decide +kernel
theorem dL_law__683 : decode cL_law_ 683 = .ok (.iconst 1, 1) := by decide +kernel
theorem dL_law__684 : decode cL_law_ 684 = .ok (.goto 4, 3) := by decide +kernel
theorem dL_law__687 : decode cL_law_ 687 = .ok (.iconst 0, 1) := by decide +kernel
theorem dL_law__688 : decode cL_law_ 688 = .ok (.aload_n 3, 1) := by decide +kernel
theorem dL_law__689 : decode cL_law_ 689 = .ok (.invokestatic 152, 3) := by decide +kernel
theorem dL_law__692 : decode cL_law_ 692 = .ok (.istore 5, 2) := by decide +kernel
theorem dL_law__694 : decode cL_law_ 694 = .ok (.aload_n 2, 1) := by decide +kernel
theorem dL_law__695 : decode cL_law_ 695 = .ok (.aload_n 0, 1) := by decide +kernel
theorem dL_law__696 : decode cL_law_ 696 = .ok (.iload 4, 2) := by decide +kernel
theorem dL_law__698 : decode cL_law_ 698 = .ok (.iconst 1, 1) := by decide +kernel
theorem dL_law__699 : decode cL_law_ 699 = .ok (.iadd, 1) := by decide +kernel
theorem dL_law__700 : decode cL_law_ 700 = .ok (.iaload, 1) := by decide +kernel
theorem dL_law__701 : decode cL_law_ 701 = .ok (.aload_n 0, 1) := by decide +kernel
theorem dL_law__702 : decode cL_law_ 702 = .ok (.iload 4, 2) := by decide +kernel
theorem dL_law__704 : decode cL_law_ 704 = .ok (.iconst 2, 1) := by decide +kernel
theorem dL_law__705 : decode cL_law_ 705 = .ok (.iadd, 1) := by decide +kernel
theorem dL_law__706 : decode cL_law_ 706 = .ok (.iaload, 1) := by decide +kernel
theorem dL_law__707 : decode cL_law_ 707 = .ok (.aload_n 0, 1) := by decide +kernel
theorem dL_law__708 : decode cL_law_ 708 = .ok (.iload 4, 2) := by decide +kernel
theorem dL_law__710 : decode cL_law_ 710 = .ok (.iconst 3, 1) := by decide +kernel
theorem dL_law__711 : decode cL_law_ 711 = .ok (.iadd, 1) := by decide +kernel
theorem dL_law__712 : decode cL_law_ 712 = .ok (.iaload, 1) := by decide +kernel
theorem dL_law__713 : decode cL_law_ 713 = .ok (.ifCond .eq 7, 3) := by decide +kernel
theorem dL_law__716 : decode cL_law_ 716 = .ok (.iconst 1, 1) := by decide +kernel
theorem dL_law__717 : decode cL_law_ 717 = .ok (.goto 4, 3) := by decide +kernel
theorem dL_law__720 : decode cL_law_ 720 = .ok (.iconst 0, 1) := by decide +kernel
theorem dL_law__721 : decode cL_law_ 721 = .ok (.invokevirtual 155, 3) := by decide +kernel
theorem dL_law__724 : decode cL_law_ 724 = .ok (.istore 6, 2) := by decide +kernel
theorem dL_law__726 : decode cL_law_ 726 = .ok (.aload_n 2, 1) := by decide +kernel
theorem dL_law__727 : decode cL_law_ 727 = .ok (.invokevirtual 120, 3) := by decide +kernel
theorem dL_law__730 : decode cL_law_ 730 = .ok (.iload 5, 2) := by decide +kernel
theorem dL_law__732 : decode cL_law_ 732 = .ok (.if_icmp .eq 5, 3) := by decide +kernel
theorem dL_law__735 : decode cL_law_ 735 = .ok (.iconst 0, 1) := by decide +kernel
theorem dL_law__736 : decode cL_law_ 736 = .ok (.ireturn, 1) := by decide +kernel
theorem dL_law__737 : decode cL_law_ 737 = .ok (.iload 5, 2) := by decide +kernel
theorem dL_law__739 : decode cL_law_ 739 = .ok (.ifCond .ne 15, 3) := by decide +kernel
theorem dL_law__742 : decode cL_law_ 742 = .ok (.aload_n 3, 1) := by decide +kernel
theorem dL_law__743 : decode cL_law_ 743 = .ok (.iconst 0, 1) := by decide +kernel
theorem dL_law__744 : decode cL_law_ 744 = .ok (.laload, 1) := by decide +kernel
theorem dL_law__745 : decode cL_law_ 745 = .ok (.iload 6, 2) := by decide +kernel
theorem dL_law__747 : decode cL_law_ 747 = .ok (.i2l, 1) := by decide +kernel
theorem dL_law__748 : decode cL_law_ 748 = .ok (.lcmp, 1) := by decide +kernel
theorem dL_law__749 : decode cL_law_ 749 = .ok (.ifCond .eq 5, 3) := by decide +kernel
theorem dL_law__752 : decode cL_law_ 752 = .ok (.iconst 0, 1) := by decide +kernel
theorem dL_law__753 : decode cL_law_ 753 = .ok (.ireturn, 1) := by decide +kernel
theorem dL_law__754 : decode cL_law_ 754 = .ok (.goto 1362, 3) := by decide +kernel
theorem dL_law__757 : decode cL_law_ 757 = .ok (.aload_n 1, 1) := by decide +kernel
theorem dL_law__758 : decode cL_law_ 758 = .ok (.aload_n 0, 1) := by decide +kernel
theorem dL_law__759 : decode cL_law_ 759 = .ok (.iload 4, 2) := by decide +kernel
theorem dL_law__761 : decode cL_law_ 761 = .ok (.iconst 1, 1) := by decide +kernel
theorem dL_law__762 : decode cL_law_ 762 = .ok (.iadd, 1) := by decide +kernel
theorem dL_law__763 : decode cL_law_ 763 = .ok (.iaload, 1) := by decide +kernel
theorem dL_law__764 : decode cL_law_ 764 = .ok (.aload_n 0, 1) := by decide +kernel
theorem dL_law__765 : decode cL_law_ 765 = .ok (.iload 4, 2) := by decide +kernel
theorem dL_law__767 : decode cL_law_ 767 = .ok (.iconst 2, 1) := by decide +kernel
theorem dL_law__768 : decode cL_law_ 768 = .ok (.iadd, 1) := by decide +kernel
theorem dL_law__769 : decode cL_law_ 769 = .ok (.iaload, 1) := by decide +kernel
theorem dL_law__770 : decode cL_law_ 770 = .ok (.aload_n 3, 1) := by decide +kernel
theorem dL_law__771 : decode cL_law_ 771 = .ok (.invokestatic 156, 3) := by decide +kernel
theorem dL_law__774 : decode cL_law_ 774 = .ok (.istore 5, 2) := by decide +kernel
theorem dL_law__776 : decode cL_law_ 776 = .ok (.aload_n 2, 1) := by decide +kernel
theorem dL_law__777 : decode cL_law_ 777 = .ok (.aload_n 0, 1) := by decide +kernel
theorem dL_law__778 : decode cL_law_ 778 = .ok (.iload 4, 2) := by decide +kernel
theorem dL_law__780 : decode cL_law_ 780 = .ok (.iconst 1, 1) := by decide +kernel
theorem dL_law__781 : decode cL_law_ 781 = .ok (.iadd, 1) := by decide +kernel
theorem dL_law__782 : decode cL_law_ 782 = .ok (.iaload, 1) := by decide +kernel
theorem dL_law__783 : decode cL_law_ 783 = .ok (.aload_n 0, 1) := by decide +kernel
theorem dL_law__784 : decode cL_law_ 784 = .ok (.iload 4, 2) := by decide +kernel
theorem dL_law__786 : decode cL_law_ 786 = .ok (.iconst 2, 1) := by decide +kernel
theorem dL_law__787 : decode cL_law_ 787 = .ok (.iadd, 1) := by decide +kernel
theorem dL_law__788 : decode cL_law_ 788 = .ok (.iaload, 1) := by decide +kernel
theorem dL_law__789 : decode cL_law_ 789 = .ok (.invokevirtual 158, 3) := by decide +kernel
theorem dL_law__792 : decode cL_law_ 792 = .ok (.istore 6, 2) := by decide +kernel
theorem dL_law__794 : decode cL_law_ 794 = .ok (.aload_n 2, 1) := by decide +kernel
theorem dL_law__795 : decode cL_law_ 795 = .ok (.invokevirtual 120, 3) := by decide +kernel
theorem dL_law__798 : decode cL_law_ 798 = .ok (.iload 5, 2) := by decide +kernel
theorem dL_law__800 : decode cL_law_ 800 = .ok (.if_icmp .eq 5, 3) := by decide +kernel
theorem dL_law__803 : decode cL_law_ 803 = .ok (.iconst 0, 1) := by decide +kernel
theorem dL_law__804 : decode cL_law_ 804 = .ok (.ireturn, 1) := by decide +kernel
theorem dL_law__805 : decode cL_law_ 805 = .ok (.iload 5, 2) := by decide +kernel
theorem dL_law__807 : decode cL_law_ 807 = .ok (.ifCond .ne 15, 3) := by decide +kernel
theorem dL_law__810 : decode cL_law_ 810 = .ok (.aload_n 3, 1) := by decide +kernel
theorem dL_law__811 : decode cL_law_ 811 = .ok (.iconst 0, 1) := by decide +kernel
theorem dL_law__812 : decode cL_law_ 812 = .ok (.laload, 1) := by decide +kernel
theorem dL_law__813 : decode cL_law_ 813 = .ok (.iload 6, 2) := by decide +kernel
theorem dL_law__815 : decode cL_law_ 815 = .ok (.i2l, 1) := by decide +kernel
theorem dL_law__816 : decode cL_law_ 816 = .ok (.lcmp, 1) := by decide +kernel
theorem dL_law__817 : decode cL_law_ 817 = .ok (.ifCond .eq 5, 3) := by decide +kernel
theorem dL_law__820 : decode cL_law_ 820 = .ok (.iconst 0, 1) := by decide +kernel
theorem dL_law__821 : decode cL_law_ 821 = .ok (.ireturn, 1) := by decide +kernel
theorem dL_law__822 : decode cL_law_ 822 = .ok (.goto 1294, 3) := by decide +kernel
theorem dL_law__825 : decode cL_law_ 825 = .ok (.aload_n 1, 1) := by decide +kernel
theorem dL_law__826 : decode cL_law_ 826 = .ok (.aload_n 0, 1) := by decide +kernel
theorem dL_law__827 : decode cL_law_ 827 = .ok (.iload 4, 2) := by decide +kernel
theorem dL_law__829 : decode cL_law_ 829 = .ok (.iconst 1, 1) := by decide +kernel
theorem dL_law__830 : decode cL_law_ 830 = .ok (.iadd, 1) := by decide +kernel
theorem dL_law__831 : decode cL_law_ 831 = .ok (.iaload, 1) := by decide +kernel
theorem dL_law__832 : decode cL_law_ 832 = .ok (.aload_n 3, 1) := by decide +kernel
theorem dL_law__833 : decode cL_law_ 833 = .ok (.invokestatic 159, 3) := by decide +kernel
theorem dL_law__836 : decode cL_law_ 836 = .ok (.istore 5, 2) := by decide +kernel
theorem dL_law__838 : decode cL_law_ 838 = .ok (.aload_n 2, 1) := by decide +kernel
theorem dL_law__839 : decode cL_law_ 839 = .ok (.aload_n 0, 1) := by decide +kernel
theorem dL_law__840 : decode cL_law_ 840 = .ok (.iload 4, 2) := by decide +kernel
theorem dL_law__842 : decode cL_law_ 842 = .ok (.iconst 1, 1) := by decide +kernel
theorem dL_law__843 : decode cL_law_ 843 = .ok (.iadd, 1) := by decide +kernel
theorem dL_law__844 : decode cL_law_ 844 = .ok (.iaload, 1) := by decide +kernel
theorem dL_law__845 : decode cL_law_ 845 = .ok (.invokevirtual 161, 3) := by decide +kernel
theorem dL_law__848 : decode cL_law_ 848 = .ok (.istore 6, 2) := by decide +kernel
theorem dL_law__850 : decode cL_law_ 850 = .ok (.aload_n 2, 1) := by decide +kernel
theorem dL_law__851 : decode cL_law_ 851 = .ok (.invokevirtual 120, 3) := by decide +kernel
theorem dL_law__854 : decode cL_law_ 854 = .ok (.iload 5, 2) := by decide +kernel
theorem dL_law__856 : decode cL_law_ 856 = .ok (.if_icmp .eq 5, 3) := by decide +kernel
theorem dL_law__859 : decode cL_law_ 859 = .ok (.iconst 0, 1) := by decide +kernel
theorem dL_law__860 : decode cL_law_ 860 = .ok (.ireturn, 1) := by decide +kernel
theorem dL_law__861 : decode cL_law_ 861 = .ok (.iload 5, 2) := by decide +kernel
theorem dL_law__863 : decode cL_law_ 863 = .ok (.ifCond .ne 15, 3) := by decide +kernel
theorem dL_law__866 : decode cL_law_ 866 = .ok (.aload_n 3, 1) := by decide +kernel
theorem dL_law__867 : decode cL_law_ 867 = .ok (.iconst 0, 1) := by decide +kernel
theorem dL_law__868 : decode cL_law_ 868 = .ok (.laload, 1) := by decide +kernel
theorem dL_law__869 : decode cL_law_ 869 = .ok (.iload 6, 2) := by decide +kernel
theorem dL_law__871 : decode cL_law_ 871 = .ok (.i2l, 1) := by decide +kernel
theorem dL_law__872 : decode cL_law_ 872 = .ok (.lcmp, 1) := by decide +kernel
theorem dL_law__873 : decode cL_law_ 873 = .ok (.ifCond .eq 5, 3) := by decide +kernel
theorem dL_law__876 : decode cL_law_ 876 = .ok (.iconst 0, 1) := by decide +kernel
theorem dL_law__877 : decode cL_law_ 877 = .ok (.ireturn, 1) := by decide +kernel
theorem dL_law__878 : decode cL_law_ 878 = .ok (.goto 1238, 3) := by decide +kernel
theorem dL_law__881 : decode cL_law_ 881 = .ok (.aload_n 1, 1) := by decide +kernel
theorem dL_law__882 : decode cL_law_ 882 = .ok (.aload_n 0, 1) := by decide +kernel
theorem dL_law__883 : decode cL_law_ 883 = .ok (.iload 4, 2) := by decide +kernel
theorem dL_law__885 : decode cL_law_ 885 = .ok (.iconst 1, 1) := by decide +kernel
theorem dL_law__886 : decode cL_law_ 886 = .ok (.iadd, 1) := by decide +kernel
theorem dL_law__887 : decode cL_law_ 887 = .ok (.iaload, 1) := by decide +kernel
theorem dL_law__888 : decode cL_law_ 888 = .ok (.aload_n 0, 1) := by decide +kernel
theorem dL_law__889 : decode cL_law_ 889 = .ok (.iload 4, 2) := by decide +kernel
theorem dL_law__891 : decode cL_law_ 891 = .ok (.iconst 2, 1) := by decide +kernel
theorem dL_law__892 : decode cL_law_ 892 = .ok (.iadd, 1) := by decide +kernel
theorem dL_law__893 : decode cL_law_ 893 = .ok (.iaload, 1) := by decide +kernel
theorem dL_law__894 : decode cL_law_ 894 = .ok (.aload_n 0, 1) := by decide +kernel
theorem dL_law__895 : decode cL_law_ 895 = .ok (.iload 4, 2) := by decide +kernel
theorem dL_law__897 : decode cL_law_ 897 = .ok (.iconst 3, 1) := by decide +kernel
theorem dL_law__898 : decode cL_law_ 898 = .ok (.iadd, 1) := by decide +kernel
theorem dL_law__899 : decode cL_law_ 899 = .ok (.iaload, 1) := by decide +kernel
theorem dL_law__900 : decode cL_law_ 900 = .ok (.aload_n 3, 1) := by decide +kernel
theorem dL_law__901 : decode cL_law_ 901 = .ok (.invokestatic 162, 3) := by decide +kernel
theorem dL_law__904 : decode cL_law_ 904 = .ok (.istore 5, 2) := by decide +kernel
theorem dL_law__906 : decode cL_law_ 906 = .ok (.aload_n 2, 1) := by decide +kernel
theorem dL_law__907 : decode cL_law_ 907 = .ok (.aload_n 0, 1) := by decide +kernel
theorem dL_law__908 : decode cL_law_ 908 = .ok (.iload 4, 2) := by decide +kernel
theorem dL_law__910 : decode cL_law_ 910 = .ok (.iconst 1, 1) := by decide +kernel
theorem dL_law__911 : decode cL_law_ 911 = .ok (.iadd, 1) := by decide +kernel
theorem dL_law__912 : decode cL_law_ 912 = .ok (.iaload, 1) := by decide +kernel
theorem dL_law__913 : decode cL_law_ 913 = .ok (.aload_n 0, 1) := by decide +kernel
theorem dL_law__914 : decode cL_law_ 914 = .ok (.iload 4, 2) := by decide +kernel
theorem dL_law__916 : decode cL_law_ 916 = .ok (.iconst 2, 1) := by decide +kernel
theorem dL_law__917 : decode cL_law_ 917 = .ok (.iadd, 1) := by decide +kernel
theorem dL_law__918 : decode cL_law_ 918 = .ok (.iaload, 1) := by decide +kernel
theorem dL_law__919 : decode cL_law_ 919 = .ok (.aload_n 0, 1) := by decide +kernel
theorem dL_law__920 : decode cL_law_ 920 = .ok (.iload 4, 2) := by decide +kernel
theorem dL_law__922 : decode cL_law_ 922 = .ok (.iconst 3, 1) := by decide +kernel
theorem dL_law__923 : decode cL_law_ 923 = .ok (.iadd, 1) := by decide +kernel
theorem dL_law__924 : decode cL_law_ 924 = .ok (.iaload, 1) := by decide +kernel
theorem dL_law__925 : decode cL_law_ 925 = .ok (.invokevirtual 165, 3) := by decide +kernel
theorem dL_law__928 : decode cL_law_ 928 = .ok (.istore 6, 2) := by decide +kernel
theorem dL_law__930 : decode cL_law_ 930 = .ok (.aload_n 2, 1) := by decide +kernel
theorem dL_law__931 : decode cL_law_ 931 = .ok (.invokevirtual 120, 3) := by decide +kernel
theorem dL_law__934 : decode cL_law_ 934 = .ok (.iload 5, 2) := by decide +kernel
theorem dL_law__936 : decode cL_law_ 936 = .ok (.if_icmp .eq 5, 3) := by decide +kernel
theorem dL_law__939 : decode cL_law_ 939 = .ok (.iconst 0, 1) := by decide +kernel
theorem dL_law__940 : decode cL_law_ 940 = .ok (.ireturn, 1) := by decide +kernel
theorem dL_law__941 : decode cL_law_ 941 = .ok (.iload 5, 2) := by decide +kernel
theorem dL_law__943 : decode cL_law_ 943 = .ok (.ifCond .ne 15, 3) := by decide +kernel
theorem dL_law__946 : decode cL_law_ 946 = .ok (.aload_n 3, 1) := by decide +kernel
theorem dL_law__947 : decode cL_law_ 947 = .ok (.iconst 0, 1) := by decide +kernel
theorem dL_law__948 : decode cL_law_ 948 = .ok (.laload, 1) := by decide +kernel
theorem dL_law__949 : decode cL_law_ 949 = .ok (.iload 6, 2) := by decide +kernel
theorem dL_law__951 : decode cL_law_ 951 = .ok (.i2l, 1) := by decide +kernel
theorem dL_law__952 : decode cL_law_ 952 = .ok (.lcmp, 1) := by decide +kernel
theorem dL_law__953 : decode cL_law_ 953 = .ok (.ifCond .eq 5, 3) := by decide +kernel
theorem dL_law__956 : decode cL_law_ 956 = .ok (.iconst 0, 1) := by decide +kernel
theorem dL_law__957 : decode cL_law_ 957 = .ok (.ireturn, 1) := by decide +kernel
theorem dL_law__958 : decode cL_law_ 958 = .ok (.goto 1158, 3) := by decide +kernel
theorem dL_law__961 : decode cL_law_ 961 = .ok (.aload_n 1, 1) := by decide +kernel
theorem dL_law__962 : decode cL_law_ 962 = .ok (.aload_n 0, 1) := by decide +kernel
theorem dL_law__963 : decode cL_law_ 963 = .ok (.iload 4, 2) := by decide +kernel
theorem dL_law__965 : decode cL_law_ 965 = .ok (.iconst 1, 1) := by decide +kernel
theorem dL_law__966 : decode cL_law_ 966 = .ok (.iadd, 1) := by decide +kernel
theorem dL_law__967 : decode cL_law_ 967 = .ok (.iaload, 1) := by decide +kernel
theorem dL_law__968 : decode cL_law_ 968 = .ok (.aload_n 0, 1) := by decide +kernel
theorem dL_law__969 : decode cL_law_ 969 = .ok (.iload 4, 2) := by decide +kernel
theorem dL_law__971 : decode cL_law_ 971 = .ok (.iconst 2, 1) := by decide +kernel
theorem dL_law__972 : decode cL_law_ 972 = .ok (.iadd, 1) := by decide +kernel
theorem dL_law__973 : decode cL_law_ 973 = .ok (.iaload, 1) := by decide +kernel
theorem dL_law__974 : decode cL_law_ 974 = .ok (.aload_n 0, 1) := by decide +kernel
theorem dL_law__975 : decode cL_law_ 975 = .ok (.iload 4, 2) := by decide +kernel
theorem dL_law__977 : decode cL_law_ 977 = .ok (.iconst 3, 1) := by decide +kernel
theorem dL_law__978 : decode cL_law_ 978 = .ok (.iadd, 1) := by decide +kernel
theorem dL_law__979 : decode cL_law_ 979 = .ok (.iaload, 1) := by decide +kernel
theorem dL_law__980 : decode cL_law_ 980 = .ok (.aload_n 3, 1) := by decide +kernel
theorem dL_law__981 : decode cL_law_ 981 = .ok (.invokestatic 166, 3) := by decide +kernel
theorem dL_law__984 : decode cL_law_ 984 = .ok (.istore 5, 2) := by decide +kernel
theorem dL_law__986 : decode cL_law_ 986 = .ok (.aload_n 2, 1) := by decide +kernel
theorem dL_law__987 : decode cL_law_ 987 = .ok (.aload_n 0, 1) := by decide +kernel
theorem dL_law__988 : decode cL_law_ 988 = .ok (.iload 4, 2) := by decide +kernel
theorem dL_law__990 : decode cL_law_ 990 = .ok (.iconst 1, 1) := by decide +kernel
theorem dL_law__991 : decode cL_law_ 991 = .ok (.iadd, 1) := by decide +kernel
theorem dL_law__992 : decode cL_law_ 992 = .ok (.iaload, 1) := by decide +kernel
theorem dL_law__993 : decode cL_law_ 993 = .ok (.aload_n 0, 1) := by decide +kernel
theorem dL_law__994 : decode cL_law_ 994 = .ok (.iload 4, 2) := by decide +kernel
theorem dL_law__996 : decode cL_law_ 996 = .ok (.iconst 2, 1) := by decide +kernel
theorem dL_law__997 : decode cL_law_ 997 = .ok (.iadd, 1) := by decide +kernel
theorem dL_law__998 : decode cL_law_ 998 = .ok (.iaload, 1) := by decide +kernel
theorem dL_law__999 : decode cL_law_ 999 = .ok (.aload_n 0, 1) := by decide +kernel
theorem dL_law__1000 : decode cL_law_ 1000 = .ok (.iload 4, 2) := by decide +kernel
theorem dL_law__1002 : decode cL_law_ 1002 = .ok (.iconst 3, 1) := by decide +kernel
theorem dL_law__1003 : decode cL_law_ 1003 = .ok (.iadd, 1) := by decide +kernel
theorem dL_law__1004 : decode cL_law_ 1004 = .ok (.iaload, 1) := by decide +kernel
theorem dL_law__1005 : decode cL_law_ 1005 = .ok (.invokevirtual 168, 3) := by decide +kernel
theorem dL_law__1008 : decode cL_law_ 1008 = .ok (.istore 6, 2) := by decide +kernel
theorem dL_law__1010 : decode cL_law_ 1010 = .ok (.aload_n 2, 1) := by decide +kernel
theorem dL_law__1011 : decode cL_law_ 1011 = .ok (.invokevirtual 120, 3) := by decide +kernel
theorem dL_law__1014 : decode cL_law_ 1014 = .ok (.iload 5, 2) := by decide +kernel
theorem dL_law__1016 : decode cL_law_ 1016 = .ok (.if_icmp .eq 5, 3) := by decide +kernel
theorem dL_law__1019 : decode cL_law_ 1019 = .ok (.iconst 0, 1) := by decide +kernel
theorem dL_law__1020 : decode cL_law_ 1020 = .ok (.ireturn, 1) := by decide +kernel
theorem dL_law__1021 : decode cL_law_ 1021 = .ok (.iload 5, 2) := by decide +kernel
theorem dL_law__1023 : decode cL_law_ 1023 = .ok (.ifCond .ne 15, 3) := by decide +kernel
theorem dL_law__1026 : decode cL_law_ 1026 = .ok (.aload_n 3, 1) := by decide +kernel
theorem dL_law__1027 : decode cL_law_ 1027 = .ok (.iconst 0, 1) := by decide +kernel
theorem dL_law__1028 : decode cL_law_ 1028 = .ok (.laload, 1) := by decide +kernel
theorem dL_law__1029 : decode cL_law_ 1029 = .ok (.iload 6, 2) := by decide +kernel
theorem dL_law__1031 : decode cL_law_ 1031 = .ok (.i2l, 1) := by decide +kernel
theorem dL_law__1032 : decode cL_law_ 1032 = .ok (.lcmp, 1) := by decide +kernel
theorem dL_law__1033 : decode cL_law_ 1033 = .ok (.ifCond .eq 5, 3) := by decide +kernel
theorem dL_law__1036 : decode cL_law_ 1036 = .ok (.iconst 0, 1) := by decide +kernel
theorem dL_law__1037 : decode cL_law_ 1037 = .ok (.ireturn, 1) := by decide +kernel
theorem dL_law__1038 : decode cL_law_ 1038 = .ok (.goto 1078, 3) := by decide +kernel
theorem dL_law__1041 : decode cL_law_ 1041 = .ok (.aload_n 1, 1) := by decide +kernel
theorem dL_law__1042 : decode cL_law_ 1042 = .ok (.aload_n 0, 1) := by decide +kernel
theorem dL_law__1043 : decode cL_law_ 1043 = .ok (.iload 4, 2) := by decide +kernel
theorem dL_law__1045 : decode cL_law_ 1045 = .ok (.iconst 1, 1) := by decide +kernel
theorem dL_law__1046 : decode cL_law_ 1046 = .ok (.iadd, 1) := by decide +kernel
theorem dL_law__1047 : decode cL_law_ 1047 = .ok (.iaload, 1) := by decide +kernel
theorem dL_law__1048 : decode cL_law_ 1048 = .ok (.aload_n 0, 1) := by decide +kernel
theorem dL_law__1049 : decode cL_law_ 1049 = .ok (.iload 4, 2) := by decide +kernel
theorem dL_law__1051 : decode cL_law_ 1051 = .ok (.iconst 2, 1) := by decide +kernel
theorem dL_law__1052 : decode cL_law_ 1052 = .ok (.iadd, 1) := by decide +kernel
theorem dL_law__1053 : decode cL_law_ 1053 = .ok (.iaload, 1) := by decide +kernel
theorem dL_law__1054 : decode cL_law_ 1054 = .ok (.aload_n 0, 1) := by decide +kernel
theorem dL_law__1055 : decode cL_law_ 1055 = .ok (.iload 4, 2) := by decide +kernel
theorem dL_law__1057 : decode cL_law_ 1057 = .ok (.iconst 3, 1) := by decide +kernel
theorem dL_law__1058 : decode cL_law_ 1058 = .ok (.iadd, 1) := by decide +kernel
theorem dL_law__1059 : decode cL_law_ 1059 = .ok (.iaload, 1) := by decide +kernel
theorem dL_law__1060 : decode cL_law_ 1060 = .ok (.aload_n 3, 1) := by decide +kernel
theorem dL_law__1061 : decode cL_law_ 1061 = .ok (.invokestatic 169, 3) := by decide +kernel
theorem dL_law__1064 : decode cL_law_ 1064 = .ok (.istore 5, 2) := by decide +kernel
theorem dL_law__1066 : decode cL_law_ 1066 = .ok (.aload_n 2, 1) := by decide +kernel
theorem dL_law__1067 : decode cL_law_ 1067 = .ok (.aload_n 0, 1) := by decide +kernel
theorem dL_law__1068 : decode cL_law_ 1068 = .ok (.iload 4, 2) := by decide +kernel
theorem dL_law__1070 : decode cL_law_ 1070 = .ok (.iconst 1, 1) := by decide +kernel
theorem dL_law__1071 : decode cL_law_ 1071 = .ok (.iadd, 1) := by decide +kernel
theorem dL_law__1072 : decode cL_law_ 1072 = .ok (.iaload, 1) := by decide +kernel
theorem dL_law__1073 : decode cL_law_ 1073 = .ok (.aload_n 0, 1) := by decide +kernel
theorem dL_law__1074 : decode cL_law_ 1074 = .ok (.iload 4, 2) := by decide +kernel
theorem dL_law__1076 : decode cL_law_ 1076 = .ok (.iconst 2, 1) := by decide +kernel
theorem dL_law__1077 : decode cL_law_ 1077 = .ok (.iadd, 1) := by decide +kernel
theorem dL_law__1078 : decode cL_law_ 1078 = .ok (.iaload, 1) := by decide +kernel
theorem dL_law__1079 : decode cL_law_ 1079 = .ok (.aload_n 0, 1) := by decide +kernel
theorem dL_law__1080 : decode cL_law_ 1080 = .ok (.iload 4, 2) := by decide +kernel
theorem dL_law__1082 : decode cL_law_ 1082 = .ok (.iconst 3, 1) := by decide +kernel
theorem dL_law__1083 : decode cL_law_ 1083 = .ok (.iadd, 1) := by decide +kernel
theorem dL_law__1084 : decode cL_law_ 1084 = .ok (.iaload, 1) := by decide +kernel
theorem dL_law__1085 : decode cL_law_ 1085 = .ok (.invokevirtual 171, 3) := by decide +kernel
theorem dL_law__1088 : decode cL_law_ 1088 = .ok (.istore 6, 2) := by decide +kernel
theorem dL_law__1090 : decode cL_law_ 1090 = .ok (.aload_n 2, 1) := by decide +kernel
theorem dL_law__1091 : decode cL_law_ 1091 = .ok (.invokevirtual 120, 3) := by decide +kernel
theorem dL_law__1094 : decode cL_law_ 1094 = .ok (.iload 5, 2) := by decide +kernel
theorem dL_law__1096 : decode cL_law_ 1096 = .ok (.if_icmp .eq 5, 3) := by decide +kernel
theorem dL_law__1099 : decode cL_law_ 1099 = .ok (.iconst 0, 1) := by decide +kernel
theorem dL_law__1100 : decode cL_law_ 1100 = .ok (.ireturn, 1) := by decide +kernel
theorem dL_law__1101 : decode cL_law_ 1101 = .ok (.iload 5, 2) := by decide +kernel
theorem dL_law__1103 : decode cL_law_ 1103 = .ok (.ifCond .ne 15, 3) := by decide +kernel
theorem dL_law__1106 : decode cL_law_ 1106 = .ok (.aload_n 3, 1) := by decide +kernel
theorem dL_law__1107 : decode cL_law_ 1107 = .ok (.iconst 0, 1) := by decide +kernel
theorem dL_law__1108 : decode cL_law_ 1108 = .ok (.laload, 1) := by decide +kernel
theorem dL_law__1109 : decode cL_law_ 1109 = .ok (.iload 6, 2) := by decide +kernel
theorem dL_law__1111 : decode cL_law_ 1111 = .ok (.i2l, 1) := by decide +kernel
theorem dL_law__1112 : decode cL_law_ 1112 = .ok (.lcmp, 1) := by decide +kernel
theorem dL_law__1113 : decode cL_law_ 1113 = .ok (.ifCond .eq 5, 3) := by decide +kernel
theorem dL_law__1116 : decode cL_law_ 1116 = .ok (.iconst 0, 1) := by decide +kernel
theorem dL_law__1117 : decode cL_law_ 1117 = .ok (.ireturn, 1) := by decide +kernel
theorem dL_law__1118 : decode cL_law_ 1118 = .ok (.goto 998, 3) := by decide +kernel
theorem dL_law__1121 : decode cL_law_ 1121 = .ok (.aload_n 1, 1) := by decide +kernel
theorem dL_law__1122 : decode cL_law_ 1122 = .ok (.aload_n 0, 1) := by decide +kernel
theorem dL_law__1123 : decode cL_law_ 1123 = .ok (.iload 4, 2) := by decide +kernel
theorem dL_law__1125 : decode cL_law_ 1125 = .ok (.iconst 1, 1) := by decide +kernel
theorem dL_law__1126 : decode cL_law_ 1126 = .ok (.iadd, 1) := by decide +kernel
theorem dL_law__1127 : decode cL_law_ 1127 = .ok (.iaload, 1) := by decide +kernel
theorem dL_law__1128 : decode cL_law_ 1128 = .ok (.aload_n 3, 1) := by decide +kernel
theorem dL_law__1129 : decode cL_law_ 1129 = .ok (.invokestatic 172, 3) := by decide +kernel
theorem dL_law__1132 : decode cL_law_ 1132 = .ok (.istore 5, 2) := by decide +kernel
theorem dL_law__1134 : decode cL_law_ 1134 = .ok (.aload_n 2, 1) := by decide +kernel
theorem dL_law__1135 : decode cL_law_ 1135 = .ok (.aload_n 0, 1) := by decide +kernel
theorem dL_law__1136 : decode cL_law_ 1136 = .ok (.iload 4, 2) := by decide +kernel
theorem dL_law__1138 : decode cL_law_ 1138 = .ok (.iconst 1, 1) := by decide +kernel
theorem dL_law__1139 : decode cL_law_ 1139 = .ok (.iadd, 1) := by decide +kernel
theorem dL_law__1140 : decode cL_law_ 1140 = .ok (.iaload, 1) := by decide +kernel
theorem dL_law__1141 : decode cL_law_ 1141 = .ok (.invokevirtual 174, 3) := by decide +kernel
theorem dL_law__1144 : decode cL_law_ 1144 = .ok (.istore 6, 2) := by decide +kernel
theorem dL_law__1146 : decode cL_law_ 1146 = .ok (.aload_n 2, 1) := by decide +kernel
theorem dL_law__1147 : decode cL_law_ 1147 = .ok (.invokevirtual 120, 3) := by decide +kernel
theorem dL_law__1150 : decode cL_law_ 1150 = .ok (.iload 5, 2) := by decide +kernel
theorem dL_law__1152 : decode cL_law_ 1152 = .ok (.if_icmp .eq 5, 3) := by decide +kernel
theorem dL_law__1155 : decode cL_law_ 1155 = .ok (.iconst 0, 1) := by decide +kernel
theorem dL_law__1156 : decode cL_law_ 1156 = .ok (.ireturn, 1) := by decide +kernel
theorem dL_law__1157 : decode cL_law_ 1157 = .ok (.iload 5, 2) := by decide +kernel
theorem dL_law__1159 : decode cL_law_ 1159 = .ok (.ifCond .ne 15, 3) := by decide +kernel
theorem dL_law__1162 : decode cL_law_ 1162 = .ok (.aload_n 3, 1) := by decide +kernel
theorem dL_law__1163 : decode cL_law_ 1163 = .ok (.iconst 0, 1) := by decide +kernel
theorem dL_law__1164 : decode cL_law_ 1164 = .ok (.laload, 1) := by decide +kernel
theorem dL_law__1165 : decode cL_law_ 1165 = .ok (.iload 6, 2) := by decide +kernel
theorem dL_law__1167 : decode cL_law_ 1167 = .ok (.i2l, 1) := by decide +kernel
theorem dL_law__1168 : decode cL_law_ 1168 = .ok (.lcmp, 1) := by decide +kernel
theorem dL_law__1169 : decode cL_law_ 1169 = .ok (.ifCond .eq 5, 3) := by decide +kernel
theorem dL_law__1172 : decode cL_law_ 1172 = .ok (.iconst 0, 1) := by decide +kernel
theorem dL_law__1173 : decode cL_law_ 1173 = .ok (.ireturn, 1) := by decide +kernel
theorem dL_law__1174 : decode cL_law_ 1174 = .ok (.goto 942, 3) := by decide +kernel
theorem dL_law__1177 : decode cL_law_ 1177 = .ok (.aload_n 1, 1) := by decide +kernel
theorem dL_law__1178 : decode cL_law_ 1178 = .ok (.aload_n 0, 1) := by decide +kernel
theorem dL_law__1179 : decode cL_law_ 1179 = .ok (.iload 4, 2) := by decide +kernel
theorem dL_law__1181 : decode cL_law_ 1181 = .ok (.iconst 1, 1) := by decide +kernel
theorem dL_law__1182 : decode cL_law_ 1182 = .ok (.iadd, 1) := by decide +kernel
theorem dL_law__1183 : decode cL_law_ 1183 = .ok (.iaload, 1) := by decide +kernel
theorem dL_law__1184 : decode cL_law_ 1184 = .ok (.aload_n 0, 1) := by decide +kernel
theorem dL_law__1185 : decode cL_law_ 1185 = .ok (.iload 4, 2) := by decide +kernel
theorem dL_law__1187 : decode cL_law_ 1187 = .ok (.iconst 2, 1) := by decide +kernel
theorem dL_law__1188 : decode cL_law_ 1188 = .ok (.iadd, 1) := by decide +kernel
theorem dL_law__1189 : decode cL_law_ 1189 = .ok (.iaload, 1) := by decide +kernel
theorem dL_law__1190 : decode cL_law_ 1190 = .ok (.aload_n 3, 1) := by decide +kernel
theorem dL_law__1191 : decode cL_law_ 1191 = .ok (.invokestatic 175, 3) := by decide +kernel
theorem dL_law__1194 : decode cL_law_ 1194 = .ok (.istore 5, 2) := by decide +kernel
theorem dL_law__1196 : decode cL_law_ 1196 = .ok (.aload_n 2, 1) := by decide +kernel
theorem dL_law__1197 : decode cL_law_ 1197 = .ok (.aload_n 0, 1) := by decide +kernel
theorem dL_law__1198 : decode cL_law_ 1198 = .ok (.iload 4, 2) := by decide +kernel
theorem dL_law__1200 : decode cL_law_ 1200 = .ok (.iconst 1, 1) := by decide +kernel
theorem dL_law__1201 : decode cL_law_ 1201 = .ok (.iadd, 1) := by decide +kernel
theorem dL_law__1202 : decode cL_law_ 1202 = .ok (.iaload, 1) := by decide +kernel
theorem dL_law__1203 : decode cL_law_ 1203 = .ok (.aload_n 0, 1) := by decide +kernel
theorem dL_law__1204 : decode cL_law_ 1204 = .ok (.iload 4, 2) := by decide +kernel
theorem dL_law__1206 : decode cL_law_ 1206 = .ok (.iconst 2, 1) := by decide +kernel
theorem dL_law__1207 : decode cL_law_ 1207 = .ok (.iadd, 1) := by decide +kernel
theorem dL_law__1208 : decode cL_law_ 1208 = .ok (.iaload, 1) := by decide +kernel
theorem dL_law__1209 : decode cL_law_ 1209 = .ok (.invokevirtual 177, 3) := by decide +kernel
theorem dL_law__1212 : decode cL_law_ 1212 = .ok (.istore 6, 2) := by decide +kernel
theorem dL_law__1214 : decode cL_law_ 1214 = .ok (.aload_n 2, 1) := by decide +kernel
theorem dL_law__1215 : decode cL_law_ 1215 = .ok (.invokevirtual 120, 3) := by decide +kernel
theorem dL_law__1218 : decode cL_law_ 1218 = .ok (.iload 5, 2) := by decide +kernel
theorem dL_law__1220 : decode cL_law_ 1220 = .ok (.if_icmp .eq 5, 3) := by decide +kernel
theorem dL_law__1223 : decode cL_law_ 1223 = .ok (.iconst 0, 1) := by decide +kernel
theorem dL_law__1224 : decode cL_law_ 1224 = .ok (.ireturn, 1) := by decide +kernel
theorem dL_law__1225 : decode cL_law_ 1225 = .ok (.iload 5, 2) := by decide +kernel
theorem dL_law__1227 : decode cL_law_ 1227 = .ok (.ifCond .ne 15, 3) := by decide +kernel
theorem dL_law__1230 : decode cL_law_ 1230 = .ok (.aload_n 3, 1) := by decide +kernel
theorem dL_law__1231 : decode cL_law_ 1231 = .ok (.iconst 0, 1) := by decide +kernel
theorem dL_law__1232 : decode cL_law_ 1232 = .ok (.laload, 1) := by decide +kernel
theorem dL_law__1233 : decode cL_law_ 1233 = .ok (.iload 6, 2) := by decide +kernel
theorem dL_law__1235 : decode cL_law_ 1235 = .ok (.i2l, 1) := by decide +kernel
theorem dL_law__1236 : decode cL_law_ 1236 = .ok (.lcmp, 1) := by decide +kernel
theorem dL_law__1237 : decode cL_law_ 1237 = .ok (.ifCond .eq 5, 3) := by decide +kernel
theorem dL_law__1240 : decode cL_law_ 1240 = .ok (.iconst 0, 1) := by decide +kernel
theorem dL_law__1241 : decode cL_law_ 1241 = .ok (.ireturn, 1) := by decide +kernel
theorem dL_law__1242 : decode cL_law_ 1242 = .ok (.goto 874, 3) := by decide +kernel
theorem dL_law__1245 : decode cL_law_ 1245 = .ok (.aload_n 1, 1) := by decide +kernel
theorem dL_law__1246 : decode cL_law_ 1246 = .ok (.aload_n 0, 1) := by decide +kernel
theorem dL_law__1247 : decode cL_law_ 1247 = .ok (.iload 4, 2) := by decide +kernel
theorem dL_law__1249 : decode cL_law_ 1249 = .ok (.iconst 1, 1) := by decide +kernel
theorem dL_law__1250 : decode cL_law_ 1250 = .ok (.iadd, 1) := by decide +kernel
theorem dL_law__1251 : decode cL_law_ 1251 = .ok (.iaload, 1) := by decide +kernel
theorem dL_law__1252 : decode cL_law_ 1252 = .ok (.aload_n 0, 1) := by decide +kernel
theorem dL_law__1253 : decode cL_law_ 1253 = .ok (.iload 4, 2) := by decide +kernel
theorem dL_law__1255 : decode cL_law_ 1255 = .ok (.iconst 2, 1) := by decide +kernel
theorem dL_law__1256 : decode cL_law_ 1256 = .ok (.iadd, 1) := by decide +kernel
theorem dL_law__1257 : decode cL_law_ 1257 = .ok (.iaload, 1) := by decide +kernel
theorem dL_law__1258 : decode cL_law_ 1258 = .ok (.ifCond .eq 7, 3) := by decide +kernel
theorem dL_law__1261 : decode cL_law_ 1261 = .ok (.iconst 1, 1) := by decide +kernel
theorem dL_law__1262 : decode cL_law_ 1262 = .ok (.goto 4, 3) := by decide +kernel
theorem dL_law__1265 : decode cL_law_ 1265 = .ok (.iconst 0, 1) := by decide +kernel
theorem dL_law__1266 : decode cL_law_ 1266 = .ok (.aload_n 3, 1) := by decide +kernel
theorem dL_law__1267 : decode cL_law_ 1267 = .ok (.invokestatic 178, 3) := by decide +kernel
theorem dL_law__1270 : decode cL_law_ 1270 = .ok (.istore 5, 2) := by decide +kernel
theorem dL_law__1272 : decode cL_law_ 1272 = .ok (.aload_n 2, 1) := by decide +kernel
theorem dL_law__1273 : decode cL_law_ 1273 = .ok (.aload_n 0, 1) := by decide +kernel
theorem dL_law__1274 : decode cL_law_ 1274 = .ok (.iload 4, 2) := by decide +kernel
theorem dL_law__1276 : decode cL_law_ 1276 = .ok (.iconst 1, 1) := by decide +kernel
theorem dL_law__1277 : decode cL_law_ 1277 = .ok (.iadd, 1) := by decide +kernel
theorem dL_law__1278 : decode cL_law_ 1278 = .ok (.iaload, 1) := by decide +kernel
theorem dL_law__1279 : decode cL_law_ 1279 = .ok (.aload_n 0, 1) := by decide +kernel
theorem dL_law__1280 : decode cL_law_ 1280 = .ok (.iload 4, 2) := by decide +kernel
theorem dL_law__1282 : decode cL_law_ 1282 = .ok (.iconst 2, 1) := by decide +kernel
theorem dL_law__1283 : decode cL_law_ 1283 = .ok (.iadd, 1) := by decide +kernel
theorem dL_law__1284 : decode cL_law_ 1284 = .ok (.iaload, 1) := by decide +kernel
theorem dL_law__1285 : decode cL_law_ 1285 = .ok (.ifCond .eq 7, 3) := by decide +kernel
theorem dL_law__1288 : decode cL_law_ 1288 = .ok (.iconst 1, 1) := by decide +kernel
theorem dL_law__1289 : decode cL_law_ 1289 = .ok (.goto 4, 3) := by decide +kernel
theorem dL_law__1292 : decode cL_law_ 1292 = .ok (.iconst 0, 1) := by decide +kernel
theorem dL_law__1293 : decode cL_law_ 1293 = .ok (.invokevirtual 181, 3) := by decide +kernel
theorem dL_law__1296 : decode cL_law_ 1296 = .ok (.istore 6, 2) := by decide +kernel
theorem dL_law__1298 : decode cL_law_ 1298 = .ok (.aload_n 2, 1) := by decide +kernel
theorem dL_law__1299 : decode cL_law_ 1299 = .ok (.invokevirtual 120, 3) := by decide +kernel
theorem dL_law__1302 : decode cL_law_ 1302 = .ok (.iload 5, 2) := by decide +kernel
theorem dL_law__1304 : decode cL_law_ 1304 = .ok (.if_icmp .eq 5, 3) := by decide +kernel
theorem dL_law__1307 : decode cL_law_ 1307 = .ok (.iconst 0, 1) := by decide +kernel
theorem dL_law__1308 : decode cL_law_ 1308 = .ok (.ireturn, 1) := by decide +kernel
theorem dL_law__1309 : decode cL_law_ 1309 = .ok (.iload 5, 2) := by decide +kernel
theorem dL_law__1311 : decode cL_law_ 1311 = .ok (.ifCond .ne 22, 3) := by decide +kernel
theorem dL_law__1314 : decode cL_law_ 1314 = .ok (.aload_n 3, 1) := by decide +kernel
theorem dL_law__1315 : decode cL_law_ 1315 = .ok (.iconst 0, 1) := by decide +kernel
theorem dL_law__1316 : decode cL_law_ 1316 = .ok (.laload, 1) := by decide +kernel
theorem dL_law__1317 : decode cL_law_ 1317 = .ok (.iload 6, 2) := by decide +kernel
theorem dL_law__1319 : decode cL_law_ 1319 = .ok (.ifCond .eq 7, 3) := by decide +kernel
theorem dL_law__1322 : decode cL_law_ 1322 = .ok (.lconst 1, 1) := by decide +kernel
theorem dL_law__1323 : decode cL_law_ 1323 = .ok (.goto 4, 3) := by decide +kernel
theorem dL_law__1326 : decode cL_law_ 1326 = .ok (.lconst 0, 1) := by decide +kernel
theorem dL_law__1327 : decode cL_law_ 1327 = .ok (.lcmp, 1) := by decide +kernel
theorem dL_law__1328 : decode cL_law_ 1328 = .ok (.ifCond .eq 5, 3) := by decide +kernel
theorem dL_law__1331 : decode cL_law_ 1331 = .ok (.iconst 0, 1) := by decide +kernel
theorem dL_law__1332 : decode cL_law_ 1332 = .ok (.ireturn, 1) := by decide +kernel
theorem dL_law__1333 : decode cL_law_ 1333 = .ok (.goto 783, 3) := by decide +kernel
theorem dL_law__1336 : decode cL_law_ 1336 = .ok (.aload_n 1, 1) := by decide +kernel
theorem dL_law__1337 : decode cL_law_ 1337 = .ok (.aload_n 0, 1) := by decide +kernel
theorem dL_law__1338 : decode cL_law_ 1338 = .ok (.iload 4, 2) := by decide +kernel
theorem dL_law__1340 : decode cL_law_ 1340 = .ok (.iconst 1, 1) := by decide +kernel
theorem dL_law__1341 : decode cL_law_ 1341 = .ok (.iadd, 1) := by decide +kernel
theorem dL_law__1342 : decode cL_law_ 1342 = .ok (.iaload, 1) := by decide +kernel
theorem dL_law__1343 : decode cL_law_ 1343 = .ok (.ifCond .eq 7, 3) := by decide +kernel
theorem dL_law__1346 : decode cL_law_ 1346 = .ok (.iconst 1, 1) := by decide +kernel
theorem dL_law__1347 : decode cL_law_ 1347 = .ok (.goto 4, 3) := by decide +kernel
theorem dL_law__1350 : decode cL_law_ 1350 = .ok (.iconst 0, 1) := by decide +kernel
theorem dL_law__1351 : decode cL_law_ 1351 = .ok (.invokevirtual 182, 3) := by decide +kernel
theorem dL_law__1354 : decode cL_law_ 1354 = .ok (.aload_n 2, 1) := by decide +kernel
theorem dL_law__1355 : decode cL_law_ 1355 = .ok (.aload_n 0, 1) := by decide +kernel
theorem dL_law__1356 : decode cL_law_ 1356 = .ok (.iload 4, 2) := by decide +kernel
theorem dL_law__1358 : decode cL_law_ 1358 = .ok (.iconst 1, 1) := by decide +kernel
theorem dL_law__1359 : decode cL_law_ 1359 = .ok (.iadd, 1) := by decide +kernel
theorem dL_law__1360 : decode cL_law_ 1360 = .ok (.iaload, 1) := by decide +kernel
theorem dL_law__1361 : decode cL_law_ 1361 = .ok (.ifCond .eq 7, 3) := by decide +kernel
theorem dL_law__1364 : decode cL_law_ 1364 = .ok (.iconst 1, 1) := by decide +kernel
theorem dL_law__1365 : decode cL_law_ 1365 = .ok (.goto 4, 3) := by decide +kernel
theorem dL_law__1368 : decode cL_law_ 1368 = .ok (.iconst 0, 1) := by decide +kernel
theorem dL_law__1369 : decode cL_law_ 1369 = .ok (.invokevirtual 185, 3) := by decide +kernel
theorem dL_law__1372 : decode cL_law_ 1372 = .ok (.if_icmp .eq 744, 3) := by decide +kernel
theorem dL_law__1375 : decode cL_law_ 1375 = .ok (.iconst 0, 1) := by decide +kernel
theorem dL_law__1376 : decode cL_law_ 1376 = .ok (.ireturn, 1) := by decide +kernel
theorem dL_law__1377 : decode cL_law_ 1377 = .ok (.aload_n 1, 1) := by decide +kernel
theorem dL_law__1378 : decode cL_law_ 1378 = .ok (.invokevirtual 186, 3) := by decide +kernel
theorem dL_law__1381 : decode cL_law_ 1381 = .ok (.aload_n 2, 1) := by decide +kernel
theorem dL_law__1382 : decode cL_law_ 1382 = .ok (.invokevirtual 189, 3) := by decide +kernel
theorem dL_law__1385 : decode cL_law_ 1385 = .ok (.if_icmp .eq 731, 3) := by decide +kernel
theorem dL_law__1388 : decode cL_law_ 1388 = .ok (.iconst 0, 1) := by decide +kernel
theorem dL_law__1389 : decode cL_law_ 1389 = .ok (.ireturn, 1) := by decide +kernel
theorem dL_law__1390 : decode cL_law_ 1390 = .ok (.aload_n 1, 1) := by decide +kernel
theorem dL_law__1391 : decode cL_law_ 1391 = .ok (.aload_n 0, 1) := by decide +kernel
theorem dL_law__1392 : decode cL_law_ 1392 = .ok (.iload 4, 2) := by decide +kernel
theorem dL_law__1394 : decode cL_law_ 1394 = .ok (.iconst 1, 1) := by decide +kernel
theorem dL_law__1395 : decode cL_law_ 1395 = .ok (.iadd, 1) := by decide +kernel
theorem dL_law__1396 : decode cL_law_ 1396 = .ok (.iaload, 1) := by decide +kernel
theorem dL_law__1397 : decode cL_law_ 1397 = .ok (.aload_n 3, 1) := by decide +kernel
theorem dL_law__1398 : decode cL_law_ 1398 = .ok (.invokestatic 190, 3) := by decide +kernel
theorem dL_law__1401 : decode cL_law_ 1401 = .ok (.istore 5, 2) := by decide +kernel
theorem dL_law__1403 : decode cL_law_ 1403 = .ok (.aload_n 2, 1) := by decide +kernel
theorem dL_law__1404 : decode cL_law_ 1404 = .ok (.aload_n 0, 1) := by decide +kernel
theorem dL_law__1405 : decode cL_law_ 1405 = .ok (.iload 4, 2) := by decide +kernel
theorem dL_law__1407 : decode cL_law_ 1407 = .ok (.iconst 1, 1) := by decide +kernel
theorem dL_law__1408 : decode cL_law_ 1408 = .ok (.iadd, 1) := by decide +kernel
theorem dL_law__1409 : decode cL_law_ 1409 = .ok (.iaload, 1) := by decide +kernel
theorem dL_law__1410 : decode cL_law_ 1410 = .ok (.invokevirtual 192, 3) := by decide +kernel
theorem dL_law__1413 : decode cL_law_ 1413 = .ok (.istore 6, 2) := by decide +kernel
theorem dL_law__1415 : decode cL_law_ 1415 = .ok (.aload_n 2, 1) := by decide +kernel
theorem dL_law__1416 : decode cL_law_ 1416 = .ok (.invokevirtual 120, 3) := by decide +kernel
theorem dL_law__1419 : decode cL_law_ 1419 = .ok (.iload 5, 2) := by decide +kernel
theorem dL_law__1421 : decode cL_law_ 1421 = .ok (.if_icmp .eq 5, 3) := by decide +kernel
theorem dL_law__1424 : decode cL_law_ 1424 = .ok (.iconst 0, 1) := by decide +kernel
theorem dL_law__1425 : decode cL_law_ 1425 = .ok (.ireturn, 1) := by decide +kernel
theorem dL_law__1426 : decode cL_law_ 1426 = .ok (.iload 5, 2) := by decide +kernel
theorem dL_law__1428 : decode cL_law_ 1428 = .ok (.ifCond .ne 15, 3) := by decide +kernel
theorem dL_law__1431 : decode cL_law_ 1431 = .ok (.aload_n 3, 1) := by decide +kernel
theorem dL_law__1432 : decode cL_law_ 1432 = .ok (.iconst 0, 1) := by decide +kernel
theorem dL_law__1433 : decode cL_law_ 1433 = .ok (.laload, 1) := by decide +kernel
theorem dL_law__1434 : decode cL_law_ 1434 = .ok (.iload 6, 2) := by decide +kernel
theorem dL_law__1436 : decode cL_law_ 1436 = .ok (.i2l, 1) := by decide +kernel
theorem dL_law__1437 : decode cL_law_ 1437 = .ok (.lcmp, 1) := by decide +kernel
theorem dL_law__1438 : decode cL_law_ 1438 = .ok (.ifCond .eq 5, 3) := by decide +kernel
theorem dL_law__1441 : decode cL_law_ 1441 = .ok (.iconst 0, 1) := by decide +kernel
theorem dL_law__1442 : decode cL_law_ 1442 = .ok (.ireturn, 1) := by decide +kernel
theorem dL_law__1443 : decode cL_law_ 1443 = .ok (.goto 673, 3) := by decide +kernel
theorem dL_law__1446 : decode cL_law_ 1446 = .ok (.aload_n 1, 1) := by decide +kernel
theorem dL_law__1447 : decode cL_law_ 1447 = .ok (.aload_n 0, 1) := by decide +kernel
theorem dL_law__1448 : decode cL_law_ 1448 = .ok (.iload 4, 2) := by decide +kernel
theorem dL_law__1450 : decode cL_law_ 1450 = .ok (.iconst 1, 1) := by decide +kernel
theorem dL_law__1451 : decode cL_law_ 1451 = .ok (.iadd, 1) := by decide +kernel
theorem dL_law__1452 : decode cL_law_ 1452 = .ok (.iaload, 1) := by decide +kernel
theorem dL_law__1453 : decode cL_law_ 1453 = .ok (.aload_n 0, 1) := by decide +kernel
theorem dL_law__1454 : decode cL_law_ 1454 = .ok (.iload 4, 2) := by decide +kernel
theorem dL_law__1456 : decode cL_law_ 1456 = .ok (.iconst 2, 1) := by decide +kernel
theorem dL_law__1457 : decode cL_law_ 1457 = .ok (.iadd, 1) := by decide +kernel
theorem dL_law__1458 : decode cL_law_ 1458 = .ok (.iaload, 1) := by decide +kernel
theorem dL_law__1459 : decode cL_law_ 1459 = .ok (.ifCond .eq 7, 3) := by decide +kernel
theorem dL_law__1462 : decode cL_law_ 1462 = .ok (.iconst 1, 1) := by decide +kernel
theorem dL_law__1463 : decode cL_law_ 1463 = .ok (.goto 4, 3) := by decide +kernel
theorem dL_law__1466 : decode cL_law_ 1466 = .ok (.iconst 0, 1) := by decide +kernel
theorem dL_law__1467 : decode cL_law_ 1467 = .ok (.aload_n 3, 1) := by decide +kernel
theorem dL_law__1468 : decode cL_law_ 1468 = .ok (.invokestatic 193, 3) := by decide +kernel
theorem dL_law__1471 : decode cL_law_ 1471 = .ok (.istore 5, 2) := by decide +kernel
theorem dL_law__1473 : decode cL_law_ 1473 = .ok (.aload_n 2, 1) := by decide +kernel
theorem dL_law__1474 : decode cL_law_ 1474 = .ok (.aload_n 0, 1) := by decide +kernel
theorem dL_law__1475 : decode cL_law_ 1475 = .ok (.iload 4, 2) := by decide +kernel
theorem dL_law__1477 : decode cL_law_ 1477 = .ok (.iconst 1, 1) := by decide +kernel
theorem dL_law__1478 : decode cL_law_ 1478 = .ok (.iadd, 1) := by decide +kernel
theorem dL_law__1479 : decode cL_law_ 1479 = .ok (.iaload, 1) := by decide +kernel
theorem dL_law__1480 : decode cL_law_ 1480 = .ok (.aload_n 0, 1) := by decide +kernel
theorem dL_law__1481 : decode cL_law_ 1481 = .ok (.iload 4, 2) := by decide +kernel
theorem dL_law__1483 : decode cL_law_ 1483 = .ok (.iconst 2, 1) := by decide +kernel
theorem dL_law__1484 : decode cL_law_ 1484 = .ok (.iadd, 1) := by decide +kernel
theorem dL_law__1485 : decode cL_law_ 1485 = .ok (.iaload, 1) := by decide +kernel
theorem dL_law__1486 : decode cL_law_ 1486 = .ok (.ifCond .eq 7, 3) := by decide +kernel
theorem dL_law__1489 : decode cL_law_ 1489 = .ok (.iconst 1, 1) := by decide +kernel
theorem dL_law__1490 : decode cL_law_ 1490 = .ok (.goto 4, 3) := by decide +kernel
theorem dL_law__1493 : decode cL_law_ 1493 = .ok (.iconst 0, 1) := by decide +kernel
theorem dL_law__1494 : decode cL_law_ 1494 = .ok (.invokevirtual 195, 3) := by decide +kernel
theorem dL_law__1497 : decode cL_law_ 1497 = .ok (.istore 6, 2) := by decide +kernel
theorem dL_law__1499 : decode cL_law_ 1499 = .ok (.aload_n 2, 1) := by decide +kernel
theorem dL_law__1500 : decode cL_law_ 1500 = .ok (.invokevirtual 120, 3) := by decide +kernel
theorem dL_law__1503 : decode cL_law_ 1503 = .ok (.iload 5, 2) := by decide +kernel
theorem dL_law__1505 : decode cL_law_ 1505 = .ok (.if_icmp .eq 5, 3) := by decide +kernel
theorem dL_law__1508 : decode cL_law_ 1508 = .ok (.iconst 0, 1) := by decide +kernel
theorem dL_law__1509 : decode cL_law_ 1509 = .ok (.ireturn, 1) := by decide +kernel
theorem dL_law__1510 : decode cL_law_ 1510 = .ok (.iload 5, 2) := by decide +kernel
theorem dL_law__1512 : decode cL_law_ 1512 = .ok (.ifCond .ne 22, 3) := by decide +kernel
theorem dL_law__1515 : decode cL_law_ 1515 = .ok (.aload_n 3, 1) := by decide +kernel
theorem dL_law__1516 : decode cL_law_ 1516 = .ok (.iconst 0, 1) := by decide +kernel
theorem dL_law__1517 : decode cL_law_ 1517 = .ok (.laload, 1) := by decide +kernel
theorem dL_law__1518 : decode cL_law_ 1518 = .ok (.iload 6, 2) := by decide +kernel
theorem dL_law__1520 : decode cL_law_ 1520 = .ok (.ifCond .eq 7, 3) := by decide +kernel
theorem dL_law__1523 : decode cL_law_ 1523 = .ok (.lconst 1, 1) := by decide +kernel
theorem dL_law__1524 : decode cL_law_ 1524 = .ok (.goto 4, 3) := by decide +kernel
theorem dL_law__1527 : decode cL_law_ 1527 = .ok (.lconst 0, 1) := by decide +kernel
theorem dL_law__1528 : decode cL_law_ 1528 = .ok (.lcmp, 1) := by decide +kernel
theorem dL_law__1529 : decode cL_law_ 1529 = .ok (.ifCond .eq 5, 3) := by decide +kernel
theorem dL_law__1532 : decode cL_law_ 1532 = .ok (.iconst 0, 1) := by decide +kernel
theorem dL_law__1533 : decode cL_law_ 1533 = .ok (.ireturn, 1) := by decide +kernel
theorem dL_law__1534 : decode cL_law_ 1534 = .ok (.goto 582, 3) := by decide +kernel
theorem dL_law__1537 : decode cL_law_ 1537 = .ok (.aload_n 1, 1) := by decide +kernel
theorem dL_law__1538 : decode cL_law_ 1538 = .ok (.aload_n 3, 1) := by decide +kernel
theorem dL_law__1539 : decode cL_law_ 1539 = .ok (.invokestatic 196, 3) := by decide +kernel
theorem dL_law__1542 : decode cL_law_ 1542 = .ok (.istore 5, 2) := by decide +kernel
theorem dL_law__1544 : decode cL_law_ 1544 = .ok (.aload_n 2, 1) := by decide +kernel
theorem dL_law__1545 : decode cL_law_ 1545 = .ok (.invokevirtual 198, 3) := by decide +kernel
theorem dL_law__1548 : decode cL_law_ 1548 = .ok (.istore 6, 2) := by decide +kernel
theorem dL_law__1550 : decode cL_law_ 1550 = .ok (.aload_n 2, 1) := by decide +kernel
theorem dL_law__1551 : decode cL_law_ 1551 = .ok (.invokevirtual 120, 3) := by decide +kernel
theorem dL_law__1554 : decode cL_law_ 1554 = .ok (.iload 5, 2) := by decide +kernel
theorem dL_law__1556 : decode cL_law_ 1556 = .ok (.if_icmp .eq 5, 3) := by decide +kernel
theorem dL_law__1559 : decode cL_law_ 1559 = .ok (.iconst 0, 1) := by decide +kernel
theorem dL_law__1560 : decode cL_law_ 1560 = .ok (.ireturn, 1) := by decide +kernel
theorem dL_law__1561 : decode cL_law_ 1561 = .ok (.iload 5, 2) := by decide +kernel
theorem dL_law__1563 : decode cL_law_ 1563 = .ok (.ifCond .ne 22, 3) := by decide +kernel
theorem dL_law__1566 : decode cL_law_ 1566 = .ok (.aload_n 3, 1) := by decide +kernel
theorem dL_law__1567 : decode cL_law_ 1567 = .ok (.iconst 0, 1) := by decide +kernel
theorem dL_law__1568 : decode cL_law_ 1568 = .ok (.laload, 1) := by decide +kernel
theorem dL_law__1569 : decode cL_law_ 1569 = .ok (.iload 6, 2) := by decide +kernel
theorem dL_law__1571 : decode cL_law_ 1571 = .ok (.ifCond .eq 7, 3) := by decide +kernel
theorem dL_law__1574 : decode cL_law_ 1574 = .ok (.lconst 1, 1) := by decide +kernel
theorem dL_law__1575 : decode cL_law_ 1575 = .ok (.goto 4, 3) := by decide +kernel
theorem dL_law__1578 : decode cL_law_ 1578 = .ok (.lconst 0, 1) := by decide +kernel
theorem dL_law__1579 : decode cL_law_ 1579 = .ok (.lcmp, 1) := by decide +kernel
theorem dL_law__1580 : decode cL_law_ 1580 = .ok (.ifCond .eq 5, 3) := by decide +kernel
theorem dL_law__1583 : decode cL_law_ 1583 = .ok (.iconst 0, 1) := by decide +kernel
theorem dL_law__1584 : decode cL_law_ 1584 = .ok (.ireturn, 1) := by decide +kernel
theorem dL_law__1585 : decode cL_law_ 1585 = .ok (.goto 531, 3) := by decide +kernel
theorem dL_law__1588 : decode cL_law_ 1588 = .ok (.aload_n 1, 1) := by decide +kernel
theorem dL_law__1589 : decode cL_law_ 1589 = .ok (.aload_n 0, 1) := by decide +kernel
theorem dL_law__1590 : decode cL_law_ 1590 = .ok (.iload 4, 2) := by decide +kernel
theorem dL_law__1592 : decode cL_law_ 1592 = .ok (.iconst 1, 1) := by decide +kernel
theorem dL_law__1593 : decode cL_law_ 1593 = .ok (.iadd, 1) := by decide +kernel
theorem dL_law__1594 : decode cL_law_ 1594 = .ok (.iaload, 1) := by decide +kernel
theorem dL_law__1595 : decode cL_law_ 1595 = .ok (.aload_n 3, 1) := by decide +kernel
theorem dL_law__1596 : decode cL_law_ 1596 = .ok (.invokestatic 199, 3) := by decide +kernel
theorem dL_law__1599 : decode cL_law_ 1599 = .ok (.istore 5, 2) := by decide +kernel
theorem dL_law__1601 : decode cL_law_ 1601 = .ok (.aload_n 2, 1) := by decide +kernel
theorem dL_law__1602 : decode cL_law_ 1602 = .ok (.aload_n 0, 1) := by decide +kernel
theorem dL_law__1603 : decode cL_law_ 1603 = .ok (.iload 4, 2) := by decide +kernel
theorem dL_law__1605 : decode cL_law_ 1605 = .ok (.iconst 1, 1) := by decide +kernel
theorem dL_law__1606 : decode cL_law_ 1606 = .ok (.iadd, 1) := by decide +kernel
theorem dL_law__1607 : decode cL_law_ 1607 = .ok (.iaload, 1) := by decide +kernel
theorem dL_law__1608 : decode cL_law_ 1608 = .ok (.invokevirtual 201, 3) := by decide +kernel
theorem dL_law__1611 : decode cL_law_ 1611 = .ok (.istore 6, 2) := by decide +kernel
theorem dL_law__1613 : decode cL_law_ 1613 = .ok (.aload_n 2, 1) := by decide +kernel
theorem dL_law__1614 : decode cL_law_ 1614 = .ok (.invokevirtual 120, 3) := by decide +kernel
theorem dL_law__1617 : decode cL_law_ 1617 = .ok (.iload 5, 2) := by decide +kernel
theorem dL_law__1619 : decode cL_law_ 1619 = .ok (.if_icmp .eq 5, 3) := by decide +kernel
theorem dL_law__1622 : decode cL_law_ 1622 = .ok (.iconst 0, 1) := by decide +kernel
theorem dL_law__1623 : decode cL_law_ 1623 = .ok (.ireturn, 1) := by decide +kernel
theorem dL_law__1624 : decode cL_law_ 1624 = .ok (.iload 5, 2) := by decide +kernel
theorem dL_law__1626 : decode cL_law_ 1626 = .ok (.ifCond .ne 15, 3) := by decide +kernel
theorem dL_law__1629 : decode cL_law_ 1629 = .ok (.aload_n 3, 1) := by decide +kernel
theorem dL_law__1630 : decode cL_law_ 1630 = .ok (.iconst 0, 1) := by decide +kernel
theorem dL_law__1631 : decode cL_law_ 1631 = .ok (.laload, 1) := by decide +kernel
theorem dL_law__1632 : decode cL_law_ 1632 = .ok (.iload 6, 2) := by decide +kernel
theorem dL_law__1634 : decode cL_law_ 1634 = .ok (.i2l, 1) := by decide +kernel
theorem dL_law__1635 : decode cL_law_ 1635 = .ok (.lcmp, 1) := by decide +kernel
theorem dL_law__1636 : decode cL_law_ 1636 = .ok (.ifCond .eq 5, 3) := by decide +kernel
theorem dL_law__1639 : decode cL_law_ 1639 = .ok (.iconst 0, 1) := by decide +kernel
theorem dL_law__1640 : decode cL_law_ 1640 = .ok (.ireturn, 1) := by decide +kernel
theorem dL_law__1641 : decode cL_law_ 1641 = .ok (.goto 475, 3) := by decide +kernel
theorem dL_law__1644 : decode cL_law_ 1644 = .ok (.aload_n 1, 1) := by decide +kernel
theorem dL_law__1645 : decode cL_law_ 1645 = .ok (.aload_n 3, 1) := by decide +kernel
theorem dL_law__1646 : decode cL_law_ 1646 = .ok (.invokestatic 202, 3) := by decide +kernel
theorem dL_law__1649 : decode cL_law_ 1649 = .ok (.istore 5, 2) := by decide +kernel
theorem dL_law__1651 : decode cL_law_ 1651 = .ok (.aload_n 2, 1) := by decide +kernel
theorem dL_law__1652 : decode cL_law_ 1652 = .ok (.invokevirtual 204, 3) := by decide +kernel
theorem dL_law__1655 : decode cL_law_ 1655 = .ok (.istore 6, 2) := by decide +kernel
theorem dL_law__1657 : decode cL_law_ 1657 = .ok (.aload_n 2, 1) := by decide +kernel
theorem dL_law__1658 : decode cL_law_ 1658 = .ok (.invokevirtual 120, 3) := by decide +kernel
theorem dL_law__1661 : decode cL_law_ 1661 = .ok (.iload 5, 2) := by decide +kernel
theorem dL_law__1663 : decode cL_law_ 1663 = .ok (.if_icmp .eq 5, 3) := by decide +kernel
theorem dL_law__1666 : decode cL_law_ 1666 = .ok (.iconst 0, 1) := by decide +kernel
theorem dL_law__1667 : decode cL_law_ 1667 = .ok (.ireturn, 1) := by decide +kernel
theorem dL_law__1668 : decode cL_law_ 1668 = .ok (.iload 5, 2) := by decide +kernel
theorem dL_law__1670 : decode cL_law_ 1670 = .ok (.ifCond .ne 15, 3) := by decide +kernel
theorem dL_law__1673 : decode cL_law_ 1673 = .ok (.aload_n 3, 1) := by decide +kernel
theorem dL_law__1674 : decode cL_law_ 1674 = .ok (.iconst 0, 1) := by decide +kernel
theorem dL_law__1675 : decode cL_law_ 1675 = .ok (.laload, 1) := by decide +kernel
theorem dL_law__1676 : decode cL_law_ 1676 = .ok (.iload 6, 2) := by decide +kernel
theorem dL_law__1678 : decode cL_law_ 1678 = .ok (.i2l, 1) := by decide +kernel
theorem dL_law__1679 : decode cL_law_ 1679 = .ok (.lcmp, 1) := by decide +kernel
theorem dL_law__1680 : decode cL_law_ 1680 = .ok (.ifCond .eq 5, 3) := by decide +kernel
theorem dL_law__1683 : decode cL_law_ 1683 = .ok (.iconst 0, 1) := by decide +kernel
theorem dL_law__1684 : decode cL_law_ 1684 = .ok (.ireturn, 1) := by decide +kernel
theorem dL_law__1685 : decode cL_law_ 1685 = .ok (.goto 431, 3) := by decide +kernel
theorem dL_law__1688 : decode cL_law_ 1688 = .ok (.aload_n 1, 1) := by decide +kernel
theorem dL_law__1689 : decode cL_law_ 1689 = .ok (.aload_n 0, 1) := by decide +kernel
theorem dL_law__1690 : decode cL_law_ 1690 = .ok (.iload 4, 2) := by decide +kernel
theorem dL_law__1692 : decode cL_law_ 1692 = .ok (.iconst 1, 1) := by decide +kernel
theorem dL_law__1693 : decode cL_law_ 1693 = .ok (.iadd, 1) := by decide +kernel
theorem dL_law__1694 : decode cL_law_ 1694 = .ok (.iaload, 1) := by decide +kernel
theorem dL_law__1695 : decode cL_law_ 1695 = .ok (.aload_n 3, 1) := by decide +kernel
theorem dL_law__1696 : decode cL_law_ 1696 = .ok (.invokestatic 205, 3) := by decide +kernel
theorem dL_law__1699 : decode cL_law_ 1699 = .ok (.istore 5, 2) := by decide +kernel
theorem dL_law__1701 : decode cL_law_ 1701 = .ok (.aload_n 2, 1) := by decide +kernel
theorem dL_law__1702 : decode cL_law_ 1702 = .ok (.aload_n 0, 1) := by decide +kernel
theorem dL_law__1703 : decode cL_law_ 1703 = .ok (.iload 4, 2) := by decide +kernel
theorem dL_law__1705 : decode cL_law_ 1705 = .ok (.iconst 1, 1) := by decide +kernel
theorem dL_law__1706 : decode cL_law_ 1706 = .ok (.iadd, 1) := by decide +kernel
theorem dL_law__1707 : decode cL_law_ 1707 = .ok (.iaload, 1) := by decide +kernel
theorem dL_law__1708 : decode cL_law_ 1708 = .ok (.invokevirtual 207, 3) := by decide +kernel
theorem dL_law__1711 : decode cL_law_ 1711 = .ok (.istore 6, 2) := by decide +kernel
theorem dL_law__1713 : decode cL_law_ 1713 = .ok (.aload_n 2, 1) := by decide +kernel
theorem dL_law__1714 : decode cL_law_ 1714 = .ok (.invokevirtual 120, 3) := by decide +kernel
theorem dL_law__1717 : decode cL_law_ 1717 = .ok (.iload 5, 2) := by decide +kernel
theorem dL_law__1719 : decode cL_law_ 1719 = .ok (.if_icmp .eq 5, 3) := by decide +kernel
theorem dL_law__1722 : decode cL_law_ 1722 = .ok (.iconst 0, 1) := by decide +kernel
theorem dL_law__1723 : decode cL_law_ 1723 = .ok (.ireturn, 1) := by decide +kernel
theorem dL_law__1724 : decode cL_law_ 1724 = .ok (.iload 5, 2) := by decide +kernel
theorem dL_law__1726 : decode cL_law_ 1726 = .ok (.ifCond .ne 15, 3) := by decide +kernel
theorem dL_law__1729 : decode cL_law_ 1729 = .ok (.aload_n 3, 1) := by decide +kernel
theorem dL_law__1730 : decode cL_law_ 1730 = .ok (.iconst 0, 1) := by decide +kernel
theorem dL_law__1731 : decode cL_law_ 1731 = .ok (.laload, 1) := by decide +kernel
theorem dL_law__1732 : decode cL_law_ 1732 = .ok (.iload 6, 2) := by decide +kernel
theorem dL_law__1734 : decode cL_law_ 1734 = .ok (.i2l, 1) := by decide +kernel
theorem dL_law__1735 : decode cL_law_ 1735 = .ok (.lcmp, 1) := by decide +kernel
theorem dL_law__1736 : decode cL_law_ 1736 = .ok (.ifCond .eq 5, 3) := by decide +kernel
theorem dL_law__1739 : decode cL_law_ 1739 = .ok (.iconst 0, 1) := by decide +kernel
theorem dL_law__1740 : decode cL_law_ 1740 = .ok (.ireturn, 1) := by decide +kernel
theorem dL_law__1741 : decode cL_law_ 1741 = .ok (.goto 375, 3) := by decide +kernel
theorem dL_law__1744 : decode cL_law_ 1744 = .ok (.aload_n 1, 1) := by decide +kernel
theorem dL_law__1745 : decode cL_law_ 1745 = .ok (.aload_n 0, 1) := by decide +kernel
theorem dL_law__1746 : decode cL_law_ 1746 = .ok (.iload 4, 2) := by decide +kernel
theorem dL_law__1748 : decode cL_law_ 1748 = .ok (.iconst 1, 1) := by decide +kernel
theorem dL_law__1749 : decode cL_law_ 1749 = .ok (.iadd, 1) := by decide +kernel
theorem dL_law__1750 : decode cL_law_ 1750 = .ok (.iaload, 1) := by decide +kernel
theorem dL_law__1751 : decode cL_law_ 1751 = .ok (.aload_n 0, 1) := by decide +kernel
theorem dL_law__1752 : decode cL_law_ 1752 = .ok (.iload 4, 2) := by decide +kernel
theorem dL_law__1754 : decode cL_law_ 1754 = .ok (.iconst 2, 1) := by decide +kernel
theorem dL_law__1755 : decode cL_law_ 1755 = .ok (.iadd, 1) := by decide +kernel
theorem dL_law__1756 : decode cL_law_ 1756 = .ok (.iaload, 1) := by decide +kernel
theorem dL_law__1757 : decode cL_law_ 1757 = .ok (.aload_n 3, 1) := by decide +kernel
theorem dL_law__1758 : decode cL_law_ 1758 = .ok (.invokestatic 208, 3) := by decide +kernel
theorem dL_law__1761 : decode cL_law_ 1761 = .ok (.istore 5, 2) := by decide +kernel
theorem dL_law__1763 : decode cL_law_ 1763 = .ok (.aload_n 2, 1) := by decide +kernel
theorem dL_law__1764 : decode cL_law_ 1764 = .ok (.aload_n 0, 1) := by decide +kernel
theorem dL_law__1765 : decode cL_law_ 1765 = .ok (.iload 4, 2) := by decide +kernel
theorem dL_law__1767 : decode cL_law_ 1767 = .ok (.iconst 1, 1) := by decide +kernel
theorem dL_law__1768 : decode cL_law_ 1768 = .ok (.iadd, 1) := by decide +kernel
theorem dL_law__1769 : decode cL_law_ 1769 = .ok (.iaload, 1) := by decide +kernel
theorem dL_law__1770 : decode cL_law_ 1770 = .ok (.aload_n 0, 1) := by decide +kernel
theorem dL_law__1771 : decode cL_law_ 1771 = .ok (.iload 4, 2) := by decide +kernel
theorem dL_law__1773 : decode cL_law_ 1773 = .ok (.iconst 2, 1) := by decide +kernel
theorem dL_law__1774 : decode cL_law_ 1774 = .ok (.iadd, 1) := by decide +kernel
theorem dL_law__1775 : decode cL_law_ 1775 = .ok (.iaload, 1) := by decide +kernel
theorem dL_law__1776 : decode cL_law_ 1776 = .ok (.invokevirtual 210, 3) := by decide +kernel
theorem dL_law__1779 : decode cL_law_ 1779 = .ok (.istore 6, 2) := by decide +kernel
theorem dL_law__1781 : decode cL_law_ 1781 = .ok (.aload_n 2, 1) := by decide +kernel
theorem dL_law__1782 : decode cL_law_ 1782 = .ok (.invokevirtual 120, 3) := by decide +kernel
theorem dL_law__1785 : decode cL_law_ 1785 = .ok (.iload 5, 2) := by decide +kernel
theorem dL_law__1787 : decode cL_law_ 1787 = .ok (.if_icmp .eq 5, 3) := by decide +kernel
theorem dL_law__1790 : decode cL_law_ 1790 = .ok (.iconst 0, 1) := by decide +kernel
theorem dL_law__1791 : decode cL_law_ 1791 = .ok (.ireturn, 1) := by decide +kernel
theorem dL_law__1792 : decode cL_law_ 1792 = .ok (.iload 5, 2) := by decide +kernel
theorem dL_law__1794 : decode cL_law_ 1794 = .ok (.ifCond .ne 15, 3) := by decide +kernel
theorem dL_law__1797 : decode cL_law_ 1797 = .ok (.aload_n 3, 1) := by decide +kernel
theorem dL_law__1798 : decode cL_law_ 1798 = .ok (.iconst 0, 1) := by decide +kernel
theorem dL_law__1799 : decode cL_law_ 1799 = .ok (.laload, 1) := by decide +kernel
theorem dL_law__1800 : decode cL_law_ 1800 = .ok (.iload 6, 2) := by decide +kernel
theorem dL_law__1802 : decode cL_law_ 1802 = .ok (.i2l, 1) := by decide +kernel
theorem dL_law__1803 : decode cL_law_ 1803 = .ok (.lcmp, 1) := by decide +kernel
theorem dL_law__1804 : decode cL_law_ 1804 = .ok (.ifCond .eq 5, 3) := by decide +kernel
theorem dL_law__1807 : decode cL_law_ 1807 = .ok (.iconst 0, 1) := by decide +kernel
theorem dL_law__1808 : decode cL_law_ 1808 = .ok (.ireturn, 1) := by decide +kernel
theorem dL_law__1809 : decode cL_law_ 1809 = .ok (.goto 307, 3) := by decide +kernel
theorem dL_law__1812 : decode cL_law_ 1812 = .ok (.aload_n 1, 1) := by decide +kernel
theorem dL_law__1813 : decode cL_law_ 1813 = .ok (.aload_n 0, 1) := by decide +kernel
theorem dL_law__1814 : decode cL_law_ 1814 = .ok (.iload 4, 2) := by decide +kernel
theorem dL_law__1816 : decode cL_law_ 1816 = .ok (.iconst 1, 1) := by decide +kernel
theorem dL_law__1817 : decode cL_law_ 1817 = .ok (.iadd, 1) := by decide +kernel
theorem dL_law__1818 : decode cL_law_ 1818 = .ok (.iaload, 1) := by decide +kernel
theorem dL_law__1819 : decode cL_law_ 1819 = .ok (.aload_n 0, 1) := by decide +kernel
theorem dL_law__1820 : decode cL_law_ 1820 = .ok (.iload 4, 2) := by decide +kernel
theorem dL_law__1822 : decode cL_law_ 1822 = .ok (.iconst 2, 1) := by decide +kernel
theorem dL_law__1823 : decode cL_law_ 1823 = .ok (.iadd, 1) := by decide +kernel
theorem dL_law__1824 : decode cL_law_ 1824 = .ok (.iaload, 1) := by decide +kernel
theorem dL_law__1825 : decode cL_law_ 1825 = .ok (.aload_n 3, 1) := by decide +kernel
theorem dL_law__1826 : decode cL_law_ 1826 = .ok (.invokestatic 211, 3) := by decide +kernel
theorem dL_law__1829 : decode cL_law_ 1829 = .ok (.istore 5, 2) := by decide +kernel
theorem dL_law__1831 : decode cL_law_ 1831 = .ok (.aload_n 2, 1) := by decide +kernel
theorem dL_law__1832 : decode cL_law_ 1832 = .ok (.aload_n 0, 1) := by decide +kernel
theorem dL_law__1833 : decode cL_law_ 1833 = .ok (.iload 4, 2) := by decide +kernel
theorem dL_law__1835 : decode cL_law_ 1835 = .ok (.iconst 1, 1) := by decide +kernel
theorem dL_law__1836 : decode cL_law_ 1836 = .ok (.iadd, 1) := by decide +kernel
theorem dL_law__1837 : decode cL_law_ 1837 = .ok (.iaload, 1) := by decide +kernel
theorem dL_law__1838 : decode cL_law_ 1838 = .ok (.aload_n 0, 1) := by decide +kernel
theorem dL_law__1839 : decode cL_law_ 1839 = .ok (.iload 4, 2) := by decide +kernel
theorem dL_law__1841 : decode cL_law_ 1841 = .ok (.iconst 2, 1) := by decide +kernel
theorem dL_law__1842 : decode cL_law_ 1842 = .ok (.iadd, 1) := by decide +kernel
theorem dL_law__1843 : decode cL_law_ 1843 = .ok (.iaload, 1) := by decide +kernel
theorem dL_law__1844 : decode cL_law_ 1844 = .ok (.invokevirtual 213, 3) := by decide +kernel
theorem dL_law__1847 : decode cL_law_ 1847 = .ok (.istore 6, 2) := by decide +kernel
theorem dL_law__1849 : decode cL_law_ 1849 = .ok (.aload_n 2, 1) := by decide +kernel
theorem dL_law__1850 : decode cL_law_ 1850 = .ok (.invokevirtual 120, 3) := by decide +kernel
theorem dL_law__1853 : decode cL_law_ 1853 = .ok (.iload 5, 2) := by decide +kernel
theorem dL_law__1855 : decode cL_law_ 1855 = .ok (.if_icmp .eq 5, 3) := by decide +kernel
theorem dL_law__1858 : decode cL_law_ 1858 = .ok (.iconst 0, 1) := by decide +kernel
theorem dL_law__1859 : decode cL_law_ 1859 = .ok (.ireturn, 1) := by decide +kernel
theorem dL_law__1860 : decode cL_law_ 1860 = .ok (.iload 5, 2) := by decide +kernel
theorem dL_law__1862 : decode cL_law_ 1862 = .ok (.ifCond .ne 15, 3) := by decide +kernel
theorem dL_law__1865 : decode cL_law_ 1865 = .ok (.aload_n 3, 1) := by decide +kernel
theorem dL_law__1866 : decode cL_law_ 1866 = .ok (.iconst 0, 1) := by decide +kernel
theorem dL_law__1867 : decode cL_law_ 1867 = .ok (.laload, 1) := by decide +kernel
theorem dL_law__1868 : decode cL_law_ 1868 = .ok (.iload 6, 2) := by decide +kernel
theorem dL_law__1870 : decode cL_law_ 1870 = .ok (.i2l, 1) := by decide +kernel
theorem dL_law__1871 : decode cL_law_ 1871 = .ok (.lcmp, 1) := by decide +kernel
theorem dL_law__1872 : decode cL_law_ 1872 = .ok (.ifCond .eq 5, 3) := by decide +kernel
theorem dL_law__1875 : decode cL_law_ 1875 = .ok (.iconst 0, 1) := by decide +kernel
theorem dL_law__1876 : decode cL_law_ 1876 = .ok (.ireturn, 1) := by decide +kernel
theorem dL_law__1877 : decode cL_law_ 1877 = .ok (.goto 239, 3) := by decide +kernel
theorem dL_law__1880 : decode cL_law_ 1880 = .ok (.aload_n 1, 1) := by decide +kernel
theorem dL_law__1881 : decode cL_law_ 1881 = .ok (.aload_n 0, 1) := by decide +kernel
theorem dL_law__1882 : decode cL_law_ 1882 = .ok (.iload 4, 2) := by decide +kernel
theorem dL_law__1884 : decode cL_law_ 1884 = .ok (.iconst 1, 1) := by decide +kernel
theorem dL_law__1885 : decode cL_law_ 1885 = .ok (.iadd, 1) := by decide +kernel
theorem dL_law__1886 : decode cL_law_ 1886 = .ok (.iaload, 1) := by decide +kernel
theorem dL_law__1887 : decode cL_law_ 1887 = .ok (.aload_n 0, 1) := by decide +kernel
theorem dL_law__1888 : decode cL_law_ 1888 = .ok (.iload 4, 2) := by decide +kernel
theorem dL_law__1890 : decode cL_law_ 1890 = .ok (.iconst 2, 1) := by decide +kernel
theorem dL_law__1891 : decode cL_law_ 1891 = .ok (.iadd, 1) := by decide +kernel
theorem dL_law__1892 : decode cL_law_ 1892 = .ok (.iaload, 1) := by decide +kernel
theorem dL_law__1893 : decode cL_law_ 1893 = .ok (.aload_n 3, 1) := by decide +kernel
theorem dL_law__1894 : decode cL_law_ 1894 = .ok (.invokestatic 214, 3) := by decide +kernel
theorem dL_law__1897 : decode cL_law_ 1897 = .ok (.istore 5, 2) := by decide +kernel
theorem dL_law__1899 : decode cL_law_ 1899 = .ok (.aload_n 2, 1) := by decide +kernel
theorem dL_law__1900 : decode cL_law_ 1900 = .ok (.aload_n 0, 1) := by decide +kernel
theorem dL_law__1901 : decode cL_law_ 1901 = .ok (.iload 4, 2) := by decide +kernel
theorem dL_law__1903 : decode cL_law_ 1903 = .ok (.iconst 1, 1) := by decide +kernel
theorem dL_law__1904 : decode cL_law_ 1904 = .ok (.iadd, 1) := by decide +kernel
theorem dL_law__1905 : decode cL_law_ 1905 = .ok (.iaload, 1) := by decide +kernel
theorem dL_law__1906 : decode cL_law_ 1906 = .ok (.aload_n 0, 1) := by decide +kernel
theorem dL_law__1907 : decode cL_law_ 1907 = .ok (.iload 4, 2) := by decide +kernel
theorem dL_law__1909 : decode cL_law_ 1909 = .ok (.iconst 2, 1) := by decide +kernel
theorem dL_law__1910 : decode cL_law_ 1910 = .ok (.iadd, 1) := by decide +kernel
theorem dL_law__1911 : decode cL_law_ 1911 = .ok (.iaload, 1) := by decide +kernel
theorem dL_law__1912 : decode cL_law_ 1912 = .ok (.invokevirtual 216, 3) := by decide +kernel
theorem dL_law__1915 : decode cL_law_ 1915 = .ok (.istore 6, 2) := by decide +kernel
theorem dL_law__1917 : decode cL_law_ 1917 = .ok (.aload_n 2, 1) := by decide +kernel
theorem dL_law__1918 : decode cL_law_ 1918 = .ok (.invokevirtual 120, 3) := by decide +kernel
theorem dL_law__1921 : decode cL_law_ 1921 = .ok (.iload 5, 2) := by decide +kernel
theorem dL_law__1923 : decode cL_law_ 1923 = .ok (.if_icmp .eq 5, 3) := by decide +kernel
theorem dL_law__1926 : decode cL_law_ 1926 = .ok (.iconst 0, 1) := by decide +kernel
theorem dL_law__1927 : decode cL_law_ 1927 = .ok (.ireturn, 1) := by decide +kernel
theorem dL_law__1928 : decode cL_law_ 1928 = .ok (.iload 5, 2) := by decide +kernel
theorem dL_law__1930 : decode cL_law_ 1930 = .ok (.ifCond .ne 15, 3) := by decide +kernel
theorem dL_law__1933 : decode cL_law_ 1933 = .ok (.aload_n 3, 1) := by decide +kernel
theorem dL_law__1934 : decode cL_law_ 1934 = .ok (.iconst 0, 1) := by decide +kernel
theorem dL_law__1935 : decode cL_law_ 1935 = .ok (.laload, 1) := by decide +kernel
theorem dL_law__1936 : decode cL_law_ 1936 = .ok (.iload 6, 2) := by decide +kernel
theorem dL_law__1938 : decode cL_law_ 1938 = .ok (.i2l, 1) := by decide +kernel
theorem dL_law__1939 : decode cL_law_ 1939 = .ok (.lcmp, 1) := by decide +kernel
theorem dL_law__1940 : decode cL_law_ 1940 = .ok (.ifCond .eq 5, 3) := by decide +kernel
theorem dL_law__1943 : decode cL_law_ 1943 = .ok (.iconst 0, 1) := by decide +kernel
theorem dL_law__1944 : decode cL_law_ 1944 = .ok (.ireturn, 1) := by decide +kernel
theorem dL_law__1945 : decode cL_law_ 1945 = .ok (.goto 171, 3) := by decide +kernel
theorem dL_law__1948 : decode cL_law_ 1948 = .ok (.aload_n 1, 1) := by decide +kernel
theorem dL_law__1949 : decode cL_law_ 1949 = .ok (.aload_n 0, 1) := by decide +kernel
theorem dL_law__1950 : decode cL_law_ 1950 = .ok (.iload 4, 2) := by decide +kernel
theorem dL_law__1952 : decode cL_law_ 1952 = .ok (.iconst 1, 1) := by decide +kernel
theorem dL_law__1953 : decode cL_law_ 1953 = .ok (.iadd, 1) := by decide +kernel
theorem dL_law__1954 : decode cL_law_ 1954 = .ok (.iaload, 1) := by decide +kernel
theorem dL_law__1955 : decode cL_law_ 1955 = .ok (.aload_n 3, 1) := by decide +kernel
theorem dL_law__1956 : decode cL_law_ 1956 = .ok (.invokestatic 217, 3) := by decide +kernel
theorem dL_law__1959 : decode cL_law_ 1959 = .ok (.istore 5, 2) := by decide +kernel
theorem dL_law__1961 : decode cL_law_ 1961 = .ok (.aload_n 2, 1) := by decide +kernel
theorem dL_law__1962 : decode cL_law_ 1962 = .ok (.aload_n 0, 1) := by decide +kernel
theorem dL_law__1963 : decode cL_law_ 1963 = .ok (.iload 4, 2) := by decide +kernel
theorem dL_law__1965 : decode cL_law_ 1965 = .ok (.iconst 1, 1) := by decide +kernel
theorem dL_law__1966 : decode cL_law_ 1966 = .ok (.iadd, 1) := by decide +kernel
theorem dL_law__1967 : decode cL_law_ 1967 = .ok (.iaload, 1) := by decide +kernel
theorem dL_law__1968 : decode cL_law_ 1968 = .ok (.invokevirtual 219, 3) := by decide +kernel
theorem dL_law__1971 : decode cL_law_ 1971 = .ok (.istore 6, 2) := by decide +kernel
theorem dL_law__1973 : decode cL_law_ 1973 = .ok (.aload_n 2, 1) := by decide +kernel
theorem dL_law__1974 : decode cL_law_ 1974 = .ok (.invokevirtual 120, 3) := by decide +kernel
theorem dL_law__1977 : decode cL_law_ 1977 = .ok (.iload 5, 2) := by decide +kernel
theorem dL_law__1979 : decode cL_law_ 1979 = .ok (.if_icmp .eq 5, 3) := by decide +kernel
theorem dL_law__1982 : decode cL_law_ 1982 = .ok (.iconst 0, 1) := by decide +kernel
theorem dL_law__1983 : decode cL_law_ 1983 = .ok (.ireturn, 1) := by decide +kernel
theorem dL_law__1984 : decode cL_law_ 1984 = .ok (.iload 5, 2) := by decide +kernel
theorem dL_law__1986 : decode cL_law_ 1986 = .ok (.ifCond .ne 15, 3) := by decide +kernel
theorem dL_law__1989 : decode cL_law_ 1989 = .ok (.aload_n 3, 1) := by decide +kernel
theorem dL_law__1990 : decode cL_law_ 1990 = .ok (.iconst 0, 1) := by decide +kernel
theorem dL_law__1991 : decode cL_law_ 1991 = .ok (.laload, 1) := by decide +kernel
theorem dL_law__1992 : decode cL_law_ 1992 = .ok (.iload 6, 2) := by decide +kernel
theorem dL_law__1994 : decode cL_law_ 1994 = .ok (.i2l, 1) := by decide +kernel
theorem dL_law__1995 : decode cL_law_ 1995 = .ok (.lcmp, 1) := by decide +kernel
theorem dL_law__1996 : decode cL_law_ 1996 = .ok (.ifCond .eq 5, 3) := by decide +kernel
theorem dL_law__1999 : decode cL_law_ 1999 = .ok (.iconst 0, 1) := by decide +kernel
theorem dL_law__2000 : decode cL_law_ 2000 = .ok (.ireturn, 1) := by decide +kernel
theorem dL_law__2001 : decode cL_law_ 2001 = .ok (.goto 115, 3) := by decide +kernel
theorem dL_law__2004 : decode cL_law_ 2004 = .ok (.aload_n 1, 1) := by decide +kernel
theorem dL_law__2005 : decode cL_law_ 2005 = .ok (.aload_n 0, 1) := by decide +kernel
theorem dL_law__2006 : decode cL_law_ 2006 = .ok (.iload 4, 2) := by decide +kernel
theorem dL_law__2008 : decode cL_law_ 2008 = .ok (.iconst 1, 1) := by decide +kernel
theorem dL_law__2009 : decode cL_law_ 2009 = .ok (.iadd, 1) := by decide +kernel
theorem dL_law__2010 : decode cL_law_ 2010 = .ok (.iaload, 1) := by decide +kernel
theorem dL_law__2011 : decode cL_law_ 2011 = .ok (.aload_n 3, 1) := by decide +kernel
theorem dL_law__2012 : decode cL_law_ 2012 = .ok (.invokestatic 220, 3) := by decide +kernel
theorem dL_law__2015 : decode cL_law_ 2015 = .ok (.istore 5, 2) := by decide +kernel
theorem dL_law__2017 : decode cL_law_ 2017 = .ok (.aload_n 2, 1) := by decide +kernel
theorem dL_law__2018 : decode cL_law_ 2018 = .ok (.aload_n 0, 1) := by decide +kernel
theorem dL_law__2019 : decode cL_law_ 2019 = .ok (.iload 4, 2) := by decide +kernel
theorem dL_law__2021 : decode cL_law_ 2021 = .ok (.iconst 1, 1) := by decide +kernel
theorem dL_law__2022 : decode cL_law_ 2022 = .ok (.iadd, 1) := by decide +kernel
theorem dL_law__2023 : decode cL_law_ 2023 = .ok (.iaload, 1) := by decide +kernel
theorem dL_law__2024 : decode cL_law_ 2024 = .ok (.invokevirtual 222, 3) := by decide +kernel
theorem dL_law__2027 : decode cL_law_ 2027 = .ok (.istore 6, 2) := by decide +kernel
theorem dL_law__2029 : decode cL_law_ 2029 = .ok (.aload_n 2, 1) := by decide +kernel
theorem dL_law__2030 : decode cL_law_ 2030 = .ok (.invokevirtual 120, 3) := by decide +kernel
theorem dL_law__2033 : decode cL_law_ 2033 = .ok (.iload 5, 2) := by decide +kernel
theorem dL_law__2035 : decode cL_law_ 2035 = .ok (.if_icmp .eq 5, 3) := by decide +kernel
theorem dL_law__2038 : decode cL_law_ 2038 = .ok (.iconst 0, 1) := by decide +kernel
theorem dL_law__2039 : decode cL_law_ 2039 = .ok (.ireturn, 1) := by decide +kernel
theorem dL_law__2040 : decode cL_law_ 2040 = .ok (.iload 5, 2) := by decide +kernel
theorem dL_law__2042 : decode cL_law_ 2042 = .ok (.ifCond .ne 15, 3) := by decide +kernel
theorem dL_law__2045 : decode cL_law_ 2045 = .ok (.aload_n 3, 1) := by decide +kernel
theorem dL_law__2046 : decode cL_law_ 2046 = .ok (.iconst 0, 1) := by decide +kernel
theorem dL_law__2047 : decode cL_law_ 2047 = .ok (.laload, 1) := by decide +kernel
theorem dL_law__2048 : decode cL_law_ 2048 = .ok (.iload 6, 2) := by decide +kernel
theorem dL_law__2050 : decode cL_law_ 2050 = .ok (.i2l, 1) := by decide +kernel
theorem dL_law__2051 : decode cL_law_ 2051 = .ok (.lcmp, 1) := by decide +kernel
theorem dL_law__2052 : decode cL_law_ 2052 = .ok (.ifCond .eq 5, 3) := by decide +kernel
theorem dL_law__2055 : decode cL_law_ 2055 = .ok (.iconst 0, 1) := by decide +kernel
theorem dL_law__2056 : decode cL_law_ 2056 = .ok (.ireturn, 1) := by decide +kernel
theorem dL_law__2057 : decode cL_law_ 2057 = .ok (.goto 59, 3) := by decide +kernel
theorem dL_law__2060 : decode cL_law_ 2060 = .ok (.aload_n 1, 1) := by decide +kernel
theorem dL_law__2061 : decode cL_law_ 2061 = .ok (.aload_n 0, 1) := by decide +kernel
theorem dL_law__2062 : decode cL_law_ 2062 = .ok (.iload 4, 2) := by decide +kernel
theorem dL_law__2064 : decode cL_law_ 2064 = .ok (.iconst 1, 1) := by decide +kernel
theorem dL_law__2065 : decode cL_law_ 2065 = .ok (.iadd, 1) := by decide +kernel
theorem dL_law__2066 : decode cL_law_ 2066 = .ok (.iaload, 1) := by decide +kernel
theorem dL_law__2067 : decode cL_law_ 2067 = .ok (.aload_n 3, 1) := by decide +kernel
theorem dL_law__2068 : decode cL_law_ 2068 = .ok (.invokestatic 223, 3) := by decide +kernel
theorem dL_law__2071 : decode cL_law_ 2071 = .ok (.istore 5, 2) := by decide +kernel
theorem dL_law__2073 : decode cL_law_ 2073 = .ok (.aload_n 2, 1) := by decide +kernel
theorem dL_law__2074 : decode cL_law_ 2074 = .ok (.aload_n 0, 1) := by decide +kernel
theorem dL_law__2075 : decode cL_law_ 2075 = .ok (.iload 4, 2) := by decide +kernel
theorem dL_law__2077 : decode cL_law_ 2077 = .ok (.iconst 1, 1) := by decide +kernel
theorem dL_law__2078 : decode cL_law_ 2078 = .ok (.iadd, 1) := by decide +kernel
theorem dL_law__2079 : decode cL_law_ 2079 = .ok (.iaload, 1) := by decide +kernel
theorem dL_law__2080 : decode cL_law_ 2080 = .ok (.invokevirtual 225, 3) := by decide +kernel
theorem dL_law__2083 : decode cL_law_ 2083 = .ok (.istore 6, 2) := by decide +kernel
theorem dL_law__2085 : decode cL_law_ 2085 = .ok (.aload_n 2, 1) := by decide +kernel
theorem dL_law__2086 : decode cL_law_ 2086 = .ok (.invokevirtual 120, 3) := by decide +kernel
theorem dL_law__2089 : decode cL_law_ 2089 = .ok (.iload 5, 2) := by decide +kernel
theorem dL_law__2091 : decode cL_law_ 2091 = .ok (.if_icmp .eq 5, 3) := by decide +kernel
theorem dL_law__2094 : decode cL_law_ 2094 = .ok (.iconst 0, 1) := by decide +kernel
theorem dL_law__2095 : decode cL_law_ 2095 = .ok (.ireturn, 1) := by decide +kernel
theorem dL_law__2096 : decode cL_law_ 2096 = .ok (.iload 5, 2) := by decide +kernel
theorem dL_law__2098 : decode cL_law_ 2098 = .ok (.ifCond .ne 15, 3) := by decide +kernel
theorem dL_law__2101 : decode cL_law_ 2101 = .ok (.aload_n 3, 1) := by decide +kernel
theorem dL_law__2102 : decode cL_law_ 2102 = .ok (.iconst 0, 1) := by decide +kernel
theorem dL_law__2103 : decode cL_law_ 2103 = .ok (.laload, 1) := by decide +kernel
theorem dL_law__2104 : decode cL_law_ 2104 = .ok (.iload 6, 2) := by decide +kernel
theorem dL_law__2106 : decode cL_law_ 2106 = .ok (.i2l, 1) := by decide +kernel
theorem dL_law__2107 : decode cL_law_ 2107 = .ok (.lcmp, 1) := by decide +kernel
theorem dL_law__2108 : decode cL_law_ 2108 = .ok (.ifCond .eq 5, 3) := by decide +kernel
theorem dL_law__2111 : decode cL_law_ 2111 = .ok (.iconst 0, 1) := by decide +kernel
theorem dL_law__2112 : decode cL_law_ 2112 = .ok (.ireturn, 1) := by decide +kernel
theorem dL_law__2113 : decode cL_law_ 2113 = .ok (.goto 3, 3) := by decide +kernel
theorem dL_law__2116 : decode cL_law_ 2116 = .ok (.iinc 4 4, 3) := by decide +kernel
theorem dL_law__2119 : decode cL_law_ 2119 = .ok (.goto (-2096), 3) := by decide +kernel
theorem dL_law__2122 : decode cL_law_ 2122 = .ok (.iconst 1, 1) := by decide +kernel
theorem dL_law__2123 : decode cL_law_ 2123 = .ok (.ireturn, 1) := by decide +kernel
