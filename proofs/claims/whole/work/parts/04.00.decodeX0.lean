theorem dX0_init_0 : decode cX0_init 0 = .ok (.aload_n 0, 1) := by decide +kernel
theorem dX0_init_1 : decode cX0_init 1 = .ok (.invokespecial 3, 3) := by decide +kernel
theorem dX0_init_4 : decode cX0_init 4 = .ok (.aload_n 0, 1) := by decide +kernel
theorem dX0_init_5 : decode cX0_init 5 = .ok (.iconst 3, 1) := by decide +kernel
theorem dX0_init_6 : decode cX0_init 6 = .ok (.newarray .int, 2) := by decide +kernel
theorem dX0_init_8 : decode cX0_init 8 = .ok (.putfield 9, 3) := by decide +kernel
theorem dX0_init_11 : decode cX0_init 11 = .ok (.aload_n 0, 1) := by decide +kernel
theorem dX0_init_12 : decode cX0_init 12 = .ok (.ldc 15, 2) := by decide +kernel
theorem dX0_init_14 : decode cX0_init 14 = .ok (.putfield 16, 3) := by decide +kernel
theorem dX0_init_17 : decode cX0_init 17 = .ok (.aload_n 0, 1) := by decide +kernel
theorem dX0_init_18 : decode cX0_init 18 = .ok (.iload_n 1, 1) := by decide +kernel
theorem dX0_init_19 : decode cX0_init 19 = .ok (.putfield 20, 3) := by decide +kernel
theorem dX0_init_22 : decode cX0_init 22 = .ok (.aload_n 0, 1) := by decide +kernel
theorem dX0_init_23 : decode cX0_init 23 = .ok (.iload_n 2, 1) := by decide +kernel
theorem dX0_init_24 : decode cX0_init 24 = .ok (.putfield 23, 3) := by decide +kernel
theorem dX0_init_27 : decode cX0_init 27 = .ok (.aload_n 0, 1) := by decide +kernel
theorem dX0_init_28 : decode cX0_init 28 = .ok (.iload_n 3, 1) := by decide +kernel
theorem dX0_init_29 : decode cX0_init 29 = .ok (.putfield 26, 3) := by decide +kernel
theorem dX0_init_32 : decode cX0_init 32 = .ok (.aload_n 0, 1) := by decide +kernel
theorem dX0_init_33 : decode cX0_init 33 = .ok (.iload 4, 2) := by decide +kernel
theorem dX0_init_35 : decode cX0_init 35 = .ok (.putfield 29, 3) := by decide +kernel
theorem dX0_init_38 : decode cX0_init 38 = .ok (.return_, 1) := by decide +kernel
theorem dX0_isOfTrade_0 : decode cX0_isOfTrade 0 = .ok (.aload_n 0, 1) := by decide +kernel
theorem dX0_isOfTrade_1 : decode cX0_isOfTrade 1 = .ok (.getfield 20, 3) := by decide +kernel
theorem dX0_isOfTrade_4 : decode cX0_isOfTrade 4 = .ok (.iconst 2, 1) := by decide +kernel
theorem dX0_isOfTrade_5 : decode cX0_isOfTrade 5 = .ok (.if_icmp .eq 11, 3) := by decide +kernel
theorem dX0_isOfTrade_8 : decode cX0_isOfTrade 8 = .ok (.aload_n 0, 1) := by decide +kernel
theorem dX0_isOfTrade_9 : decode cX0_isOfTrade 9 = .ok (.getfield 20, 3) := by decide +kernel
theorem dX0_isOfTrade_12 : decode cX0_isOfTrade 12 = .ok (.iconst 3, 1) := by decide +kernel
theorem dX0_isOfTrade_13 : decode cX0_isOfTrade 13 = .ok (.if_icmp .ne 7, 3) := by decide +kernel
theorem dX0_isOfTrade_16 : decode cX0_isOfTrade 16 = .ok (.iconst 1, 1) := by decide +kernel
theorem dX0_isOfTrade_17 : decode cX0_isOfTrade 17 = .ok (.goto 4, 3) := by decide +kernel
theorem dX0_isOfTrade_20 : decode cX0_isOfTrade 20 = .ok (.iconst 0, 1) := by decide +kernel
theorem dX0_isOfTrade_21 : decode cX0_isOfTrade 21 = .ok (.ireturn, 1) := by decide +kernel
theorem dX0_hasAllDraws_0 : decode cX0_hasAllDraws 0 = .ok (.aload_n 0, 1) := by decide +kernel
theorem dX0_hasAllDraws_1 : decode cX0_hasAllDraws 1 = .ok (.getfield 32, 3) := by decide +kernel
theorem dX0_hasAllDraws_4 : decode cX0_hasAllDraws 4 = .ok (.iconst 3, 1) := by decide +kernel
theorem dX0_hasAllDraws_5 : decode cX0_hasAllDraws 5 = .ok (.if_icmp .lt 7, 3) := by decide +kernel
theorem dX0_hasAllDraws_8 : decode cX0_hasAllDraws 8 = .ok (.iconst 1, 1) := by decide +kernel
theorem dX0_hasAllDraws_9 : decode cX0_hasAllDraws 9 = .ok (.goto 4, 3) := by decide +kernel
theorem dX0_hasAllDraws_12 : decode cX0_hasAllDraws 12 = .ok (.iconst 0, 1) := by decide +kernel
theorem dX0_hasAllDraws_13 : decode cX0_hasAllDraws 13 = .ok (.ireturn, 1) := by decide +kernel
theorem dX0_addDraw_0 : decode cX0_addDraw 0 = .ok (.aload_n 0, 1) := by decide +kernel
theorem dX0_addDraw_1 : decode cX0_addDraw 1 = .ok (.getfield 32, 3) := by decide +kernel
theorem dX0_addDraw_4 : decode cX0_addDraw 4 = .ok (.iconst 0, 1) := by decide +kernel
theorem dX0_addDraw_5 : decode cX0_addDraw 5 = .ok (.iconst 2, 1) := by decide +kernel
theorem dX0_addDraw_6 : decode cX0_addDraw 6 = .ok (.invokestatic 35, 3) := by decide +kernel
theorem dX0_addDraw_9 : decode cX0_addDraw 9 = .ok (.ifCond .eq 23, 3) := by decide +kernel
theorem dX0_addDraw_12 : decode cX0_addDraw 12 = .ok (.aload_n 0, 1) := by decide +kernel
theorem dX0_addDraw_13 : decode cX0_addDraw 13 = .ok (.getfield 9, 3) := by decide +kernel
theorem dX0_addDraw_16 : decode cX0_addDraw 16 = .ok (.aload_n 0, 1) := by decide +kernel
theorem dX0_addDraw_17 : decode cX0_addDraw 17 = .ok (.getfield 32, 3) := by decide +kernel
theorem dX0_addDraw_20 : decode cX0_addDraw 20 = .ok (.iload_n 1, 1) := by decide +kernel
theorem dX0_addDraw_21 : decode cX0_addDraw 21 = .ok (.iastore, 1) := by decide +kernel
theorem dX0_addDraw_22 : decode cX0_addDraw 22 = .ok (.aload_n 0, 1) := by decide +kernel
theorem dX0_addDraw_23 : decode cX0_addDraw 23 = .ok (.dup, 1) := by decide +kernel
theorem dX0_addDraw_24 : decode cX0_addDraw 24 = .ok (.getfield 32, 3) := by decide +kernel
theorem dX0_addDraw_27 : decode cX0_addDraw 27 = .ok (.iconst 1, 1) := by decide +kernel
theorem dX0_addDraw_28 : decode cX0_addDraw 28 = .ok (.iadd, 1) := by decide +kernel
theorem dX0_addDraw_29 : decode cX0_addDraw 29 = .ok (.putfield 32, 3) := by decide +kernel
theorem dX0_addDraw_32 : decode cX0_addDraw 32 = .ok (.aload_n 0, 1) := by decide +kernel
theorem dX0_addDraw_33 : decode cX0_addDraw 33 = .ok (.getfield 32, 3) := by decide +kernel
theorem dX0_addDraw_36 : decode cX0_addDraw 36 = .ok (.ireturn, 1) := by decide +kernel
theorem dX0_leastDraw_0 : decode cX0_leastDraw 0 = .ok (.aload_n 0, 1) := by decide +kernel
theorem dX0_leastDraw_1 : decode cX0_leastDraw 1 = .ok (.getfield 9, 3) := by decide +kernel
theorem dX0_leastDraw_4 : decode cX0_leastDraw 4 = .ok (.iconst 0, 1) := by decide +kernel
theorem dX0_leastDraw_5 : decode cX0_leastDraw 5 = .ok (.iaload, 1) := by decide +kernel
theorem dX0_leastDraw_6 : decode cX0_leastDraw 6 = .ok (.aload_n 0, 1) := by decide +kernel
theorem dX0_leastDraw_7 : decode cX0_leastDraw 7 = .ok (.getfield 9, 3) := by decide +kernel
theorem dX0_leastDraw_10 : decode cX0_leastDraw 10 = .ok (.iconst 1, 1) := by decide +kernel
theorem dX0_leastDraw_11 : decode cX0_leastDraw 11 = .ok (.iaload, 1) := by decide +kernel
theorem dX0_leastDraw_12 : decode cX0_leastDraw 12 = .ok (.aload_n 0, 1) := by decide +kernel
theorem dX0_leastDraw_13 : decode cX0_leastDraw 13 = .ok (.getfield 9, 3) := by decide +kernel
theorem dX0_leastDraw_16 : decode cX0_leastDraw 16 = .ok (.iconst 2, 1) := by decide +kernel
theorem dX0_leastDraw_17 : decode cX0_leastDraw 17 = .ok (.iaload, 1) := by decide +kernel
theorem dX0_leastDraw_18 : decode cX0_leastDraw 18 = .ok (.invokestatic 39, 3) := by decide +kernel
theorem dX0_leastDraw_21 : decode cX0_leastDraw 21 = .ok (.invokestatic 39, 3) := by decide +kernel
theorem dX0_leastDraw_24 : decode cX0_leastDraw 24 = .ok (.ireturn, 1) := by decide +kernel
theorem dX0_greatestDraw_0 : decode cX0_greatestDraw 0 = .ok (.aload_n 0, 1) := by decide +kernel
theorem dX0_greatestDraw_1 : decode cX0_greatestDraw 1 = .ok (.getfield 9, 3) := by decide +kernel
theorem dX0_greatestDraw_4 : decode cX0_greatestDraw 4 = .ok (.iconst 0, 1) := by decide +kernel
theorem dX0_greatestDraw_5 : decode cX0_greatestDraw 5 = .ok (.iaload, 1) := by decide +kernel
theorem dX0_greatestDraw_6 : decode cX0_greatestDraw 6 = .ok (.aload_n 0, 1) := by decide +kernel
theorem dX0_greatestDraw_7 : decode cX0_greatestDraw 7 = .ok (.getfield 9, 3) := by decide +kernel
theorem dX0_greatestDraw_10 : decode cX0_greatestDraw 10 = .ok (.iconst 1, 1) := by decide +kernel
theorem dX0_greatestDraw_11 : decode cX0_greatestDraw 11 = .ok (.iaload, 1) := by decide +kernel
theorem dX0_greatestDraw_12 : decode cX0_greatestDraw 12 = .ok (.aload_n 0, 1) := by decide +kernel
theorem dX0_greatestDraw_13 : decode cX0_greatestDraw 13 = .ok (.getfield 9, 3) := by decide +kernel
theorem dX0_greatestDraw_16 : decode cX0_greatestDraw 16 = .ok (.iconst 2, 1) := by decide +kernel
theorem dX0_greatestDraw_17 : decode cX0_greatestDraw 17 = .ok (.iaload, 1) := by decide +kernel
theorem dX0_greatestDraw_18 : decode cX0_greatestDraw 18 = .ok (.invokestatic 45, 3) := by decide +kernel
theorem dX0_greatestDraw_21 : decode cX0_greatestDraw 21 = .ok (.invokestatic 45, 3) := by decide +kernel
theorem dX0_greatestDraw_24 : decode cX0_greatestDraw 24 = .ok (.ireturn, 1) := by decide +kernel
theorem dX0_middleDraw_0 : decode cX0_middleDraw 0 = .ok (.aload_n 0, 1) := by decide +kernel
theorem dX0_middleDraw_1 : decode cX0_middleDraw 1 = .ok (.getfield 9, 3) := by decide +kernel
theorem dX0_middleDraw_4 : decode cX0_middleDraw 4 = .ok (.iconst 0, 1) := by decide +kernel
theorem dX0_middleDraw_5 : decode cX0_middleDraw 5 = .ok (.iaload, 1) := by decide +kernel
theorem dX0_middleDraw_6 : decode cX0_middleDraw 6 = .ok (.aload_n 0, 1) := by decide +kernel
theorem dX0_middleDraw_7 : decode cX0_middleDraw 7 = .ok (.getfield 9, 3) := by decide +kernel
theorem dX0_middleDraw_10 : decode cX0_middleDraw 10 = .ok (.iconst 1, 1) := by decide +kernel
theorem dX0_middleDraw_11 : decode cX0_middleDraw 11 = .ok (.iaload, 1) := by decide +kernel
theorem dX0_middleDraw_12 : decode cX0_middleDraw 12 = .ok (.iadd, 1) := by decide +kernel
theorem dX0_middleDraw_13 : decode cX0_middleDraw 13 = .ok (.aload_n 0, 1) := by decide +kernel
theorem dX0_middleDraw_14 : decode cX0_middleDraw 14 = .ok (.getfield 9, 3) := by decide +kernel
theorem dX0_middleDraw_17 : decode cX0_middleDraw 17 = .ok (.iconst 2, 1) := by decide +kernel
theorem dX0_middleDraw_18 : decode cX0_middleDraw 18 = .ok (.iaload, 1) := by decide +kernel
theorem dX0_middleDraw_19 : decode cX0_middleDraw 19 = .ok (.iadd, 1) := by decide +kernel
theorem dX0_middleDraw_20 : decode cX0_middleDraw 20 = .ok (.aload_n 0, 1) := by decide +kernel
theorem dX0_middleDraw_21 : decode cX0_middleDraw 21 = .ok (.invokevirtual 48, 3) := by decide +kernel
theorem dX0_middleDraw_24 : decode cX0_middleDraw 24 = .ok (.isub, 1) := by decide +kernel
theorem dX0_middleDraw_25 : decode cX0_middleDraw 25 = .ok (.aload_n 0, 1) := by decide +kernel
theorem dX0_middleDraw_26 : decode cX0_middleDraw 26 = .ok (.invokevirtual 52, 3) := by decide +kernel
theorem dX0_middleDraw_29 : decode cX0_middleDraw 29 = .ok (.isub, 1) := by decide +kernel
theorem dX0_middleDraw_30 : decode cX0_middleDraw 30 = .ok (.ireturn, 1) := by decide +kernel
theorem dX0_spreadOfDraws_0 : decode cX0_spreadOfDraws 0 = .ok (.aload_n 0, 1) := by decide +kernel
theorem dX0_spreadOfDraws_1 : decode cX0_spreadOfDraws 1 = .ok (.invokevirtual 52, 3) := by decide +kernel
theorem dX0_spreadOfDraws_4 : decode cX0_spreadOfDraws 4 = .ok (.aload_n 0, 1) := by decide +kernel
theorem dX0_spreadOfDraws_5 : decode cX0_spreadOfDraws 5 = .ok (.invokevirtual 48, 3) := by decide +kernel
theorem dX0_spreadOfDraws_8 : decode cX0_spreadOfDraws 8 = .ok (.isub, 1) := by decide +kernel
theorem dX0_spreadOfDraws_9 : decode cX0_spreadOfDraws 9 = .ok (.ireturn, 1) := by decide +kernel
theorem dX0_isMeasured_0 : decode cX0_isMeasured 0 = .ok (.aload_n 0, 1) := by decide +kernel
theorem dX0_isMeasured_1 : decode cX0_isMeasured 1 = .ok (.getfield 20, 3) := by decide +kernel
theorem dX0_isMeasured_4 : decode cX0_isMeasured 4 = .ok (.ifCond .eq 10, 3) := by decide +kernel
theorem dX0_isMeasured_7 : decode cX0_isMeasured 7 = .ok (.aload_n 0, 1) := by decide +kernel
theorem dX0_isMeasured_8 : decode cX0_isMeasured 8 = .ok (.getfield 55, 3) := by decide +kernel
theorem dX0_isMeasured_11 : decode cX0_isMeasured 11 = .ok (.ifnull 7, 3) := by decide +kernel
theorem dX0_isMeasured_14 : decode cX0_isMeasured 14 = .ok (.iconst 1, 1) := by decide +kernel
theorem dX0_isMeasured_15 : decode cX0_isMeasured 15 = .ok (.goto 4, 3) := by decide +kernel
theorem dX0_isMeasured_18 : decode cX0_isMeasured 18 = .ok (.iconst 0, 1) := by decide +kernel
theorem dX0_isMeasured_19 : decode cX0_isMeasured 19 = .ok (.ireturn, 1) := by decide +kernel
theorem dX0_isSettledNow_0 : decode cX0_isSettledNow 0 = .ok (.aload_n 0, 1) := by decide +kernel
theorem dX0_isSettledNow_1 : decode cX0_isSettledNow 1 = .ok (.getfield 20, 3) := by decide +kernel
theorem dX0_isSettledNow_4 : decode cX0_isSettledNow 4 = .ok (.ifCond .eq 20, 3) := by decide +kernel
theorem dX0_isSettledNow_7 : decode cX0_isSettledNow 7 = .ok (.aload_n 0, 1) := by decide +kernel
theorem dX0_isSettledNow_8 : decode cX0_isSettledNow 8 = .ok (.getfield 55, 3) := by decide +kernel
theorem dX0_isSettledNow_11 : decode cX0_isSettledNow 11 = .ok (.ifnull 17, 3) := by decide +kernel
theorem dX0_isSettledNow_14 : decode cX0_isSettledNow 14 = .ok (.aload_n 0, 1) := by decide +kernel
theorem dX0_isSettledNow_15 : decode cX0_isSettledNow 15 = .ok (.getfield 55, 3) := by decide +kernel
theorem dX0_isSettledNow_18 : decode cX0_isSettledNow 18 = .ok (.getfield 59, 3) := by decide +kernel
theorem dX0_isSettledNow_21 : decode cX0_isSettledNow 21 = .ok (.ifCond .eq 7, 3) := by decide +kernel
theorem dX0_isSettledNow_24 : decode cX0_isSettledNow 24 = .ok (.iconst 1, 1) := by decide +kernel
theorem dX0_isSettledNow_25 : decode cX0_isSettledNow 25 = .ok (.goto 4, 3) := by decide +kernel
theorem dX0_isSettledNow_28 : decode cX0_isSettledNow 28 = .ok (.iconst 0, 1) := by decide +kernel
theorem dX0_isSettledNow_29 : decode cX0_isSettledNow 29 = .ok (.ireturn, 1) := by decide +kernel
theorem dX0_isDueOn_0 : decode cX0_isDueOn 0 = .ok (.aload_n 0, 1) := by decide +kernel
theorem dX0_isDueOn_1 : decode cX0_isDueOn 1 = .ok (.getfield 20, 3) := by decide +kernel
theorem dX0_isDueOn_4 : decode cX0_isDueOn 4 = .ok (.ifCond .eq 15, 3) := by decide +kernel
theorem dX0_isDueOn_7 : decode cX0_isDueOn 7 = .ok (.aload_n 0, 1) := by decide +kernel
theorem dX0_isDueOn_8 : decode cX0_isDueOn 8 = .ok (.iload_n 1, 1) := by decide +kernel
theorem dX0_isDueOn_9 : decode cX0_isDueOn 9 = .ok (.invokevirtual 65, 3) := by decide +kernel
theorem dX0_isDueOn_12 : decode cX0_isDueOn 12 = .ok (.ifCond .ne 7, 3) := by decide +kernel
theorem dX0_isDueOn_15 : decode cX0_isDueOn 15 = .ok (.iconst 1, 1) := by decide +kernel
theorem dX0_isDueOn_16 : decode cX0_isDueOn 16 = .ok (.goto 4, 3) := by decide +kernel
theorem dX0_isDueOn_19 : decode cX0_isDueOn 19 = .ok (.iconst 0, 1) := by decide +kernel
theorem dX0_isDueOn_20 : decode cX0_isDueOn 20 = .ok (.ireturn, 1) := by decide +kernel
theorem dX0_daysUntilDue_0 : decode cX0_daysUntilDue 0 = .ok (.aload_n 0, 1) := by decide +kernel
theorem dX0_daysUntilDue_1 : decode cX0_daysUntilDue 1 = .ok (.getfield 55, 3) := by decide +kernel
theorem dX0_daysUntilDue_4 : decode cX0_daysUntilDue 4 = .ok (.ifnonnull 7, 3) := by decide +kernel
theorem dX0_daysUntilDue_7 : decode cX0_daysUntilDue 7 = .ok (.iconst 0, 1) := by decide +kernel
theorem dX0_daysUntilDue_8 : decode cX0_daysUntilDue 8 = .ok (.goto 23, 3) := by decide +kernel
theorem dX0_daysUntilDue_11 : decode cX0_daysUntilDue 11 = .ok (.iconst 0, 1) := by decide +kernel
theorem dX0_daysUntilDue_12 : decode cX0_daysUntilDue 12 = .ok (.aload_n 0, 1) := by decide +kernel
theorem dX0_daysUntilDue_13 : decode cX0_daysUntilDue 13 = .ok (.getfield 55, 3) := by decide +kernel
theorem dX0_daysUntilDue_16 : decode cX0_daysUntilDue 16 = .ok (.getfield 69, 3) := by decide +kernel
theorem dX0_daysUntilDue_19 : decode cX0_daysUntilDue 19 = .ok (.aload_n 0, 1) := by decide +kernel
theorem dX0_daysUntilDue_20 : decode cX0_daysUntilDue 20 = .ok (.getfield 26, 3) := by decide +kernel
theorem dX0_daysUntilDue_23 : decode cX0_daysUntilDue 23 = .ok (.iadd, 1) := by decide +kernel
theorem dX0_daysUntilDue_24 : decode cX0_daysUntilDue 24 = .ok (.iconst 1, 1) := by decide +kernel
theorem dX0_daysUntilDue_25 : decode cX0_daysUntilDue 25 = .ok (.iadd, 1) := by decide +kernel
theorem dX0_daysUntilDue_26 : decode cX0_daysUntilDue 26 = .ok (.iload_n 1, 1) := by decide +kernel
theorem dX0_daysUntilDue_27 : decode cX0_daysUntilDue 27 = .ok (.isub, 1) := by decide +kernel
theorem dX0_daysUntilDue_28 : decode cX0_daysUntilDue 28 = .ok (.invokestatic 45, 3) := by decide +kernel
theorem dX0_daysUntilDue_31 : decode cX0_daysUntilDue 31 = .ok (.ireturn, 1) := by decide +kernel
theorem dX0_canBeTried_0 : decode cX0_canBeTried 0 = .ok (.aload_n 0, 1) := by decide +kernel
theorem dX0_canBeTried_1 : decode cX0_canBeTried 1 = .ok (.getfield 20, 3) := by decide +kernel
theorem dX0_canBeTried_4 : decode cX0_canBeTried 4 = .ok (.ifCond .eq 22, 3) := by decide +kernel
theorem dX0_canBeTried_7 : decode cX0_canBeTried 7 = .ok (.aload_n 0, 1) := by decide +kernel
theorem dX0_canBeTried_8 : decode cX0_canBeTried 8 = .ok (.getfield 20, 3) := by decide +kernel
theorem dX0_canBeTried_11 : decode cX0_canBeTried 11 = .ok (.iconst 3, 1) := by decide +kernel
theorem dX0_canBeTried_12 : decode cX0_canBeTried 12 = .ok (.if_icmp .ne 10, 3) := by decide +kernel
theorem dX0_canBeTried_15 : decode cX0_canBeTried 15 = .ok (.aload_n 0, 1) := by decide +kernel
theorem dX0_canBeTried_16 : decode cX0_canBeTried 16 = .ok (.invokevirtual 72, 3) := by decide +kernel
theorem dX0_canBeTried_19 : decode cX0_canBeTried 19 = .ok (.ifCond .eq 7, 3) := by decide +kernel
theorem dX0_canBeTried_22 : decode cX0_canBeTried 22 = .ok (.iconst 1, 1) := by decide +kernel
theorem dX0_canBeTried_23 : decode cX0_canBeTried 23 = .ok (.goto 4, 3) := by decide +kernel
theorem dX0_canBeTried_26 : decode cX0_canBeTried 26 = .ok (.iconst 0, 1) := by decide +kernel
theorem dX0_canBeTried_27 : decode cX0_canBeTried 27 = .ok (.ireturn, 1) := by decide +kernel
theorem dX0_canTryOthers_0 : decode cX0_canTryOthers 0 = .ok (.aload_n 0, 1) := by decide +kernel
theorem dX0_canTryOthers_1 : decode cX0_canTryOthers 1 = .ok (.invokevirtual 76, 3) := by decide +kernel
theorem dX0_canTryOthers_4 : decode cX0_canTryOthers 4 = .ok (.ifCond .ne 22, 3) := by decide +kernel
theorem dX0_canTryOthers_7 : decode cX0_canTryOthers 7 = .ok (.aload_n 0, 1) := by decide +kernel
theorem dX0_canTryOthers_8 : decode cX0_canTryOthers 8 = .ok (.invokevirtual 79, 3) := by decide +kernel
theorem dX0_canTryOthers_11 : decode cX0_canTryOthers 11 = .ok (.ifCond .eq 15, 3) := by decide +kernel
theorem dX0_canTryOthers_14 : decode cX0_canTryOthers 14 = .ok (.aload_n 0, 1) := by decide +kernel
theorem dX0_canTryOthers_15 : decode cX0_canTryOthers 15 = .ok (.iload_n 1, 1) := by decide +kernel
theorem dX0_canTryOthers_16 : decode cX0_canTryOthers 16 = .ok (.invokevirtual 82, 3) := by decide +kernel
theorem dX0_canTryOthers_19 : decode cX0_canTryOthers 19 = .ok (.ifCond .ne 7, 3) := by decide +kernel
theorem dX0_canTryOthers_22 : decode cX0_canTryOthers 22 = .ok (.iconst 1, 1) := by decide +kernel
theorem dX0_canTryOthers_23 : decode cX0_canTryOthers 23 = .ok (.goto 4, 3) := by decide +kernel
theorem dX0_canTryOthers_26 : decode cX0_canTryOthers 26 = .ok (.iconst 0, 1) := by decide +kernel
theorem dX0_canTryOthers_27 : decode cX0_canTryOthers 27 = .ok (.ireturn, 1) := by decide +kernel
theorem dX0_errorHeld_0 : decode cX0_errorHeld 0 = .ok (.aload_n 0, 1) := by decide +kernel
theorem dX0_errorHeld_1 : decode cX0_errorHeld 1 = .ok (.getfield 55, 3) := by decide +kernel
theorem dX0_errorHeld_4 : decode cX0_errorHeld 4 = .ok (.ifnonnull 7, 3) := by decide +kernel
theorem dX0_errorHeld_7 : decode cX0_errorHeld 7 = .ok (.iconst 0, 1) := by decide +kernel
theorem dX0_errorHeld_8 : decode cX0_errorHeld 8 = .ok (.goto 10, 3) := by decide +kernel
theorem dX0_errorHeld_11 : decode cX0_errorHeld 11 = .ok (.aload_n 0, 1) := by decide +kernel
theorem dX0_errorHeld_12 : decode cX0_errorHeld 12 = .ok (.getfield 55, 3) := by decide +kernel
theorem dX0_errorHeld_15 : decode cX0_errorHeld 15 = .ok (.getfield 86, 3) := by decide +kernel
theorem dX0_errorHeld_18 : decode cX0_errorHeld 18 = .ok (.ireturn, 1) := by decide +kernel
theorem dX0_errorSize_0 : decode cX0_errorSize 0 = .ok (.aload_n 0, 1) := by decide +kernel
theorem dX0_errorSize_1 : decode cX0_errorSize 1 = .ok (.invokevirtual 89, 3) := by decide +kernel
theorem dX0_errorSize_4 : decode cX0_errorSize 4 = .ok (.invokestatic 92, 3) := by decide +kernel
theorem dX0_errorSize_7 : decode cX0_errorSize 7 = .ok (.ireturn, 1) := by decide +kernel
theorem dX0_spanOn_0 : decode cX0_spanOn 0 = .ok (.aload_n 0, 1) := by decide +kernel
theorem dX0_spanOn_1 : decode cX0_spanOn 1 = .ok (.getfield 55, 3) := by decide +kernel
theorem dX0_spanOn_4 : decode cX0_spanOn 4 = .ok (.ifnonnull 5, 3) := by decide +kernel
theorem dX0_spanOn_7 : decode cX0_spanOn 7 = .ok (.iconst 0, 1) := by decide +kernel
theorem dX0_spanOn_8 : decode cX0_spanOn 8 = .ok (.ireturn, 1) := by decide +kernel
theorem dX0_spanOn_9 : decode cX0_spanOn 9 = .ok (.aload_n 0, 1) := by decide +kernel
theorem dX0_spanOn_10 : decode cX0_spanOn 10 = .ok (.getfield 23, 3) := by decide +kernel
theorem dX0_spanOn_13 : decode cX0_spanOn 13 = .ok (.iload_n 1, 1) := by decide +kernel
theorem dX0_spanOn_14 : decode cX0_spanOn 14 = .ok (.aload_n 0, 1) := by decide +kernel
theorem dX0_spanOn_15 : decode cX0_spanOn 15 = .ok (.getfield 55, 3) := by decide +kernel
theorem dX0_spanOn_18 : decode cX0_spanOn 18 = .ok (.getfield 69, 3) := by decide +kernel
theorem dX0_spanOn_21 : decode cX0_spanOn 21 = .ok (.isub, 1) := by decide +kernel
theorem dX0_spanOn_22 : decode cX0_spanOn 22 = .ok (.imul, 1) := by decide +kernel
theorem dX0_spanOn_23 : decode cX0_spanOn 23 = .ok (.istore_n 2, 1) := by decide +kernel
theorem dX0_spanOn_24 : decode cX0_spanOn 24 = .ok (.aload_n 0, 1) := by decide +kernel
theorem dX0_spanOn_25 : decode cX0_spanOn 25 = .ok (.getfield 55, 3) := by decide +kernel
theorem dX0_spanOn_28 : decode cX0_spanOn 28 = .ok (.getfield 95, 3) := by decide +kernel
theorem dX0_spanOn_31 : decode cX0_spanOn 31 = .ok (.iload_n 2, 1) := by decide +kernel
theorem dX0_spanOn_32 : decode cX0_spanOn 32 = .ok (.bipush 100, 2) := by decide +kernel
theorem dX0_spanOn_34 : decode cX0_spanOn 34 = .ok (.iadd, 1) := by decide +kernel
theorem dX0_spanOn_35 : decode cX0_spanOn 35 = .ok (.iconst 1, 1) := by decide +kernel
theorem dX0_spanOn_36 : decode cX0_spanOn 36 = .ok (.isub, 1) := by decide +kernel
theorem dX0_spanOn_37 : decode cX0_spanOn 37 = .ok (.bipush 100, 2) := by decide +kernel
theorem dX0_spanOn_39 : decode cX0_spanOn 39 = .ok (.idiv, 1) := by decide +kernel
theorem dX0_spanOn_40 : decode cX0_spanOn 40 = .ok (.iadd, 1) := by decide +kernel
theorem dX0_spanOn_41 : decode cX0_spanOn 41 = .ok (.ireturn, 1) := by decide +kernel
theorem dX0_daysNoWiderThan_0 : decode cX0_daysNoWiderThan 0 = .ok (.aload_n 0, 1) := by decide +kernel
theorem dX0_daysNoWiderThan_1 : decode cX0_daysNoWiderThan 1 = .ok (.getfield 55, 3) := by decide +kernel
theorem dX0_daysNoWiderThan_4 : decode cX0_daysNoWiderThan 4 = .ok (.ifnull 10, 3) := by decide +kernel
theorem dX0_daysNoWiderThan_7 : decode cX0_daysNoWiderThan 7 = .ok (.aload_n 0, 1) := by decide +kernel
theorem dX0_daysNoWiderThan_8 : decode cX0_daysNoWiderThan 8 = .ok (.getfield 23, 3) := by decide +kernel
theorem dX0_daysNoWiderThan_11 : decode cX0_daysNoWiderThan 11 = .ok (.ifCond .gt 7, 3) := by decide +kernel
theorem dX0_daysNoWiderThan_14 : decode cX0_daysNoWiderThan 14 = .ok (.sipush 20000, 3) := by decide +kernel
theorem dX0_daysNoWiderThan_17 : decode cX0_daysNoWiderThan 17 = .ok (.ireturn, 1) := by decide +kernel
theorem dX0_daysNoWiderThan_18 : decode cX0_daysNoWiderThan 18 = .ok (.iload_n 1, 1) := by decide +kernel
theorem dX0_daysNoWiderThan_19 : decode cX0_daysNoWiderThan 19 = .ok (.i2l, 1) := by decide +kernel
theorem dX0_daysNoWiderThan_20 : decode cX0_daysNoWiderThan 20 = .ok (.aload_n 0, 1) := by decide +kernel
theorem dX0_daysNoWiderThan_21 : decode cX0_daysNoWiderThan 21 = .ok (.getfield 55, 3) := by decide +kernel
theorem dX0_daysNoWiderThan_24 : decode cX0_daysNoWiderThan 24 = .ok (.getfield 95, 3) := by decide +kernel
theorem dX0_daysNoWiderThan_27 : decode cX0_daysNoWiderThan 27 = .ok (.i2l, 1) := by decide +kernel
theorem dX0_daysNoWiderThan_28 : decode cX0_daysNoWiderThan 28 = .ok (.lsub, 1) := by decide +kernel
theorem dX0_daysNoWiderThan_29 : decode cX0_daysNoWiderThan 29 = .ok (.ldc2_w 98, 3) := by decide +kernel
theorem dX0_daysNoWiderThan_32 : decode cX0_daysNoWiderThan 32 = .ok (.lmul, 1) := by decide +kernel
theorem dX0_daysNoWiderThan_33 : decode cX0_daysNoWiderThan 33 = .ok (.aload_n 0, 1) := by decide +kernel
theorem dX0_daysNoWiderThan_34 : decode cX0_daysNoWiderThan 34 = .ok (.getfield 23, 3) := by decide +kernel
theorem dX0_daysNoWiderThan_37 : decode cX0_daysNoWiderThan 37 = .ok (.i2l, 1) := by decide +kernel
theorem dX0_daysNoWiderThan_38 : decode cX0_daysNoWiderThan 38 = .ok (.ldiv, 1) := by decide +kernel
theorem dX0_daysNoWiderThan_39 : decode cX0_daysNoWiderThan 39 = .ok (.lstore_n 3, 1) := by decide +kernel
theorem dX0_daysNoWiderThan_40 : decode cX0_daysNoWiderThan 40 = .ok (.ldc2_w 100, 3) := by decide +kernel
theorem dX0_daysNoWiderThan_43 : decode cX0_daysNoWiderThan 43 = .ok (.lload_n 3, 1) := by decide +kernel
theorem dX0_daysNoWiderThan_44 : decode cX0_daysNoWiderThan 44 = .ok (.iload_n 2, 1) := by decide +kernel
theorem dX0_daysNoWiderThan_45 : decode cX0_daysNoWiderThan 45 = .ok (.aload_n 0, 1) := by decide +kernel
theorem dX0_daysNoWiderThan_46 : decode cX0_daysNoWiderThan 46 = .ok (.getfield 55, 3) := by decide +kernel
theorem dX0_daysNoWiderThan_49 : decode cX0_daysNoWiderThan 49 = .ok (.getfield 69, 3) := by decide +kernel
theorem dX0_daysNoWiderThan_52 : decode cX0_daysNoWiderThan 52 = .ok (.isub, 1) := by decide +kernel
theorem dX0_daysNoWiderThan_53 : decode cX0_daysNoWiderThan 53 = .ok (.i2l, 1) := by decide +kernel
theorem dX0_daysNoWiderThan_54 : decode cX0_daysNoWiderThan 54 = .ok (.lsub, 1) := by decide +kernel
theorem dX0_daysNoWiderThan_55 : decode cX0_daysNoWiderThan 55 = .ok (.invokestatic 102, 3) := by decide +kernel
theorem dX0_daysNoWiderThan_58 : decode cX0_daysNoWiderThan 58 = .ok (.l2i, 1) := by decide +kernel
theorem dX0_daysNoWiderThan_59 : decode cX0_daysNoWiderThan 59 = .ok (.ireturn, 1) := by decide +kernel
theorem dX0_isWrongedBy_0 : decode cX0_isWrongedBy 0 = .ok (.aload_n 0, 1) := by decide +kernel
theorem dX0_isWrongedBy_1 : decode cX0_isWrongedBy 1 = .ok (.getfield 55, 3) := by decide +kernel
theorem dX0_isWrongedBy_4 : decode cX0_isWrongedBy 4 = .ok (.ifnull 13, 3) := by decide +kernel
theorem dX0_isWrongedBy_7 : decode cX0_isWrongedBy 7 = .ok (.aload_n 0, 1) := by decide +kernel
theorem dX0_isWrongedBy_8 : decode cX0_isWrongedBy 8 = .ok (.getfield 55, 3) := by decide +kernel
theorem dX0_isWrongedBy_11 : decode cX0_isWrongedBy 11 = .ok (.getfield 59, 3) := by decide +kernel
theorem dX0_isWrongedBy_14 : decode cX0_isWrongedBy 14 = .ok (.ifCond .ne 5, 3) := by decide +kernel
theorem dX0_isWrongedBy_17 : decode cX0_isWrongedBy 17 = .ok (.iconst 0, 1) := by decide +kernel
theorem dX0_isWrongedBy_18 : decode cX0_isWrongedBy 18 = .ok (.ireturn, 1) := by decide +kernel
theorem dX0_isWrongedBy_19 : decode cX0_isWrongedBy 19 = .ok (.aload_n 0, 1) := by decide +kernel
theorem dX0_isWrongedBy_20 : decode cX0_isWrongedBy 20 = .ok (.getfield 55, 3) := by decide +kernel
theorem dX0_isWrongedBy_23 : decode cX0_isWrongedBy 23 = .ok (.getfield 86, 3) := by decide +kernel
theorem dX0_isWrongedBy_26 : decode cX0_isWrongedBy 26 = .ok (.aload_n 1, 1) := by decide +kernel
theorem dX0_isWrongedBy_27 : decode cX0_isWrongedBy 27 = .ok (.getfield 86, 3) := by decide +kernel
theorem dX0_isWrongedBy_30 : decode cX0_isWrongedBy 30 = .ok (.isub, 1) := by decide +kernel
theorem dX0_isWrongedBy_31 : decode cX0_isWrongedBy 31 = .ok (.invokestatic 92, 3) := by decide +kernel
theorem dX0_isWrongedBy_34 : decode cX0_isWrongedBy 34 = .ok (.istore_n 2, 1) := by decide +kernel
theorem dX0_isWrongedBy_35 : decode cX0_isWrongedBy 35 = .ok (.iload_n 2, 1) := by decide +kernel
theorem dX0_isWrongedBy_36 : decode cX0_isWrongedBy 36 = .ok (.aload_n 0, 1) := by decide +kernel
theorem dX0_isWrongedBy_37 : decode cX0_isWrongedBy 37 = .ok (.aload_n 1, 1) := by decide +kernel
theorem dX0_isWrongedBy_38 : decode cX0_isWrongedBy 38 = .ok (.getfield 69, 3) := by decide +kernel
theorem dX0_isWrongedBy_41 : decode cX0_isWrongedBy 41 = .ok (.invokevirtual 105, 3) := by decide +kernel
theorem dX0_isWrongedBy_44 : decode cX0_isWrongedBy 44 = .ok (.aload_n 1, 1) := by decide +kernel
theorem dX0_isWrongedBy_45 : decode cX0_isWrongedBy 45 = .ok (.getfield 95, 3) := by decide +kernel
theorem dX0_isWrongedBy_48 : decode cX0_isWrongedBy 48 = .ok (.iadd, 1) := by decide +kernel
theorem dX0_isWrongedBy_49 : decode cX0_isWrongedBy 49 = .ok (.if_icmp .le 7, 3) := by decide +kernel
theorem dX0_isWrongedBy_52 : decode cX0_isWrongedBy 52 = .ok (.iconst 1, 1) := by decide +kernel
theorem dX0_isWrongedBy_53 : decode cX0_isWrongedBy 53 = .ok (.goto 4, 3) := by decide +kernel
theorem dX0_isWrongedBy_56 : decode cX0_isWrongedBy 56 = .ok (.iconst 0, 1) := by decide +kernel
theorem dX0_isWrongedBy_57 : decode cX0_isWrongedBy 57 = .ok (.ireturn, 1) := by decide +kernel
theorem dX0_take_0 : decode cX0_take 0 = .ok (.aload_n 0, 1) := by decide +kernel
theorem dX0_take_1 : decode cX0_take 1 = .ok (.aload_n 1, 1) := by decide +kernel
theorem dX0_take_2 : decode cX0_take 2 = .ok (.putfield 55, 3) := by decide +kernel
theorem dX0_take_5 : decode cX0_take 5 = .ok (.aload_n 0, 1) := by decide +kernel
theorem dX0_take_6 : decode cX0_take 6 = .ok (.dup, 1) := by decide +kernel
theorem dX0_take_7 : decode cX0_take 7 = .ok (.getfield 108, 3) := by decide +kernel
theorem dX0_take_10 : decode cX0_take 10 = .ok (.iconst 1, 1) := by decide +kernel
theorem dX0_take_11 : decode cX0_take 11 = .ok (.iadd, 1) := by decide +kernel
theorem dX0_take_12 : decode cX0_take 12 = .ok (.putfield 108, 3) := by decide +kernel
theorem dX0_take_15 : decode cX0_take 15 = .ok (.aload_n 0, 1) := by decide +kernel
theorem dX0_take_16 : decode cX0_take 16 = .ok (.iconst 0, 1) := by decide +kernel
theorem dX0_take_17 : decode cX0_take 17 = .ok (.putfield 32, 3) := by decide +kernel
theorem dX0_take_20 : decode cX0_take 20 = .ok (.return_, 1) := by decide +kernel
