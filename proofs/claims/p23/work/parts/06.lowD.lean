theorem vw_X0 : vwCl[0]? = some (RX0, TX0, 2) := rfl
theorem vw_X1 : vwCl[1]? = some (RX1, TX1, 9) := rfl
theorem vw_X2 : vwCl[2]? = some (RX2, TX2, 8) := rfl
theorem vw_X3 : vwCl[3]? = some (RX3, TX3, 3) := rfl
theorem vw_X4 : vwCl[4]? = some (RX4, TX4, 4) := rfl
theorem vw_X5 : vwCl[5]? = some (RX5, TX5, 10) := rfl
theorem vw_X6 : vwCl[6]? = some (RX6, TX6, 5) := rfl
theorem vw_X7 : vwCl[7]? = some (RX7, TX7, 5) := rfl
theorem vw_X8 : vwCl[8]? = some (RX8, TX8, 5) := rfl
theorem dX8_isOutside_0 : decode cX8_isOutside 0 = .ok (.iload_n 0, 1) := by decide +kernel
theorem dX8_isOutside_1 : decode cX8_isOutside 1 = .ok (.iload_n 1, 1) := by decide +kernel
theorem dX8_isOutside_2 : decode cX8_isOutside 2 = .ok (.if_icmp .lt 8, 3) := by decide +kernel
theorem dX8_isOutside_5 : decode cX8_isOutside 5 = .ok (.iload_n 0, 1) := by decide +kernel
theorem dX8_isOutside_6 : decode cX8_isOutside 6 = .ok (.iload_n 2, 1) := by decide +kernel
theorem dX8_isOutside_7 : decode cX8_isOutside 7 = .ok (.if_icmp .le 7, 3) := by decide +kernel
theorem dX8_isOutside_10 : decode cX8_isOutside 10 = .ok (.iconst 1, 1) := by decide +kernel
theorem dX8_isOutside_11 : decode cX8_isOutside 11 = .ok (.goto 4, 3) := by decide +kernel
theorem dX8_isOutside_14 : decode cX8_isOutside 14 = .ok (.iconst 0, 1) := by decide +kernel
theorem dX8_isOutside_15 : decode cX8_isOutside 15 = .ok (.ireturn, 1) := by decide +kernel
theorem dX8_asNumber_0 : decode cX8_asNumber 0 = .ok (.iload_n 0, 1) := by decide +kernel
theorem dX8_asNumber_1 : decode cX8_asNumber 1 = .ok (.ifCond .eq 7, 3) := by decide +kernel
theorem dX8_asNumber_4 : decode cX8_asNumber 4 = .ok (.iconst 1, 1) := by decide +kernel
theorem dX8_asNumber_5 : decode cX8_asNumber 5 = .ok (.goto 4, 3) := by decide +kernel
theorem dX8_asNumber_8 : decode cX8_asNumber 8 = .ok (.iconst 0, 1) := by decide +kernel
theorem dX8_asNumber_9 : decode cX8_asNumber 9 = .ok (.ireturn, 1) := by decide +kernel
theorem dX8_countTrue_0 : decode cX8_countTrue 0 = .ok (.iconst 0, 1) := by decide +kernel
theorem dX8_countTrue_1 : decode cX8_countTrue 1 = .ok (.istore_n 1, 1) := by decide +kernel
theorem dX8_countTrue_2 : decode cX8_countTrue 2 = .ok (.iconst 0, 1) := by decide +kernel
theorem dX8_countTrue_3 : decode cX8_countTrue 3 = .ok (.istore_n 2, 1) := by decide +kernel
theorem dX8_countTrue_4 : decode cX8_countTrue 4 = .ok (.iload_n 2, 1) := by decide +kernel
theorem dX8_countTrue_5 : decode cX8_countTrue 5 = .ok (.aload_n 0, 1) := by decide +kernel
theorem dX8_countTrue_6 : decode cX8_countTrue 6 = .ok (.arraylength, 1) := by decide +kernel
theorem dX8_countTrue_7 : decode cX8_countTrue 7 = .ok (.if_icmp .ge 18, 3) := by decide +kernel
theorem dX8_countTrue_10 : decode cX8_countTrue 10 = .ok (.aload_n 0, 1) := by decide +kernel
theorem dX8_countTrue_11 : decode cX8_countTrue 11 = .ok (.iload_n 2, 1) := by decide +kernel
theorem dX8_countTrue_12 : decode cX8_countTrue 12 = .ok (.baload, 1) := by decide +kernel
theorem dX8_countTrue_13 : decode cX8_countTrue 13 = .ok (.ifCond .eq 6, 3) := by decide +kernel
theorem dX8_countTrue_16 : decode cX8_countTrue 16 = .ok (.iinc 1 1, 3) := by decide +kernel
theorem dX8_countTrue_19 : decode cX8_countTrue 19 = .ok (.iinc 2 1, 3) := by decide +kernel
theorem dX8_countTrue_22 : decode cX8_countTrue 22 = .ok (.goto (-18), 3) := by decide +kernel
theorem dX8_countTrue_25 : decode cX8_countTrue 25 = .ok (.iload_n 1, 1) := by decide +kernel
theorem dX8_countTrue_26 : decode cX8_countTrue 26 = .ok (.ireturn, 1) := by decide +kernel
theorem dX5_copyFrom_0 : decode cX5_copyFrom 0 = .ok (.aload_n 0, 1) := by decide +kernel
theorem dX5_copyFrom_1 : decode cX5_copyFrom 1 = .ok (.aload_n 1, 1) := by decide +kernel
theorem dX5_copyFrom_2 : decode cX5_copyFrom 2 = .ok (.getfield 38, 3) := by decide +kernel
theorem dX5_copyFrom_5 : decode cX5_copyFrom 5 = .ok (.putfield 38, 3) := by decide +kernel
theorem dX5_copyFrom_8 : decode cX5_copyFrom 8 = .ok (.aload_n 0, 1) := by decide +kernel
theorem dX5_copyFrom_9 : decode cX5_copyFrom 9 = .ok (.aload_n 1, 1) := by decide +kernel
theorem dX5_copyFrom_10 : decode cX5_copyFrom 10 = .ok (.getfield 9, 3) := by decide +kernel
theorem dX5_copyFrom_13 : decode cX5_copyFrom 13 = .ok (.putfield 9, 3) := by decide +kernel
theorem dX5_copyFrom_16 : decode cX5_copyFrom 16 = .ok (.aload_n 0, 1) := by decide +kernel
theorem dX5_copyFrom_17 : decode cX5_copyFrom 17 = .ok (.aload_n 1, 1) := by decide +kernel
theorem dX5_copyFrom_18 : decode cX5_copyFrom 18 = .ok (.getfield 41, 3) := by decide +kernel
theorem dX5_copyFrom_21 : decode cX5_copyFrom 21 = .ok (.putfield 41, 3) := by decide +kernel
theorem dX5_copyFrom_24 : decode cX5_copyFrom 24 = .ok (.aload_n 1, 1) := by decide +kernel
theorem dX5_copyFrom_25 : decode cX5_copyFrom 25 = .ok (.getfield 15, 3) := by decide +kernel
theorem dX5_copyFrom_28 : decode cX5_copyFrom 28 = .ok (.iconst 0, 1) := by decide +kernel
theorem dX5_copyFrom_29 : decode cX5_copyFrom 29 = .ok (.aload_n 0, 1) := by decide +kernel
theorem dX5_copyFrom_30 : decode cX5_copyFrom 30 = .ok (.getfield 15, 3) := by decide +kernel
theorem dX5_copyFrom_33 : decode cX5_copyFrom 33 = .ok (.iconst 0, 1) := by decide +kernel
theorem dX5_copyFrom_34 : decode cX5_copyFrom 34 = .ok (.bipush 10, 2) := by decide +kernel
theorem dX5_copyFrom_36 : decode cX5_copyFrom 36 = .ok (.invokestatic 44, 3) := by decide +kernel
theorem dX5_copyFrom_39 : decode cX5_copyFrom 39 = .ok (.aload_n 1, 1) := by decide +kernel
theorem dX5_copyFrom_40 : decode cX5_copyFrom 40 = .ok (.getfield 19, 3) := by decide +kernel
theorem dX5_copyFrom_43 : decode cX5_copyFrom 43 = .ok (.iconst 0, 1) := by decide +kernel
theorem dX5_copyFrom_44 : decode cX5_copyFrom 44 = .ok (.aload_n 0, 1) := by decide +kernel
theorem dX5_copyFrom_45 : decode cX5_copyFrom 45 = .ok (.getfield 19, 3) := by decide +kernel
theorem dX5_copyFrom_48 : decode cX5_copyFrom 48 = .ok (.iconst 0, 1) := by decide +kernel
theorem dX5_copyFrom_49 : decode cX5_copyFrom 49 = .ok (.bipush 10, 2) := by decide +kernel
theorem dX5_copyFrom_51 : decode cX5_copyFrom 51 = .ok (.invokestatic 44, 3) := by decide +kernel
theorem dX5_copyFrom_54 : decode cX5_copyFrom 54 = .ok (.aload_n 1, 1) := by decide +kernel
theorem dX5_copyFrom_55 : decode cX5_copyFrom 55 = .ok (.getfield 23, 3) := by decide +kernel
theorem dX5_copyFrom_58 : decode cX5_copyFrom 58 = .ok (.iconst 0, 1) := by decide +kernel
theorem dX5_copyFrom_59 : decode cX5_copyFrom 59 = .ok (.aload_n 0, 1) := by decide +kernel
theorem dX5_copyFrom_60 : decode cX5_copyFrom 60 = .ok (.getfield 23, 3) := by decide +kernel
theorem dX5_copyFrom_63 : decode cX5_copyFrom 63 = .ok (.iconst 0, 1) := by decide +kernel
theorem dX5_copyFrom_64 : decode cX5_copyFrom 64 = .ok (.bipush 10, 2) := by decide +kernel
theorem dX5_copyFrom_66 : decode cX5_copyFrom 66 = .ok (.invokestatic 44, 3) := by decide +kernel
theorem dX5_copyFrom_69 : decode cX5_copyFrom 69 = .ok (.aload_n 1, 1) := by decide +kernel
theorem dX5_copyFrom_70 : decode cX5_copyFrom 70 = .ok (.getfield 26, 3) := by decide +kernel
theorem dX5_copyFrom_73 : decode cX5_copyFrom 73 = .ok (.iconst 0, 1) := by decide +kernel
theorem dX5_copyFrom_74 : decode cX5_copyFrom 74 = .ok (.aload_n 0, 1) := by decide +kernel
theorem dX5_copyFrom_75 : decode cX5_copyFrom 75 = .ok (.getfield 26, 3) := by decide +kernel
theorem dX5_copyFrom_78 : decode cX5_copyFrom 78 = .ok (.iconst 0, 1) := by decide +kernel
theorem dX5_copyFrom_79 : decode cX5_copyFrom 79 = .ok (.bipush 10, 2) := by decide +kernel
theorem dX5_copyFrom_81 : decode cX5_copyFrom 81 = .ok (.invokestatic 44, 3) := by decide +kernel
theorem dX5_copyFrom_84 : decode cX5_copyFrom 84 = .ok (.aload_n 1, 1) := by decide +kernel
theorem dX5_copyFrom_85 : decode cX5_copyFrom 85 = .ok (.getfield 29, 3) := by decide +kernel
theorem dX5_copyFrom_88 : decode cX5_copyFrom 88 = .ok (.iconst 0, 1) := by decide +kernel
theorem dX5_copyFrom_89 : decode cX5_copyFrom 89 = .ok (.aload_n 0, 1) := by decide +kernel
theorem dX5_copyFrom_90 : decode cX5_copyFrom 90 = .ok (.getfield 29, 3) := by decide +kernel
theorem dX5_copyFrom_93 : decode cX5_copyFrom 93 = .ok (.iconst 0, 1) := by decide +kernel
theorem dX5_copyFrom_94 : decode cX5_copyFrom 94 = .ok (.bipush 10, 2) := by decide +kernel
theorem dX5_copyFrom_96 : decode cX5_copyFrom 96 = .ok (.invokestatic 44, 3) := by decide +kernel
theorem dX5_copyFrom_99 : decode cX5_copyFrom 99 = .ok (.aload_n 1, 1) := by decide +kernel
theorem dX5_copyFrom_100 : decode cX5_copyFrom 100 = .ok (.getfield 32, 3) := by decide +kernel
theorem dX5_copyFrom_103 : decode cX5_copyFrom 103 = .ok (.iconst 0, 1) := by decide +kernel
theorem dX5_copyFrom_104 : decode cX5_copyFrom 104 = .ok (.aload_n 0, 1) := by decide +kernel
theorem dX5_copyFrom_105 : decode cX5_copyFrom 105 = .ok (.getfield 32, 3) := by decide +kernel
theorem dX5_copyFrom_108 : decode cX5_copyFrom 108 = .ok (.iconst 0, 1) := by decide +kernel
theorem dX5_copyFrom_109 : decode cX5_copyFrom 109 = .ok (.bipush 10, 2) := by decide +kernel
theorem dX5_copyFrom_111 : decode cX5_copyFrom 111 = .ok (.invokestatic 44, 3) := by decide +kernel
theorem dX5_copyFrom_114 : decode cX5_copyFrom 114 = .ok (.aload_n 1, 1) := by decide +kernel
theorem dX5_copyFrom_115 : decode cX5_copyFrom 115 = .ok (.getfield 35, 3) := by decide +kernel
theorem dX5_copyFrom_118 : decode cX5_copyFrom 118 = .ok (.iconst 0, 1) := by decide +kernel
theorem dX5_copyFrom_119 : decode cX5_copyFrom 119 = .ok (.aload_n 0, 1) := by decide +kernel
theorem dX5_copyFrom_120 : decode cX5_copyFrom 120 = .ok (.getfield 35, 3) := by decide +kernel
theorem dX5_copyFrom_123 : decode cX5_copyFrom 123 = .ok (.iconst 0, 1) := by decide +kernel
theorem dX5_copyFrom_124 : decode cX5_copyFrom 124 = .ok (.bipush 10, 2) := by decide +kernel
theorem dX5_copyFrom_126 : decode cX5_copyFrom 126 = .ok (.invokestatic 44, 3) := by decide +kernel
theorem dX5_copyFrom_129 : decode cX5_copyFrom 129 = .ok (.return_, 1) := by decide +kernel
theorem dX5_bridgingBuses_0 : decode cX5_bridgingBuses 0 = .ok (.iconst 0, 1) := by decide +kernel
theorem dX5_bridgingBuses_1 : decode cX5_bridgingBuses 1 = .ok (.istore_n 1, 1) := by decide +kernel
theorem dX5_bridgingBuses_2 : decode cX5_bridgingBuses 2 = .ok (.iconst 0, 1) := by decide +kernel
theorem dX5_bridgingBuses_3 : decode cX5_bridgingBuses 3 = .ok (.istore_n 2, 1) := by decide +kernel
theorem dX5_bridgingBuses_4 : decode cX5_bridgingBuses 4 = .ok (.iload_n 2, 1) := by decide +kernel
theorem dX5_bridgingBuses_5 : decode cX5_bridgingBuses 5 = .ok (.bipush 10, 2) := by decide +kernel
theorem dX5_bridgingBuses_7 : decode cX5_bridgingBuses 7 = .ok (.if_icmp .ge 27, 3) := by decide +kernel
theorem dX5_bridgingBuses_10 : decode cX5_bridgingBuses 10 = .ok (.aload_n 0, 1) := by decide +kernel
theorem dX5_bridgingBuses_11 : decode cX5_bridgingBuses 11 = .ok (.getfield 19, 3) := by decide +kernel
theorem dX5_bridgingBuses_14 : decode cX5_bridgingBuses 14 = .ok (.iload_n 2, 1) := by decide +kernel
theorem dX5_bridgingBuses_15 : decode cX5_bridgingBuses 15 = .ok (.baload, 1) := by decide +kernel
theorem dX5_bridgingBuses_16 : decode cX5_bridgingBuses 16 = .ok (.ifCond .eq 12, 3) := by decide +kernel
theorem dX5_bridgingBuses_19 : decode cX5_bridgingBuses 19 = .ok (.iload_n 1, 1) := by decide +kernel
theorem dX5_bridgingBuses_20 : decode cX5_bridgingBuses 20 = .ok (.aload_n 0, 1) := by decide +kernel
theorem dX5_bridgingBuses_21 : decode cX5_bridgingBuses 21 = .ok (.getfield 15, 3) := by decide +kernel
theorem dX5_bridgingBuses_24 : decode cX5_bridgingBuses 24 = .ok (.iload_n 2, 1) := by decide +kernel
theorem dX5_bridgingBuses_25 : decode cX5_bridgingBuses 25 = .ok (.iaload, 1) := by decide +kernel
theorem dX5_bridgingBuses_26 : decode cX5_bridgingBuses 26 = .ok (.iadd, 1) := by decide +kernel
theorem dX5_bridgingBuses_27 : decode cX5_bridgingBuses 27 = .ok (.istore_n 1, 1) := by decide +kernel
theorem dX5_bridgingBuses_28 : decode cX5_bridgingBuses 28 = .ok (.iinc 2 1, 3) := by decide +kernel
theorem dX5_bridgingBuses_31 : decode cX5_bridgingBuses 31 = .ok (.goto (-27), 3) := by decide +kernel
theorem dX5_bridgingBuses_34 : decode cX5_bridgingBuses 34 = .ok (.iload_n 1, 1) := by decide +kernel
theorem dX5_bridgingBuses_35 : decode cX5_bridgingBuses 35 = .ok (.ireturn, 1) := by decide +kernel
theorem dX5_freeBuses_0 : decode cX5_freeBuses 0 = .ok (.aload_n 0, 1) := by decide +kernel
theorem dX5_freeBuses_1 : decode cX5_freeBuses 1 = .ok (.getfield 9, 3) := by decide +kernel
theorem dX5_freeBuses_4 : decode cX5_freeBuses 4 = .ok (.aload_n 0, 1) := by decide +kernel
theorem dX5_freeBuses_5 : decode cX5_freeBuses 5 = .ok (.invokevirtual 50, 3) := by decide +kernel
theorem dX5_freeBuses_8 : decode cX5_freeBuses 8 = .ok (.isub, 1) := by decide +kernel
theorem dX5_freeBuses_9 : decode cX5_freeBuses 9 = .ok (.ireturn, 1) := by decide +kernel
theorem dX5_allTools_0 : decode cX5_allTools 0 = .ok (.iconst 0, 1) := by decide +kernel
theorem dX5_allTools_1 : decode cX5_allTools 1 = .ok (.istore_n 1, 1) := by decide +kernel
theorem dX5_allTools_2 : decode cX5_allTools 2 = .ok (.iconst 0, 1) := by decide +kernel
theorem dX5_allTools_3 : decode cX5_allTools 3 = .ok (.istore_n 2, 1) := by decide +kernel
theorem dX5_allTools_4 : decode cX5_allTools 4 = .ok (.iload_n 2, 1) := by decide +kernel
theorem dX5_allTools_5 : decode cX5_allTools 5 = .ok (.bipush 10, 2) := by decide +kernel
theorem dX5_allTools_7 : decode cX5_allTools 7 = .ok (.if_icmp .ge 18, 3) := by decide +kernel
theorem dX5_allTools_10 : decode cX5_allTools 10 = .ok (.iload_n 1, 1) := by decide +kernel
theorem dX5_allTools_11 : decode cX5_allTools 11 = .ok (.aload_n 0, 1) := by decide +kernel
theorem dX5_allTools_12 : decode cX5_allTools 12 = .ok (.getfield 35, 3) := by decide +kernel
theorem dX5_allTools_15 : decode cX5_allTools 15 = .ok (.iload_n 2, 1) := by decide +kernel
theorem dX5_allTools_16 : decode cX5_allTools 16 = .ok (.iaload, 1) := by decide +kernel
theorem dX5_allTools_17 : decode cX5_allTools 17 = .ok (.iadd, 1) := by decide +kernel
theorem dX5_allTools_18 : decode cX5_allTools 18 = .ok (.istore_n 1, 1) := by decide +kernel
theorem dX5_allTools_19 : decode cX5_allTools 19 = .ok (.iinc 2 1, 3) := by decide +kernel
theorem dX5_allTools_22 : decode cX5_allTools 22 = .ok (.goto (-18), 3) := by decide +kernel
theorem dX5_allTools_25 : decode cX5_allTools 25 = .ok (.iload_n 1, 1) := by decide +kernel
theorem dX5_allTools_26 : decode cX5_allTools 26 = .ok (.ireturn, 1) := by decide +kernel
theorem dX5_lateGangs_0 : decode cX5_lateGangs 0 = .ok (.iconst 0, 1) := by decide +kernel
theorem dX5_lateGangs_1 : decode cX5_lateGangs 1 = .ok (.istore_n 1, 1) := by decide +kernel
theorem dX5_lateGangs_2 : decode cX5_lateGangs 2 = .ok (.iconst 0, 1) := by decide +kernel
theorem dX5_lateGangs_3 : decode cX5_lateGangs 3 = .ok (.istore_n 2, 1) := by decide +kernel
theorem dX5_lateGangs_4 : decode cX5_lateGangs 4 = .ok (.iload_n 2, 1) := by decide +kernel
theorem dX5_lateGangs_5 : decode cX5_lateGangs 5 = .ok (.bipush 10, 2) := by decide +kernel
theorem dX5_lateGangs_7 : decode cX5_lateGangs 7 = .ok (.if_icmp .ge 34, 3) := by decide +kernel
theorem dX5_lateGangs_10 : decode cX5_lateGangs 10 = .ok (.aload_n 0, 1) := by decide +kernel
theorem dX5_lateGangs_11 : decode cX5_lateGangs 11 = .ok (.getfield 26, 3) := by decide +kernel
theorem dX5_lateGangs_14 : decode cX5_lateGangs 14 = .ok (.iload_n 2, 1) := by decide +kernel
theorem dX5_lateGangs_15 : decode cX5_lateGangs 15 = .ok (.baload, 1) := by decide +kernel
theorem dX5_lateGangs_16 : decode cX5_lateGangs 16 = .ok (.ifCond .eq 19, 3) := by decide +kernel
theorem dX5_lateGangs_19 : decode cX5_lateGangs 19 = .ok (.aload_n 0, 1) := by decide +kernel
theorem dX5_lateGangs_20 : decode cX5_lateGangs 20 = .ok (.getfield 38, 3) := by decide +kernel
theorem dX5_lateGangs_23 : decode cX5_lateGangs 23 = .ok (.aload_n 0, 1) := by decide +kernel
theorem dX5_lateGangs_24 : decode cX5_lateGangs 24 = .ok (.getfield 32, 3) := by decide +kernel
theorem dX5_lateGangs_27 : decode cX5_lateGangs 27 = .ok (.iload_n 2, 1) := by decide +kernel
theorem dX5_lateGangs_28 : decode cX5_lateGangs 28 = .ok (.iaload, 1) := by decide +kernel
theorem dX5_lateGangs_29 : decode cX5_lateGangs 29 = .ok (.if_icmp .le 6, 3) := by decide +kernel
theorem dX5_lateGangs_32 : decode cX5_lateGangs 32 = .ok (.iinc 1 1, 3) := by decide +kernel
theorem dX5_lateGangs_35 : decode cX5_lateGangs 35 = .ok (.iinc 2 1, 3) := by decide +kernel
theorem dX5_lateGangs_38 : decode cX5_lateGangs 38 = .ok (.goto (-34), 3) := by decide +kernel
theorem dX5_lateGangs_41 : decode cX5_lateGangs 41 = .ok (.iload_n 1, 1) := by decide +kernel
theorem dX5_lateGangs_42 : decode cX5_lateGangs 42 = .ok (.ireturn, 1) := by decide +kernel
theorem dX5_bringGang_0 : decode cX5_bringGang 0 = .ok (.aload_n 0, 1) := by decide +kernel
theorem dX5_bringGang_1 : decode cX5_bringGang 1 = .ok (.getfield 26, 3) := by decide +kernel
theorem dX5_bringGang_4 : decode cX5_bringGang 4 = .ok (.iload_n 1, 1) := by decide +kernel
theorem dX5_bringGang_5 : decode cX5_bringGang 5 = .ok (.iconst 1, 1) := by decide +kernel
theorem dX5_bringGang_6 : decode cX5_bringGang 6 = .ok (.bastore, 1) := by decide +kernel
theorem dX5_bringGang_7 : decode cX5_bringGang 7 = .ok (.aload_n 0, 1) := by decide +kernel
theorem dX5_bringGang_8 : decode cX5_bringGang 8 = .ok (.getfield 29, 3) := by decide +kernel
theorem dX5_bringGang_11 : decode cX5_bringGang 11 = .ok (.iload_n 1, 1) := by decide +kernel
theorem dX5_bringGang_12 : decode cX5_bringGang 12 = .ok (.iload_n 2, 1) := by decide +kernel
theorem dX5_bringGang_13 : decode cX5_bringGang 13 = .ok (.iastore, 1) := by decide +kernel
theorem dX5_bringGang_14 : decode cX5_bringGang 14 = .ok (.aload_n 0, 1) := by decide +kernel
theorem dX5_bringGang_15 : decode cX5_bringGang 15 = .ok (.getfield 32, 3) := by decide +kernel
theorem dX5_bringGang_18 : decode cX5_bringGang 18 = .ok (.iload_n 1, 1) := by decide +kernel
theorem dX5_bringGang_19 : decode cX5_bringGang 19 = .ok (.iload_n 3, 1) := by decide +kernel
theorem dX5_bringGang_20 : decode cX5_bringGang 20 = .ok (.iastore, 1) := by decide +kernel
theorem dX5_bringGang_21 : decode cX5_bringGang 21 = .ok (.return_, 1) := by decide +kernel
theorem dX5_sendGangOff_0 : decode cX5_sendGangOff 0 = .ok (.iconst 0, 1) := by decide +kernel
theorem dX5_sendGangOff_1 : decode cX5_sendGangOff 1 = .ok (.aload_n 0, 1) := by decide +kernel
theorem dX5_sendGangOff_2 : decode cX5_sendGangOff 2 = .ok (.getfield 38, 3) := by decide +kernel
theorem dX5_sendGangOff_5 : decode cX5_sendGangOff 5 = .ok (.aload_n 0, 1) := by decide +kernel
theorem dX5_sendGangOff_6 : decode cX5_sendGangOff 6 = .ok (.getfield 32, 3) := by decide +kernel
theorem dX5_sendGangOff_9 : decode cX5_sendGangOff 9 = .ok (.iload_n 1, 1) := by decide +kernel
theorem dX5_sendGangOff_10 : decode cX5_sendGangOff 10 = .ok (.iaload, 1) := by decide +kernel
theorem dX5_sendGangOff_11 : decode cX5_sendGangOff 11 = .ok (.isub, 1) := by decide +kernel
theorem dX5_sendGangOff_12 : decode cX5_sendGangOff 12 = .ok (.invokestatic 54, 3) := by decide +kernel
theorem dX5_sendGangOff_15 : decode cX5_sendGangOff 15 = .ok (.istore_n 3, 1) := by decide +kernel
theorem dX5_sendGangOff_16 : decode cX5_sendGangOff 16 = .ok (.aload_n 0, 1) := by decide +kernel
theorem dX5_sendGangOff_17 : decode cX5_sendGangOff 17 = .ok (.getfield 26, 3) := by decide +kernel
theorem dX5_sendGangOff_20 : decode cX5_sendGangOff 20 = .ok (.iload_n 1, 1) := by decide +kernel
theorem dX5_sendGangOff_21 : decode cX5_sendGangOff 21 = .ok (.iconst 0, 1) := by decide +kernel
theorem dX5_sendGangOff_22 : decode cX5_sendGangOff 22 = .ok (.bastore, 1) := by decide +kernel
theorem dX5_sendGangOff_23 : decode cX5_sendGangOff 23 = .ok (.aload_n 0, 1) := by decide +kernel
theorem dX5_sendGangOff_24 : decode cX5_sendGangOff 24 = .ok (.getfield 35, 3) := by decide +kernel
theorem dX5_sendGangOff_27 : decode cX5_sendGangOff 27 = .ok (.iload_n 1, 1) := by decide +kernel
theorem dX5_sendGangOff_28 : decode cX5_sendGangOff 28 = .ok (.dup2, 1) := by decide +kernel
theorem dX5_sendGangOff_29 : decode cX5_sendGangOff 29 = .ok (.iaload, 1) := by decide +kernel
theorem dX5_sendGangOff_30 : decode cX5_sendGangOff 30 = .ok (.aload_n 0, 1) := by decide +kernel
theorem dX5_sendGangOff_31 : decode cX5_sendGangOff 31 = .ok (.getfield 29, 3) := by decide +kernel
theorem dX5_sendGangOff_34 : decode cX5_sendGangOff 34 = .ok (.iload_n 1, 1) := by decide +kernel
theorem dX5_sendGangOff_35 : decode cX5_sendGangOff 35 = .ok (.iaload, 1) := by decide +kernel
theorem dX5_sendGangOff_36 : decode cX5_sendGangOff 36 = .ok (.iload_n 2, 1) := by decide +kernel
theorem dX5_sendGangOff_37 : decode cX5_sendGangOff 37 = .ok (.isub, 1) := by decide +kernel
theorem dX5_sendGangOff_38 : decode cX5_sendGangOff 38 = .ok (.iadd, 1) := by decide +kernel
theorem dX5_sendGangOff_39 : decode cX5_sendGangOff 39 = .ok (.iastore, 1) := by decide +kernel
theorem dX5_sendGangOff_40 : decode cX5_sendGangOff 40 = .ok (.aload_n 0, 1) := by decide +kernel
theorem dX5_sendGangOff_41 : decode cX5_sendGangOff 41 = .ok (.dup, 1) := by decide +kernel
theorem dX5_sendGangOff_42 : decode cX5_sendGangOff 42 = .ok (.getfield 41, 3) := by decide +kernel
theorem dX5_sendGangOff_45 : decode cX5_sendGangOff 45 = .ok (.iload_n 3, 1) := by decide +kernel
theorem dX5_sendGangOff_46 : decode cX5_sendGangOff 46 = .ok (.iadd, 1) := by decide +kernel
theorem dX5_sendGangOff_47 : decode cX5_sendGangOff 47 = .ok (.putfield 41, 3) := by decide +kernel
theorem dX5_sendGangOff_50 : decode cX5_sendGangOff 50 = .ok (.iload_n 3, 1) := by decide +kernel
theorem dX5_sendGangOff_51 : decode cX5_sendGangOff 51 = .ok (.ireturn, 1) := by decide +kernel
theorem dX2_copyFrom_0 : decode cX2_copyFrom 0 = .ok (.aload_n 0, 1) := by decide +kernel
theorem dX2_copyFrom_1 : decode cX2_copyFrom 1 = .ok (.aload_n 1, 1) := by decide +kernel
theorem dX2_copyFrom_2 : decode cX2_copyFrom 2 = .ok (.getfield 31, 3) := by decide +kernel
theorem dX2_copyFrom_5 : decode cX2_copyFrom 5 = .ok (.putfield 31, 3) := by decide +kernel
theorem dX2_copyFrom_8 : decode cX2_copyFrom 8 = .ok (.aload_n 0, 1) := by decide +kernel
theorem dX2_copyFrom_9 : decode cX2_copyFrom 9 = .ok (.aload_n 1, 1) := by decide +kernel
theorem dX2_copyFrom_10 : decode cX2_copyFrom 10 = .ok (.getfield 35, 3) := by decide +kernel
theorem dX2_copyFrom_13 : decode cX2_copyFrom 13 = .ok (.putfield 35, 3) := by decide +kernel
theorem dX2_copyFrom_16 : decode cX2_copyFrom 16 = .ok (.aload_n 1, 1) := by decide +kernel
theorem dX2_copyFrom_17 : decode cX2_copyFrom 17 = .ok (.getfield 9, 3) := by decide +kernel
theorem dX2_copyFrom_20 : decode cX2_copyFrom 20 = .ok (.iconst 0, 1) := by decide +kernel
theorem dX2_copyFrom_21 : decode cX2_copyFrom 21 = .ok (.aload_n 0, 1) := by decide +kernel
theorem dX2_copyFrom_22 : decode cX2_copyFrom 22 = .ok (.getfield 9, 3) := by decide +kernel
theorem dX2_copyFrom_25 : decode cX2_copyFrom 25 = .ok (.iconst 0, 1) := by decide +kernel
theorem dX2_copyFrom_26 : decode cX2_copyFrom 26 = .ok (.bipush 10, 2) := by decide +kernel
theorem dX2_copyFrom_28 : decode cX2_copyFrom 28 = .ok (.invokestatic 38, 3) := by decide +kernel
theorem dX2_copyFrom_31 : decode cX2_copyFrom 31 = .ok (.aload_n 1, 1) := by decide +kernel
theorem dX2_copyFrom_32 : decode cX2_copyFrom 32 = .ok (.getfield 15, 3) := by decide +kernel
theorem dX2_copyFrom_35 : decode cX2_copyFrom 35 = .ok (.iconst 0, 1) := by decide +kernel
theorem dX2_copyFrom_36 : decode cX2_copyFrom 36 = .ok (.aload_n 0, 1) := by decide +kernel
theorem dX2_copyFrom_37 : decode cX2_copyFrom 37 = .ok (.getfield 15, 3) := by decide +kernel
theorem dX2_copyFrom_40 : decode cX2_copyFrom 40 = .ok (.iconst 0, 1) := by decide +kernel
theorem dX2_copyFrom_41 : decode cX2_copyFrom 41 = .ok (.bipush 16, 2) := by decide +kernel
theorem dX2_copyFrom_43 : decode cX2_copyFrom 43 = .ok (.invokestatic 38, 3) := by decide +kernel
theorem dX2_copyFrom_46 : decode cX2_copyFrom 46 = .ok (.aload_n 1, 1) := by decide +kernel
theorem dX2_copyFrom_47 : decode cX2_copyFrom 47 = .ok (.getfield 18, 3) := by decide +kernel
theorem dX2_copyFrom_50 : decode cX2_copyFrom 50 = .ok (.iconst 0, 1) := by decide +kernel
theorem dX2_copyFrom_51 : decode cX2_copyFrom 51 = .ok (.aload_n 0, 1) := by decide +kernel
theorem dX2_copyFrom_52 : decode cX2_copyFrom 52 = .ok (.getfield 18, 3) := by decide +kernel
theorem dX2_copyFrom_55 : decode cX2_copyFrom 55 = .ok (.iconst 0, 1) := by decide +kernel
theorem dX2_copyFrom_56 : decode cX2_copyFrom 56 = .ok (.bipush 16, 2) := by decide +kernel
theorem dX2_copyFrom_58 : decode cX2_copyFrom 58 = .ok (.invokestatic 38, 3) := by decide +kernel
theorem dX2_copyFrom_61 : decode cX2_copyFrom 61 = .ok (.aload_n 1, 1) := by decide +kernel
theorem dX2_copyFrom_62 : decode cX2_copyFrom 62 = .ok (.getfield 21, 3) := by decide +kernel
theorem dX2_copyFrom_65 : decode cX2_copyFrom 65 = .ok (.iconst 0, 1) := by decide +kernel
theorem dX2_copyFrom_66 : decode cX2_copyFrom 66 = .ok (.aload_n 0, 1) := by decide +kernel
theorem dX2_copyFrom_67 : decode cX2_copyFrom 67 = .ok (.getfield 21, 3) := by decide +kernel
theorem dX2_copyFrom_70 : decode cX2_copyFrom 70 = .ok (.iconst 0, 1) := by decide +kernel
theorem dX2_copyFrom_71 : decode cX2_copyFrom 71 = .ok (.bipush 16, 2) := by decide +kernel
theorem dX2_copyFrom_73 : decode cX2_copyFrom 73 = .ok (.invokestatic 38, 3) := by decide +kernel
theorem dX2_copyFrom_76 : decode cX2_copyFrom 76 = .ok (.aload_n 1, 1) := by decide +kernel
theorem dX2_copyFrom_77 : decode cX2_copyFrom 77 = .ok (.getfield 25, 3) := by decide +kernel
theorem dX2_copyFrom_80 : decode cX2_copyFrom 80 = .ok (.iconst 0, 1) := by decide +kernel
theorem dX2_copyFrom_81 : decode cX2_copyFrom 81 = .ok (.aload_n 0, 1) := by decide +kernel
theorem dX2_copyFrom_82 : decode cX2_copyFrom 82 = .ok (.getfield 25, 3) := by decide +kernel
theorem dX2_copyFrom_85 : decode cX2_copyFrom 85 = .ok (.iconst 0, 1) := by decide +kernel
theorem dX2_copyFrom_86 : decode cX2_copyFrom 86 = .ok (.bipush 10, 2) := by decide +kernel
theorem dX2_copyFrom_88 : decode cX2_copyFrom 88 = .ok (.invokestatic 38, 3) := by decide +kernel
theorem dX2_copyFrom_91 : decode cX2_copyFrom 91 = .ok (.aload_n 1, 1) := by decide +kernel
theorem dX2_copyFrom_92 : decode cX2_copyFrom 92 = .ok (.getfield 28, 3) := by decide +kernel
theorem dX2_copyFrom_95 : decode cX2_copyFrom 95 = .ok (.iconst 0, 1) := by decide +kernel
theorem dX2_copyFrom_96 : decode cX2_copyFrom 96 = .ok (.aload_n 0, 1) := by decide +kernel
theorem dX2_copyFrom_97 : decode cX2_copyFrom 97 = .ok (.getfield 28, 3) := by decide +kernel
theorem dX2_copyFrom_100 : decode cX2_copyFrom 100 = .ok (.iconst 0, 1) := by decide +kernel
theorem dX2_copyFrom_101 : decode cX2_copyFrom 101 = .ok (.bipush 10, 2) := by decide +kernel
theorem dX2_copyFrom_103 : decode cX2_copyFrom 103 = .ok (.invokestatic 38, 3) := by decide +kernel
theorem dX2_copyFrom_106 : decode cX2_copyFrom 106 = .ok (.return_, 1) := by decide +kernel
theorem dX2_feed_0 : decode cX2_feed 0 = .ok (.iconst 0, 1) := by decide +kernel
theorem dX2_feed_1 : decode cX2_feed 1 = .ok (.istore_n 1, 1) := by decide +kernel
theorem dX2_feed_2 : decode cX2_feed 2 = .ok (.iload_n 1, 1) := by decide +kernel
theorem dX2_feed_3 : decode cX2_feed 3 = .ok (.aload_n 0, 1) := by decide +kernel
theorem dX2_feed_4 : decode cX2_feed 4 = .ok (.getfield 31, 3) := by decide +kernel
theorem dX2_feed_7 : decode cX2_feed 7 = .ok (.if_icmp .ge 16, 3) := by decide +kernel
theorem dX2_feed_10 : decode cX2_feed 10 = .ok (.aload_n 0, 1) := by decide +kernel
theorem dX2_feed_11 : decode cX2_feed 11 = .ok (.getfield 28, 3) := by decide +kernel
theorem dX2_feed_14 : decode cX2_feed 14 = .ok (.iload_n 1, 1) := by decide +kernel
theorem dX2_feed_15 : decode cX2_feed 15 = .ok (.iconst 0, 1) := by decide +kernel
theorem dX2_feed_16 : decode cX2_feed 16 = .ok (.bastore, 1) := by decide +kernel
theorem dX2_feed_17 : decode cX2_feed 17 = .ok (.iinc 1 1, 3) := by decide +kernel
theorem dX2_feed_20 : decode cX2_feed 20 = .ok (.goto (-18), 3) := by decide +kernel
theorem dX2_feed_23 : decode cX2_feed 23 = .ok (.iconst 0, 1) := by decide +kernel
theorem dX2_feed_24 : decode cX2_feed 24 = .ok (.istore_n 1, 1) := by decide +kernel
theorem dX2_feed_25 : decode cX2_feed 25 = .ok (.iload_n 1, 1) := by decide +kernel
theorem dX2_feed_26 : decode cX2_feed 26 = .ok (.aload_n 0, 1) := by decide +kernel
theorem dX2_feed_27 : decode cX2_feed 27 = .ok (.getfield 31, 3) := by decide +kernel
theorem dX2_feed_30 : decode cX2_feed 30 = .ok (.if_icmp .ge 31, 3) := by decide +kernel
theorem dX2_feed_33 : decode cX2_feed 33 = .ok (.aload_n 0, 1) := by decide +kernel
theorem dX2_feed_34 : decode cX2_feed 34 = .ok (.getfield 9, 3) := by decide +kernel
theorem dX2_feed_37 : decode cX2_feed 37 = .ok (.iload_n 1, 1) := by decide +kernel
theorem dX2_feed_38 : decode cX2_feed 38 = .ok (.iaload, 1) := by decide +kernel
theorem dX2_feed_39 : decode cX2_feed 39 = .ok (.iconst 2, 1) := by decide +kernel
theorem dX2_feed_40 : decode cX2_feed 40 = .ok (.if_icmp .ne 15, 3) := by decide +kernel
theorem dX2_feed_43 : decode cX2_feed 43 = .ok (.aload_n 0, 1) := by decide +kernel
theorem dX2_feed_44 : decode cX2_feed 44 = .ok (.getfield 28, 3) := by decide +kernel
theorem dX2_feed_47 : decode cX2_feed 47 = .ok (.aload_n 0, 1) := by decide +kernel
theorem dX2_feed_48 : decode cX2_feed 48 = .ok (.getfield 25, 3) := by decide +kernel
theorem dX2_feed_51 : decode cX2_feed 51 = .ok (.iload_n 1, 1) := by decide +kernel
theorem dX2_feed_52 : decode cX2_feed 52 = .ok (.iaload, 1) := by decide +kernel
theorem dX2_feed_53 : decode cX2_feed 53 = .ok (.iconst 1, 1) := by decide +kernel
theorem dX2_feed_54 : decode cX2_feed 54 = .ok (.bastore, 1) := by decide +kernel
theorem dX2_feed_55 : decode cX2_feed 55 = .ok (.iinc 1 1, 3) := by decide +kernel
theorem dX2_feed_58 : decode cX2_feed 58 = .ok (.goto (-33), 3) := by decide +kernel
theorem dX2_feed_61 : decode cX2_feed 61 = .ok (.iconst 0, 1) := by decide +kernel
theorem dX2_feed_62 : decode cX2_feed 62 = .ok (.istore_n 1, 1) := by decide +kernel
theorem dX2_feed_63 : decode cX2_feed 63 = .ok (.iload_n 1, 1) := by decide +kernel
theorem dX2_feed_64 : decode cX2_feed 64 = .ok (.aload_n 0, 1) := by decide +kernel
theorem dX2_feed_65 : decode cX2_feed 65 = .ok (.getfield 31, 3) := by decide +kernel
theorem dX2_feed_68 : decode cX2_feed 68 = .ok (.if_icmp .ge 26, 3) := by decide +kernel
theorem dX2_feed_71 : decode cX2_feed 71 = .ok (.aload_n 0, 1) := by decide +kernel
theorem dX2_feed_72 : decode cX2_feed 72 = .ok (.getfield 28, 3) := by decide +kernel
theorem dX2_feed_75 : decode cX2_feed 75 = .ok (.iload_n 1, 1) := by decide +kernel
theorem dX2_feed_76 : decode cX2_feed 76 = .ok (.aload_n 0, 1) := by decide +kernel
theorem dX2_feed_77 : decode cX2_feed 77 = .ok (.getfield 28, 3) := by decide +kernel
theorem dX2_feed_80 : decode cX2_feed 80 = .ok (.aload_n 0, 1) := by decide +kernel
theorem dX2_feed_81 : decode cX2_feed 81 = .ok (.getfield 25, 3) := by decide +kernel
theorem dX2_feed_84 : decode cX2_feed 84 = .ok (.iload_n 1, 1) := by decide +kernel
theorem dX2_feed_85 : decode cX2_feed 85 = .ok (.iaload, 1) := by decide +kernel
theorem dX2_feed_86 : decode cX2_feed 86 = .ok (.baload, 1) := by decide +kernel
theorem dX2_feed_87 : decode cX2_feed 87 = .ok (.bastore, 1) := by decide +kernel
theorem dX2_feed_88 : decode cX2_feed 88 = .ok (.iinc 1 1, 3) := by decide +kernel
theorem dX2_feed_91 : decode cX2_feed 91 = .ok (.goto (-28), 3) := by decide +kernel
theorem dX2_feed_94 : decode cX2_feed 94 = .ok (.return_, 1) := by decide +kernel
theorem dX2_setFeeder_0 : decode cX2_setFeeder 0 = .ok (.aload_n 0, 1) := by decide +kernel
theorem dX2_setFeeder_1 : decode cX2_setFeeder 1 = .ok (.getfield 9, 3) := by decide +kernel
theorem dX2_setFeeder_4 : decode cX2_setFeeder 4 = .ok (.iload_n 1, 1) := by decide +kernel
theorem dX2_setFeeder_5 : decode cX2_setFeeder 5 = .ok (.iload_n 2, 1) := by decide +kernel
theorem dX2_setFeeder_6 : decode cX2_setFeeder 6 = .ok (.iastore, 1) := by decide +kernel
theorem dX2_setFeeder_7 : decode cX2_setFeeder 7 = .ok (.aload_n 0, 1) := by decide +kernel
theorem dX2_setFeeder_8 : decode cX2_setFeeder 8 = .ok (.invokevirtual 44, 3) := by decide +kernel
theorem dX2_setFeeder_11 : decode cX2_setFeeder 11 = .ok (.return_, 1) := by decide +kernel
theorem dX2_shareLowest_0 : decode cX2_shareLowest 0 = .ok (.iconst 0, 1) := by decide +kernel
theorem dX2_shareLowest_1 : decode cX2_shareLowest 1 = .ok (.istore_n 1, 1) := by decide +kernel
theorem dX2_shareLowest_2 : decode cX2_shareLowest 2 = .ok (.iload_n 1, 1) := by decide +kernel
theorem dX2_shareLowest_3 : decode cX2_shareLowest 3 = .ok (.aload_n 0, 1) := by decide +kernel
theorem dX2_shareLowest_4 : decode cX2_shareLowest 4 = .ok (.getfield 35, 3) := by decide +kernel
theorem dX2_shareLowest_7 : decode cX2_shareLowest 7 = .ok (.if_icmp .ge 85, 3) := by decide +kernel
theorem dX2_shareLowest_10 : decode cX2_shareLowest 10 = .ok (.aload_n 0, 1) := by decide +kernel
theorem dX2_shareLowest_11 : decode cX2_shareLowest 11 = .ok (.getfield 21, 3) := by decide +kernel
theorem dX2_shareLowest_14 : decode cX2_shareLowest 14 = .ok (.iload_n 1, 1) := by decide +kernel
theorem dX2_shareLowest_15 : decode cX2_shareLowest 15 = .ok (.baload, 1) := by decide +kernel
theorem dX2_shareLowest_16 : decode cX2_shareLowest 16 = .ok (.ifCond .eq 70, 3) := by decide +kernel
theorem dX2_shareLowest_19 : decode cX2_shareLowest 19 = .ok (.aload_n 0, 1) := by decide +kernel
theorem dX2_shareLowest_20 : decode cX2_shareLowest 20 = .ok (.getfield 25, 3) := by decide +kernel
theorem dX2_shareLowest_23 : decode cX2_shareLowest 23 = .ok (.aload_n 0, 1) := by decide +kernel
theorem dX2_shareLowest_24 : decode cX2_shareLowest 24 = .ok (.getfield 15, 3) := by decide +kernel
theorem dX2_shareLowest_27 : decode cX2_shareLowest 27 = .ok (.iload_n 1, 1) := by decide +kernel
theorem dX2_shareLowest_28 : decode cX2_shareLowest 28 = .ok (.iaload, 1) := by decide +kernel
theorem dX2_shareLowest_29 : decode cX2_shareLowest 29 = .ok (.iaload, 1) := by decide +kernel
theorem dX2_shareLowest_30 : decode cX2_shareLowest 30 = .ok (.istore_n 2, 1) := by decide +kernel
theorem dX2_shareLowest_31 : decode cX2_shareLowest 31 = .ok (.aload_n 0, 1) := by decide +kernel
theorem dX2_shareLowest_32 : decode cX2_shareLowest 32 = .ok (.getfield 25, 3) := by decide +kernel
theorem dX2_shareLowest_35 : decode cX2_shareLowest 35 = .ok (.aload_n 0, 1) := by decide +kernel
theorem dX2_shareLowest_36 : decode cX2_shareLowest 36 = .ok (.getfield 18, 3) := by decide +kernel
theorem dX2_shareLowest_39 : decode cX2_shareLowest 39 = .ok (.iload_n 1, 1) := by decide +kernel
theorem dX2_shareLowest_40 : decode cX2_shareLowest 40 = .ok (.iaload, 1) := by decide +kernel
theorem dX2_shareLowest_41 : decode cX2_shareLowest 41 = .ok (.iaload, 1) := by decide +kernel
theorem dX2_shareLowest_42 : decode cX2_shareLowest 42 = .ok (.istore_n 3, 1) := by decide +kernel
theorem dX2_shareLowest_43 : decode cX2_shareLowest 43 = .ok (.aload_n 0, 1) := by decide +kernel
theorem dX2_shareLowest_44 : decode cX2_shareLowest 44 = .ok (.getfield 25, 3) := by decide +kernel
theorem dX2_shareLowest_47 : decode cX2_shareLowest 47 = .ok (.aload_n 0, 1) := by decide +kernel
theorem dX2_shareLowest_48 : decode cX2_shareLowest 48 = .ok (.getfield 15, 3) := by decide +kernel
theorem dX2_shareLowest_51 : decode cX2_shareLowest 51 = .ok (.iload_n 1, 1) := by decide +kernel
theorem dX2_shareLowest_52 : decode cX2_shareLowest 52 = .ok (.iaload, 1) := by decide +kernel
theorem dX2_shareLowest_53 : decode cX2_shareLowest 53 = .ok (.iload_n 2, 1) := by decide +kernel
theorem dX2_shareLowest_54 : decode cX2_shareLowest 54 = .ok (.iload_n 3, 1) := by decide +kernel
theorem dX2_shareLowest_55 : decode cX2_shareLowest 55 = .ok (.if_icmp .ge 7, 3) := by decide +kernel
theorem dX2_shareLowest_58 : decode cX2_shareLowest 58 = .ok (.iload_n 2, 1) := by decide +kernel
theorem dX2_shareLowest_59 : decode cX2_shareLowest 59 = .ok (.goto 4, 3) := by decide +kernel
theorem dX2_shareLowest_62 : decode cX2_shareLowest 62 = .ok (.iload_n 3, 1) := by decide +kernel
theorem dX2_shareLowest_63 : decode cX2_shareLowest 63 = .ok (.iastore, 1) := by decide +kernel
theorem dX2_shareLowest_64 : decode cX2_shareLowest 64 = .ok (.aload_n 0, 1) := by decide +kernel
theorem dX2_shareLowest_65 : decode cX2_shareLowest 65 = .ok (.getfield 25, 3) := by decide +kernel
theorem dX2_shareLowest_68 : decode cX2_shareLowest 68 = .ok (.aload_n 0, 1) := by decide +kernel
theorem dX2_shareLowest_69 : decode cX2_shareLowest 69 = .ok (.getfield 18, 3) := by decide +kernel
theorem dX2_shareLowest_72 : decode cX2_shareLowest 72 = .ok (.iload_n 1, 1) := by decide +kernel
theorem dX2_shareLowest_73 : decode cX2_shareLowest 73 = .ok (.iaload, 1) := by decide +kernel
theorem dX2_shareLowest_74 : decode cX2_shareLowest 74 = .ok (.aload_n 0, 1) := by decide +kernel
theorem dX2_shareLowest_75 : decode cX2_shareLowest 75 = .ok (.getfield 25, 3) := by decide +kernel
theorem dX2_shareLowest_78 : decode cX2_shareLowest 78 = .ok (.aload_n 0, 1) := by decide +kernel
theorem dX2_shareLowest_79 : decode cX2_shareLowest 79 = .ok (.getfield 15, 3) := by decide +kernel
theorem dX2_shareLowest_82 : decode cX2_shareLowest 82 = .ok (.iload_n 1, 1) := by decide +kernel
theorem dX2_shareLowest_83 : decode cX2_shareLowest 83 = .ok (.iaload, 1) := by decide +kernel
theorem dX2_shareLowest_84 : decode cX2_shareLowest 84 = .ok (.iaload, 1) := by decide +kernel
theorem dX2_shareLowest_85 : decode cX2_shareLowest 85 = .ok (.iastore, 1) := by decide +kernel
theorem dX2_shareLowest_86 : decode cX2_shareLowest 86 = .ok (.iinc 1 1, 3) := by decide +kernel
theorem dX2_shareLowest_89 : decode cX2_shareLowest 89 = .ok (.goto (-87), 3) := by decide +kernel
theorem dX2_shareLowest_92 : decode cX2_shareLowest 92 = .ok (.return_, 1) := by decide +kernel
theorem dX2_setIsolator_0 : decode cX2_setIsolator 0 = .ok (.aload_n 0, 1) := by decide +kernel
theorem dX2_setIsolator_1 : decode cX2_setIsolator 1 = .ok (.getfield 21, 3) := by decide +kernel
theorem dX2_setIsolator_4 : decode cX2_setIsolator 4 = .ok (.iload_n 1, 1) := by decide +kernel
theorem dX2_setIsolator_5 : decode cX2_setIsolator 5 = .ok (.iload_n 2, 1) := by decide +kernel
theorem dX2_setIsolator_6 : decode cX2_setIsolator 6 = .ok (.bastore, 1) := by decide +kernel
theorem dX2_setIsolator_7 : decode cX2_setIsolator 7 = .ok (.iconst 0, 1) := by decide +kernel
theorem dX2_setIsolator_8 : decode cX2_setIsolator 8 = .ok (.istore_n 3, 1) := by decide +kernel
theorem dX2_setIsolator_9 : decode cX2_setIsolator 9 = .ok (.iload_n 3, 1) := by decide +kernel
theorem dX2_setIsolator_10 : decode cX2_setIsolator 10 = .ok (.aload_n 0, 1) := by decide +kernel
theorem dX2_setIsolator_11 : decode cX2_setIsolator 11 = .ok (.getfield 31, 3) := by decide +kernel
theorem dX2_setIsolator_14 : decode cX2_setIsolator 14 = .ok (.if_icmp .ge 16, 3) := by decide +kernel
theorem dX2_setIsolator_17 : decode cX2_setIsolator 17 = .ok (.aload_n 0, 1) := by decide +kernel
theorem dX2_setIsolator_18 : decode cX2_setIsolator 18 = .ok (.getfield 25, 3) := by decide +kernel
theorem dX2_setIsolator_21 : decode cX2_setIsolator 21 = .ok (.iload_n 3, 1) := by decide +kernel
theorem dX2_setIsolator_22 : decode cX2_setIsolator 22 = .ok (.iload_n 3, 1) := by decide +kernel
theorem dX2_setIsolator_23 : decode cX2_setIsolator 23 = .ok (.iastore, 1) := by decide +kernel
theorem dX2_setIsolator_24 : decode cX2_setIsolator 24 = .ok (.iinc 3 1, 3) := by decide +kernel
theorem dX2_setIsolator_27 : decode cX2_setIsolator 27 = .ok (.goto (-18), 3) := by decide +kernel
theorem dX2_setIsolator_30 : decode cX2_setIsolator 30 = .ok (.iconst 1, 1) := by decide +kernel
theorem dX2_setIsolator_31 : decode cX2_setIsolator 31 = .ok (.istore_n 3, 1) := by decide +kernel
theorem dX2_setIsolator_32 : decode cX2_setIsolator 32 = .ok (.iload_n 3, 1) := by decide +kernel
theorem dX2_setIsolator_33 : decode cX2_setIsolator 33 = .ok (.aload_n 0, 1) := by decide +kernel
theorem dX2_setIsolator_34 : decode cX2_setIsolator 34 = .ok (.getfield 31, 3) := by decide +kernel
theorem dX2_setIsolator_37 : decode cX2_setIsolator 37 = .ok (.if_icmp .ge 13, 3) := by decide +kernel
theorem dX2_setIsolator_40 : decode cX2_setIsolator 40 = .ok (.aload_n 0, 1) := by decide +kernel
theorem dX2_setIsolator_41 : decode cX2_setIsolator 41 = .ok (.invokevirtual 47, 3) := by decide +kernel
theorem dX2_setIsolator_44 : decode cX2_setIsolator 44 = .ok (.iinc 3 1, 3) := by decide +kernel
theorem dX2_setIsolator_47 : decode cX2_setIsolator 47 = .ok (.goto (-15), 3) := by decide +kernel
theorem dX2_setIsolator_50 : decode cX2_setIsolator 50 = .ok (.aload_n 0, 1) := by decide +kernel
theorem dX2_setIsolator_51 : decode cX2_setIsolator 51 = .ok (.invokevirtual 44, 3) := by decide +kernel
theorem dX2_setIsolator_54 : decode cX2_setIsolator 54 = .ok (.return_, 1) := by decide +kernel
theorem dX2_areTogether_0 : decode cX2_areTogether 0 = .ok (.aload_n 0, 1) := by decide +kernel
theorem dX2_areTogether_1 : decode cX2_areTogether 1 = .ok (.getfield 25, 3) := by decide +kernel
theorem dX2_areTogether_4 : decode cX2_areTogether 4 = .ok (.iload_n 1, 1) := by decide +kernel
theorem dX2_areTogether_5 : decode cX2_areTogether 5 = .ok (.iaload, 1) := by decide +kernel
theorem dX2_areTogether_6 : decode cX2_areTogether 6 = .ok (.aload_n 0, 1) := by decide +kernel
theorem dX2_areTogether_7 : decode cX2_areTogether 7 = .ok (.getfield 25, 3) := by decide +kernel
theorem dX2_areTogether_10 : decode cX2_areTogether 10 = .ok (.iload_n 2, 1) := by decide +kernel
theorem dX2_areTogether_11 : decode cX2_areTogether 11 = .ok (.iaload, 1) := by decide +kernel
theorem dX2_areTogether_12 : decode cX2_areTogether 12 = .ok (.if_icmp .ne 7, 3) := by decide +kernel
theorem dX2_areTogether_15 : decode cX2_areTogether 15 = .ok (.iconst 1, 1) := by decide +kernel
theorem dX2_areTogether_16 : decode cX2_areTogether 16 = .ok (.goto 4, 3) := by decide +kernel
theorem dX2_areTogether_19 : decode cX2_areTogether 19 = .ok (.iconst 0, 1) := by decide +kernel
theorem dX2_areTogether_20 : decode cX2_areTogether 20 = .ok (.ireturn, 1) := by decide +kernel
theorem dX2_groupSize_0 : decode cX2_groupSize 0 = .ok (.iconst 0, 1) := by decide +kernel
theorem dX2_groupSize_1 : decode cX2_groupSize 1 = .ok (.istore_n 2, 1) := by decide +kernel
theorem dX2_groupSize_2 : decode cX2_groupSize 2 = .ok (.iconst 0, 1) := by decide +kernel
theorem dX2_groupSize_3 : decode cX2_groupSize 3 = .ok (.istore_n 3, 1) := by decide +kernel
theorem dX2_groupSize_4 : decode cX2_groupSize 4 = .ok (.iload_n 3, 1) := by decide +kernel
theorem dX2_groupSize_5 : decode cX2_groupSize 5 = .ok (.aload_n 0, 1) := by decide +kernel
theorem dX2_groupSize_6 : decode cX2_groupSize 6 = .ok (.getfield 31, 3) := by decide +kernel
theorem dX2_groupSize_9 : decode cX2_groupSize 9 = .ok (.if_icmp .ge 21, 3) := by decide +kernel
theorem dX2_groupSize_12 : decode cX2_groupSize 12 = .ok (.aload_n 0, 1) := by decide +kernel
theorem dX2_groupSize_13 : decode cX2_groupSize 13 = .ok (.iload_n 3, 1) := by decide +kernel
theorem dX2_groupSize_14 : decode cX2_groupSize 14 = .ok (.iload_n 1, 1) := by decide +kernel
theorem dX2_groupSize_15 : decode cX2_groupSize 15 = .ok (.invokevirtual 50, 3) := by decide +kernel
theorem dX2_groupSize_18 : decode cX2_groupSize 18 = .ok (.ifCond .eq 6, 3) := by decide +kernel
theorem dX2_groupSize_21 : decode cX2_groupSize 21 = .ok (.iinc 2 1, 3) := by decide +kernel
theorem dX2_groupSize_24 : decode cX2_groupSize 24 = .ok (.iinc 3 1, 3) := by decide +kernel
theorem dX2_groupSize_27 : decode cX2_groupSize 27 = .ok (.goto (-23), 3) := by decide +kernel
theorem dX2_groupSize_30 : decode cX2_groupSize 30 = .ok (.iload_n 2, 1) := by decide +kernel
theorem dX2_groupSize_31 : decode cX2_groupSize 31 = .ok (.ireturn, 1) := by decide +kernel
theorem dX2_groups_0 : decode cX2_groups 0 = .ok (.iconst 0, 1) := by decide +kernel
theorem dX2_groups_1 : decode cX2_groups 1 = .ok (.istore_n 1, 1) := by decide +kernel
theorem dX2_groups_2 : decode cX2_groups 2 = .ok (.iconst 0, 1) := by decide +kernel
theorem dX2_groups_3 : decode cX2_groups 3 = .ok (.istore_n 2, 1) := by decide +kernel
theorem dX2_groups_4 : decode cX2_groups 4 = .ok (.iload_n 2, 1) := by decide +kernel
theorem dX2_groups_5 : decode cX2_groups 5 = .ok (.aload_n 0, 1) := by decide +kernel
theorem dX2_groups_6 : decode cX2_groups 6 = .ok (.getfield 31, 3) := by decide +kernel
theorem dX2_groups_9 : decode cX2_groups 9 = .ok (.if_icmp .ge 22, 3) := by decide +kernel
theorem dX2_groups_12 : decode cX2_groups 12 = .ok (.aload_n 0, 1) := by decide +kernel
theorem dX2_groups_13 : decode cX2_groups 13 = .ok (.getfield 25, 3) := by decide +kernel
theorem dX2_groups_16 : decode cX2_groups 16 = .ok (.iload_n 2, 1) := by decide +kernel
theorem dX2_groups_17 : decode cX2_groups 17 = .ok (.iaload, 1) := by decide +kernel
theorem dX2_groups_18 : decode cX2_groups 18 = .ok (.iload_n 2, 1) := by decide +kernel
theorem dX2_groups_19 : decode cX2_groups 19 = .ok (.if_icmp .ne 6, 3) := by decide +kernel
theorem dX2_groups_22 : decode cX2_groups 22 = .ok (.iinc 1 1, 3) := by decide +kernel
theorem dX2_groups_25 : decode cX2_groups 25 = .ok (.iinc 2 1, 3) := by decide +kernel
theorem dX2_groups_28 : decode cX2_groups 28 = .ok (.goto (-24), 3) := by decide +kernel
theorem dX2_groups_31 : decode cX2_groups 31 = .ok (.iload_n 1, 1) := by decide +kernel
theorem dX2_groups_32 : decode cX2_groups 32 = .ok (.ireturn, 1) := by decide +kernel
theorem dX2_isClosedAt_0 : decode cX2_isClosedAt 0 = .ok (.aload_n 0, 1) := by decide +kernel
theorem dX2_isClosedAt_1 : decode cX2_isClosedAt 1 = .ok (.getfield 21, 3) := by decide +kernel
theorem dX2_isClosedAt_4 : decode cX2_isClosedAt 4 = .ok (.iload_n 1, 1) := by decide +kernel
theorem dX2_isClosedAt_5 : decode cX2_isClosedAt 5 = .ok (.baload, 1) := by decide +kernel
theorem dX2_isClosedAt_6 : decode cX2_isClosedAt 6 = .ok (.ifCond .eq 27, 3) := by decide +kernel
theorem dX2_isClosedAt_9 : decode cX2_isClosedAt 9 = .ok (.aload_n 0, 1) := by decide +kernel
theorem dX2_isClosedAt_10 : decode cX2_isClosedAt 10 = .ok (.getfield 15, 3) := by decide +kernel
theorem dX2_isClosedAt_13 : decode cX2_isClosedAt 13 = .ok (.iload_n 1, 1) := by decide +kernel
theorem dX2_isClosedAt_14 : decode cX2_isClosedAt 14 = .ok (.iaload, 1) := by decide +kernel
theorem dX2_isClosedAt_15 : decode cX2_isClosedAt 15 = .ok (.iload_n 2, 1) := by decide +kernel
theorem dX2_isClosedAt_16 : decode cX2_isClosedAt 16 = .ok (.if_icmp .eq 13, 3) := by decide +kernel
theorem dX2_isClosedAt_19 : decode cX2_isClosedAt 19 = .ok (.aload_n 0, 1) := by decide +kernel
theorem dX2_isClosedAt_20 : decode cX2_isClosedAt 20 = .ok (.getfield 18, 3) := by decide +kernel
theorem dX2_isClosedAt_23 : decode cX2_isClosedAt 23 = .ok (.iload_n 1, 1) := by decide +kernel
theorem dX2_isClosedAt_24 : decode cX2_isClosedAt 24 = .ok (.iaload, 1) := by decide +kernel
theorem dX2_isClosedAt_25 : decode cX2_isClosedAt 25 = .ok (.iload_n 2, 1) := by decide +kernel
theorem dX2_isClosedAt_26 : decode cX2_isClosedAt 26 = .ok (.if_icmp .ne 7, 3) := by decide +kernel
theorem dX2_isClosedAt_29 : decode cX2_isClosedAt 29 = .ok (.iconst 1, 1) := by decide +kernel
theorem dX2_isClosedAt_30 : decode cX2_isClosedAt 30 = .ok (.goto 4, 3) := by decide +kernel
theorem dX2_isClosedAt_33 : decode cX2_isClosedAt 33 = .ok (.iconst 0, 1) := by decide +kernel
theorem dX2_isClosedAt_34 : decode cX2_isClosedAt 34 = .ok (.ireturn, 1) := by decide +kernel
theorem dX2_closedAt_0 : decode cX2_closedAt 0 = .ok (.iconst 0, 1) := by decide +kernel
theorem dX2_closedAt_1 : decode cX2_closedAt 1 = .ok (.istore_n 2, 1) := by decide +kernel
theorem dX2_closedAt_2 : decode cX2_closedAt 2 = .ok (.iconst 0, 1) := by decide +kernel
theorem dX2_closedAt_3 : decode cX2_closedAt 3 = .ok (.istore_n 3, 1) := by decide +kernel
theorem dX2_closedAt_4 : decode cX2_closedAt 4 = .ok (.iload_n 3, 1) := by decide +kernel
theorem dX2_closedAt_5 : decode cX2_closedAt 5 = .ok (.aload_n 0, 1) := by decide +kernel
theorem dX2_closedAt_6 : decode cX2_closedAt 6 = .ok (.getfield 35, 3) := by decide +kernel
theorem dX2_closedAt_9 : decode cX2_closedAt 9 = .ok (.if_icmp .ge 21, 3) := by decide +kernel
theorem dX2_closedAt_12 : decode cX2_closedAt 12 = .ok (.aload_n 0, 1) := by decide +kernel
theorem dX2_closedAt_13 : decode cX2_closedAt 13 = .ok (.iload_n 3, 1) := by decide +kernel
theorem dX2_closedAt_14 : decode cX2_closedAt 14 = .ok (.iload_n 1, 1) := by decide +kernel
theorem dX2_closedAt_15 : decode cX2_closedAt 15 = .ok (.invokevirtual 54, 3) := by decide +kernel
theorem dX2_closedAt_18 : decode cX2_closedAt 18 = .ok (.ifCond .eq 6, 3) := by decide +kernel
theorem dX2_closedAt_21 : decode cX2_closedAt 21 = .ok (.iinc 2 1, 3) := by decide +kernel
theorem dX2_closedAt_24 : decode cX2_closedAt 24 = .ok (.iinc 3 1, 3) := by decide +kernel
theorem dX2_closedAt_27 : decode cX2_closedAt 27 = .ok (.goto (-23), 3) := by decide +kernel
theorem dX2_closedAt_30 : decode cX2_closedAt 30 = .ok (.iload_n 2, 1) := by decide +kernel
theorem dX2_closedAt_31 : decode cX2_closedAt 31 = .ok (.ireturn, 1) := by decide +kernel
theorem dX1_copyFrom_0 : decode cX1_copyFrom 0 = .ok (.aload_n 0, 1) := by decide +kernel
theorem dX1_copyFrom_1 : decode cX1_copyFrom 1 = .ok (.aload_n 1, 1) := by decide +kernel
theorem dX1_copyFrom_2 : decode cX1_copyFrom 2 = .ok (.getfield 34, 3) := by decide +kernel
theorem dX1_copyFrom_5 : decode cX1_copyFrom 5 = .ok (.putfield 34, 3) := by decide +kernel
theorem dX1_copyFrom_8 : decode cX1_copyFrom 8 = .ok (.aload_n 0, 1) := by decide +kernel
theorem dX1_copyFrom_9 : decode cX1_copyFrom 9 = .ok (.aload_n 1, 1) := by decide +kernel
theorem dX1_copyFrom_10 : decode cX1_copyFrom 10 = .ok (.getfield 38, 3) := by decide +kernel
theorem dX1_copyFrom_13 : decode cX1_copyFrom 13 = .ok (.putfield 38, 3) := by decide +kernel
theorem dX1_copyFrom_16 : decode cX1_copyFrom 16 = .ok (.aload_n 1, 1) := by decide +kernel
theorem dX1_copyFrom_17 : decode cX1_copyFrom 17 = .ok (.getfield 9, 3) := by decide +kernel
theorem dX1_copyFrom_20 : decode cX1_copyFrom 20 = .ok (.iconst 0, 1) := by decide +kernel
theorem dX1_copyFrom_21 : decode cX1_copyFrom 21 = .ok (.aload_n 0, 1) := by decide +kernel
theorem dX1_copyFrom_22 : decode cX1_copyFrom 22 = .ok (.getfield 9, 3) := by decide +kernel
theorem dX1_copyFrom_25 : decode cX1_copyFrom 25 = .ok (.iconst 0, 1) := by decide +kernel
theorem dX1_copyFrom_26 : decode cX1_copyFrom 26 = .ok (.bipush 24, 2) := by decide +kernel
theorem dX1_copyFrom_28 : decode cX1_copyFrom 28 = .ok (.invokestatic 41, 3) := by decide +kernel
theorem dX1_copyFrom_31 : decode cX1_copyFrom 31 = .ok (.aload_n 1, 1) := by decide +kernel
theorem dX1_copyFrom_32 : decode cX1_copyFrom 32 = .ok (.getfield 15, 3) := by decide +kernel
theorem dX1_copyFrom_35 : decode cX1_copyFrom 35 = .ok (.iconst 0, 1) := by decide +kernel
theorem dX1_copyFrom_36 : decode cX1_copyFrom 36 = .ok (.aload_n 0, 1) := by decide +kernel
theorem dX1_copyFrom_37 : decode cX1_copyFrom 37 = .ok (.getfield 15, 3) := by decide +kernel
theorem dX1_copyFrom_40 : decode cX1_copyFrom 40 = .ok (.iconst 0, 1) := by decide +kernel
theorem dX1_copyFrom_41 : decode cX1_copyFrom 41 = .ok (.bipush 24, 2) := by decide +kernel
theorem dX1_copyFrom_43 : decode cX1_copyFrom 43 = .ok (.invokestatic 41, 3) := by decide +kernel
theorem dX1_copyFrom_46 : decode cX1_copyFrom 46 = .ok (.aload_n 1, 1) := by decide +kernel
theorem dX1_copyFrom_47 : decode cX1_copyFrom 47 = .ok (.getfield 18, 3) := by decide +kernel
theorem dX1_copyFrom_50 : decode cX1_copyFrom 50 = .ok (.iconst 0, 1) := by decide +kernel
theorem dX1_copyFrom_51 : decode cX1_copyFrom 51 = .ok (.aload_n 0, 1) := by decide +kernel
theorem dX1_copyFrom_52 : decode cX1_copyFrom 52 = .ok (.getfield 18, 3) := by decide +kernel
theorem dX1_copyFrom_55 : decode cX1_copyFrom 55 = .ok (.iconst 0, 1) := by decide +kernel
theorem dX1_copyFrom_56 : decode cX1_copyFrom 56 = .ok (.bipush 24, 2) := by decide +kernel
theorem dX1_copyFrom_58 : decode cX1_copyFrom 58 = .ok (.invokestatic 41, 3) := by decide +kernel
theorem dX1_copyFrom_61 : decode cX1_copyFrom 61 = .ok (.aload_n 1, 1) := by decide +kernel
theorem dX1_copyFrom_62 : decode cX1_copyFrom 62 = .ok (.getfield 21, 3) := by decide +kernel
theorem dX1_copyFrom_65 : decode cX1_copyFrom 65 = .ok (.iconst 0, 1) := by decide +kernel
theorem dX1_copyFrom_66 : decode cX1_copyFrom 66 = .ok (.aload_n 0, 1) := by decide +kernel
theorem dX1_copyFrom_67 : decode cX1_copyFrom 67 = .ok (.getfield 21, 3) := by decide +kernel
theorem dX1_copyFrom_70 : decode cX1_copyFrom 70 = .ok (.iconst 0, 1) := by decide +kernel
theorem dX1_copyFrom_71 : decode cX1_copyFrom 71 = .ok (.bipush 10, 2) := by decide +kernel
theorem dX1_copyFrom_73 : decode cX1_copyFrom 73 = .ok (.invokestatic 41, 3) := by decide +kernel
theorem dX1_copyFrom_76 : decode cX1_copyFrom 76 = .ok (.aload_n 1, 1) := by decide +kernel
theorem dX1_copyFrom_77 : decode cX1_copyFrom 77 = .ok (.getfield 24, 3) := by decide +kernel
theorem dX1_copyFrom_80 : decode cX1_copyFrom 80 = .ok (.iconst 0, 1) := by decide +kernel
theorem dX1_copyFrom_81 : decode cX1_copyFrom 81 = .ok (.aload_n 0, 1) := by decide +kernel
theorem dX1_copyFrom_82 : decode cX1_copyFrom 82 = .ok (.getfield 24, 3) := by decide +kernel
theorem dX1_copyFrom_85 : decode cX1_copyFrom 85 = .ok (.iconst 0, 1) := by decide +kernel
theorem dX1_copyFrom_86 : decode cX1_copyFrom 86 = .ok (.bipush 16, 2) := by decide +kernel
theorem dX1_copyFrom_88 : decode cX1_copyFrom 88 = .ok (.invokestatic 41, 3) := by decide +kernel
theorem dX1_copyFrom_91 : decode cX1_copyFrom 91 = .ok (.return_, 1) := by decide +kernel
theorem dX1_setBy_0 : decode cX1_setBy 0 = .ok (.aload_n 0, 1) := by decide +kernel
theorem dX1_setBy_1 : decode cX1_setBy 1 = .ok (.getfield 15, 3) := by decide +kernel
theorem dX1_setBy_4 : decode cX1_setBy 4 = .ok (.iload_n 1, 1) := by decide +kernel
theorem dX1_setBy_5 : decode cX1_setBy 5 = .ok (.iaload, 1) := by decide +kernel
theorem dX1_setBy_6 : decode cX1_setBy 6 = .ok (.istore 4, 2) := by decide +kernel
theorem dX1_setBy_8 : decode cX1_setBy 8 = .ok (.aload_n 0, 1) := by decide +kernel
theorem dX1_setBy_9 : decode cX1_setBy 9 = .ok (.getfield 9, 3) := by decide +kernel
theorem dX1_setBy_12 : decode cX1_setBy 12 = .ok (.iload_n 1, 1) := by decide +kernel
theorem dX1_setBy_13 : decode cX1_setBy 13 = .ok (.iaload, 1) := by decide +kernel
theorem dX1_setBy_14 : decode cX1_setBy 14 = .ok (.tableswitch 62 2 5 #[30, 38, 46, 54], 30) := by decide +kernel
theorem dX1_setBy_44 : decode cX1_setBy 44 = .ok (.aload_n 3, 1) := by decide +kernel
theorem dX1_setBy_45 : decode cX1_setBy 45 = .ok (.iload 4, 2) := by decide +kernel
theorem dX1_setBy_47 : decode cX1_setBy 47 = .ok (.iconst 0, 1) := by decide +kernel
theorem dX1_setBy_48 : decode cX1_setBy 48 = .ok (.bastore, 1) := by decide +kernel
theorem dX1_setBy_49 : decode cX1_setBy 49 = .ok (.goto 27, 3) := by decide +kernel
theorem dX1_setBy_52 : decode cX1_setBy 52 = .ok (.aload_n 3, 1) := by decide +kernel
theorem dX1_setBy_53 : decode cX1_setBy 53 = .ok (.iload 4, 2) := by decide +kernel
theorem dX1_setBy_55 : decode cX1_setBy 55 = .ok (.iconst 1, 1) := by decide +kernel
theorem dX1_setBy_56 : decode cX1_setBy 56 = .ok (.bastore, 1) := by decide +kernel
theorem dX1_setBy_57 : decode cX1_setBy 57 = .ok (.goto 19, 3) := by decide +kernel
theorem dX1_setBy_60 : decode cX1_setBy 60 = .ok (.aload_n 2, 1) := by decide +kernel
theorem dX1_setBy_61 : decode cX1_setBy 61 = .ok (.iload 4, 2) := by decide +kernel
theorem dX1_setBy_63 : decode cX1_setBy 63 = .ok (.iconst 1, 1) := by decide +kernel
theorem dX1_setBy_64 : decode cX1_setBy 64 = .ok (.iastore, 1) := by decide +kernel
theorem dX1_setBy_65 : decode cX1_setBy 65 = .ok (.goto 11, 3) := by decide +kernel
theorem dX1_setBy_68 : decode cX1_setBy 68 = .ok (.aload_n 2, 1) := by decide +kernel
theorem dX1_setBy_69 : decode cX1_setBy 69 = .ok (.iload 4, 2) := by decide +kernel
theorem dX1_setBy_71 : decode cX1_setBy 71 = .ok (.iconst 2, 1) := by decide +kernel
theorem dX1_setBy_72 : decode cX1_setBy 72 = .ok (.iastore, 1) := by decide +kernel
theorem dX1_setBy_73 : decode cX1_setBy 73 = .ok (.goto 3, 3) := by decide +kernel
theorem dX1_setBy_76 : decode cX1_setBy 76 = .ok (.return_, 1) := by decide +kernel
theorem dX1_dropOldest_0 : decode cX1_dropOldest 0 = .ok (.aload_n 0, 1) := by decide +kernel
theorem dX1_dropOldest_1 : decode cX1_dropOldest 1 = .ok (.iconst 0, 1) := by decide +kernel
theorem dX1_dropOldest_2 : decode cX1_dropOldest 2 = .ok (.aload_n 0, 1) := by decide +kernel
theorem dX1_dropOldest_3 : decode cX1_dropOldest 3 = .ok (.getfield 21, 3) := by decide +kernel
theorem dX1_dropOldest_6 : decode cX1_dropOldest 6 = .ok (.aload_n 0, 1) := by decide +kernel
theorem dX1_dropOldest_7 : decode cX1_dropOldest 7 = .ok (.getfield 24, 3) := by decide +kernel
theorem dX1_dropOldest_10 : decode cX1_dropOldest 10 = .ok (.invokevirtual 50, 3) := by decide +kernel
theorem dX1_dropOldest_13 : decode cX1_dropOldest 13 = .ok (.aload_n 0, 1) := by decide +kernel
theorem dX1_dropOldest_14 : decode cX1_dropOldest 14 = .ok (.bipush 23, 2) := by decide +kernel
theorem dX1_dropOldest_16 : decode cX1_dropOldest 16 = .ok (.putfield 38, 3) := by decide +kernel
theorem dX1_dropOldest_19 : decode cX1_dropOldest 19 = .ok (.aload_n 0, 1) := by decide +kernel
theorem dX1_dropOldest_20 : decode cX1_dropOldest 20 = .ok (.getfield 9, 3) := by decide +kernel
theorem dX1_dropOldest_23 : decode cX1_dropOldest 23 = .ok (.iconst 1, 1) := by decide +kernel
theorem dX1_dropOldest_24 : decode cX1_dropOldest 24 = .ok (.aload_n 0, 1) := by decide +kernel
theorem dX1_dropOldest_25 : decode cX1_dropOldest 25 = .ok (.getfield 9, 3) := by decide +kernel
theorem dX1_dropOldest_28 : decode cX1_dropOldest 28 = .ok (.iconst 0, 1) := by decide +kernel
theorem dX1_dropOldest_29 : decode cX1_dropOldest 29 = .ok (.aload_n 0, 1) := by decide +kernel
theorem dX1_dropOldest_30 : decode cX1_dropOldest 30 = .ok (.getfield 38, 3) := by decide +kernel
theorem dX1_dropOldest_33 : decode cX1_dropOldest 33 = .ok (.invokestatic 41, 3) := by decide +kernel
theorem dX1_dropOldest_36 : decode cX1_dropOldest 36 = .ok (.aload_n 0, 1) := by decide +kernel
theorem dX1_dropOldest_37 : decode cX1_dropOldest 37 = .ok (.getfield 15, 3) := by decide +kernel
theorem dX1_dropOldest_40 : decode cX1_dropOldest 40 = .ok (.iconst 1, 1) := by decide +kernel
theorem dX1_dropOldest_41 : decode cX1_dropOldest 41 = .ok (.aload_n 0, 1) := by decide +kernel
theorem dX1_dropOldest_42 : decode cX1_dropOldest 42 = .ok (.getfield 15, 3) := by decide +kernel
theorem dX1_dropOldest_45 : decode cX1_dropOldest 45 = .ok (.iconst 0, 1) := by decide +kernel
theorem dX1_dropOldest_46 : decode cX1_dropOldest 46 = .ok (.aload_n 0, 1) := by decide +kernel
theorem dX1_dropOldest_47 : decode cX1_dropOldest 47 = .ok (.getfield 38, 3) := by decide +kernel
theorem dX1_dropOldest_50 : decode cX1_dropOldest 50 = .ok (.invokestatic 41, 3) := by decide +kernel
theorem dX1_dropOldest_53 : decode cX1_dropOldest 53 = .ok (.aload_n 0, 1) := by decide +kernel
theorem dX1_dropOldest_54 : decode cX1_dropOldest 54 = .ok (.getfield 18, 3) := by decide +kernel
theorem dX1_dropOldest_57 : decode cX1_dropOldest 57 = .ok (.iconst 1, 1) := by decide +kernel
theorem dX1_dropOldest_58 : decode cX1_dropOldest 58 = .ok (.aload_n 0, 1) := by decide +kernel
theorem dX1_dropOldest_59 : decode cX1_dropOldest 59 = .ok (.getfield 18, 3) := by decide +kernel
theorem dX1_dropOldest_62 : decode cX1_dropOldest 62 = .ok (.iconst 0, 1) := by decide +kernel
theorem dX1_dropOldest_63 : decode cX1_dropOldest 63 = .ok (.aload_n 0, 1) := by decide +kernel
theorem dX1_dropOldest_64 : decode cX1_dropOldest 64 = .ok (.getfield 38, 3) := by decide +kernel
theorem dX1_dropOldest_67 : decode cX1_dropOldest 67 = .ok (.invokestatic 41, 3) := by decide +kernel
theorem dX1_dropOldest_70 : decode cX1_dropOldest 70 = .ok (.return_, 1) := by decide +kernel
theorem dX1_write_0 : decode cX1_write 0 = .ok (.aload_n 0, 1) := by decide +kernel
theorem dX1_write_1 : decode cX1_write 1 = .ok (.getfield 38, 3) := by decide +kernel
theorem dX1_write_4 : decode cX1_write 4 = .ok (.bipush 24, 2) := by decide +kernel
theorem dX1_write_6 : decode cX1_write 6 = .ok (.if_icmp .lt 7, 3) := by decide +kernel
theorem dX1_write_9 : decode cX1_write 9 = .ok (.aload_n 0, 1) := by decide +kernel
theorem dX1_write_10 : decode cX1_write 10 = .ok (.invokevirtual 47, 3) := by decide +kernel
theorem dX1_write_13 : decode cX1_write 13 = .ok (.aload_n 0, 1) := by decide +kernel
theorem dX1_write_14 : decode cX1_write 14 = .ok (.getfield 9, 3) := by decide +kernel
theorem dX1_write_17 : decode cX1_write 17 = .ok (.aload_n 0, 1) := by decide +kernel
theorem dX1_write_18 : decode cX1_write 18 = .ok (.getfield 38, 3) := by decide +kernel
theorem dX1_write_21 : decode cX1_write 21 = .ok (.iload_n 1, 1) := by decide +kernel
theorem dX1_write_22 : decode cX1_write 22 = .ok (.iastore, 1) := by decide +kernel
theorem dX1_write_23 : decode cX1_write 23 = .ok (.aload_n 0, 1) := by decide +kernel
theorem dX1_write_24 : decode cX1_write 24 = .ok (.getfield 15, 3) := by decide +kernel
theorem dX1_write_27 : decode cX1_write 27 = .ok (.aload_n 0, 1) := by decide +kernel
theorem dX1_write_28 : decode cX1_write 28 = .ok (.getfield 38, 3) := by decide +kernel
theorem dX1_write_31 : decode cX1_write 31 = .ok (.iload_n 2, 1) := by decide +kernel
theorem dX1_write_32 : decode cX1_write 32 = .ok (.iastore, 1) := by decide +kernel
theorem dX1_write_33 : decode cX1_write 33 = .ok (.aload_n 0, 1) := by decide +kernel
theorem dX1_write_34 : decode cX1_write 34 = .ok (.getfield 18, 3) := by decide +kernel
theorem dX1_write_37 : decode cX1_write 37 = .ok (.aload_n 0, 1) := by decide +kernel
theorem dX1_write_38 : decode cX1_write 38 = .ok (.getfield 38, 3) := by decide +kernel
theorem dX1_write_41 : decode cX1_write 41 = .ok (.iload_n 3, 1) := by decide +kernel
theorem dX1_write_42 : decode cX1_write 42 = .ok (.iastore, 1) := by decide +kernel
theorem dX1_write_43 : decode cX1_write 43 = .ok (.aload_n 0, 1) := by decide +kernel
theorem dX1_write_44 : decode cX1_write 44 = .ok (.dup, 1) := by decide +kernel
theorem dX1_write_45 : decode cX1_write 45 = .ok (.getfield 38, 3) := by decide +kernel
theorem dX1_write_48 : decode cX1_write 48 = .ok (.iconst 1, 1) := by decide +kernel
theorem dX1_write_49 : decode cX1_write 49 = .ok (.iadd, 1) := by decide +kernel
theorem dX1_write_50 : decode cX1_write 50 = .ok (.putfield 38, 3) := by decide +kernel
theorem dX1_write_53 : decode cX1_write 53 = .ok (.aload_n 0, 1) := by decide +kernel
theorem dX1_write_54 : decode cX1_write 54 = .ok (.dup, 1) := by decide +kernel
theorem dX1_write_55 : decode cX1_write 55 = .ok (.getfield 34, 3) := by decide +kernel
theorem dX1_write_58 : decode cX1_write 58 = .ok (.iconst 1, 1) := by decide +kernel
theorem dX1_write_59 : decode cX1_write 59 = .ok (.iadd, 1) := by decide +kernel
theorem dX1_write_60 : decode cX1_write 60 = .ok (.putfield 34, 3) := by decide +kernel
theorem dX1_write_63 : decode cX1_write 63 = .ok (.return_, 1) := by decide +kernel
theorem dX1_tell_0 : decode cX1_tell 0 = .ok (.aload_n 0, 1) := by decide +kernel
theorem dX1_tell_1 : decode cX1_tell 1 = .ok (.getfield 21, 3) := by decide +kernel
theorem dX1_tell_4 : decode cX1_tell 4 = .ok (.iconst 0, 1) := by decide +kernel
theorem dX1_tell_5 : decode cX1_tell 5 = .ok (.aload_n 0, 1) := by decide +kernel
theorem dX1_tell_6 : decode cX1_tell 6 = .ok (.getfield 28, 3) := by decide +kernel
theorem dX1_tell_9 : decode cX1_tell 9 = .ok (.iconst 0, 1) := by decide +kernel
theorem dX1_tell_10 : decode cX1_tell 10 = .ok (.bipush 10, 2) := by decide +kernel
theorem dX1_tell_12 : decode cX1_tell 12 = .ok (.invokestatic 41, 3) := by decide +kernel
theorem dX1_tell_15 : decode cX1_tell 15 = .ok (.aload_n 0, 1) := by decide +kernel
theorem dX1_tell_16 : decode cX1_tell 16 = .ok (.getfield 24, 3) := by decide +kernel
theorem dX1_tell_19 : decode cX1_tell 19 = .ok (.iconst 0, 1) := by decide +kernel
theorem dX1_tell_20 : decode cX1_tell 20 = .ok (.aload_n 0, 1) := by decide +kernel
theorem dX1_tell_21 : decode cX1_tell 21 = .ok (.getfield 31, 3) := by decide +kernel
theorem dX1_tell_24 : decode cX1_tell 24 = .ok (.iconst 0, 1) := by decide +kernel
theorem dX1_tell_25 : decode cX1_tell 25 = .ok (.bipush 16, 2) := by decide +kernel
theorem dX1_tell_27 : decode cX1_tell 27 = .ok (.invokestatic 41, 3) := by decide +kernel
theorem dX1_tell_30 : decode cX1_tell 30 = .ok (.iconst 0, 1) := by decide +kernel
theorem dX1_tell_31 : decode cX1_tell 31 = .ok (.istore_n 1, 1) := by decide +kernel
theorem dX1_tell_32 : decode cX1_tell 32 = .ok (.iload_n 1, 1) := by decide +kernel
theorem dX1_tell_33 : decode cX1_tell 33 = .ok (.aload_n 0, 1) := by decide +kernel
theorem dX1_tell_34 : decode cX1_tell 34 = .ok (.getfield 38, 3) := by decide +kernel
theorem dX1_tell_37 : decode cX1_tell 37 = .ok (.if_icmp .ge 22, 3) := by decide +kernel
theorem dX1_tell_40 : decode cX1_tell 40 = .ok (.aload_n 0, 1) := by decide +kernel
theorem dX1_tell_41 : decode cX1_tell 41 = .ok (.iload_n 1, 1) := by decide +kernel
theorem dX1_tell_42 : decode cX1_tell 42 = .ok (.aload_n 0, 1) := by decide +kernel
theorem dX1_tell_43 : decode cX1_tell 43 = .ok (.getfield 28, 3) := by decide +kernel
theorem dX1_tell_46 : decode cX1_tell 46 = .ok (.aload_n 0, 1) := by decide +kernel
theorem dX1_tell_47 : decode cX1_tell 47 = .ok (.getfield 31, 3) := by decide +kernel
theorem dX1_tell_50 : decode cX1_tell 50 = .ok (.invokevirtual 50, 3) := by decide +kernel
theorem dX1_tell_53 : decode cX1_tell 53 = .ok (.iinc 1 1, 3) := by decide +kernel
theorem dX1_tell_56 : decode cX1_tell 56 = .ok (.goto (-24), 3) := by decide +kernel
theorem dX1_tell_59 : decode cX1_tell 59 = .ok (.return_, 1) := by decide +kernel
