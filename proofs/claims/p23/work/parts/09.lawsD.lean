theorem dL_part_0 : decode cL_part 0 = .ok (.iload_n 0, 1) := by decide +kernel
theorem dL_part_1 : decode cL_part 1 = .ok (.ldc 7, 2) := by decide +kernel
theorem dL_part_3 : decode cL_part 3 = .ok (.iand, 1) := by decide +kernel
theorem dL_part_4 : decode cL_part 4 = .ok (.iload_n 1, 1) := by decide +kernel
theorem dL_part_5 : decode cL_part 5 = .ok (.irem, 1) := by decide +kernel
theorem dL_part_6 : decode cL_part 6 = .ok (.ireturn, 1) := by decide +kernel
theorem dL_take_0 : decode cL_take 0 = .ok (.aload_n 0, 1) := by decide +kernel
theorem dL_take_1 : decode cL_take 1 = .ok (.arraylength, 1) := by decide +kernel
theorem dL_take_2 : decode cL_take 2 = .ok (.ifCond .ne 13, 3) := by decide +kernel
theorem dL_take_5 : decode cL_take 5 = .ok (.sipush 7919, 3) := by decide +kernel
theorem dL_take_8 : decode cL_take 8 = .ok (.iload_n 1, 1) := by decide +kernel
theorem dL_take_9 : decode cL_take 9 = .ok (.imul, 1) := by decide +kernel
theorem dL_take_10 : decode cL_take 10 = .ok (.iconst 3, 1) := by decide +kernel
theorem dL_take_11 : decode cL_take 11 = .ok (.iadd, 1) := by decide +kernel
theorem dL_take_12 : decode cL_take 12 = .ok (.goto 27, 3) := by decide +kernel
theorem dL_take_15 : decode cL_take 15 = .ok (.aload_n 0, 1) := by decide +kernel
theorem dL_take_16 : decode cL_take 16 = .ok (.iload_n 1, 1) := by decide +kernel
theorem dL_take_17 : decode cL_take 17 = .ok (.aload_n 0, 1) := by decide +kernel
theorem dL_take_18 : decode cL_take 18 = .ok (.arraylength, 1) := by decide +kernel
theorem dL_take_19 : decode cL_take 19 = .ok (.irem, 1) := by decide +kernel
theorem dL_take_20 : decode cL_take 20 = .ok (.iaload, 1) := by decide +kernel
theorem dL_take_21 : decode cL_take 21 = .ok (.iload_n 1, 1) := by decide +kernel
theorem dL_take_22 : decode cL_take 22 = .ok (.bipush 7, 2) := by decide +kernel
theorem dL_take_24 : decode cL_take 24 = .ok (.irem, 1) := by decide +kernel
theorem dL_take_25 : decode cL_take 25 = .ok (.ishr, 1) := by decide +kernel
theorem dL_take_26 : decode cL_take 26 = .ok (.iload_n 1, 1) := by decide +kernel
theorem dL_take_27 : decode cL_take 27 = .ok (.aload_n 0, 1) := by decide +kernel
theorem dL_take_28 : decode cL_take 28 = .ok (.arraylength, 1) := by decide +kernel
theorem dL_take_29 : decode cL_take 29 = .ok (.idiv, 1) := by decide +kernel
theorem dL_take_30 : decode cL_take 30 = .ok (.bipush 31, 2) := by decide +kernel
theorem dL_take_32 : decode cL_take 32 = .ok (.imul, 1) := by decide +kernel
theorem dL_take_33 : decode cL_take 33 = .ok (.ixor, 1) := by decide +kernel
theorem dL_take_34 : decode cL_take 34 = .ok (.iload_n 1, 1) := by decide +kernel
theorem dL_take_35 : decode cL_take 35 = .ok (.ldc 8, 2) := by decide +kernel
theorem dL_take_37 : decode cL_take 37 = .ok (.imul, 1) := by decide +kernel
theorem dL_take_38 : decode cL_take 38 = .ok (.ixor, 1) := by decide +kernel
theorem dL_take_39 : decode cL_take 39 = .ok (.ireturn, 1) := by decide +kernel
theorem dL_mixed_0 : decode cL_mixed 0 = .ok (.ldc2_w 9, 3) := by decide +kernel
theorem dL_mixed_3 : decode cL_mixed 3 = .ok (.lload_n 0, 1) := by decide +kernel
theorem dL_mixed_4 : decode cL_mixed 4 = .ok (.lmul, 1) := by decide +kernel
theorem dL_mixed_5 : decode cL_mixed 5 = .ok (.lload_n 2, 1) := by decide +kernel
theorem dL_mixed_6 : decode cL_mixed 6 = .ok (.ladd, 1) := by decide +kernel
theorem dL_mixed_7 : decode cL_mixed 7 = .ok (.lreturn, 1) := by decide +kernel
theorem dL_state_0 : decode cL_state 0 = .ok (.ldc2_w 11, 3) := by decide +kernel
theorem dL_state_3 : decode cL_state 3 = .ok (.lstore_n 1, 1) := by decide +kernel
theorem dL_state_4 : decode cL_state 4 = .ok (.iconst 0, 1) := by decide +kernel
theorem dL_state_5 : decode cL_state 5 = .ok (.istore_n 3, 1) := by decide +kernel
theorem dL_state_6 : decode cL_state 6 = .ok (.iload_n 3, 1) := by decide +kernel
theorem dL_state_7 : decode cL_state 7 = .ok (.bipush 14, 2) := by decide +kernel
theorem dL_state_9 : decode cL_state 9 = .ok (.if_icmp .ge 20, 3) := by decide +kernel
theorem dL_state_12 : decode cL_state 12 = .ok (.lload_n 1, 1) := by decide +kernel
theorem dL_state_13 : decode cL_state 13 = .ok (.aload_n 0, 1) := by decide +kernel
theorem dL_state_14 : decode cL_state 14 = .ok (.iload_n 3, 1) := by decide +kernel
theorem dL_state_15 : decode cL_state 15 = .ok (.invokevirtual 13, 3) := by decide +kernel
theorem dL_state_18 : decode cL_state 18 = .ok (.i2l, 1) := by decide +kernel
theorem dL_state_19 : decode cL_state 19 = .ok (.invokestatic 19, 3) := by decide +kernel
theorem dL_state_22 : decode cL_state 22 = .ok (.lstore_n 1, 1) := by decide +kernel
theorem dL_state_23 : decode cL_state 23 = .ok (.iinc 3 1, 3) := by decide +kernel
theorem dL_state_26 : decode cL_state 26 = .ok (.goto (-20), 3) := by decide +kernel
theorem dL_state_29 : decode cL_state 29 = .ok (.iconst 0, 1) := by decide +kernel
theorem dL_state_30 : decode cL_state 30 = .ok (.istore_n 3, 1) := by decide +kernel
theorem dL_state_31 : decode cL_state 31 = .ok (.iload_n 3, 1) := by decide +kernel
theorem dL_state_32 : decode cL_state 32 = .ok (.bipush 11, 2) := by decide +kernel
theorem dL_state_34 : decode cL_state 34 = .ok (.aload_n 0, 1) := by decide +kernel
theorem dL_state_35 : decode cL_state 35 = .ok (.iconst 0, 1) := by decide +kernel
theorem dL_state_36 : decode cL_state 36 = .ok (.invokevirtual 13, 3) := by decide +kernel
theorem dL_state_39 : decode cL_state 39 = .ok (.imul, 1) := by decide +kernel
theorem dL_state_40 : decode cL_state 40 = .ok (.if_icmp .ge 27, 3) := by decide +kernel
theorem dL_state_43 : decode cL_state 43 = .ok (.lload_n 1, 1) := by decide +kernel
theorem dL_state_44 : decode cL_state 44 = .ok (.aload_n 0, 1) := by decide +kernel
theorem dL_state_45 : decode cL_state 45 = .ok (.iload_n 3, 1) := by decide +kernel
theorem dL_state_46 : decode cL_state 46 = .ok (.bipush 11, 2) := by decide +kernel
theorem dL_state_48 : decode cL_state 48 = .ok (.idiv, 1) := by decide +kernel
theorem dL_state_49 : decode cL_state 49 = .ok (.iload_n 3, 1) := by decide +kernel
theorem dL_state_50 : decode cL_state 50 = .ok (.bipush 11, 2) := by decide +kernel
theorem dL_state_52 : decode cL_state 52 = .ok (.irem, 1) := by decide +kernel
theorem dL_state_53 : decode cL_state 53 = .ok (.invokevirtual 25, 3) := by decide +kernel
theorem dL_state_56 : decode cL_state 56 = .ok (.i2l, 1) := by decide +kernel
theorem dL_state_57 : decode cL_state 57 = .ok (.invokestatic 19, 3) := by decide +kernel
theorem dL_state_60 : decode cL_state 60 = .ok (.lstore_n 1, 1) := by decide +kernel
theorem dL_state_61 : decode cL_state 61 = .ok (.iinc 3 1, 3) := by decide +kernel
theorem dL_state_64 : decode cL_state 64 = .ok (.goto (-33), 3) := by decide +kernel
theorem dL_state_67 : decode cL_state 67 = .ok (.iconst 0, 1) := by decide +kernel
theorem dL_state_68 : decode cL_state 68 = .ok (.istore_n 3, 1) := by decide +kernel
theorem dL_state_69 : decode cL_state 69 = .ok (.iload_n 3, 1) := by decide +kernel
theorem dL_state_70 : decode cL_state 70 = .ok (.bipush 6, 2) := by decide +kernel
theorem dL_state_72 : decode cL_state 72 = .ok (.aload_n 0, 1) := by decide +kernel
theorem dL_state_73 : decode cL_state 73 = .ok (.iconst 1, 1) := by decide +kernel
theorem dL_state_74 : decode cL_state 74 = .ok (.invokevirtual 13, 3) := by decide +kernel
theorem dL_state_77 : decode cL_state 77 = .ok (.imul, 1) := by decide +kernel
theorem dL_state_78 : decode cL_state 78 = .ok (.if_icmp .ge 27, 3) := by decide +kernel
theorem dL_state_81 : decode cL_state 81 = .ok (.lload_n 1, 1) := by decide +kernel
theorem dL_state_82 : decode cL_state 82 = .ok (.aload_n 0, 1) := by decide +kernel
theorem dL_state_83 : decode cL_state 83 = .ok (.iload_n 3, 1) := by decide +kernel
theorem dL_state_84 : decode cL_state 84 = .ok (.bipush 6, 2) := by decide +kernel
theorem dL_state_86 : decode cL_state 86 = .ok (.idiv, 1) := by decide +kernel
theorem dL_state_87 : decode cL_state 87 = .ok (.iload_n 3, 1) := by decide +kernel
theorem dL_state_88 : decode cL_state 88 = .ok (.bipush 6, 2) := by decide +kernel
theorem dL_state_90 : decode cL_state 90 = .ok (.irem, 1) := by decide +kernel
theorem dL_state_91 : decode cL_state 91 = .ok (.invokevirtual 29, 3) := by decide +kernel
theorem dL_state_94 : decode cL_state 94 = .ok (.i2l, 1) := by decide +kernel
theorem dL_state_95 : decode cL_state 95 = .ok (.invokestatic 19, 3) := by decide +kernel
theorem dL_state_98 : decode cL_state 98 = .ok (.lstore_n 1, 1) := by decide +kernel
theorem dL_state_99 : decode cL_state 99 = .ok (.iinc 3 1, 3) := by decide +kernel
theorem dL_state_102 : decode cL_state 102 = .ok (.goto (-33), 3) := by decide +kernel
theorem dL_state_105 : decode cL_state 105 = .ok (.iconst 0, 1) := by decide +kernel
theorem dL_state_106 : decode cL_state 106 = .ok (.istore_n 3, 1) := by decide +kernel
theorem dL_state_107 : decode cL_state 107 = .ok (.iload_n 3, 1) := by decide +kernel
theorem dL_state_108 : decode cL_state 108 = .ok (.iconst 3, 1) := by decide +kernel
theorem dL_state_109 : decode cL_state 109 = .ok (.aload_n 0, 1) := by decide +kernel
theorem dL_state_110 : decode cL_state 110 = .ok (.bipush 10, 2) := by decide +kernel
theorem dL_state_112 : decode cL_state 112 = .ok (.invokevirtual 13, 3) := by decide +kernel
theorem dL_state_115 : decode cL_state 115 = .ok (.imul, 1) := by decide +kernel
theorem dL_state_116 : decode cL_state 116 = .ok (.if_icmp .ge 25, 3) := by decide +kernel
theorem dL_state_119 : decode cL_state 119 = .ok (.lload_n 1, 1) := by decide +kernel
theorem dL_state_120 : decode cL_state 120 = .ok (.aload_n 0, 1) := by decide +kernel
theorem dL_state_121 : decode cL_state 121 = .ok (.iload_n 3, 1) := by decide +kernel
theorem dL_state_122 : decode cL_state 122 = .ok (.iconst 3, 1) := by decide +kernel
theorem dL_state_123 : decode cL_state 123 = .ok (.idiv, 1) := by decide +kernel
theorem dL_state_124 : decode cL_state 124 = .ok (.iload_n 3, 1) := by decide +kernel
theorem dL_state_125 : decode cL_state 125 = .ok (.iconst 3, 1) := by decide +kernel
theorem dL_state_126 : decode cL_state 126 = .ok (.irem, 1) := by decide +kernel
theorem dL_state_127 : decode cL_state 127 = .ok (.invokevirtual 32, 3) := by decide +kernel
theorem dL_state_130 : decode cL_state 130 = .ok (.i2l, 1) := by decide +kernel
theorem dL_state_131 : decode cL_state 131 = .ok (.invokestatic 19, 3) := by decide +kernel
theorem dL_state_134 : decode cL_state 134 = .ok (.lstore_n 1, 1) := by decide +kernel
theorem dL_state_135 : decode cL_state 135 = .ok (.iinc 3 1, 3) := by decide +kernel
theorem dL_state_138 : decode cL_state 138 = .ok (.goto (-31), 3) := by decide +kernel
theorem dL_state_141 : decode cL_state 141 = .ok (.lload_n 1, 1) := by decide +kernel
theorem dL_state_142 : decode cL_state 142 = .ok (.lreturn, 1) := by decide +kernel
theorem dL_refusesPlaces_0 : decode cL_refusesPlaces 0 = .ok (.iconst 0, 1) := by decide +kernel
theorem dL_refusesPlaces_1 : decode cL_refusesPlaces 1 = .ok (.istore_n 1, 1) := by decide +kernel
theorem dL_refusesPlaces_2 : decode cL_refusesPlaces 2 = .ok (.iload_n 1, 1) := by decide +kernel
theorem dL_refusesPlaces_3 : decode cL_refusesPlaces 3 = .ok (.iconst 2, 1) := by decide +kernel
theorem dL_refusesPlaces_4 : decode cL_refusesPlaces 4 = .ok (.if_icmp .ge 194, 3) := by decide +kernel
theorem dL_refusesPlaces_7 : decode cL_refusesPlaces 7 = .ok (.iload_n 1, 1) := by decide +kernel
theorem dL_refusesPlaces_8 : decode cL_refusesPlaces 8 = .ok (.ifCond .ne 11, 3) := by decide +kernel
theorem dL_refusesPlaces_11 : decode cL_refusesPlaces 11 = .ok (.aload_n 0, 1) := by decide +kernel
theorem dL_refusesPlaces_12 : decode cL_refusesPlaces 12 = .ok (.iconst 0, 1) := by decide +kernel
theorem dL_refusesPlaces_13 : decode cL_refusesPlaces 13 = .ok (.invokevirtual 13, 3) := by decide +kernel
theorem dL_refusesPlaces_16 : decode cL_refusesPlaces 16 = .ok (.goto 4, 3) := by decide +kernel
theorem dL_refusesPlaces_19 : decode cL_refusesPlaces 19 = .ok (.iconst (-1), 1) := by decide +kernel
theorem dL_refusesPlaces_20 : decode cL_refusesPlaces 20 = .ok (.istore_n 2, 1) := by decide +kernel
theorem dL_refusesPlaces_21 : decode cL_refusesPlaces 21 = .ok (.iload_n 1, 1) := by decide +kernel
theorem dL_refusesPlaces_22 : decode cL_refusesPlaces 22 = .ok (.ifCond .ne 11, 3) := by decide +kernel
theorem dL_refusesPlaces_25 : decode cL_refusesPlaces 25 = .ok (.aload_n 0, 1) := by decide +kernel
theorem dL_refusesPlaces_26 : decode cL_refusesPlaces 26 = .ok (.iconst 1, 1) := by decide +kernel
theorem dL_refusesPlaces_27 : decode cL_refusesPlaces 27 = .ok (.invokevirtual 13, 3) := by decide +kernel
theorem dL_refusesPlaces_30 : decode cL_refusesPlaces 30 = .ok (.goto 4, 3) := by decide +kernel
theorem dL_refusesPlaces_33 : decode cL_refusesPlaces 33 = .ok (.iconst (-1), 1) := by decide +kernel
theorem dL_refusesPlaces_34 : decode cL_refusesPlaces 34 = .ok (.istore_n 3, 1) := by decide +kernel
theorem dL_refusesPlaces_35 : decode cL_refusesPlaces 35 = .ok (.aload_n 0, 1) := by decide +kernel
theorem dL_refusesPlaces_36 : decode cL_refusesPlaces 36 = .ok (.iload_n 2, 1) := by decide +kernel
theorem dL_refusesPlaces_37 : decode cL_refusesPlaces 37 = .ok (.iconst 0, 1) := by decide +kernel
theorem dL_refusesPlaces_38 : decode cL_refusesPlaces 38 = .ok (.invokevirtual 25, 3) := by decide +kernel
theorem dL_refusesPlaces_41 : decode cL_refusesPlaces 41 = .ok (.iconst (-1), 1) := by decide +kernel
theorem dL_refusesPlaces_42 : decode cL_refusesPlaces 42 = .ok (.if_icmp .ne 87, 3) := by decide +kernel
theorem dL_refusesPlaces_45 : decode cL_refusesPlaces 45 = .ok (.aload_n 0, 1) := by decide +kernel
theorem dL_refusesPlaces_46 : decode cL_refusesPlaces 46 = .ok (.iload_n 2, 1) := by decide +kernel
theorem dL_refusesPlaces_47 : decode cL_refusesPlaces 47 = .ok (.iconst 0, 1) := by decide +kernel
theorem dL_refusesPlaces_48 : decode cL_refusesPlaces 48 = .ok (.invokevirtual 35, 3) := by decide +kernel
theorem dL_refusesPlaces_51 : decode cL_refusesPlaces 51 = .ok (.iconst (-1), 1) := by decide +kernel
theorem dL_refusesPlaces_52 : decode cL_refusesPlaces 52 = .ok (.if_icmp .ne 77, 3) := by decide +kernel
theorem dL_refusesPlaces_55 : decode cL_refusesPlaces 55 = .ok (.aload_n 0, 1) := by decide +kernel
theorem dL_refusesPlaces_56 : decode cL_refusesPlaces 56 = .ok (.iload_n 2, 1) := by decide +kernel
theorem dL_refusesPlaces_57 : decode cL_refusesPlaces 57 = .ok (.invokevirtual 38, 3) := by decide +kernel
theorem dL_refusesPlaces_60 : decode cL_refusesPlaces 60 = .ok (.iconst (-1), 1) := by decide +kernel
theorem dL_refusesPlaces_61 : decode cL_refusesPlaces 61 = .ok (.if_icmp .ne 68, 3) := by decide +kernel
theorem dL_refusesPlaces_64 : decode cL_refusesPlaces 64 = .ok (.aload_n 0, 1) := by decide +kernel
theorem dL_refusesPlaces_65 : decode cL_refusesPlaces 65 = .ok (.iload_n 2, 1) := by decide +kernel
theorem dL_refusesPlaces_66 : decode cL_refusesPlaces 66 = .ok (.iconst 0, 1) := by decide +kernel
theorem dL_refusesPlaces_67 : decode cL_refusesPlaces 67 = .ok (.aload_n 0, 1) := by decide +kernel
theorem dL_refusesPlaces_68 : decode cL_refusesPlaces 68 = .ok (.bipush 8, 2) := by decide +kernel
theorem dL_refusesPlaces_70 : decode cL_refusesPlaces 70 = .ok (.invokevirtual 13, 3) := by decide +kernel
theorem dL_refusesPlaces_73 : decode cL_refusesPlaces 73 = .ok (.invokevirtual 41, 3) := by decide +kernel
theorem dL_refusesPlaces_76 : decode cL_refusesPlaces 76 = .ok (.iconst (-1), 1) := by decide +kernel
theorem dL_refusesPlaces_77 : decode cL_refusesPlaces 77 = .ok (.if_icmp .ne 52, 3) := by decide +kernel
theorem dL_refusesPlaces_80 : decode cL_refusesPlaces 80 = .ok (.aload_n 0, 1) := by decide +kernel
theorem dL_refusesPlaces_81 : decode cL_refusesPlaces 81 = .ok (.iload_n 2, 1) := by decide +kernel
theorem dL_refusesPlaces_82 : decode cL_refusesPlaces 82 = .ok (.iconst 0, 1) := by decide +kernel
theorem dL_refusesPlaces_83 : decode cL_refusesPlaces 83 = .ok (.invokevirtual 45, 3) := by decide +kernel
theorem dL_refusesPlaces_86 : decode cL_refusesPlaces 86 = .ok (.iconst (-1), 1) := by decide +kernel
theorem dL_refusesPlaces_87 : decode cL_refusesPlaces 87 = .ok (.if_icmp .ne 42, 3) := by decide +kernel
theorem dL_refusesPlaces_90 : decode cL_refusesPlaces 90 = .ok (.aload_n 0, 1) := by decide +kernel
theorem dL_refusesPlaces_91 : decode cL_refusesPlaces 91 = .ok (.iload_n 2, 1) := by decide +kernel
theorem dL_refusesPlaces_92 : decode cL_refusesPlaces 92 = .ok (.invokevirtual 48, 3) := by decide +kernel
theorem dL_refusesPlaces_95 : decode cL_refusesPlaces 95 = .ok (.iconst (-1), 1) := by decide +kernel
theorem dL_refusesPlaces_96 : decode cL_refusesPlaces 96 = .ok (.if_icmp .ne 33, 3) := by decide +kernel
theorem dL_refusesPlaces_99 : decode cL_refusesPlaces 99 = .ok (.aload_n 0, 1) := by decide +kernel
theorem dL_refusesPlaces_100 : decode cL_refusesPlaces 100 = .ok (.iload_n 2, 1) := by decide +kernel
theorem dL_refusesPlaces_101 : decode cL_refusesPlaces 101 = .ok (.iconst 0, 1) := by decide +kernel
theorem dL_refusesPlaces_102 : decode cL_refusesPlaces 102 = .ok (.invokevirtual 51, 3) := by decide +kernel
theorem dL_refusesPlaces_105 : decode cL_refusesPlaces 105 = .ok (.iconst (-1), 1) := by decide +kernel
theorem dL_refusesPlaces_106 : decode cL_refusesPlaces 106 = .ok (.if_icmp .ne 23, 3) := by decide +kernel
theorem dL_refusesPlaces_109 : decode cL_refusesPlaces 109 = .ok (.aload_n 0, 1) := by decide +kernel
theorem dL_refusesPlaces_110 : decode cL_refusesPlaces 110 = .ok (.iconst 0, 1) := by decide +kernel
theorem dL_refusesPlaces_111 : decode cL_refusesPlaces 111 = .ok (.iload_n 2, 1) := by decide +kernel
theorem dL_refusesPlaces_112 : decode cL_refusesPlaces 112 = .ok (.invokevirtual 51, 3) := by decide +kernel
theorem dL_refusesPlaces_115 : decode cL_refusesPlaces 115 = .ok (.iconst (-1), 1) := by decide +kernel
theorem dL_refusesPlaces_116 : decode cL_refusesPlaces 116 = .ok (.if_icmp .ne 13, 3) := by decide +kernel
theorem dL_refusesPlaces_119 : decode cL_refusesPlaces 119 = .ok (.aload_n 0, 1) := by decide +kernel
theorem dL_refusesPlaces_120 : decode cL_refusesPlaces 120 = .ok (.iload_n 3, 1) := by decide +kernel
theorem dL_refusesPlaces_121 : decode cL_refusesPlaces 121 = .ok (.iconst 0, 1) := by decide +kernel
theorem dL_refusesPlaces_122 : decode cL_refusesPlaces 122 = .ok (.invokevirtual 29, 3) := by decide +kernel
theorem dL_refusesPlaces_125 : decode cL_refusesPlaces 125 = .ok (.iconst (-1), 1) := by decide +kernel
theorem dL_refusesPlaces_126 : decode cL_refusesPlaces 126 = .ok (.if_icmp .eq 5, 3) := by decide +kernel
theorem dL_refusesPlaces_129 : decode cL_refusesPlaces 129 = .ok (.iconst 0, 1) := by decide +kernel
theorem dL_refusesPlaces_130 : decode cL_refusesPlaces 130 = .ok (.ireturn, 1) := by decide +kernel
theorem dL_refusesPlaces_131 : decode cL_refusesPlaces 131 = .ok (.iconst 0, 1) := by decide +kernel
theorem dL_refusesPlaces_132 : decode cL_refusesPlaces 132 = .ok (.istore 4, 2) := by decide +kernel
theorem dL_refusesPlaces_134 : decode cL_refusesPlaces 134 = .ok (.iload 4, 2) := by decide +kernel
theorem dL_refusesPlaces_136 : decode cL_refusesPlaces 136 = .ok (.bipush 8, 2) := by decide +kernel
theorem dL_refusesPlaces_138 : decode cL_refusesPlaces 138 = .ok (.if_icmp .ge 54, 3) := by decide +kernel
theorem dL_refusesPlaces_141 : decode cL_refusesPlaces 141 = .ok (.iload 4, 2) := by decide +kernel
theorem dL_refusesPlaces_143 : decode cL_refusesPlaces 143 = .ok (.iconst 2, 1) := by decide +kernel
theorem dL_refusesPlaces_144 : decode cL_refusesPlaces 144 = .ok (.if_icmp .eq 9, 3) := by decide +kernel
theorem dL_refusesPlaces_147 : decode cL_refusesPlaces 147 = .ok (.iload 4, 2) := by decide +kernel
theorem dL_refusesPlaces_149 : decode cL_refusesPlaces 149 = .ok (.iconst 3, 1) := by decide +kernel
theorem dL_refusesPlaces_150 : decode cL_refusesPlaces 150 = .ok (.if_icmp .ne 7, 3) := by decide +kernel
theorem dL_refusesPlaces_153 : decode cL_refusesPlaces 153 = .ok (.iload_n 3, 1) := by decide +kernel
theorem dL_refusesPlaces_154 : decode cL_refusesPlaces 154 = .ok (.goto 4, 3) := by decide +kernel
theorem dL_refusesPlaces_157 : decode cL_refusesPlaces 157 = .ok (.iload_n 2, 1) := by decide +kernel
theorem dL_refusesPlaces_158 : decode cL_refusesPlaces 158 = .ok (.istore 5, 2) := by decide +kernel
theorem dL_refusesPlaces_160 : decode cL_refusesPlaces 160 = .ok (.aload_n 0, 1) := by decide +kernel
theorem dL_refusesPlaces_161 : decode cL_refusesPlaces 161 = .ok (.iload 4, 2) := by decide +kernel
theorem dL_refusesPlaces_163 : decode cL_refusesPlaces 163 = .ok (.iload 5, 2) := by decide +kernel
theorem dL_refusesPlaces_165 : decode cL_refusesPlaces 165 = .ok (.invokevirtual 54, 3) := by decide +kernel
theorem dL_refusesPlaces_168 : decode cL_refusesPlaces 168 = .ok (.iconst (-1), 1) := by decide +kernel
theorem dL_refusesPlaces_169 : decode cL_refusesPlaces 169 = .ok (.if_icmp .ne 15, 3) := by decide +kernel
theorem dL_refusesPlaces_172 : decode cL_refusesPlaces 172 = .ok (.aload_n 0, 1) := by decide +kernel
theorem dL_refusesPlaces_173 : decode cL_refusesPlaces 173 = .ok (.iload 4, 2) := by decide +kernel
theorem dL_refusesPlaces_175 : decode cL_refusesPlaces 175 = .ok (.iload 5, 2) := by decide +kernel
theorem dL_refusesPlaces_177 : decode cL_refusesPlaces 177 = .ok (.invokevirtual 57, 3) := by decide +kernel
theorem dL_refusesPlaces_180 : decode cL_refusesPlaces 180 = .ok (.iconst (-1), 1) := by decide +kernel
theorem dL_refusesPlaces_181 : decode cL_refusesPlaces 181 = .ok (.if_icmp .eq 5, 3) := by decide +kernel
theorem dL_refusesPlaces_184 : decode cL_refusesPlaces 184 = .ok (.iconst 0, 1) := by decide +kernel
theorem dL_refusesPlaces_185 : decode cL_refusesPlaces 185 = .ok (.ireturn, 1) := by decide +kernel
theorem dL_refusesPlaces_186 : decode cL_refusesPlaces 186 = .ok (.iinc 4 1, 3) := by decide +kernel
theorem dL_refusesPlaces_189 : decode cL_refusesPlaces 189 = .ok (.goto (-55), 3) := by decide +kernel
theorem dL_refusesPlaces_192 : decode cL_refusesPlaces 192 = .ok (.iinc 1 1, 3) := by decide +kernel
theorem dL_refusesPlaces_195 : decode cL_refusesPlaces 195 = .ok (.goto (-193), 3) := by decide +kernel
theorem dL_refusesPlaces_198 : decode cL_refusesPlaces 198 = .ok (.aload_n 0, 1) := by decide +kernel
theorem dL_refusesPlaces_199 : decode cL_refusesPlaces 199 = .ok (.bipush 8, 2) := by decide +kernel
theorem dL_refusesPlaces_201 : decode cL_refusesPlaces 201 = .ok (.iconst 0, 1) := by decide +kernel
theorem dL_refusesPlaces_202 : decode cL_refusesPlaces 202 = .ok (.invokevirtual 54, 3) := by decide +kernel
theorem dL_refusesPlaces_205 : decode cL_refusesPlaces 205 = .ok (.iconst (-1), 1) := by decide +kernel
theorem dL_refusesPlaces_206 : decode cL_refusesPlaces 206 = .ok (.if_icmp .ne 38, 3) := by decide +kernel
theorem dL_refusesPlaces_209 : decode cL_refusesPlaces 209 = .ok (.aload_n 0, 1) := by decide +kernel
theorem dL_refusesPlaces_210 : decode cL_refusesPlaces 210 = .ok (.iconst (-1), 1) := by decide +kernel
theorem dL_refusesPlaces_211 : decode cL_refusesPlaces 211 = .ok (.iconst 0, 1) := by decide +kernel
theorem dL_refusesPlaces_212 : decode cL_refusesPlaces 212 = .ok (.invokevirtual 54, 3) := by decide +kernel
theorem dL_refusesPlaces_215 : decode cL_refusesPlaces 215 = .ok (.iconst (-1), 1) := by decide +kernel
theorem dL_refusesPlaces_216 : decode cL_refusesPlaces 216 = .ok (.if_icmp .ne 28, 3) := by decide +kernel
theorem dL_refusesPlaces_219 : decode cL_refusesPlaces 219 = .ok (.aload_n 0, 1) := by decide +kernel
theorem dL_refusesPlaces_220 : decode cL_refusesPlaces 220 = .ok (.bipush 8, 2) := by decide +kernel
theorem dL_refusesPlaces_222 : decode cL_refusesPlaces 222 = .ok (.iconst 0, 1) := by decide +kernel
theorem dL_refusesPlaces_223 : decode cL_refusesPlaces 223 = .ok (.invokevirtual 57, 3) := by decide +kernel
theorem dL_refusesPlaces_226 : decode cL_refusesPlaces 226 = .ok (.iconst (-1), 1) := by decide +kernel
theorem dL_refusesPlaces_227 : decode cL_refusesPlaces 227 = .ok (.if_icmp .ne 17, 3) := by decide +kernel
theorem dL_refusesPlaces_230 : decode cL_refusesPlaces 230 = .ok (.aload_n 0, 1) := by decide +kernel
theorem dL_refusesPlaces_231 : decode cL_refusesPlaces 231 = .ok (.iconst (-1), 1) := by decide +kernel
theorem dL_refusesPlaces_232 : decode cL_refusesPlaces 232 = .ok (.iconst 0, 1) := by decide +kernel
theorem dL_refusesPlaces_233 : decode cL_refusesPlaces 233 = .ok (.invokevirtual 57, 3) := by decide +kernel
theorem dL_refusesPlaces_236 : decode cL_refusesPlaces 236 = .ok (.iconst (-1), 1) := by decide +kernel
theorem dL_refusesPlaces_237 : decode cL_refusesPlaces 237 = .ok (.if_icmp .ne 7, 3) := by decide +kernel
theorem dL_refusesPlaces_240 : decode cL_refusesPlaces 240 = .ok (.iconst 1, 1) := by decide +kernel
theorem dL_refusesPlaces_241 : decode cL_refusesPlaces 241 = .ok (.goto 4, 3) := by decide +kernel
theorem dL_refusesPlaces_244 : decode cL_refusesPlaces 244 = .ok (.iconst 0, 1) := by decide +kernel
theorem dL_refusesPlaces_245 : decode cL_refusesPlaces 245 = .ok (.ireturn, 1) := by decide +kernel
theorem dL_refused_0 : decode cL_refused 0 = .ok (.aload_n 0, 1) := by decide +kernel
theorem dL_refused_1 : decode cL_refused 1 = .ok (.invokestatic 60, 3) := by decide +kernel
theorem dL_refused_4 : decode cL_refused 4 = .ok (.aload_n 0, 1) := by decide +kernel
theorem dL_refused_5 : decode cL_refused 5 = .ok (.bipush 14, 2) := by decide +kernel
theorem dL_refused_7 : decode cL_refused 7 = .ok (.invokevirtual 13, 3) := by decide +kernel
theorem dL_refused_10 : decode cL_refused 10 = .ok (.i2l, 1) := by decide +kernel
theorem dL_refused_11 : decode cL_refused 11 = .ok (.invokestatic 19, 3) := by decide +kernel
theorem dL_refused_14 : decode cL_refused 14 = .ok (.aload_n 0, 1) := by decide +kernel
theorem dL_refused_15 : decode cL_refused 15 = .ok (.bipush 15, 2) := by decide +kernel
theorem dL_refused_17 : decode cL_refused 17 = .ok (.invokevirtual 13, 3) := by decide +kernel
theorem dL_refused_20 : decode cL_refused 20 = .ok (.i2l, 1) := by decide +kernel
theorem dL_refused_21 : decode cL_refused 21 = .ok (.invokestatic 19, 3) := by decide +kernel
theorem dL_refused_24 : decode cL_refused 24 = .ok (.lstore_n 1, 1) := by decide +kernel
theorem dL_refused_25 : decode cL_refused 25 = .ok (.aload_n 0, 1) := by decide +kernel
theorem dL_refused_26 : decode cL_refused 26 = .ok (.invokestatic 64, 3) := by decide +kernel
theorem dL_refused_29 : decode cL_refused 29 = .ok (.ifCond .eq 182, 3) := by decide +kernel
theorem dL_refused_32 : decode cL_refused 32 = .ok (.aload_n 0, 1) := by decide +kernel
theorem dL_refused_33 : decode cL_refused 33 = .ok (.iconst 0, 1) := by decide +kernel
theorem dL_refused_34 : decode cL_refused 34 = .ok (.iconst 0, 1) := by decide +kernel
theorem dL_refused_35 : decode cL_refused 35 = .ok (.invokevirtual 68, 3) := by decide +kernel
theorem dL_refused_38 : decode cL_refused 38 = .ok (.iconst (-1), 1) := by decide +kernel
theorem dL_refused_39 : decode cL_refused 39 = .ok (.if_icmp .ne 172, 3) := by decide +kernel
theorem dL_refused_42 : decode cL_refused 42 = .ok (.aload_n 0, 1) := by decide +kernel
theorem dL_refused_43 : decode cL_refused 43 = .ok (.bipush 10, 2) := by decide +kernel
theorem dL_refused_45 : decode cL_refused 45 = .ok (.iconst 0, 1) := by decide +kernel
theorem dL_refused_46 : decode cL_refused 46 = .ok (.invokevirtual 68, 3) := by decide +kernel
theorem dL_refused_49 : decode cL_refused 49 = .ok (.iconst (-1), 1) := by decide +kernel
theorem dL_refused_50 : decode cL_refused 50 = .ok (.if_icmp .ne 161, 3) := by decide +kernel
theorem dL_refused_53 : decode cL_refused 53 = .ok (.aload_n 0, 1) := by decide +kernel
theorem dL_refused_54 : decode cL_refused 54 = .ok (.iconst 1, 1) := by decide +kernel
theorem dL_refused_55 : decode cL_refused 55 = .ok (.iconst 2, 1) := by decide +kernel
theorem dL_refused_56 : decode cL_refused 56 = .ok (.invokevirtual 68, 3) := by decide +kernel
theorem dL_refused_59 : decode cL_refused 59 = .ok (.iconst (-1), 1) := by decide +kernel
theorem dL_refused_60 : decode cL_refused 60 = .ok (.if_icmp .ne 151, 3) := by decide +kernel
theorem dL_refused_63 : decode cL_refused 63 = .ok (.aload_n 0, 1) := by decide +kernel
theorem dL_refused_64 : decode cL_refused 64 = .ok (.iconst 1, 1) := by decide +kernel
theorem dL_refused_65 : decode cL_refused 65 = .ok (.iconst (-1), 1) := by decide +kernel
theorem dL_refused_66 : decode cL_refused 66 = .ok (.invokevirtual 68, 3) := by decide +kernel
theorem dL_refused_69 : decode cL_refused 69 = .ok (.iconst (-1), 1) := by decide +kernel
theorem dL_refused_70 : decode cL_refused 70 = .ok (.if_icmp .ne 141, 3) := by decide +kernel
theorem dL_refused_73 : decode cL_refused 73 = .ok (.aload_n 0, 1) := by decide +kernel
theorem dL_refused_74 : decode cL_refused 74 = .ok (.iconst (-1), 1) := by decide +kernel
theorem dL_refused_75 : decode cL_refused 75 = .ok (.invokevirtual 71, 3) := by decide +kernel
theorem dL_refused_78 : decode cL_refused 78 = .ok (.iconst (-1), 1) := by decide +kernel
theorem dL_refused_79 : decode cL_refused 79 = .ok (.if_icmp .ne 132, 3) := by decide +kernel
theorem dL_refused_82 : decode cL_refused 82 = .ok (.aload_n 0, 1) := by decide +kernel
theorem dL_refused_83 : decode cL_refused 83 = .ok (.bipush 41, 2) := by decide +kernel
theorem dL_refused_85 : decode cL_refused 85 = .ok (.invokevirtual 71, 3) := by decide +kernel
theorem dL_refused_88 : decode cL_refused 88 = .ok (.iconst (-1), 1) := by decide +kernel
theorem dL_refused_89 : decode cL_refused 89 = .ok (.if_icmp .ne 122, 3) := by decide +kernel
theorem dL_refused_92 : decode cL_refused 92 = .ok (.aload_n 0, 1) := by decide +kernel
theorem dL_refused_93 : decode cL_refused 93 = .ok (.iconst (-1), 1) := by decide +kernel
theorem dL_refused_94 : decode cL_refused 94 = .ok (.invokevirtual 13, 3) := by decide +kernel
theorem dL_refused_97 : decode cL_refused 97 = .ok (.iconst (-1), 1) := by decide +kernel
theorem dL_refused_98 : decode cL_refused 98 = .ok (.if_icmp .ne 113, 3) := by decide +kernel
theorem dL_refused_101 : decode cL_refused 101 = .ok (.aload_n 0, 1) := by decide +kernel
theorem dL_refused_102 : decode cL_refused 102 = .ok (.bipush 16, 2) := by decide +kernel
theorem dL_refused_104 : decode cL_refused 104 = .ok (.invokevirtual 13, 3) := by decide +kernel
theorem dL_refused_107 : decode cL_refused 107 = .ok (.iconst (-1), 1) := by decide +kernel
theorem dL_refused_108 : decode cL_refused 108 = .ok (.if_icmp .ne 103, 3) := by decide +kernel
theorem dL_refused_111 : decode cL_refused 111 = .ok (.aload_n 0, 1) := by decide +kernel
theorem dL_refused_112 : decode cL_refused 112 = .ok (.iconst (-1), 1) := by decide +kernel
theorem dL_refused_113 : decode cL_refused 113 = .ok (.iconst 0, 1) := by decide +kernel
theorem dL_refused_114 : decode cL_refused 114 = .ok (.invokevirtual 32, 3) := by decide +kernel
theorem dL_refused_117 : decode cL_refused 117 = .ok (.iconst (-1), 1) := by decide +kernel
theorem dL_refused_118 : decode cL_refused 118 = .ok (.if_icmp .ne 93, 3) := by decide +kernel
theorem dL_refused_121 : decode cL_refused 121 = .ok (.aload_n 0, 1) := by decide +kernel
theorem dL_refused_122 : decode cL_refused 122 = .ok (.iconst 0, 1) := by decide +kernel
theorem dL_refused_123 : decode cL_refused 123 = .ok (.iconst 3, 1) := by decide +kernel
theorem dL_refused_124 : decode cL_refused 124 = .ok (.invokevirtual 32, 3) := by decide +kernel
theorem dL_refused_127 : decode cL_refused 127 = .ok (.iconst (-1), 1) := by decide +kernel
theorem dL_refused_128 : decode cL_refused 128 = .ok (.if_icmp .ne 83, 3) := by decide +kernel
theorem dL_refused_131 : decode cL_refused 131 = .ok (.aload_n 0, 1) := by decide +kernel
theorem dL_refused_132 : decode cL_refused 132 = .ok (.iconst 0, 1) := by decide +kernel
theorem dL_refused_133 : decode cL_refused 133 = .ok (.iconst (-1), 1) := by decide +kernel
theorem dL_refused_134 : decode cL_refused 134 = .ok (.invokevirtual 32, 3) := by decide +kernel
theorem dL_refused_137 : decode cL_refused 137 = .ok (.iconst (-1), 1) := by decide +kernel
theorem dL_refused_138 : decode cL_refused 138 = .ok (.if_icmp .ne 73, 3) := by decide +kernel
theorem dL_refused_141 : decode cL_refused 141 = .ok (.aload_n 0, 1) := by decide +kernel
theorem dL_refused_142 : decode cL_refused 142 = .ok (.bipush 24, 2) := by decide +kernel
theorem dL_refused_144 : decode cL_refused 144 = .ok (.iconst 0, 1) := by decide +kernel
theorem dL_refused_145 : decode cL_refused 145 = .ok (.invokevirtual 32, 3) := by decide +kernel
theorem dL_refused_148 : decode cL_refused 148 = .ok (.bipush (-4), 2) := by decide +kernel
theorem dL_refused_150 : decode cL_refused 150 = .ok (.if_icmp .ne 61, 3) := by decide +kernel
theorem dL_refused_153 : decode cL_refused 153 = .ok (.aload_n 0, 1) := by decide +kernel
theorem dL_refused_154 : decode cL_refused 154 = .ok (.iconst 0, 1) := by decide +kernel
theorem dL_refused_155 : decode cL_refused 155 = .ok (.invokevirtual 74, 3) := by decide +kernel
theorem dL_refused_158 : decode cL_refused 158 = .ok (.iconst (-1), 1) := by decide +kernel
theorem dL_refused_159 : decode cL_refused 159 = .ok (.if_icmp .ne 52, 3) := by decide +kernel
theorem dL_refused_162 : decode cL_refused 162 = .ok (.aload_n 0, 1) := by decide +kernel
theorem dL_refused_163 : decode cL_refused 163 = .ok (.sipush 10001, 3) := by decide +kernel
theorem dL_refused_166 : decode cL_refused 166 = .ok (.invokevirtual 74, 3) := by decide +kernel
theorem dL_refused_169 : decode cL_refused 169 = .ok (.iconst (-1), 1) := by decide +kernel
theorem dL_refused_170 : decode cL_refused 170 = .ok (.if_icmp .ne 41, 3) := by decide +kernel
theorem dL_refused_173 : decode cL_refused 173 = .ok (.aload_n 0, 1) := by decide +kernel
theorem dL_refused_174 : decode cL_refused 174 = .ok (.bipush 31, 2) := by decide +kernel
theorem dL_refused_176 : decode cL_refused 176 = .ok (.invokevirtual 77, 3) := by decide +kernel
theorem dL_refused_179 : decode cL_refused 179 = .ok (.iconst (-1), 1) := by decide +kernel
theorem dL_refused_180 : decode cL_refused 180 = .ok (.if_icmp .ne 31, 3) := by decide +kernel
theorem dL_refused_183 : decode cL_refused 183 = .ok (.aload_n 0, 1) := by decide +kernel
theorem dL_refused_184 : decode cL_refused 184 = .ok (.bipush 127, 2) := by decide +kernel
theorem dL_refused_186 : decode cL_refused 186 = .ok (.invokevirtual 77, 3) := by decide +kernel
theorem dL_refused_189 : decode cL_refused 189 = .ok (.iconst (-1), 1) := by decide +kernel
theorem dL_refused_190 : decode cL_refused 190 = .ok (.if_icmp .ne 21, 3) := by decide +kernel
theorem dL_refused_193 : decode cL_refused 193 = .ok (.aload_n 0, 1) := by decide +kernel
theorem dL_refused_194 : decode cL_refused 194 = .ok (.iconst (-1), 1) := by decide +kernel
theorem dL_refused_195 : decode cL_refused 195 = .ok (.invokevirtual 80, 3) := by decide +kernel
theorem dL_refused_198 : decode cL_refused 198 = .ok (.iconst (-1), 1) := by decide +kernel
theorem dL_refused_199 : decode cL_refused 199 = .ok (.if_icmp .ne 12, 3) := by decide +kernel
theorem dL_refused_202 : decode cL_refused 202 = .ok (.aload_n 0, 1) := by decide +kernel
theorem dL_refused_203 : decode cL_refused 203 = .ok (.iconst 2, 1) := by decide +kernel
theorem dL_refused_204 : decode cL_refused 204 = .ok (.invokevirtual 80, 3) := by decide +kernel
theorem dL_refused_207 : decode cL_refused 207 = .ok (.iconst (-1), 1) := by decide +kernel
theorem dL_refused_208 : decode cL_refused 208 = .ok (.if_icmp .eq 5, 3) := by decide +kernel
theorem dL_refused_211 : decode cL_refused 211 = .ok (.iconst 0, 1) := by decide +kernel
theorem dL_refused_212 : decode cL_refused 212 = .ok (.ireturn, 1) := by decide +kernel
theorem dL_refused_213 : decode cL_refused 213 = .ok (.aload_n 0, 1) := by decide +kernel
theorem dL_refused_214 : decode cL_refused 214 = .ok (.iconst 0, 1) := by decide +kernel
theorem dL_refused_215 : decode cL_refused 215 = .ok (.invokevirtual 13, 3) := by decide +kernel
theorem dL_refused_218 : decode cL_refused 218 = .ok (.ifCond .le 142, 3) := by decide +kernel
theorem dL_refused_221 : decode cL_refused 221 = .ok (.aload_n 0, 1) := by decide +kernel
theorem dL_refused_222 : decode cL_refused 222 = .ok (.iconst 0, 1) := by decide +kernel
theorem dL_refused_223 : decode cL_refused 223 = .ok (.iconst 0, 1) := by decide +kernel
theorem dL_refused_224 : decode cL_refused 224 = .ok (.invokevirtual 51, 3) := by decide +kernel
theorem dL_refused_227 : decode cL_refused 227 = .ok (.iconst (-1), 1) := by decide +kernel
theorem dL_refused_228 : decode cL_refused 228 = .ok (.if_icmp .ne 130, 3) := by decide +kernel
theorem dL_refused_231 : decode cL_refused 231 = .ok (.aload_n 0, 1) := by decide +kernel
theorem dL_refused_232 : decode cL_refused 232 = .ok (.iconst 0, 1) := by decide +kernel
theorem dL_refused_233 : decode cL_refused 233 = .ok (.bipush 11, 2) := by decide +kernel
theorem dL_refused_235 : decode cL_refused 235 = .ok (.invokevirtual 25, 3) := by decide +kernel
theorem dL_refused_238 : decode cL_refused 238 = .ok (.iconst (-1), 1) := by decide +kernel
theorem dL_refused_239 : decode cL_refused 239 = .ok (.if_icmp .ne 119, 3) := by decide +kernel
theorem dL_refused_242 : decode cL_refused 242 = .ok (.aload_n 0, 1) := by decide +kernel
theorem dL_refused_243 : decode cL_refused 243 = .ok (.iconst 0, 1) := by decide +kernel
theorem dL_refused_244 : decode cL_refused 244 = .ok (.iconst (-1), 1) := by decide +kernel
theorem dL_refused_245 : decode cL_refused 245 = .ok (.invokevirtual 25, 3) := by decide +kernel
theorem dL_refused_248 : decode cL_refused 248 = .ok (.iconst (-1), 1) := by decide +kernel
theorem dL_refused_249 : decode cL_refused 249 = .ok (.if_icmp .ne 109, 3) := by decide +kernel
theorem dL_refused_252 : decode cL_refused 252 = .ok (.aload_n 0, 1) := by decide +kernel
theorem dL_refused_253 : decode cL_refused 253 = .ok (.iconst 0, 1) := by decide +kernel
theorem dL_refused_254 : decode cL_refused 254 = .ok (.iconst (-1), 1) := by decide +kernel
theorem dL_refused_255 : decode cL_refused 255 = .ok (.invokevirtual 35, 3) := by decide +kernel
theorem dL_refused_258 : decode cL_refused 258 = .ok (.iconst (-1), 1) := by decide +kernel
theorem dL_refused_259 : decode cL_refused 259 = .ok (.if_icmp .ne 99, 3) := by decide +kernel
theorem dL_refused_262 : decode cL_refused 262 = .ok (.aload_n 0, 1) := by decide +kernel
theorem dL_refused_263 : decode cL_refused 263 = .ok (.iconst 0, 1) := by decide +kernel
theorem dL_refused_264 : decode cL_refused 264 = .ok (.bipush 19, 2) := by decide +kernel
theorem dL_refused_266 : decode cL_refused 266 = .ok (.invokevirtual 35, 3) := by decide +kernel
theorem dL_refused_269 : decode cL_refused 269 = .ok (.bipush (-4), 2) := by decide +kernel
theorem dL_refused_271 : decode cL_refused 271 = .ok (.if_icmp .ne 87, 3) := by decide +kernel
theorem dL_refused_274 : decode cL_refused 274 = .ok (.aload_n 0, 1) := by decide +kernel
theorem dL_refused_275 : decode cL_refused 275 = .ok (.iconst 0, 1) := by decide +kernel
theorem dL_refused_276 : decode cL_refused 276 = .ok (.iconst (-1), 1) := by decide +kernel
theorem dL_refused_277 : decode cL_refused 277 = .ok (.aload_n 0, 1) := by decide +kernel
theorem dL_refused_278 : decode cL_refused 278 = .ok (.bipush 8, 2) := by decide +kernel
theorem dL_refused_280 : decode cL_refused 280 = .ok (.invokevirtual 13, 3) := by decide +kernel
theorem dL_refused_283 : decode cL_refused 283 = .ok (.invokevirtual 41, 3) := by decide +kernel
theorem dL_refused_286 : decode cL_refused 286 = .ok (.iconst (-1), 1) := by decide +kernel
theorem dL_refused_287 : decode cL_refused 287 = .ok (.if_icmp .ne 71, 3) := by decide +kernel
theorem dL_refused_290 : decode cL_refused 290 = .ok (.aload_n 0, 1) := by decide +kernel
theorem dL_refused_291 : decode cL_refused 291 = .ok (.iconst 0, 1) := by decide +kernel
theorem dL_refused_292 : decode cL_refused 292 = .ok (.bipush 51, 2) := by decide +kernel
theorem dL_refused_294 : decode cL_refused 294 = .ok (.aload_n 0, 1) := by decide +kernel
theorem dL_refused_295 : decode cL_refused 295 = .ok (.bipush 8, 2) := by decide +kernel
theorem dL_refused_297 : decode cL_refused 297 = .ok (.invokevirtual 13, 3) := by decide +kernel
theorem dL_refused_300 : decode cL_refused 300 = .ok (.invokevirtual 41, 3) := by decide +kernel
theorem dL_refused_303 : decode cL_refused 303 = .ok (.iconst (-1), 1) := by decide +kernel
theorem dL_refused_304 : decode cL_refused 304 = .ok (.if_icmp .ne 54, 3) := by decide +kernel
theorem dL_refused_307 : decode cL_refused 307 = .ok (.aload_n 0, 1) := by decide +kernel
theorem dL_refused_308 : decode cL_refused 308 = .ok (.iconst 0, 1) := by decide +kernel
theorem dL_refused_309 : decode cL_refused 309 = .ok (.iconst 0, 1) := by decide +kernel
theorem dL_refused_310 : decode cL_refused 310 = .ok (.aload_n 0, 1) := by decide +kernel
theorem dL_refused_311 : decode cL_refused 311 = .ok (.bipush 8, 2) := by decide +kernel
theorem dL_refused_313 : decode cL_refused 313 = .ok (.invokevirtual 13, 3) := by decide +kernel
theorem dL_refused_316 : decode cL_refused 316 = .ok (.iconst 1, 1) := by decide +kernel
theorem dL_refused_317 : decode cL_refused 317 = .ok (.isub, 1) := by decide +kernel
theorem dL_refused_318 : decode cL_refused 318 = .ok (.invokevirtual 41, 3) := by decide +kernel
theorem dL_refused_321 : decode cL_refused 321 = .ok (.iconst (-1), 1) := by decide +kernel
theorem dL_refused_322 : decode cL_refused 322 = .ok (.if_icmp .ne 36, 3) := by decide +kernel
theorem dL_refused_325 : decode cL_refused 325 = .ok (.aload_n 0, 1) := by decide +kernel
theorem dL_refused_326 : decode cL_refused 326 = .ok (.iconst 0, 1) := by decide +kernel
theorem dL_refused_327 : decode cL_refused 327 = .ok (.iconst 0, 1) := by decide +kernel
theorem dL_refused_328 : decode cL_refused 328 = .ok (.ldc 83, 2) := by decide +kernel
theorem dL_refused_330 : decode cL_refused 330 = .ok (.invokevirtual 41, 3) := by decide +kernel
theorem dL_refused_333 : decode cL_refused 333 = .ok (.iconst (-1), 1) := by decide +kernel
theorem dL_refused_334 : decode cL_refused 334 = .ok (.if_icmp .ne 24, 3) := by decide +kernel
theorem dL_refused_337 : decode cL_refused 337 = .ok (.aload_n 0, 1) := by decide +kernel
theorem dL_refused_338 : decode cL_refused 338 = .ok (.iconst 0, 1) := by decide +kernel
theorem dL_refused_339 : decode cL_refused 339 = .ok (.iconst (-1), 1) := by decide +kernel
theorem dL_refused_340 : decode cL_refused 340 = .ok (.invokevirtual 45, 3) := by decide +kernel
theorem dL_refused_343 : decode cL_refused 343 = .ok (.iconst (-1), 1) := by decide +kernel
theorem dL_refused_344 : decode cL_refused 344 = .ok (.if_icmp .ne 14, 3) := by decide +kernel
theorem dL_refused_347 : decode cL_refused 347 = .ok (.aload_n 0, 1) := by decide +kernel
theorem dL_refused_348 : decode cL_refused 348 = .ok (.iconst 0, 1) := by decide +kernel
theorem dL_refused_349 : decode cL_refused 349 = .ok (.bipush 51, 2) := by decide +kernel
theorem dL_refused_351 : decode cL_refused 351 = .ok (.invokevirtual 45, 3) := by decide +kernel
theorem dL_refused_354 : decode cL_refused 354 = .ok (.iconst (-1), 1) := by decide +kernel
theorem dL_refused_355 : decode cL_refused 355 = .ok (.if_icmp .eq 5, 3) := by decide +kernel
theorem dL_refused_358 : decode cL_refused 358 = .ok (.iconst 0, 1) := by decide +kernel
theorem dL_refused_359 : decode cL_refused 359 = .ok (.ireturn, 1) := by decide +kernel
theorem dL_refused_360 : decode cL_refused 360 = .ok (.aload_n 0, 1) := by decide +kernel
theorem dL_refused_361 : decode cL_refused 361 = .ok (.iconst 1, 1) := by decide +kernel
theorem dL_refused_362 : decode cL_refused 362 = .ok (.invokevirtual 13, 3) := by decide +kernel
theorem dL_refused_365 : decode cL_refused 365 = .ok (.ifCond .le 26, 3) := by decide +kernel
theorem dL_refused_368 : decode cL_refused 368 = .ok (.aload_n 0, 1) := by decide +kernel
theorem dL_refused_369 : decode cL_refused 369 = .ok (.iconst 0, 1) := by decide +kernel
theorem dL_refused_370 : decode cL_refused 370 = .ok (.bipush 6, 2) := by decide +kernel
theorem dL_refused_372 : decode cL_refused 372 = .ok (.invokevirtual 29, 3) := by decide +kernel
theorem dL_refused_375 : decode cL_refused 375 = .ok (.iconst (-1), 1) := by decide +kernel
theorem dL_refused_376 : decode cL_refused 376 = .ok (.if_icmp .ne 13, 3) := by decide +kernel
theorem dL_refused_379 : decode cL_refused 379 = .ok (.aload_n 0, 1) := by decide +kernel
theorem dL_refused_380 : decode cL_refused 380 = .ok (.iconst 0, 1) := by decide +kernel
theorem dL_refused_381 : decode cL_refused 381 = .ok (.iconst (-1), 1) := by decide +kernel
theorem dL_refused_382 : decode cL_refused 382 = .ok (.invokevirtual 29, 3) := by decide +kernel
theorem dL_refused_385 : decode cL_refused 385 = .ok (.iconst (-1), 1) := by decide +kernel
theorem dL_refused_386 : decode cL_refused 386 = .ok (.if_icmp .eq 5, 3) := by decide +kernel
theorem dL_refused_389 : decode cL_refused 389 = .ok (.iconst 0, 1) := by decide +kernel
theorem dL_refused_390 : decode cL_refused 390 = .ok (.ireturn, 1) := by decide +kernel
theorem dL_refused_391 : decode cL_refused 391 = .ok (.aload_n 0, 1) := by decide +kernel
theorem dL_refused_392 : decode cL_refused 392 = .ok (.invokestatic 60, 3) := by decide +kernel
theorem dL_refused_395 : decode cL_refused 395 = .ok (.aload_n 0, 1) := by decide +kernel
theorem dL_refused_396 : decode cL_refused 396 = .ok (.bipush 14, 2) := by decide +kernel
theorem dL_refused_398 : decode cL_refused 398 = .ok (.invokevirtual 13, 3) := by decide +kernel
theorem dL_refused_401 : decode cL_refused 401 = .ok (.i2l, 1) := by decide +kernel
theorem dL_refused_402 : decode cL_refused 402 = .ok (.invokestatic 19, 3) := by decide +kernel
theorem dL_refused_405 : decode cL_refused 405 = .ok (.aload_n 0, 1) := by decide +kernel
theorem dL_refused_406 : decode cL_refused 406 = .ok (.bipush 15, 2) := by decide +kernel
theorem dL_refused_408 : decode cL_refused 408 = .ok (.invokevirtual 13, 3) := by decide +kernel
theorem dL_refused_411 : decode cL_refused 411 = .ok (.i2l, 1) := by decide +kernel
theorem dL_refused_412 : decode cL_refused 412 = .ok (.invokestatic 19, 3) := by decide +kernel
theorem dL_refused_415 : decode cL_refused 415 = .ok (.lload_n 1, 1) := by decide +kernel
theorem dL_refused_416 : decode cL_refused 416 = .ok (.lcmp, 1) := by decide +kernel
theorem dL_refused_417 : decode cL_refused 417 = .ok (.ifCond .ne 7, 3) := by decide +kernel
theorem dL_refused_420 : decode cL_refused 420 = .ok (.iconst 1, 1) := by decide +kernel
theorem dL_refused_421 : decode cL_refused 421 = .ok (.goto 4, 3) := by decide +kernel
theorem dL_refused_424 : decode cL_refused 424 = .ok (.iconst 0, 1) := by decide +kernel
theorem dL_refused_425 : decode cL_refused 425 = .ok (.ireturn, 1) := by decide +kernel
theorem dL_types_0 : decode cL_types 0 = .ok (.bipush 7, 2) := by decide +kernel
theorem dL_types_2 : decode cL_types 2 = .ok (.istore_n 3, 1) := by decide +kernel
theorem dL_types_3 : decode cL_types 3 = .ok (.iload_n 3, 1) := by decide +kernel
theorem dL_types_4 : decode cL_types 4 = .ok (.ifCond .lt 34, 3) := by decide +kernel
theorem dL_types_7 : decode cL_types 7 = .ok (.lload_n 1, 1) := by decide +kernel
theorem dL_types_8 : decode cL_types 8 = .ok (.bipush 8, 2) := by decide +kernel
theorem dL_types_10 : decode cL_types 10 = .ok (.iload_n 3, 1) := by decide +kernel
theorem dL_types_11 : decode cL_types 11 = .ok (.imul, 1) := by decide +kernel
theorem dL_types_12 : decode cL_types 12 = .ok (.lshr, 1) := by decide +kernel
theorem dL_types_13 : decode cL_types 13 = .ok (.ldc2_w 84, 3) := by decide +kernel
theorem dL_types_16 : decode cL_types 16 = .ok (.land, 1) := by decide +kernel
theorem dL_types_17 : decode cL_types 17 = .ok (.l2i, 1) := by decide +kernel
theorem dL_types_18 : decode cL_types 18 = .ok (.istore 4, 2) := by decide +kernel
theorem dL_types_20 : decode cL_types 20 = .ok (.iload 4, 2) := by decide +kernel
theorem dL_types_22 : decode cL_types 22 = .ok (.ifCond .eq 10, 3) := by decide +kernel
theorem dL_types_25 : decode cL_types 25 = .ok (.aload_n 0, 1) := by decide +kernel
theorem dL_types_26 : decode cL_types 26 = .ok (.iload 4, 2) := by decide +kernel
theorem dL_types_28 : decode cL_types 28 = .ok (.invokevirtual 77, 3) := by decide +kernel
theorem dL_types_31 : decode cL_types 31 = .ok (.pop, 1) := by decide +kernel
theorem dL_types_32 : decode cL_types 32 = .ok (.iinc 3 (-1), 3) := by decide +kernel
theorem dL_types_35 : decode cL_types 35 = .ok (.goto (-32), 3) := by decide +kernel
theorem dL_types_38 : decode cL_types 38 = .ok (.return_, 1) := by decide +kernel
theorem dL_isFault_0 : decode cL_isFault 0 = .ok (.aload_n 0, 1) := by decide +kernel
theorem dL_isFault_1 : decode cL_isFault 1 = .ok (.invokevirtual 86, 3) := by decide +kernel
theorem dL_isFault_4 : decode cL_isFault 4 = .ok (.pop, 1) := by decide +kernel
theorem dL_isFault_5 : decode cL_isFault 5 = .ok (.aload_n 0, 1) := by decide +kernel
theorem dL_isFault_6 : decode cL_isFault 6 = .ok (.lload_n 1, 1) := by decide +kernel
theorem dL_isFault_7 : decode cL_isFault 7 = .ok (.invokestatic 90, 3) := by decide +kernel
theorem dL_isFault_10 : decode cL_isFault 10 = .ok (.aload_n 0, 1) := by decide +kernel
theorem dL_isFault_11 : decode cL_isFault 11 = .ok (.lload_n 3, 1) := by decide +kernel
theorem dL_isFault_12 : decode cL_isFault 12 = .ok (.invokestatic 90, 3) := by decide +kernel
theorem dL_isFault_15 : decode cL_isFault 15 = .ok (.aload_n 0, 1) := by decide +kernel
theorem dL_isFault_16 : decode cL_isFault 16 = .ok (.lload 5, 2) := by decide +kernel
theorem dL_isFault_18 : decode cL_isFault 18 = .ok (.invokestatic 90, 3) := by decide +kernel
theorem dL_isFault_21 : decode cL_isFault 21 = .ok (.aload_n 0, 1) := by decide +kernel
theorem dL_isFault_22 : decode cL_isFault 22 = .ok (.iconst 0, 1) := by decide +kernel
theorem dL_isFault_23 : decode cL_isFault 23 = .ok (.invokevirtual 80, 3) := by decide +kernel
theorem dL_isFault_26 : decode cL_isFault 26 = .ok (.iload 7, 2) := by decide +kernel
theorem dL_isFault_28 : decode cL_isFault 28 = .ok (.if_icmp .ne 17, 3) := by decide +kernel
theorem dL_isFault_31 : decode cL_isFault 31 = .ok (.aload_n 0, 1) := by decide +kernel
theorem dL_isFault_32 : decode cL_isFault 32 = .ok (.iconst 1, 1) := by decide +kernel
theorem dL_isFault_33 : decode cL_isFault 33 = .ok (.invokevirtual 80, 3) := by decide +kernel
theorem dL_isFault_36 : decode cL_isFault 36 = .ok (.iload 8, 2) := by decide +kernel
theorem dL_isFault_38 : decode cL_isFault 38 = .ok (.if_icmp .ne 7, 3) := by decide +kernel
theorem dL_isFault_41 : decode cL_isFault 41 = .ok (.iconst 1, 1) := by decide +kernel
theorem dL_isFault_42 : decode cL_isFault 42 = .ok (.goto 4, 3) := by decide +kernel
theorem dL_isFault_45 : decode cL_isFault 45 = .ok (.iconst 0, 1) := by decide +kernel
theorem dL_isFault_46 : decode cL_isFault 46 = .ok (.ireturn, 1) := by decide +kernel
