theorem dX0_dropOldest_0 : decode cX0_dropOldest 0 = .ok (.aload_n 0, 1) := by decide +kernel
theorem dX0_dropOldest_1 : decode cX0_dropOldest 1 = .ok (.getfield 11, 3) := by decide +kernel
theorem dX0_dropOldest_4 : decode cX0_dropOldest 4 = .ok (.iconst 0, 1) := by decide +kernel
theorem dX0_dropOldest_5 : decode cX0_dropOldest 5 = .ok (.aaload, 1) := by decide +kernel
theorem dX0_dropOldest_6 : decode cX0_dropOldest 6 = .ok (.astore_n 1, 1) := by decide +kernel
theorem dX0_dropOldest_7 : decode cX0_dropOldest 7 = .ok (.iconst 1, 1) := by decide +kernel
theorem dX0_dropOldest_8 : decode cX0_dropOldest 8 = .ok (.istore_n 2, 1) := by decide +kernel
theorem dX0_dropOldest_9 : decode cX0_dropOldest 9 = .ok (.iload_n 2, 1) := by decide +kernel
theorem dX0_dropOldest_10 : decode cX0_dropOldest 10 = .ok (.iconst 5, 1) := by decide +kernel
theorem dX0_dropOldest_11 : decode cX0_dropOldest 11 = .ok (.if_icmp .ge 23, 3) := by decide +kernel
theorem dX0_dropOldest_14 : decode cX0_dropOldest 14 = .ok (.aload_n 0, 1) := by decide +kernel
theorem dX0_dropOldest_15 : decode cX0_dropOldest 15 = .ok (.getfield 11, 3) := by decide +kernel
theorem dX0_dropOldest_18 : decode cX0_dropOldest 18 = .ok (.iload_n 2, 1) := by decide +kernel
theorem dX0_dropOldest_19 : decode cX0_dropOldest 19 = .ok (.iconst 1, 1) := by decide +kernel
theorem dX0_dropOldest_20 : decode cX0_dropOldest 20 = .ok (.isub, 1) := by decide +kernel
theorem dX0_dropOldest_21 : decode cX0_dropOldest 21 = .ok (.aload_n 0, 1) := by decide +kernel
theorem dX0_dropOldest_22 : decode cX0_dropOldest 22 = .ok (.getfield 11, 3) := by decide +kernel
theorem dX0_dropOldest_25 : decode cX0_dropOldest 25 = .ok (.iload_n 2, 1) := by decide +kernel
theorem dX0_dropOldest_26 : decode cX0_dropOldest 26 = .ok (.aaload, 1) := by decide +kernel
theorem dX0_dropOldest_27 : decode cX0_dropOldest 27 = .ok (.aastore, 1) := by decide +kernel
theorem dX0_dropOldest_28 : decode cX0_dropOldest 28 = .ok (.iinc 2 1, 3) := by decide +kernel
theorem dX0_dropOldest_31 : decode cX0_dropOldest 31 = .ok (.goto (-22), 3) := by decide +kernel
theorem dX0_dropOldest_34 : decode cX0_dropOldest 34 = .ok (.aload_n 0, 1) := by decide +kernel
theorem dX0_dropOldest_35 : decode cX0_dropOldest 35 = .ok (.getfield 11, 3) := by decide +kernel
theorem dX0_dropOldest_38 : decode cX0_dropOldest 38 = .ok (.iconst 4, 1) := by decide +kernel
theorem dX0_dropOldest_39 : decode cX0_dropOldest 39 = .ok (.aload_n 1, 1) := by decide +kernel
theorem dX0_dropOldest_40 : decode cX0_dropOldest 40 = .ok (.aastore, 1) := by decide +kernel
theorem dX0_dropOldest_41 : decode cX0_dropOldest 41 = .ok (.aload_n 0, 1) := by decide +kernel
theorem dX0_dropOldest_42 : decode cX0_dropOldest 42 = .ok (.iconst 4, 1) := by decide +kernel
theorem dX0_dropOldest_43 : decode cX0_dropOldest 43 = .ok (.putfield 18, 3) := by decide +kernel
theorem dX0_dropOldest_46 : decode cX0_dropOldest 46 = .ok (.return_, 1) := by decide +kernel
theorem dX7_copyFrom_0 : decode cX7_copyFrom 0 = .ok (.aload_n 0, 1) := by decide +kernel
theorem dX7_copyFrom_1 : decode cX7_copyFrom 1 = .ok (.getfield 12, 3) := by decide +kernel
theorem dX7_copyFrom_4 : decode cX7_copyFrom 4 = .ok (.aload_n 1, 1) := by decide +kernel
theorem dX7_copyFrom_5 : decode cX7_copyFrom 5 = .ok (.getfield 12, 3) := by decide +kernel
theorem dX7_copyFrom_8 : decode cX7_copyFrom 8 = .ok (.invokevirtual 39, 3) := by decide +kernel
theorem dX7_copyFrom_11 : decode cX7_copyFrom 11 = .ok (.aload_n 0, 1) := by decide +kernel
theorem dX7_copyFrom_12 : decode cX7_copyFrom 12 = .ok (.getfield 21, 3) := by decide +kernel
theorem dX7_copyFrom_15 : decode cX7_copyFrom 15 = .ok (.aload_n 1, 1) := by decide +kernel
theorem dX7_copyFrom_16 : decode cX7_copyFrom 16 = .ok (.getfield 21, 3) := by decide +kernel
theorem dX7_copyFrom_19 : decode cX7_copyFrom 19 = .ok (.invokevirtual 43, 3) := by decide +kernel
theorem dX7_copyFrom_22 : decode cX7_copyFrom 22 = .ok (.aload_n 0, 1) := by decide +kernel
theorem dX7_copyFrom_23 : decode cX7_copyFrom 23 = .ok (.getfield 28, 3) := by decide +kernel
theorem dX7_copyFrom_26 : decode cX7_copyFrom 26 = .ok (.aload_n 1, 1) := by decide +kernel
theorem dX7_copyFrom_27 : decode cX7_copyFrom 27 = .ok (.getfield 28, 3) := by decide +kernel
theorem dX7_copyFrom_30 : decode cX7_copyFrom 30 = .ok (.invokevirtual 46, 3) := by decide +kernel
theorem dX7_copyFrom_33 : decode cX7_copyFrom 33 = .ok (.return_, 1) := by decide +kernel
theorem dX0_keep_0 : decode cX0_keep 0 = .ok (.aload_n 0, 1) := by decide +kernel
theorem dX0_keep_1 : decode cX0_keep 1 = .ok (.getfield 18, 3) := by decide +kernel
theorem dX0_keep_4 : decode cX0_keep 4 = .ok (.iconst 5, 1) := by decide +kernel
theorem dX0_keep_5 : decode cX0_keep 5 = .ok (.if_icmp .lt 7, 3) := by decide +kernel
theorem dX0_keep_8 : decode cX0_keep 8 = .ok (.aload_n 0, 1) := by decide +kernel
theorem dX0_keep_9 : decode cX0_keep 9 = .ok (.invokevirtual 22, 3) := by decide +kernel
theorem dX0_keep_12 : decode cX0_keep 12 = .ok (.aload_n 0, 1) := by decide +kernel
theorem dX0_keep_13 : decode cX0_keep 13 = .ok (.getfield 11, 3) := by decide +kernel
theorem dX0_keep_16 : decode cX0_keep 16 = .ok (.aload_n 0, 1) := by decide +kernel
theorem dX0_keep_17 : decode cX0_keep 17 = .ok (.getfield 18, 3) := by decide +kernel
theorem dX0_keep_20 : decode cX0_keep 20 = .ok (.aaload, 1) := by decide +kernel
theorem dX0_keep_21 : decode cX0_keep 21 = .ok (.aload_n 1, 1) := by decide +kernel
theorem dX0_keep_22 : decode cX0_keep 22 = .ok (.invokevirtual 25, 3) := by decide +kernel
theorem dX0_keep_25 : decode cX0_keep 25 = .ok (.aload_n 0, 1) := by decide +kernel
theorem dX0_keep_26 : decode cX0_keep 26 = .ok (.dup, 1) := by decide +kernel
theorem dX0_keep_27 : decode cX0_keep 27 = .ok (.getfield 18, 3) := by decide +kernel
theorem dX0_keep_30 : decode cX0_keep 30 = .ok (.iconst 1, 1) := by decide +kernel
theorem dX0_keep_31 : decode cX0_keep 31 = .ok (.iadd, 1) := by decide +kernel
theorem dX0_keep_32 : decode cX0_keep 32 = .ok (.putfield 18, 3) := by decide +kernel
theorem dX0_keep_35 : decode cX0_keep 35 = .ok (.return_, 1) := by decide +kernel
theorem dX0_restore_0 : decode cX0_restore 0 = .ok (.aload_n 0, 1) := by decide +kernel
theorem dX0_restore_1 : decode cX0_restore 1 = .ok (.dup, 1) := by decide +kernel
theorem dX0_restore_2 : decode cX0_restore 2 = .ok (.getfield 18, 3) := by decide +kernel
theorem dX0_restore_5 : decode cX0_restore 5 = .ok (.iconst 1, 1) := by decide +kernel
theorem dX0_restore_6 : decode cX0_restore 6 = .ok (.isub, 1) := by decide +kernel
theorem dX0_restore_7 : decode cX0_restore 7 = .ok (.putfield 18, 3) := by decide +kernel
theorem dX0_restore_10 : decode cX0_restore 10 = .ok (.aload_n 1, 1) := by decide +kernel
theorem dX0_restore_11 : decode cX0_restore 11 = .ok (.aload_n 0, 1) := by decide +kernel
theorem dX0_restore_12 : decode cX0_restore 12 = .ok (.getfield 11, 3) := by decide +kernel
theorem dX0_restore_15 : decode cX0_restore 15 = .ok (.aload_n 0, 1) := by decide +kernel
theorem dX0_restore_16 : decode cX0_restore 16 = .ok (.getfield 18, 3) := by decide +kernel
theorem dX0_restore_19 : decode cX0_restore 19 = .ok (.aaload, 1) := by decide +kernel
theorem dX0_restore_20 : decode cX0_restore 20 = .ok (.invokevirtual 25, 3) := by decide +kernel
theorem dX0_restore_23 : decode cX0_restore 23 = .ok (.return_, 1) := by decide +kernel
theorem dX3_add_0 : decode cX3_add 0 = .ok (.aload_n 0, 1) := by decide +kernel
theorem dX3_add_1 : decode cX3_add 1 = .ok (.getfield 9, 3) := by decide +kernel
theorem dX3_add_4 : decode cX3_add 4 = .ok (.aload_n 0, 1) := by decide +kernel
theorem dX3_add_5 : decode cX3_add 5 = .ok (.getfield 18, 3) := by decide +kernel
theorem dX3_add_8 : decode cX3_add 8 = .ok (.iload_n 1, 1) := by decide +kernel
theorem dX3_add_9 : decode cX3_add 9 = .ok (.iastore, 1) := by decide +kernel
theorem dX3_add_10 : decode cX3_add 10 = .ok (.aload_n 0, 1) := by decide +kernel
theorem dX3_add_11 : decode cX3_add 11 = .ok (.getfield 15, 3) := by decide +kernel
theorem dX3_add_14 : decode cX3_add 14 = .ok (.aload_n 0, 1) := by decide +kernel
theorem dX3_add_15 : decode cX3_add 15 = .ok (.getfield 18, 3) := by decide +kernel
theorem dX3_add_18 : decode cX3_add 18 = .ok (.iload_n 2, 1) := by decide +kernel
theorem dX3_add_19 : decode cX3_add 19 = .ok (.iastore, 1) := by decide +kernel
theorem dX3_add_20 : decode cX3_add 20 = .ok (.aload_n 0, 1) := by decide +kernel
theorem dX3_add_21 : decode cX3_add 21 = .ok (.dup, 1) := by decide +kernel
theorem dX3_add_22 : decode cX3_add 22 = .ok (.getfield 18, 3) := by decide +kernel
theorem dX3_add_25 : decode cX3_add 25 = .ok (.iconst 1, 1) := by decide +kernel
theorem dX3_add_26 : decode cX3_add 26 = .ok (.iadd, 1) := by decide +kernel
theorem dX3_add_27 : decode cX3_add 27 = .ok (.putfield 18, 3) := by decide +kernel
theorem dX3_add_30 : decode cX3_add 30 = .ok (.return_, 1) := by decide +kernel
theorem dX3_drawUp_0 : decode cX3_drawUp 0 = .ok (.aload_n 0, 1) := by decide +kernel
theorem dX3_drawUp_1 : decode cX3_drawUp 1 = .ok (.iconst 0, 1) := by decide +kernel
theorem dX3_drawUp_2 : decode cX3_drawUp 2 = .ok (.putfield 18, 3) := by decide +kernel
theorem dX3_drawUp_5 : decode cX3_drawUp 5 = .ok (.aload_n 1, 1) := by decide +kernel
theorem dX3_drawUp_6 : decode cX3_drawUp 6 = .ok (.getfield 22, 3) := by decide +kernel
theorem dX3_drawUp_9 : decode cX3_drawUp 9 = .ok (.getfield 28, 3) := by decide +kernel
theorem dX3_drawUp_12 : decode cX3_drawUp 12 = .ok (.iload_n 2, 1) := by decide +kernel
theorem dX3_drawUp_13 : decode cX3_drawUp 13 = .ok (.baload, 1) := by decide +kernel
theorem dX3_drawUp_14 : decode cX3_drawUp 14 = .ok (.ifCond .ne 9, 3) := by decide +kernel
theorem dX3_drawUp_17 : decode cX3_drawUp 17 = .ok (.aload_n 0, 1) := by decide +kernel
theorem dX3_drawUp_18 : decode cX3_drawUp 18 = .ok (.iconst 0, 1) := by decide +kernel
theorem dX3_drawUp_19 : decode cX3_drawUp 19 = .ok (.iload_n 2, 1) := by decide +kernel
theorem dX3_drawUp_20 : decode cX3_drawUp 20 = .ok (.invokevirtual 34, 3) := by decide +kernel
theorem dX3_drawUp_23 : decode cX3_drawUp 23 = .ok (.aload_n 1, 1) := by decide +kernel
theorem dX3_drawUp_24 : decode cX3_drawUp 24 = .ok (.getfield 38, 3) := by decide +kernel
theorem dX3_drawUp_27 : decode cX3_drawUp 27 = .ok (.getfield 42, 3) := by decide +kernel
theorem dX3_drawUp_30 : decode cX3_drawUp 30 = .ok (.iload_n 2, 1) := by decide +kernel
theorem dX3_drawUp_31 : decode cX3_drawUp 31 = .ok (.iaload, 1) := by decide +kernel
theorem dX3_drawUp_32 : decode cX3_drawUp 32 = .ok (.iconst 2, 1) := by decide +kernel
theorem dX3_drawUp_33 : decode cX3_drawUp 33 = .ok (.if_icmp .ne 9, 3) := by decide +kernel
theorem dX3_drawUp_36 : decode cX3_drawUp 36 = .ok (.aload_n 0, 1) := by decide +kernel
theorem dX3_drawUp_37 : decode cX3_drawUp 37 = .ok (.iconst 4, 1) := by decide +kernel
theorem dX3_drawUp_38 : decode cX3_drawUp 38 = .ok (.iload_n 2, 1) := by decide +kernel
theorem dX3_drawUp_39 : decode cX3_drawUp 39 = .ok (.invokevirtual 34, 3) := by decide +kernel
theorem dX3_drawUp_42 : decode cX3_drawUp 42 = .ok (.iconst 0, 1) := by decide +kernel
theorem dX3_drawUp_43 : decode cX3_drawUp 43 = .ok (.istore_n 3, 1) := by decide +kernel
theorem dX3_drawUp_44 : decode cX3_drawUp 44 = .ok (.iload_n 3, 1) := by decide +kernel
theorem dX3_drawUp_45 : decode cX3_drawUp 45 = .ok (.aload_n 1, 1) := by decide +kernel
theorem dX3_drawUp_46 : decode cX3_drawUp 46 = .ok (.getfield 38, 3) := by decide +kernel
theorem dX3_drawUp_49 : decode cX3_drawUp 49 = .ok (.getfield 47, 3) := by decide +kernel
theorem dX3_drawUp_52 : decode cX3_drawUp 52 = .ok (.if_icmp .ge 27, 3) := by decide +kernel
theorem dX3_drawUp_55 : decode cX3_drawUp 55 = .ok (.aload_n 1, 1) := by decide +kernel
theorem dX3_drawUp_56 : decode cX3_drawUp 56 = .ok (.getfield 38, 3) := by decide +kernel
theorem dX3_drawUp_59 : decode cX3_drawUp 59 = .ok (.iload_n 3, 1) := by decide +kernel
theorem dX3_drawUp_60 : decode cX3_drawUp 60 = .ok (.iload_n 2, 1) := by decide +kernel
theorem dX3_drawUp_61 : decode cX3_drawUp 61 = .ok (.invokevirtual 50, 3) := by decide +kernel
theorem dX3_drawUp_64 : decode cX3_drawUp 64 = .ok (.ifCond .eq 9, 3) := by decide +kernel
theorem dX3_drawUp_67 : decode cX3_drawUp 67 = .ok (.aload_n 0, 1) := by decide +kernel
theorem dX3_drawUp_68 : decode cX3_drawUp 68 = .ok (.iconst 2, 1) := by decide +kernel
theorem dX3_drawUp_69 : decode cX3_drawUp 69 = .ok (.iload_n 3, 1) := by decide +kernel
theorem dX3_drawUp_70 : decode cX3_drawUp 70 = .ok (.invokevirtual 34, 3) := by decide +kernel
theorem dX3_drawUp_73 : decode cX3_drawUp 73 = .ok (.iinc 3 1, 3) := by decide +kernel
theorem dX3_drawUp_76 : decode cX3_drawUp 76 = .ok (.goto (-32), 3) := by decide +kernel
theorem dX3_drawUp_79 : decode cX3_drawUp 79 = .ok (.aload_n 1, 1) := by decide +kernel
theorem dX3_drawUp_80 : decode cX3_drawUp 80 = .ok (.getfield 22, 3) := by decide +kernel
theorem dX3_drawUp_83 : decode cX3_drawUp 83 = .ok (.getfield 54, 3) := by decide +kernel
theorem dX3_drawUp_86 : decode cX3_drawUp 86 = .ok (.iload_n 2, 1) := by decide +kernel
theorem dX3_drawUp_87 : decode cX3_drawUp 87 = .ok (.baload, 1) := by decide +kernel
theorem dX3_drawUp_88 : decode cX3_drawUp 88 = .ok (.ifCond .ne 10, 3) := by decide +kernel
theorem dX3_drawUp_91 : decode cX3_drawUp 91 = .ok (.aload_n 0, 1) := by decide +kernel
theorem dX3_drawUp_92 : decode cX3_drawUp 92 = .ok (.bipush 6, 2) := by decide +kernel
theorem dX3_drawUp_94 : decode cX3_drawUp 94 = .ok (.iload_n 2, 1) := by decide +kernel
theorem dX3_drawUp_95 : decode cX3_drawUp 95 = .ok (.invokevirtual 34, 3) := by decide +kernel
theorem dX3_drawUp_98 : decode cX3_drawUp 98 = .ok (.return_, 1) := by decide +kernel
theorem dX6_characterAt_0 : decode cX6_characterAt 0 = .ok (.iload_n 1, 1) := by decide +kernel
theorem dX6_characterAt_1 : decode cX6_characterAt 1 = .ok (.iconst 0, 1) := by decide +kernel
theorem dX6_characterAt_2 : decode cX6_characterAt 2 = .ok (.aload_n 0, 1) := by decide +kernel
theorem dX6_characterAt_3 : decode cX6_characterAt 3 = .ok (.getfield 35, 3) := by decide +kernel
theorem dX6_characterAt_6 : decode cX6_characterAt 6 = .ok (.iconst 1, 1) := by decide +kernel
theorem dX6_characterAt_7 : decode cX6_characterAt 7 = .ok (.isub, 1) := by decide +kernel
theorem dX6_characterAt_8 : decode cX6_characterAt 8 = .ok (.invokestatic 38, 3) := by decide +kernel
theorem dX6_characterAt_11 : decode cX6_characterAt 11 = .ok (.ifCond .eq 7, 3) := by decide +kernel
theorem dX6_characterAt_14 : decode cX6_characterAt 14 = .ok (.iconst 0, 1) := by decide +kernel
theorem dX6_characterAt_15 : decode cX6_characterAt 15 = .ok (.goto 9, 3) := by decide +kernel
theorem dX6_characterAt_18 : decode cX6_characterAt 18 = .ok (.aload_n 0, 1) := by decide +kernel
theorem dX6_characterAt_19 : decode cX6_characterAt 19 = .ok (.getfield 9, 3) := by decide +kernel
theorem dX6_characterAt_22 : decode cX6_characterAt 22 = .ok (.iload_n 1, 1) := by decide +kernel
theorem dX6_characterAt_23 : decode cX6_characterAt 23 = .ok (.iaload, 1) := by decide +kernel
theorem dX6_characterAt_24 : decode cX6_characterAt 24 = .ok (.ireturn, 1) := by decide +kernel
theorem dX6_digitAt_0 : decode cX6_digitAt 0 = .ok (.aload_n 0, 1) := by decide +kernel
theorem dX6_digitAt_1 : decode cX6_digitAt 1 = .ok (.iload_n 1, 1) := by decide +kernel
theorem dX6_digitAt_2 : decode cX6_digitAt 2 = .ok (.invokevirtual 15, 3) := by decide +kernel
theorem dX6_digitAt_5 : decode cX6_digitAt 5 = .ok (.istore_n 2, 1) := by decide +kernel
theorem dX6_digitAt_6 : decode cX6_digitAt 6 = .ok (.iload_n 2, 1) := by decide +kernel
theorem dX6_digitAt_7 : decode cX6_digitAt 7 = .ok (.bipush 48, 2) := by decide +kernel
theorem dX6_digitAt_9 : decode cX6_digitAt 9 = .ok (.bipush 57, 2) := by decide +kernel
theorem dX6_digitAt_11 : decode cX6_digitAt 11 = .ok (.invokestatic 38, 3) := by decide +kernel
theorem dX6_digitAt_14 : decode cX6_digitAt 14 = .ok (.ifCond .eq 7, 3) := by decide +kernel
theorem dX6_digitAt_17 : decode cX6_digitAt 17 = .ok (.iconst (-1), 1) := by decide +kernel
theorem dX6_digitAt_18 : decode cX6_digitAt 18 = .ok (.goto 7, 3) := by decide +kernel
theorem dX6_digitAt_21 : decode cX6_digitAt 21 = .ok (.iload_n 2, 1) := by decide +kernel
theorem dX6_digitAt_22 : decode cX6_digitAt 22 = .ok (.bipush 48, 2) := by decide +kernel
theorem dX6_digitAt_24 : decode cX6_digitAt 24 = .ok (.isub, 1) := by decide +kernel
theorem dX6_digitAt_25 : decode cX6_digitAt 25 = .ok (.ireturn, 1) := by decide +kernel
theorem dX6_kindOf_0 : decode cX6_kindOf 0 = .ok (.iload_n 0, 1) := by decide +kernel
theorem dX6_kindOf_1 : decode cX6_kindOf 1 = .ok (.tableswitch 113 98 117 #[95, 101, 113, 107, 103, 113, 113, 113, 113, 113, 113, 113, 105, 99, 113, 113, 113, 113, 97, 110], 95) := by decide +kernel
theorem dX6_kindOf_96 : decode cX6_kindOf 96 = .ok (.iconst 0, 1) := by decide +kernel
theorem dX6_kindOf_97 : decode cX6_kindOf 97 = .ok (.ireturn, 1) := by decide +kernel
theorem dX6_kindOf_98 : decode cX6_kindOf 98 = .ok (.iconst 1, 1) := by decide +kernel
theorem dX6_kindOf_99 : decode cX6_kindOf 99 = .ok (.ireturn, 1) := by decide +kernel
theorem dX6_kindOf_100 : decode cX6_kindOf 100 = .ok (.iconst 2, 1) := by decide +kernel
theorem dX6_kindOf_101 : decode cX6_kindOf 101 = .ok (.ireturn, 1) := by decide +kernel
theorem dX6_kindOf_102 : decode cX6_kindOf 102 = .ok (.iconst 3, 1) := by decide +kernel
theorem dX6_kindOf_103 : decode cX6_kindOf 103 = .ok (.ireturn, 1) := by decide +kernel
theorem dX6_kindOf_104 : decode cX6_kindOf 104 = .ok (.iconst 4, 1) := by decide +kernel
theorem dX6_kindOf_105 : decode cX6_kindOf 105 = .ok (.ireturn, 1) := by decide +kernel
theorem dX6_kindOf_106 : decode cX6_kindOf 106 = .ok (.iconst 5, 1) := by decide +kernel
theorem dX6_kindOf_107 : decode cX6_kindOf 107 = .ok (.ireturn, 1) := by decide +kernel
theorem dX6_kindOf_108 : decode cX6_kindOf 108 = .ok (.bipush 6, 2) := by decide +kernel
theorem dX6_kindOf_110 : decode cX6_kindOf 110 = .ok (.ireturn, 1) := by decide +kernel
theorem dX6_kindOf_111 : decode cX6_kindOf 111 = .ok (.bipush 7, 2) := by decide +kernel
theorem dX6_kindOf_113 : decode cX6_kindOf 113 = .ok (.ireturn, 1) := by decide +kernel
theorem dX6_kindOf_114 : decode cX6_kindOf 114 = .ok (.iconst (-1), 1) := by decide +kernel
theorem dX6_kindOf_115 : decode cX6_kindOf 115 = .ok (.ireturn, 1) := by decide +kernel
theorem dX6_readStep_0 : decode cX6_readStep 0 = .ok (.aload_n 0, 1) := by decide +kernel
theorem dX6_readStep_1 : decode cX6_readStep 1 = .ok (.aload_n 0, 1) := by decide +kernel
theorem dX6_readStep_2 : decode cX6_readStep 2 = .ok (.iload_n 1, 1) := by decide +kernel
theorem dX6_readStep_3 : decode cX6_readStep 3 = .ok (.invokevirtual 15, 3) := by decide +kernel
theorem dX6_readStep_6 : decode cX6_readStep 6 = .ok (.invokestatic 19, 3) := by decide +kernel
theorem dX6_readStep_9 : decode cX6_readStep 9 = .ok (.putfield 22, 3) := by decide +kernel
theorem dX6_readStep_12 : decode cX6_readStep 12 = .ok (.aload_n 0, 1) := by decide +kernel
theorem dX6_readStep_13 : decode cX6_readStep 13 = .ok (.iload_n 1, 1) := by decide +kernel
theorem dX6_readStep_14 : decode cX6_readStep 14 = .ok (.iconst 1, 1) := by decide +kernel
theorem dX6_readStep_15 : decode cX6_readStep 15 = .ok (.iadd, 1) := by decide +kernel
theorem dX6_readStep_16 : decode cX6_readStep 16 = .ok (.invokevirtual 26, 3) := by decide +kernel
theorem dX6_readStep_19 : decode cX6_readStep 19 = .ok (.istore_n 2, 1) := by decide +kernel
theorem dX6_readStep_20 : decode cX6_readStep 20 = .ok (.aload_n 0, 1) := by decide +kernel
theorem dX6_readStep_21 : decode cX6_readStep 21 = .ok (.getfield 22, 3) := by decide +kernel
theorem dX6_readStep_24 : decode cX6_readStep 24 = .ok (.iconst (-1), 1) := by decide +kernel
theorem dX6_readStep_25 : decode cX6_readStep 25 = .ok (.if_icmp .eq 8, 3) := by decide +kernel
theorem dX6_readStep_28 : decode cX6_readStep 28 = .ok (.iload_n 2, 1) := by decide +kernel
theorem dX6_readStep_29 : decode cX6_readStep 29 = .ok (.iconst (-1), 1) := by decide +kernel
theorem dX6_readStep_30 : decode cX6_readStep 30 = .ok (.if_icmp .ne 5, 3) := by decide +kernel
theorem dX6_readStep_33 : decode cX6_readStep 33 = .ok (.iconst 0, 1) := by decide +kernel
theorem dX6_readStep_34 : decode cX6_readStep 34 = .ok (.ireturn, 1) := by decide +kernel
theorem dX6_readStep_35 : decode cX6_readStep 35 = .ok (.aload_n 0, 1) := by decide +kernel
theorem dX6_readStep_36 : decode cX6_readStep 36 = .ok (.iload_n 1, 1) := by decide +kernel
theorem dX6_readStep_37 : decode cX6_readStep 37 = .ok (.iconst 2, 1) := by decide +kernel
theorem dX6_readStep_38 : decode cX6_readStep 38 = .ok (.iadd, 1) := by decide +kernel
theorem dX6_readStep_39 : decode cX6_readStep 39 = .ok (.invokevirtual 26, 3) := by decide +kernel
theorem dX6_readStep_42 : decode cX6_readStep 42 = .ok (.istore_n 3, 1) := by decide +kernel
theorem dX6_readStep_43 : decode cX6_readStep 43 = .ok (.iload_n 3, 1) := by decide +kernel
theorem dX6_readStep_44 : decode cX6_readStep 44 = .ok (.iconst (-1), 1) := by decide +kernel
theorem dX6_readStep_45 : decode cX6_readStep 45 = .ok (.if_icmp .eq 7, 3) := by decide +kernel
theorem dX6_readStep_48 : decode cX6_readStep 48 = .ok (.iconst 1, 1) := by decide +kernel
theorem dX6_readStep_49 : decode cX6_readStep 49 = .ok (.goto 4, 3) := by decide +kernel
theorem dX6_readStep_52 : decode cX6_readStep 52 = .ok (.iconst 0, 1) := by decide +kernel
theorem dX6_readStep_53 : decode cX6_readStep 53 = .ok (.istore 4, 2) := by decide +kernel
theorem dX6_readStep_55 : decode cX6_readStep 55 = .ok (.aload_n 0, 1) := by decide +kernel
theorem dX6_readStep_56 : decode cX6_readStep 56 = .ok (.iload 4, 2) := by decide +kernel
theorem dX6_readStep_58 : decode cX6_readStep 58 = .ok (.ifCond .eq 12, 3) := by decide +kernel
theorem dX6_readStep_61 : decode cX6_readStep 61 = .ok (.bipush 10, 2) := by decide +kernel
theorem dX6_readStep_63 : decode cX6_readStep 63 = .ok (.iload_n 2, 1) := by decide +kernel
theorem dX6_readStep_64 : decode cX6_readStep 64 = .ok (.imul, 1) := by decide +kernel
theorem dX6_readStep_65 : decode cX6_readStep 65 = .ok (.iload_n 3, 1) := by decide +kernel
theorem dX6_readStep_66 : decode cX6_readStep 66 = .ok (.iadd, 1) := by decide +kernel
theorem dX6_readStep_67 : decode cX6_readStep 67 = .ok (.goto 4, 3) := by decide +kernel
theorem dX6_readStep_70 : decode cX6_readStep 70 = .ok (.iload_n 2, 1) := by decide +kernel
theorem dX6_readStep_71 : decode cX6_readStep 71 = .ok (.putfield 29, 3) := by decide +kernel
theorem dX6_readStep_74 : decode cX6_readStep 74 = .ok (.aload_n 0, 1) := by decide +kernel
theorem dX6_readStep_75 : decode cX6_readStep 75 = .ok (.iload_n 1, 1) := by decide +kernel
theorem dX6_readStep_76 : decode cX6_readStep 76 = .ok (.iload 4, 2) := by decide +kernel
theorem dX6_readStep_78 : decode cX6_readStep 78 = .ok (.ifCond .eq 7, 3) := by decide +kernel
theorem dX6_readStep_81 : decode cX6_readStep 81 = .ok (.iconst 4, 1) := by decide +kernel
theorem dX6_readStep_82 : decode cX6_readStep 82 = .ok (.goto 4, 3) := by decide +kernel
theorem dX6_readStep_85 : decode cX6_readStep 85 = .ok (.iconst 3, 1) := by decide +kernel
theorem dX6_readStep_86 : decode cX6_readStep 86 = .ok (.iadd, 1) := by decide +kernel
theorem dX6_readStep_87 : decode cX6_readStep 87 = .ok (.putfield 32, 3) := by decide +kernel
theorem dX6_readStep_90 : decode cX6_readStep 90 = .ok (.aload_n 0, 1) := by decide +kernel
theorem dX6_readStep_91 : decode cX6_readStep 91 = .ok (.aload_n 0, 1) := by decide +kernel
theorem dX6_readStep_92 : decode cX6_readStep 92 = .ok (.getfield 32, 3) := by decide +kernel
theorem dX6_readStep_95 : decode cX6_readStep 95 = .ok (.iconst 1, 1) := by decide +kernel
theorem dX6_readStep_96 : decode cX6_readStep 96 = .ok (.isub, 1) := by decide +kernel
theorem dX6_readStep_97 : decode cX6_readStep 97 = .ok (.invokevirtual 15, 3) := by decide +kernel
theorem dX6_readStep_100 : decode cX6_readStep 100 = .ok (.bipush 59, 2) := by decide +kernel
theorem dX6_readStep_102 : decode cX6_readStep 102 = .ok (.if_icmp .ne 7, 3) := by decide +kernel
theorem dX6_readStep_105 : decode cX6_readStep 105 = .ok (.iconst 1, 1) := by decide +kernel
theorem dX6_readStep_106 : decode cX6_readStep 106 = .ok (.goto 4, 3) := by decide +kernel
theorem dX6_readStep_109 : decode cX6_readStep 109 = .ok (.iconst 0, 1) := by decide +kernel
theorem dX6_readStep_110 : decode cX6_readStep 110 = .ok (.ireturn, 1) := by decide +kernel
theorem dX7_hasSection_0 : decode cX7_hasSection 0 = .ok (.iload_n 1, 1) := by decide +kernel
theorem dX7_hasSection_1 : decode cX7_hasSection 1 = .ok (.iconst 0, 1) := by decide +kernel
theorem dX7_hasSection_2 : decode cX7_hasSection 2 = .ok (.aload_n 0, 1) := by decide +kernel
theorem dX7_hasSection_3 : decode cX7_hasSection 3 = .ok (.getfield 12, 3) := by decide +kernel
theorem dX7_hasSection_6 : decode cX7_hasSection 6 = .ok (.getfield 49, 3) := by decide +kernel
theorem dX7_hasSection_9 : decode cX7_hasSection 9 = .ok (.iconst 1, 1) := by decide +kernel
theorem dX7_hasSection_10 : decode cX7_hasSection 10 = .ok (.isub, 1) := by decide +kernel
theorem dX7_hasSection_11 : decode cX7_hasSection 11 = .ok (.invokestatic 53, 3) := by decide +kernel
theorem dX7_hasSection_14 : decode cX7_hasSection 14 = .ok (.ifCond .ne 7, 3) := by decide +kernel
theorem dX7_hasSection_17 : decode cX7_hasSection 17 = .ok (.iconst 1, 1) := by decide +kernel
theorem dX7_hasSection_18 : decode cX7_hasSection 18 = .ok (.goto 4, 3) := by decide +kernel
theorem dX7_hasSection_21 : decode cX7_hasSection 21 = .ok (.iconst 0, 1) := by decide +kernel
theorem dX7_hasSection_22 : decode cX7_hasSection 22 = .ok (.ireturn, 1) := by decide +kernel
theorem dX7_hasIsolator_0 : decode cX7_hasIsolator 0 = .ok (.iload_n 1, 1) := by decide +kernel
theorem dX7_hasIsolator_1 : decode cX7_hasIsolator 1 = .ok (.iconst 0, 1) := by decide +kernel
theorem dX7_hasIsolator_2 : decode cX7_hasIsolator 2 = .ok (.aload_n 0, 1) := by decide +kernel
theorem dX7_hasIsolator_3 : decode cX7_hasIsolator 3 = .ok (.getfield 12, 3) := by decide +kernel
theorem dX7_hasIsolator_6 : decode cX7_hasIsolator 6 = .ok (.getfield 57, 3) := by decide +kernel
theorem dX7_hasIsolator_9 : decode cX7_hasIsolator 9 = .ok (.iconst 1, 1) := by decide +kernel
theorem dX7_hasIsolator_10 : decode cX7_hasIsolator 10 = .ok (.isub, 1) := by decide +kernel
theorem dX7_hasIsolator_11 : decode cX7_hasIsolator 11 = .ok (.invokestatic 53, 3) := by decide +kernel
theorem dX7_hasIsolator_14 : decode cX7_hasIsolator 14 = .ok (.ifCond .ne 7, 3) := by decide +kernel
theorem dX7_hasIsolator_17 : decode cX7_hasIsolator 17 = .ok (.iconst 1, 1) := by decide +kernel
theorem dX7_hasIsolator_18 : decode cX7_hasIsolator 18 = .ok (.goto 4, 3) := by decide +kernel
theorem dX7_hasIsolator_21 : decode cX7_hasIsolator 21 = .ok (.iconst 0, 1) := by decide +kernel
theorem dX7_hasIsolator_22 : decode cX7_hasIsolator 22 = .ok (.ireturn, 1) := by decide +kernel
theorem dX7_hasPlace_0 : decode cX7_hasPlace 0 = .ok (.iload_n 1, 1) := by decide +kernel
theorem dX7_hasPlace_1 : decode cX7_hasPlace 1 = .ok (.iconst 0, 1) := by decide +kernel
theorem dX7_hasPlace_2 : decode cX7_hasPlace 2 = .ok (.bipush 7, 2) := by decide +kernel
theorem dX7_hasPlace_4 : decode cX7_hasPlace 4 = .ok (.invokestatic 53, 3) := by decide +kernel
theorem dX7_hasPlace_7 : decode cX7_hasPlace 7 = .ok (.ifCond .eq 5, 3) := by decide +kernel
theorem dX7_hasPlace_10 : decode cX7_hasPlace 10 = .ok (.iconst 0, 1) := by decide +kernel
theorem dX7_hasPlace_11 : decode cX7_hasPlace 11 = .ok (.ireturn, 1) := by decide +kernel
theorem dX7_hasPlace_12 : decode cX7_hasPlace 12 = .ok (.iload_n 1, 1) := by decide +kernel
theorem dX7_hasPlace_13 : decode cX7_hasPlace 13 = .ok (.iconst 2, 1) := by decide +kernel
theorem dX7_hasPlace_14 : decode cX7_hasPlace 14 = .ok (.if_icmp .eq 8, 3) := by decide +kernel
theorem dX7_hasPlace_17 : decode cX7_hasPlace 17 = .ok (.iload_n 1, 1) := by decide +kernel
theorem dX7_hasPlace_18 : decode cX7_hasPlace 18 = .ok (.iconst 3, 1) := by decide +kernel
theorem dX7_hasPlace_19 : decode cX7_hasPlace 19 = .ok (.if_icmp .ne 11, 3) := by decide +kernel
theorem dX7_hasPlace_22 : decode cX7_hasPlace 22 = .ok (.aload_n 0, 1) := by decide +kernel
theorem dX7_hasPlace_23 : decode cX7_hasPlace 23 = .ok (.iload_n 2, 1) := by decide +kernel
theorem dX7_hasPlace_24 : decode cX7_hasPlace 24 = .ok (.invokevirtual 60, 3) := by decide +kernel
theorem dX7_hasPlace_27 : decode cX7_hasPlace 27 = .ok (.goto 8, 3) := by decide +kernel
theorem dX7_hasPlace_30 : decode cX7_hasPlace 30 = .ok (.aload_n 0, 1) := by decide +kernel
theorem dX7_hasPlace_31 : decode cX7_hasPlace 31 = .ok (.iload_n 2, 1) := by decide +kernel
theorem dX7_hasPlace_32 : decode cX7_hasPlace 32 = .ok (.invokevirtual 64, 3) := by decide +kernel
theorem dX7_hasPlace_35 : decode cX7_hasPlace 35 = .ok (.ireturn, 1) := by decide +kernel
theorem dX7_addSection_0 : decode cX7_addSection 0 = .ok (.aload_n 0, 1) := by decide +kernel
theorem dX7_addSection_1 : decode cX7_addSection 1 = .ok (.getfield 12, 3) := by decide +kernel
theorem dX7_addSection_4 : decode cX7_addSection 4 = .ok (.getfield 49, 3) := by decide +kernel
theorem dX7_addSection_7 : decode cX7_addSection 7 = .ok (.istore_n 3, 1) := by decide +kernel
theorem dX7_addSection_8 : decode cX7_addSection 8 = .ok (.aload_n 0, 1) := by decide +kernel
theorem dX7_addSection_9 : decode cX7_addSection 9 = .ok (.getfield 12, 3) := by decide +kernel
theorem dX7_addSection_12 : decode cX7_addSection 12 = .ok (.dup, 1) := by decide +kernel
theorem dX7_addSection_13 : decode cX7_addSection 13 = .ok (.getfield 49, 3) := by decide +kernel
theorem dX7_addSection_16 : decode cX7_addSection 16 = .ok (.iconst 1, 1) := by decide +kernel
theorem dX7_addSection_17 : decode cX7_addSection 17 = .ok (.iadd, 1) := by decide +kernel
theorem dX7_addSection_18 : decode cX7_addSection 18 = .ok (.putfield 49, 3) := by decide +kernel
theorem dX7_addSection_21 : decode cX7_addSection 21 = .ok (.aload_n 0, 1) := by decide +kernel
theorem dX7_addSection_22 : decode cX7_addSection 22 = .ok (.getfield 21, 3) := by decide +kernel
theorem dX7_addSection_25 : decode cX7_addSection 25 = .ok (.getfield 67, 3) := by decide +kernel
theorem dX7_addSection_28 : decode cX7_addSection 28 = .ok (.iload_n 3, 1) := by decide +kernel
theorem dX7_addSection_29 : decode cX7_addSection 29 = .ok (.iload_n 1, 1) := by decide +kernel
theorem dX7_addSection_30 : decode cX7_addSection 30 = .ok (.iastore, 1) := by decide +kernel
theorem dX7_addSection_31 : decode cX7_addSection 31 = .ok (.aload_n 0, 1) := by decide +kernel
theorem dX7_addSection_32 : decode cX7_addSection 32 = .ok (.getfield 28, 3) := by decide +kernel
theorem dX7_addSection_35 : decode cX7_addSection 35 = .ok (.getfield 71, 3) := by decide +kernel
theorem dX7_addSection_38 : decode cX7_addSection 38 = .ok (.iload_n 3, 1) := by decide +kernel
theorem dX7_addSection_39 : decode cX7_addSection 39 = .ok (.iload_n 2, 1) := by decide +kernel
theorem dX7_addSection_40 : decode cX7_addSection 40 = .ok (.iastore, 1) := by decide +kernel
theorem dX7_addSection_41 : decode cX7_addSection 41 = .ok (.aload_n 0, 1) := by decide +kernel
theorem dX7_addSection_42 : decode cX7_addSection 42 = .ok (.getfield 12, 3) := by decide +kernel
theorem dX7_addSection_45 : decode cX7_addSection 45 = .ok (.getfield 74, 3) := by decide +kernel
theorem dX7_addSection_48 : decode cX7_addSection 48 = .ok (.iload_n 3, 1) := by decide +kernel
theorem dX7_addSection_49 : decode cX7_addSection 49 = .ok (.iload_n 3, 1) := by decide +kernel
theorem dX7_addSection_50 : decode cX7_addSection 50 = .ok (.iastore, 1) := by decide +kernel
theorem dX7_addSection_51 : decode cX7_addSection 51 = .ok (.aload_n 0, 1) := by decide +kernel
theorem dX7_addSection_52 : decode cX7_addSection 52 = .ok (.getfield 12, 3) := by decide +kernel
theorem dX7_addSection_55 : decode cX7_addSection 55 = .ok (.iload_n 3, 1) := by decide +kernel
theorem dX7_addSection_56 : decode cX7_addSection 56 = .ok (.iload_n 2, 1) := by decide +kernel
theorem dX7_addSection_57 : decode cX7_addSection 57 = .ok (.invokevirtual 77, 3) := by decide +kernel
theorem dX7_addSection_60 : decode cX7_addSection 60 = .ok (.iload_n 3, 1) := by decide +kernel
theorem dX7_addSection_61 : decode cX7_addSection 61 = .ok (.ireturn, 1) := by decide +kernel
theorem dX7_addIsolator_0 : decode cX7_addIsolator 0 = .ok (.aload_n 0, 1) := by decide +kernel
theorem dX7_addIsolator_1 : decode cX7_addIsolator 1 = .ok (.getfield 12, 3) := by decide +kernel
theorem dX7_addIsolator_4 : decode cX7_addIsolator 4 = .ok (.getfield 57, 3) := by decide +kernel
theorem dX7_addIsolator_7 : decode cX7_addIsolator 7 = .ok (.istore_n 3, 1) := by decide +kernel
theorem dX7_addIsolator_8 : decode cX7_addIsolator 8 = .ok (.aload_n 0, 1) := by decide +kernel
theorem dX7_addIsolator_9 : decode cX7_addIsolator 9 = .ok (.getfield 12, 3) := by decide +kernel
theorem dX7_addIsolator_12 : decode cX7_addIsolator 12 = .ok (.dup, 1) := by decide +kernel
theorem dX7_addIsolator_13 : decode cX7_addIsolator 13 = .ok (.getfield 57, 3) := by decide +kernel
theorem dX7_addIsolator_16 : decode cX7_addIsolator 16 = .ok (.iconst 1, 1) := by decide +kernel
theorem dX7_addIsolator_17 : decode cX7_addIsolator 17 = .ok (.iadd, 1) := by decide +kernel
theorem dX7_addIsolator_18 : decode cX7_addIsolator 18 = .ok (.putfield 57, 3) := by decide +kernel
theorem dX7_addIsolator_21 : decode cX7_addIsolator 21 = .ok (.aload_n 0, 1) := by decide +kernel
theorem dX7_addIsolator_22 : decode cX7_addIsolator 22 = .ok (.getfield 12, 3) := by decide +kernel
theorem dX7_addIsolator_25 : decode cX7_addIsolator 25 = .ok (.getfield 81, 3) := by decide +kernel
theorem dX7_addIsolator_28 : decode cX7_addIsolator 28 = .ok (.iload_n 3, 1) := by decide +kernel
theorem dX7_addIsolator_29 : decode cX7_addIsolator 29 = .ok (.iload_n 1, 1) := by decide +kernel
theorem dX7_addIsolator_30 : decode cX7_addIsolator 30 = .ok (.iastore, 1) := by decide +kernel
theorem dX7_addIsolator_31 : decode cX7_addIsolator 31 = .ok (.aload_n 0, 1) := by decide +kernel
theorem dX7_addIsolator_32 : decode cX7_addIsolator 32 = .ok (.getfield 12, 3) := by decide +kernel
theorem dX7_addIsolator_35 : decode cX7_addIsolator 35 = .ok (.getfield 84, 3) := by decide +kernel
theorem dX7_addIsolator_38 : decode cX7_addIsolator 38 = .ok (.iload_n 3, 1) := by decide +kernel
theorem dX7_addIsolator_39 : decode cX7_addIsolator 39 = .ok (.iload_n 2, 1) := by decide +kernel
theorem dX7_addIsolator_40 : decode cX7_addIsolator 40 = .ok (.iastore, 1) := by decide +kernel
theorem dX7_addIsolator_41 : decode cX7_addIsolator 41 = .ok (.aload_n 0, 1) := by decide +kernel
theorem dX7_addIsolator_42 : decode cX7_addIsolator 42 = .ok (.getfield 28, 3) := by decide +kernel
theorem dX7_addIsolator_45 : decode cX7_addIsolator 45 = .ok (.getfield 87, 3) := by decide +kernel
theorem dX7_addIsolator_48 : decode cX7_addIsolator 48 = .ok (.iload_n 3, 1) := by decide +kernel
theorem dX7_addIsolator_49 : decode cX7_addIsolator 49 = .ok (.iconst 1, 1) := by decide +kernel
theorem dX7_addIsolator_50 : decode cX7_addIsolator 50 = .ok (.bastore, 1) := by decide +kernel
theorem dX7_addIsolator_51 : decode cX7_addIsolator 51 = .ok (.aload_n 0, 1) := by decide +kernel
theorem dX7_addIsolator_52 : decode cX7_addIsolator 52 = .ok (.getfield 12, 3) := by decide +kernel
theorem dX7_addIsolator_55 : decode cX7_addIsolator 55 = .ok (.iload_n 3, 1) := by decide +kernel
theorem dX7_addIsolator_56 : decode cX7_addIsolator 56 = .ok (.iconst 1, 1) := by decide +kernel
theorem dX7_addIsolator_57 : decode cX7_addIsolator 57 = .ok (.invokevirtual 90, 3) := by decide +kernel
theorem dX7_addIsolator_60 : decode cX7_addIsolator 60 = .ok (.iload_n 3, 1) := by decide +kernel
theorem dX7_addIsolator_61 : decode cX7_addIsolator 61 = .ok (.ireturn, 1) := by decide +kernel
theorem dX7_joiningEndangers_0 : decode cX7_joiningEndangers 0 = .ok (.iconst 0, 1) := by decide +kernel
theorem dX7_joiningEndangers_1 : decode cX7_joiningEndangers 1 = .ok (.istore_n 3, 1) := by decide +kernel
theorem dX7_joiningEndangers_2 : decode cX7_joiningEndangers 2 = .ok (.iload_n 3, 1) := by decide +kernel
theorem dX7_joiningEndangers_3 : decode cX7_joiningEndangers 3 = .ok (.aload_n 0, 1) := by decide +kernel
theorem dX7_joiningEndangers_4 : decode cX7_joiningEndangers 4 = .ok (.getfield 12, 3) := by decide +kernel
theorem dX7_joiningEndangers_7 : decode cX7_joiningEndangers 7 = .ok (.getfield 49, 3) := by decide +kernel
theorem dX7_joiningEndangers_10 : decode cX7_joiningEndangers 10 = .ok (.if_icmp .ge 131, 3) := by decide +kernel
theorem dX7_joiningEndangers_13 : decode cX7_joiningEndangers 13 = .ok (.aload_n 0, 1) := by decide +kernel
theorem dX7_joiningEndangers_14 : decode cX7_joiningEndangers 14 = .ok (.getfield 21, 3) := by decide +kernel
theorem dX7_joiningEndangers_17 : decode cX7_joiningEndangers 17 = .ok (.getfield 94, 3) := by decide +kernel
theorem dX7_joiningEndangers_20 : decode cX7_joiningEndangers 20 = .ok (.iload_n 3, 1) := by decide +kernel
theorem dX7_joiningEndangers_21 : decode cX7_joiningEndangers 21 = .ok (.baload, 1) := by decide +kernel
theorem dX7_joiningEndangers_22 : decode cX7_joiningEndangers 22 = .ok (.ifCond .ne 15, 3) := by decide +kernel
theorem dX7_joiningEndangers_25 : decode cX7_joiningEndangers 25 = .ok (.aload_n 0, 1) := by decide +kernel
theorem dX7_joiningEndangers_26 : decode cX7_joiningEndangers 26 = .ok (.getfield 21, 3) := by decide +kernel
theorem dX7_joiningEndangers_29 : decode cX7_joiningEndangers 29 = .ok (.getfield 97, 3) := by decide +kernel
theorem dX7_joiningEndangers_32 : decode cX7_joiningEndangers 32 = .ok (.iload_n 3, 1) := by decide +kernel
theorem dX7_joiningEndangers_33 : decode cX7_joiningEndangers 33 = .ok (.iaload, 1) := by decide +kernel
theorem dX7_joiningEndangers_34 : decode cX7_joiningEndangers 34 = .ok (.ifCond .le 7, 3) := by decide +kernel
theorem dX7_joiningEndangers_37 : decode cX7_joiningEndangers 37 = .ok (.iconst 1, 1) := by decide +kernel
theorem dX7_joiningEndangers_38 : decode cX7_joiningEndangers 38 = .ok (.goto 4, 3) := by decide +kernel
theorem dX7_joiningEndangers_41 : decode cX7_joiningEndangers 41 = .ok (.iconst 0, 1) := by decide +kernel
theorem dX7_joiningEndangers_42 : decode cX7_joiningEndangers 42 = .ok (.istore 4, 2) := by decide +kernel
theorem dX7_joiningEndangers_44 : decode cX7_joiningEndangers 44 = .ok (.aload_n 0, 1) := by decide +kernel
theorem dX7_joiningEndangers_45 : decode cX7_joiningEndangers 45 = .ok (.getfield 12, 3) := by decide +kernel
theorem dX7_joiningEndangers_48 : decode cX7_joiningEndangers 48 = .ok (.getfield 100, 3) := by decide +kernel
theorem dX7_joiningEndangers_51 : decode cX7_joiningEndangers 51 = .ok (.iload_n 2, 1) := by decide +kernel
theorem dX7_joiningEndangers_52 : decode cX7_joiningEndangers 52 = .ok (.baload, 1) := by decide +kernel
theorem dX7_joiningEndangers_53 : decode cX7_joiningEndangers 53 = .ok (.ifCond .eq 19, 3) := by decide +kernel
theorem dX7_joiningEndangers_56 : decode cX7_joiningEndangers 56 = .ok (.aload_n 0, 1) := by decide +kernel
theorem dX7_joiningEndangers_57 : decode cX7_joiningEndangers 57 = .ok (.getfield 12, 3) := by decide +kernel
theorem dX7_joiningEndangers_60 : decode cX7_joiningEndangers 60 = .ok (.iload_n 3, 1) := by decide +kernel
theorem dX7_joiningEndangers_61 : decode cX7_joiningEndangers 61 = .ok (.iload_n 1, 1) := by decide +kernel
theorem dX7_joiningEndangers_62 : decode cX7_joiningEndangers 62 = .ok (.invokevirtual 103, 3) := by decide +kernel
theorem dX7_joiningEndangers_65 : decode cX7_joiningEndangers 65 = .ok (.ifCond .eq 7, 3) := by decide +kernel
theorem dX7_joiningEndangers_68 : decode cX7_joiningEndangers 68 = .ok (.iconst 1, 1) := by decide +kernel
theorem dX7_joiningEndangers_69 : decode cX7_joiningEndangers 69 = .ok (.goto 4, 3) := by decide +kernel
theorem dX7_joiningEndangers_72 : decode cX7_joiningEndangers 72 = .ok (.iconst 0, 1) := by decide +kernel
theorem dX7_joiningEndangers_73 : decode cX7_joiningEndangers 73 = .ok (.istore 5, 2) := by decide +kernel
theorem dX7_joiningEndangers_75 : decode cX7_joiningEndangers 75 = .ok (.aload_n 0, 1) := by decide +kernel
theorem dX7_joiningEndangers_76 : decode cX7_joiningEndangers 76 = .ok (.getfield 12, 3) := by decide +kernel
theorem dX7_joiningEndangers_79 : decode cX7_joiningEndangers 79 = .ok (.getfield 100, 3) := by decide +kernel
theorem dX7_joiningEndangers_82 : decode cX7_joiningEndangers 82 = .ok (.iload_n 1, 1) := by decide +kernel
theorem dX7_joiningEndangers_83 : decode cX7_joiningEndangers 83 = .ok (.baload, 1) := by decide +kernel
theorem dX7_joiningEndangers_84 : decode cX7_joiningEndangers 84 = .ok (.ifCond .eq 19, 3) := by decide +kernel
theorem dX7_joiningEndangers_87 : decode cX7_joiningEndangers 87 = .ok (.aload_n 0, 1) := by decide +kernel
theorem dX7_joiningEndangers_88 : decode cX7_joiningEndangers 88 = .ok (.getfield 12, 3) := by decide +kernel
theorem dX7_joiningEndangers_91 : decode cX7_joiningEndangers 91 = .ok (.iload_n 3, 1) := by decide +kernel
theorem dX7_joiningEndangers_92 : decode cX7_joiningEndangers 92 = .ok (.iload_n 2, 1) := by decide +kernel
theorem dX7_joiningEndangers_93 : decode cX7_joiningEndangers 93 = .ok (.invokevirtual 103, 3) := by decide +kernel
theorem dX7_joiningEndangers_96 : decode cX7_joiningEndangers 96 = .ok (.ifCond .eq 7, 3) := by decide +kernel
theorem dX7_joiningEndangers_99 : decode cX7_joiningEndangers 99 = .ok (.iconst 1, 1) := by decide +kernel
theorem dX7_joiningEndangers_100 : decode cX7_joiningEndangers 100 = .ok (.goto 4, 3) := by decide +kernel
theorem dX7_joiningEndangers_103 : decode cX7_joiningEndangers 103 = .ok (.iconst 0, 1) := by decide +kernel
theorem dX7_joiningEndangers_104 : decode cX7_joiningEndangers 104 = .ok (.istore 6, 2) := by decide +kernel
theorem dX7_joiningEndangers_106 : decode cX7_joiningEndangers 106 = .ok (.iload 4, 2) := by decide +kernel
theorem dX7_joiningEndangers_108 : decode cX7_joiningEndangers 108 = .ok (.ifCond .eq 27, 3) := by decide +kernel
theorem dX7_joiningEndangers_111 : decode cX7_joiningEndangers 111 = .ok (.aload_n 0, 1) := by decide +kernel
theorem dX7_joiningEndangers_112 : decode cX7_joiningEndangers 112 = .ok (.getfield 12, 3) := by decide +kernel
theorem dX7_joiningEndangers_115 : decode cX7_joiningEndangers 115 = .ok (.getfield 100, 3) := by decide +kernel
theorem dX7_joiningEndangers_118 : decode cX7_joiningEndangers 118 = .ok (.iload_n 3, 1) := by decide +kernel
theorem dX7_joiningEndangers_119 : decode cX7_joiningEndangers 119 = .ok (.baload, 1) := by decide +kernel
theorem dX7_joiningEndangers_120 : decode cX7_joiningEndangers 120 = .ok (.ifCond .ne 15, 3) := by decide +kernel
theorem dX7_joiningEndangers_123 : decode cX7_joiningEndangers 123 = .ok (.iload 5, 2) := by decide +kernel
theorem dX7_joiningEndangers_125 : decode cX7_joiningEndangers 125 = .ok (.ifCond .ne 8, 3) := by decide +kernel
theorem dX7_joiningEndangers_128 : decode cX7_joiningEndangers 128 = .ok (.iload 6, 2) := by decide +kernel
theorem dX7_joiningEndangers_130 : decode cX7_joiningEndangers 130 = .ok (.ifCond .eq 5, 3) := by decide +kernel
theorem dX7_joiningEndangers_133 : decode cX7_joiningEndangers 133 = .ok (.iconst 1, 1) := by decide +kernel
theorem dX7_joiningEndangers_134 : decode cX7_joiningEndangers 134 = .ok (.ireturn, 1) := by decide +kernel
theorem dX7_joiningEndangers_135 : decode cX7_joiningEndangers 135 = .ok (.iinc 3 1, 3) := by decide +kernel
theorem dX7_joiningEndangers_138 : decode cX7_joiningEndangers 138 = .ok (.goto (-136), 3) := by decide +kernel
theorem dX7_joiningEndangers_141 : decode cX7_joiningEndangers 141 = .ok (.iconst 0, 1) := by decide +kernel
theorem dX7_joiningEndangers_142 : decode cX7_joiningEndangers 142 = .ok (.ireturn, 1) := by decide +kernel
theorem dX7_supposeIsolator_0 : decode cX7_supposeIsolator 0 = .ok (.aload_n 0, 1) := by decide +kernel
theorem dX7_supposeIsolator_1 : decode cX7_supposeIsolator 1 = .ok (.getfield 32, 3) := by decide +kernel
theorem dX7_supposeIsolator_4 : decode cX7_supposeIsolator 4 = .ok (.aload_n 0, 1) := by decide +kernel
theorem dX7_supposeIsolator_5 : decode cX7_supposeIsolator 5 = .ok (.getfield 12, 3) := by decide +kernel
theorem dX7_supposeIsolator_8 : decode cX7_supposeIsolator 8 = .ok (.invokevirtual 39, 3) := by decide +kernel
theorem dX7_supposeIsolator_11 : decode cX7_supposeIsolator 11 = .ok (.aload_n 0, 1) := by decide +kernel
theorem dX7_supposeIsolator_12 : decode cX7_supposeIsolator 12 = .ok (.getfield 32, 3) := by decide +kernel
theorem dX7_supposeIsolator_15 : decode cX7_supposeIsolator 15 = .ok (.iload_n 1, 1) := by decide +kernel
theorem dX7_supposeIsolator_16 : decode cX7_supposeIsolator 16 = .ok (.iload_n 2, 1) := by decide +kernel
theorem dX7_supposeIsolator_17 : decode cX7_supposeIsolator 17 = .ok (.invokevirtual 90, 3) := by decide +kernel
theorem dX7_supposeIsolator_20 : decode cX7_supposeIsolator 20 = .ok (.return_, 1) := by decide +kernel
theorem dX7_wouldDarken_0 : decode cX7_wouldDarken 0 = .ok (.aload_n 0, 1) := by decide +kernel
theorem dX7_wouldDarken_1 : decode cX7_wouldDarken 1 = .ok (.getfield 12, 3) := by decide +kernel
theorem dX7_wouldDarken_4 : decode cX7_wouldDarken 4 = .ok (.getfield 100, 3) := by decide +kernel
theorem dX7_wouldDarken_7 : decode cX7_wouldDarken 7 = .ok (.iload_n 1, 1) := by decide +kernel
theorem dX7_wouldDarken_8 : decode cX7_wouldDarken 8 = .ok (.baload, 1) := by decide +kernel
theorem dX7_wouldDarken_9 : decode cX7_wouldDarken 9 = .ok (.ifCond .eq 19, 3) := by decide +kernel
theorem dX7_wouldDarken_12 : decode cX7_wouldDarken 12 = .ok (.aload_n 0, 1) := by decide +kernel
theorem dX7_wouldDarken_13 : decode cX7_wouldDarken 13 = .ok (.getfield 32, 3) := by decide +kernel
theorem dX7_wouldDarken_16 : decode cX7_wouldDarken 16 = .ok (.getfield 100, 3) := by decide +kernel
theorem dX7_wouldDarken_19 : decode cX7_wouldDarken 19 = .ok (.iload_n 1, 1) := by decide +kernel
theorem dX7_wouldDarken_20 : decode cX7_wouldDarken 20 = .ok (.baload, 1) := by decide +kernel
theorem dX7_wouldDarken_21 : decode cX7_wouldDarken 21 = .ok (.ifCond .ne 7, 3) := by decide +kernel
theorem dX7_wouldDarken_24 : decode cX7_wouldDarken 24 = .ok (.iconst 1, 1) := by decide +kernel
theorem dX7_wouldDarken_25 : decode cX7_wouldDarken 25 = .ok (.goto 4, 3) := by decide +kernel
theorem dX7_wouldDarken_28 : decode cX7_wouldDarken 28 = .ok (.iconst 0, 1) := by decide +kernel
theorem dX7_wouldDarken_29 : decode cX7_wouldDarken 29 = .ok (.ireturn, 1) := by decide +kernel
theorem dX7_darkenedByOpening_0 : decode cX7_darkenedByOpening 0 = .ok (.aload_n 0, 1) := by decide +kernel
theorem dX7_darkenedByOpening_1 : decode cX7_darkenedByOpening 1 = .ok (.iload_n 1, 1) := by decide +kernel
theorem dX7_darkenedByOpening_2 : decode cX7_darkenedByOpening 2 = .ok (.iconst 0, 1) := by decide +kernel
theorem dX7_darkenedByOpening_3 : decode cX7_darkenedByOpening 3 = .ok (.invokevirtual 107, 3) := by decide +kernel
theorem dX7_darkenedByOpening_6 : decode cX7_darkenedByOpening 6 = .ok (.iconst 0, 1) := by decide +kernel
theorem dX7_darkenedByOpening_7 : decode cX7_darkenedByOpening 7 = .ok (.istore_n 2, 1) := by decide +kernel
theorem dX7_darkenedByOpening_8 : decode cX7_darkenedByOpening 8 = .ok (.iconst 0, 1) := by decide +kernel
theorem dX7_darkenedByOpening_9 : decode cX7_darkenedByOpening 9 = .ok (.istore_n 3, 1) := by decide +kernel
theorem dX7_darkenedByOpening_10 : decode cX7_darkenedByOpening 10 = .ok (.iload_n 3, 1) := by decide +kernel
theorem dX7_darkenedByOpening_11 : decode cX7_darkenedByOpening 11 = .ok (.aload_n 0, 1) := by decide +kernel
theorem dX7_darkenedByOpening_12 : decode cX7_darkenedByOpening 12 = .ok (.getfield 12, 3) := by decide +kernel
theorem dX7_darkenedByOpening_15 : decode cX7_darkenedByOpening 15 = .ok (.getfield 49, 3) := by decide +kernel
theorem dX7_darkenedByOpening_18 : decode cX7_darkenedByOpening 18 = .ok (.if_icmp .ge 20, 3) := by decide +kernel
theorem dX7_darkenedByOpening_21 : decode cX7_darkenedByOpening 21 = .ok (.aload_n 0, 1) := by decide +kernel
theorem dX7_darkenedByOpening_22 : decode cX7_darkenedByOpening 22 = .ok (.iload_n 3, 1) := by decide +kernel
theorem dX7_darkenedByOpening_23 : decode cX7_darkenedByOpening 23 = .ok (.invokevirtual 110, 3) := by decide +kernel
theorem dX7_darkenedByOpening_26 : decode cX7_darkenedByOpening 26 = .ok (.ifCond .eq 6, 3) := by decide +kernel
theorem dX7_darkenedByOpening_29 : decode cX7_darkenedByOpening 29 = .ok (.iinc 2 1, 3) := by decide +kernel
theorem dX7_darkenedByOpening_32 : decode cX7_darkenedByOpening 32 = .ok (.iinc 3 1, 3) := by decide +kernel
theorem dX7_darkenedByOpening_35 : decode cX7_darkenedByOpening 35 = .ok (.goto (-25), 3) := by decide +kernel
theorem dX7_darkenedByOpening_38 : decode cX7_darkenedByOpening 38 = .ok (.iload_n 2, 1) := by decide +kernel
theorem dX7_darkenedByOpening_39 : decode cX7_darkenedByOpening 39 = .ok (.ireturn, 1) := by decide +kernel
theorem dX7_wouldLight_0 : decode cX7_wouldLight 0 = .ok (.aload_n 0, 1) := by decide +kernel
theorem dX7_wouldLight_1 : decode cX7_wouldLight 1 = .ok (.getfield 12, 3) := by decide +kernel
theorem dX7_wouldLight_4 : decode cX7_wouldLight 4 = .ok (.getfield 100, 3) := by decide +kernel
theorem dX7_wouldLight_7 : decode cX7_wouldLight 7 = .ok (.iload_n 1, 1) := by decide +kernel
theorem dX7_wouldLight_8 : decode cX7_wouldLight 8 = .ok (.baload, 1) := by decide +kernel
theorem dX7_wouldLight_9 : decode cX7_wouldLight 9 = .ok (.ifCond .ne 19, 3) := by decide +kernel
theorem dX7_wouldLight_12 : decode cX7_wouldLight 12 = .ok (.aload_n 0, 1) := by decide +kernel
theorem dX7_wouldLight_13 : decode cX7_wouldLight 13 = .ok (.getfield 32, 3) := by decide +kernel
theorem dX7_wouldLight_16 : decode cX7_wouldLight 16 = .ok (.getfield 100, 3) := by decide +kernel
theorem dX7_wouldLight_19 : decode cX7_wouldLight 19 = .ok (.iload_n 1, 1) := by decide +kernel
theorem dX7_wouldLight_20 : decode cX7_wouldLight 20 = .ok (.baload, 1) := by decide +kernel
theorem dX7_wouldLight_21 : decode cX7_wouldLight 21 = .ok (.ifCond .eq 7, 3) := by decide +kernel
theorem dX7_wouldLight_24 : decode cX7_wouldLight 24 = .ok (.iconst 1, 1) := by decide +kernel
theorem dX7_wouldLight_25 : decode cX7_wouldLight 25 = .ok (.goto 4, 3) := by decide +kernel
theorem dX7_wouldLight_28 : decode cX7_wouldLight 28 = .ok (.iconst 0, 1) := by decide +kernel
theorem dX7_wouldLight_29 : decode cX7_wouldLight 29 = .ok (.ireturn, 1) := by decide +kernel
theorem dX7_litByClosing_0 : decode cX7_litByClosing 0 = .ok (.aload_n 0, 1) := by decide +kernel
theorem dX7_litByClosing_1 : decode cX7_litByClosing 1 = .ok (.iload_n 1, 1) := by decide +kernel
theorem dX7_litByClosing_2 : decode cX7_litByClosing 2 = .ok (.iconst 1, 1) := by decide +kernel
theorem dX7_litByClosing_3 : decode cX7_litByClosing 3 = .ok (.invokevirtual 107, 3) := by decide +kernel
theorem dX7_litByClosing_6 : decode cX7_litByClosing 6 = .ok (.iconst 0, 1) := by decide +kernel
theorem dX7_litByClosing_7 : decode cX7_litByClosing 7 = .ok (.istore_n 2, 1) := by decide +kernel
theorem dX7_litByClosing_8 : decode cX7_litByClosing 8 = .ok (.iconst 0, 1) := by decide +kernel
theorem dX7_litByClosing_9 : decode cX7_litByClosing 9 = .ok (.istore_n 3, 1) := by decide +kernel
theorem dX7_litByClosing_10 : decode cX7_litByClosing 10 = .ok (.iload_n 3, 1) := by decide +kernel
theorem dX7_litByClosing_11 : decode cX7_litByClosing 11 = .ok (.aload_n 0, 1) := by decide +kernel
theorem dX7_litByClosing_12 : decode cX7_litByClosing 12 = .ok (.getfield 12, 3) := by decide +kernel
theorem dX7_litByClosing_15 : decode cX7_litByClosing 15 = .ok (.getfield 49, 3) := by decide +kernel
theorem dX7_litByClosing_18 : decode cX7_litByClosing 18 = .ok (.if_icmp .ge 20, 3) := by decide +kernel
theorem dX7_litByClosing_21 : decode cX7_litByClosing 21 = .ok (.aload_n 0, 1) := by decide +kernel
theorem dX7_litByClosing_22 : decode cX7_litByClosing 22 = .ok (.iload_n 3, 1) := by decide +kernel
theorem dX7_litByClosing_23 : decode cX7_litByClosing 23 = .ok (.invokevirtual 113, 3) := by decide +kernel
theorem dX7_litByClosing_26 : decode cX7_litByClosing 26 = .ok (.ifCond .eq 6, 3) := by decide +kernel
theorem dX7_litByClosing_29 : decode cX7_litByClosing 29 = .ok (.iinc 2 1, 3) := by decide +kernel
theorem dX7_litByClosing_32 : decode cX7_litByClosing 32 = .ok (.iinc 3 1, 3) := by decide +kernel
theorem dX7_litByClosing_35 : decode cX7_litByClosing 35 = .ok (.goto (-25), 3) := by decide +kernel
theorem dX7_litByClosing_38 : decode cX7_litByClosing 38 = .ok (.iload_n 2, 1) := by decide +kernel
theorem dX7_litByClosing_39 : decode cX7_litByClosing 39 = .ok (.ireturn, 1) := by decide +kernel
theorem dX7_isClosedByLog_0 : decode cX7_isClosedByLog 0 = .ok (.aload_n 0, 1) := by decide +kernel
theorem dX7_isClosedByLog_1 : decode cX7_isClosedByLog 1 = .ok (.getfield 28, 3) := by decide +kernel
theorem dX7_isClosedByLog_4 : decode cX7_isClosedByLog 4 = .ok (.invokevirtual 116, 3) := by decide +kernel
theorem dX7_isClosedByLog_7 : decode cX7_isClosedByLog 7 = .ok (.aload_n 0, 1) := by decide +kernel
theorem dX7_isClosedByLog_8 : decode cX7_isClosedByLog 8 = .ok (.getfield 28, 3) := by decide +kernel
theorem dX7_isClosedByLog_11 : decode cX7_isClosedByLog 11 = .ok (.getfield 119, 3) := by decide +kernel
theorem dX7_isClosedByLog_14 : decode cX7_isClosedByLog 14 = .ok (.iload_n 1, 1) := by decide +kernel
theorem dX7_isClosedByLog_15 : decode cX7_isClosedByLog 15 = .ok (.baload, 1) := by decide +kernel
theorem dX7_isClosedByLog_16 : decode cX7_isClosedByLog 16 = .ok (.ireturn, 1) := by decide +kernel
theorem dX7_goOutward_0 : decode cX7_goOutward 0 = .ok (.iconst 0, 1) := by decide +kernel
theorem dX7_goOutward_1 : decode cX7_goOutward 1 = .ok (.istore_n 1, 1) := by decide +kernel
theorem dX7_goOutward_2 : decode cX7_goOutward 2 = .ok (.iload_n 1, 1) := by decide +kernel
theorem dX7_goOutward_3 : decode cX7_goOutward 3 = .ok (.aload_n 0, 1) := by decide +kernel
theorem dX7_goOutward_4 : decode cX7_goOutward 4 = .ok (.getfield 12, 3) := by decide +kernel
theorem dX7_goOutward_7 : decode cX7_goOutward 7 = .ok (.getfield 57, 3) := by decide +kernel
theorem dX7_goOutward_10 : decode cX7_goOutward 10 = .ok (.if_icmp .ge 73, 3) := by decide +kernel
theorem dX7_goOutward_13 : decode cX7_goOutward 13 = .ok (.aload_n 0, 1) := by decide +kernel
theorem dX7_goOutward_14 : decode cX7_goOutward 14 = .ok (.getfield 12, 3) := by decide +kernel
theorem dX7_goOutward_17 : decode cX7_goOutward 17 = .ok (.getfield 81, 3) := by decide +kernel
theorem dX7_goOutward_20 : decode cX7_goOutward 20 = .ok (.iload_n 1, 1) := by decide +kernel
theorem dX7_goOutward_21 : decode cX7_goOutward 21 = .ok (.iaload, 1) := by decide +kernel
theorem dX7_goOutward_22 : decode cX7_goOutward 22 = .ok (.istore_n 2, 1) := by decide +kernel
theorem dX7_goOutward_23 : decode cX7_goOutward 23 = .ok (.aload_n 0, 1) := by decide +kernel
theorem dX7_goOutward_24 : decode cX7_goOutward 24 = .ok (.getfield 12, 3) := by decide +kernel
theorem dX7_goOutward_27 : decode cX7_goOutward 27 = .ok (.getfield 84, 3) := by decide +kernel
theorem dX7_goOutward_30 : decode cX7_goOutward 30 = .ok (.iload_n 1, 1) := by decide +kernel
theorem dX7_goOutward_31 : decode cX7_goOutward 31 = .ok (.iaload, 1) := by decide +kernel
theorem dX7_goOutward_32 : decode cX7_goOutward 32 = .ok (.istore_n 3, 1) := by decide +kernel
theorem dX7_goOutward_33 : decode cX7_goOutward 33 = .ok (.aload_n 0, 1) := by decide +kernel
theorem dX7_goOutward_34 : decode cX7_goOutward 34 = .ok (.getfield 28, 3) := by decide +kernel
theorem dX7_goOutward_37 : decode cX7_goOutward 37 = .ok (.getfield 119, 3) := by decide +kernel
theorem dX7_goOutward_40 : decode cX7_goOutward 40 = .ok (.iload_n 1, 1) := by decide +kernel
theorem dX7_goOutward_41 : decode cX7_goOutward 41 = .ok (.baload, 1) := by decide +kernel
theorem dX7_goOutward_42 : decode cX7_goOutward 42 = .ok (.ifCond .eq 35, 3) := by decide +kernel
theorem dX7_goOutward_45 : decode cX7_goOutward 45 = .ok (.aload_n 0, 1) := by decide +kernel
theorem dX7_goOutward_46 : decode cX7_goOutward 46 = .ok (.getfield 35, 3) := by decide +kernel
theorem dX7_goOutward_49 : decode cX7_goOutward 49 = .ok (.iload_n 2, 1) := by decide +kernel
theorem dX7_goOutward_50 : decode cX7_goOutward 50 = .ok (.baload, 1) := by decide +kernel
theorem dX7_goOutward_51 : decode cX7_goOutward 51 = .ok (.ifCond .ne 12, 3) := by decide +kernel
theorem dX7_goOutward_54 : decode cX7_goOutward 54 = .ok (.aload_n 0, 1) := by decide +kernel
theorem dX7_goOutward_55 : decode cX7_goOutward 55 = .ok (.getfield 35, 3) := by decide +kernel
theorem dX7_goOutward_58 : decode cX7_goOutward 58 = .ok (.iload_n 3, 1) := by decide +kernel
theorem dX7_goOutward_59 : decode cX7_goOutward 59 = .ok (.baload, 1) := by decide +kernel
theorem dX7_goOutward_60 : decode cX7_goOutward 60 = .ok (.ifCond .eq 17, 3) := by decide +kernel
theorem dX7_goOutward_63 : decode cX7_goOutward 63 = .ok (.aload_n 0, 1) := by decide +kernel
theorem dX7_goOutward_64 : decode cX7_goOutward 64 = .ok (.getfield 35, 3) := by decide +kernel
theorem dX7_goOutward_67 : decode cX7_goOutward 67 = .ok (.iload_n 2, 1) := by decide +kernel
theorem dX7_goOutward_68 : decode cX7_goOutward 68 = .ok (.iconst 1, 1) := by decide +kernel
theorem dX7_goOutward_69 : decode cX7_goOutward 69 = .ok (.bastore, 1) := by decide +kernel
theorem dX7_goOutward_70 : decode cX7_goOutward 70 = .ok (.aload_n 0, 1) := by decide +kernel
theorem dX7_goOutward_71 : decode cX7_goOutward 71 = .ok (.getfield 35, 3) := by decide +kernel
theorem dX7_goOutward_74 : decode cX7_goOutward 74 = .ok (.iload_n 3, 1) := by decide +kernel
theorem dX7_goOutward_75 : decode cX7_goOutward 75 = .ok (.iconst 1, 1) := by decide +kernel
theorem dX7_goOutward_76 : decode cX7_goOutward 76 = .ok (.bastore, 1) := by decide +kernel
theorem dX7_goOutward_77 : decode cX7_goOutward 77 = .ok (.iinc 1 1, 3) := by decide +kernel
theorem dX7_goOutward_80 : decode cX7_goOutward 80 = .ok (.goto (-78), 3) := by decide +kernel
theorem dX7_goOutward_83 : decode cX7_goOutward 83 = .ok (.return_, 1) := by decide +kernel
theorem dX7_isLiveByLog_0 : decode cX7_isLiveByLog 0 = .ok (.aload_n 0, 1) := by decide +kernel
theorem dX7_isLiveByLog_1 : decode cX7_isLiveByLog 1 = .ok (.getfield 28, 3) := by decide +kernel
theorem dX7_isLiveByLog_4 : decode cX7_isLiveByLog 4 = .ok (.invokevirtual 116, 3) := by decide +kernel
theorem dX7_isLiveByLog_7 : decode cX7_isLiveByLog 7 = .ok (.iconst 0, 1) := by decide +kernel
theorem dX7_isLiveByLog_8 : decode cX7_isLiveByLog 8 = .ok (.istore_n 2, 1) := by decide +kernel
theorem dX7_isLiveByLog_9 : decode cX7_isLiveByLog 9 = .ok (.iload_n 2, 1) := by decide +kernel
theorem dX7_isLiveByLog_10 : decode cX7_isLiveByLog 10 = .ok (.aload_n 0, 1) := by decide +kernel
theorem dX7_isLiveByLog_11 : decode cX7_isLiveByLog 11 = .ok (.getfield 12, 3) := by decide +kernel
theorem dX7_isLiveByLog_14 : decode cX7_isLiveByLog 14 = .ok (.getfield 49, 3) := by decide +kernel
theorem dX7_isLiveByLog_17 : decode cX7_isLiveByLog 17 = .ok (.if_icmp .ge 33, 3) := by decide +kernel
theorem dX7_isLiveByLog_20 : decode cX7_isLiveByLog 20 = .ok (.aload_n 0, 1) := by decide +kernel
theorem dX7_isLiveByLog_21 : decode cX7_isLiveByLog 21 = .ok (.getfield 35, 3) := by decide +kernel
theorem dX7_isLiveByLog_24 : decode cX7_isLiveByLog 24 = .ok (.iload_n 2, 1) := by decide +kernel
theorem dX7_isLiveByLog_25 : decode cX7_isLiveByLog 25 = .ok (.aload_n 0, 1) := by decide +kernel
theorem dX7_isLiveByLog_26 : decode cX7_isLiveByLog 26 = .ok (.getfield 28, 3) := by decide +kernel
theorem dX7_isLiveByLog_29 : decode cX7_isLiveByLog 29 = .ok (.getfield 122, 3) := by decide +kernel
theorem dX7_isLiveByLog_32 : decode cX7_isLiveByLog 32 = .ok (.iload_n 2, 1) := by decide +kernel
theorem dX7_isLiveByLog_33 : decode cX7_isLiveByLog 33 = .ok (.iaload, 1) := by decide +kernel
theorem dX7_isLiveByLog_34 : decode cX7_isLiveByLog 34 = .ok (.iconst 2, 1) := by decide +kernel
theorem dX7_isLiveByLog_35 : decode cX7_isLiveByLog 35 = .ok (.if_icmp .ne 7, 3) := by decide +kernel
theorem dX7_isLiveByLog_38 : decode cX7_isLiveByLog 38 = .ok (.iconst 1, 1) := by decide +kernel
theorem dX7_isLiveByLog_39 : decode cX7_isLiveByLog 39 = .ok (.goto 4, 3) := by decide +kernel
theorem dX7_isLiveByLog_42 : decode cX7_isLiveByLog 42 = .ok (.iconst 0, 1) := by decide +kernel
theorem dX7_isLiveByLog_43 : decode cX7_isLiveByLog 43 = .ok (.bastore, 1) := by decide +kernel
theorem dX7_isLiveByLog_44 : decode cX7_isLiveByLog 44 = .ok (.iinc 2 1, 3) := by decide +kernel
theorem dX7_isLiveByLog_47 : decode cX7_isLiveByLog 47 = .ok (.goto (-38), 3) := by decide +kernel
theorem dX7_isLiveByLog_50 : decode cX7_isLiveByLog 50 = .ok (.iconst 1, 1) := by decide +kernel
theorem dX7_isLiveByLog_51 : decode cX7_isLiveByLog 51 = .ok (.istore_n 2, 1) := by decide +kernel
theorem dX7_isLiveByLog_52 : decode cX7_isLiveByLog 52 = .ok (.iload_n 2, 1) := by decide +kernel
theorem dX7_isLiveByLog_53 : decode cX7_isLiveByLog 53 = .ok (.aload_n 0, 1) := by decide +kernel
theorem dX7_isLiveByLog_54 : decode cX7_isLiveByLog 54 = .ok (.getfield 12, 3) := by decide +kernel
theorem dX7_isLiveByLog_57 : decode cX7_isLiveByLog 57 = .ok (.getfield 49, 3) := by decide +kernel
theorem dX7_isLiveByLog_60 : decode cX7_isLiveByLog 60 = .ok (.if_icmp .ge 13, 3) := by decide +kernel
theorem dX7_isLiveByLog_63 : decode cX7_isLiveByLog 63 = .ok (.aload_n 0, 1) := by decide +kernel
theorem dX7_isLiveByLog_64 : decode cX7_isLiveByLog 64 = .ok (.invokevirtual 125, 3) := by decide +kernel
theorem dX7_isLiveByLog_67 : decode cX7_isLiveByLog 67 = .ok (.iinc 2 1, 3) := by decide +kernel
theorem dX7_isLiveByLog_70 : decode cX7_isLiveByLog 70 = .ok (.goto (-18), 3) := by decide +kernel
theorem dX7_isLiveByLog_73 : decode cX7_isLiveByLog 73 = .ok (.aload_n 0, 1) := by decide +kernel
theorem dX7_isLiveByLog_74 : decode cX7_isLiveByLog 74 = .ok (.getfield 35, 3) := by decide +kernel
theorem dX7_isLiveByLog_77 : decode cX7_isLiveByLog 77 = .ok (.iload_n 1, 1) := by decide +kernel
theorem dX7_isLiveByLog_78 : decode cX7_isLiveByLog 78 = .ok (.baload, 1) := by decide +kernel
theorem dX7_isLiveByLog_79 : decode cX7_isLiveByLog 79 = .ok (.ireturn, 1) := by decide +kernel
theorem dX7_againstBridging_0 : decode cX7_againstBridging 0 = .ok (.aload_n 0, 1) := by decide +kernel
theorem dX7_againstBridging_1 : decode cX7_againstBridging 1 = .ok (.getfield 21, 3) := by decide +kernel
theorem dX7_againstBridging_4 : decode cX7_againstBridging 4 = .ok (.getfield 153, 3) := by decide +kernel
theorem dX7_againstBridging_7 : decode cX7_againstBridging 7 = .ok (.iload_n 1, 1) := by decide +kernel
theorem dX7_againstBridging_8 : decode cX7_againstBridging 8 = .ok (.baload, 1) := by decide +kernel
theorem dX7_againstBridging_9 : decode cX7_againstBridging 9 = .ok (.ifCond .eq 6, 3) := by decide +kernel
theorem dX7_againstBridging_12 : decode cX7_againstBridging 12 = .ok (.bipush 11, 2) := by decide +kernel
theorem dX7_againstBridging_14 : decode cX7_againstBridging 14 = .ok (.ireturn, 1) := by decide +kernel
theorem dX7_againstBridging_15 : decode cX7_againstBridging 15 = .ok (.aload_n 0, 1) := by decide +kernel
theorem dX7_againstBridging_16 : decode cX7_againstBridging 16 = .ok (.getfield 21, 3) := by decide +kernel
theorem dX7_againstBridging_19 : decode cX7_againstBridging 19 = .ok (.invokevirtual 156, 3) := by decide +kernel
theorem dX7_againstBridging_22 : decode cX7_againstBridging 22 = .ok (.aload_n 0, 1) := by decide +kernel
theorem dX7_againstBridging_23 : decode cX7_againstBridging 23 = .ok (.getfield 21, 3) := by decide +kernel
theorem dX7_againstBridging_26 : decode cX7_againstBridging 26 = .ok (.getfield 67, 3) := by decide +kernel
theorem dX7_againstBridging_29 : decode cX7_againstBridging 29 = .ok (.iload_n 1, 1) := by decide +kernel
theorem dX7_againstBridging_30 : decode cX7_againstBridging 30 = .ok (.iaload, 1) := by decide +kernel
theorem dX7_againstBridging_31 : decode cX7_againstBridging 31 = .ok (.if_icmp .ge 8, 3) := by decide +kernel
theorem dX7_againstBridging_34 : decode cX7_againstBridging 34 = .ok (.bipush 12, 2) := by decide +kernel
theorem dX7_againstBridging_36 : decode cX7_againstBridging 36 = .ok (.goto 4, 3) := by decide +kernel
theorem dX7_againstBridging_39 : decode cX7_againstBridging 39 = .ok (.iconst 0, 1) := by decide +kernel
theorem dX7_againstBridging_40 : decode cX7_againstBridging 40 = .ok (.ireturn, 1) := by decide +kernel
theorem dX7_wouldLightEarth_0 : decode cX7_wouldLightEarth 0 = .ok (.iconst 0, 1) := by decide +kernel
theorem dX7_wouldLightEarth_1 : decode cX7_wouldLightEarth 1 = .ok (.istore_n 1, 1) := by decide +kernel
theorem dX7_wouldLightEarth_2 : decode cX7_wouldLightEarth 2 = .ok (.iload_n 1, 1) := by decide +kernel
theorem dX7_wouldLightEarth_3 : decode cX7_wouldLightEarth 3 = .ok (.aload_n 0, 1) := by decide +kernel
theorem dX7_wouldLightEarth_4 : decode cX7_wouldLightEarth 4 = .ok (.getfield 12, 3) := by decide +kernel
theorem dX7_wouldLightEarth_7 : decode cX7_wouldLightEarth 7 = .ok (.getfield 49, 3) := by decide +kernel
theorem dX7_wouldLightEarth_10 : decode cX7_wouldLightEarth 10 = .ok (.if_icmp .ge 31, 3) := by decide +kernel
theorem dX7_wouldLightEarth_13 : decode cX7_wouldLightEarth 13 = .ok (.aload_n 0, 1) := by decide +kernel
theorem dX7_wouldLightEarth_14 : decode cX7_wouldLightEarth 14 = .ok (.getfield 21, 3) := by decide +kernel
theorem dX7_wouldLightEarth_17 : decode cX7_wouldLightEarth 17 = .ok (.getfield 94, 3) := by decide +kernel
theorem dX7_wouldLightEarth_20 : decode cX7_wouldLightEarth 20 = .ok (.iload_n 1, 1) := by decide +kernel
theorem dX7_wouldLightEarth_21 : decode cX7_wouldLightEarth 21 = .ok (.baload, 1) := by decide +kernel
theorem dX7_wouldLightEarth_22 : decode cX7_wouldLightEarth 22 = .ok (.ifCond .eq 13, 3) := by decide +kernel
theorem dX7_wouldLightEarth_25 : decode cX7_wouldLightEarth 25 = .ok (.aload_n 0, 1) := by decide +kernel
theorem dX7_wouldLightEarth_26 : decode cX7_wouldLightEarth 26 = .ok (.iload_n 1, 1) := by decide +kernel
theorem dX7_wouldLightEarth_27 : decode cX7_wouldLightEarth 27 = .ok (.invokevirtual 113, 3) := by decide +kernel
theorem dX7_wouldLightEarth_30 : decode cX7_wouldLightEarth 30 = .ok (.ifCond .eq 5, 3) := by decide +kernel
theorem dX7_wouldLightEarth_33 : decode cX7_wouldLightEarth 33 = .ok (.iconst 1, 1) := by decide +kernel
theorem dX7_wouldLightEarth_34 : decode cX7_wouldLightEarth 34 = .ok (.ireturn, 1) := by decide +kernel
theorem dX7_wouldLightEarth_35 : decode cX7_wouldLightEarth 35 = .ok (.iinc 1 1, 3) := by decide +kernel
theorem dX7_wouldLightEarth_38 : decode cX7_wouldLightEarth 38 = .ok (.goto (-36), 3) := by decide +kernel
theorem dX7_wouldLightEarth_41 : decode cX7_wouldLightEarth 41 = .ok (.iconst 0, 1) := by decide +kernel
theorem dX7_wouldLightEarth_42 : decode cX7_wouldLightEarth 42 = .ok (.ireturn, 1) := by decide +kernel
theorem dX7_wouldLightTools_0 : decode cX7_wouldLightTools 0 = .ok (.iconst 0, 1) := by decide +kernel
theorem dX7_wouldLightTools_1 : decode cX7_wouldLightTools 1 = .ok (.istore_n 1, 1) := by decide +kernel
theorem dX7_wouldLightTools_2 : decode cX7_wouldLightTools 2 = .ok (.iload_n 1, 1) := by decide +kernel
theorem dX7_wouldLightTools_3 : decode cX7_wouldLightTools 3 = .ok (.aload_n 0, 1) := by decide +kernel
theorem dX7_wouldLightTools_4 : decode cX7_wouldLightTools 4 = .ok (.getfield 12, 3) := by decide +kernel
theorem dX7_wouldLightTools_7 : decode cX7_wouldLightTools 7 = .ok (.getfield 49, 3) := by decide +kernel
theorem dX7_wouldLightTools_10 : decode cX7_wouldLightTools 10 = .ok (.if_icmp .ge 31, 3) := by decide +kernel
theorem dX7_wouldLightTools_13 : decode cX7_wouldLightTools 13 = .ok (.aload_n 0, 1) := by decide +kernel
theorem dX7_wouldLightTools_14 : decode cX7_wouldLightTools 14 = .ok (.getfield 21, 3) := by decide +kernel
theorem dX7_wouldLightTools_17 : decode cX7_wouldLightTools 17 = .ok (.getfield 97, 3) := by decide +kernel
theorem dX7_wouldLightTools_20 : decode cX7_wouldLightTools 20 = .ok (.iload_n 1, 1) := by decide +kernel
theorem dX7_wouldLightTools_21 : decode cX7_wouldLightTools 21 = .ok (.iaload, 1) := by decide +kernel
theorem dX7_wouldLightTools_22 : decode cX7_wouldLightTools 22 = .ok (.ifCond .le 13, 3) := by decide +kernel
theorem dX7_wouldLightTools_25 : decode cX7_wouldLightTools 25 = .ok (.aload_n 0, 1) := by decide +kernel
theorem dX7_wouldLightTools_26 : decode cX7_wouldLightTools 26 = .ok (.iload_n 1, 1) := by decide +kernel
theorem dX7_wouldLightTools_27 : decode cX7_wouldLightTools 27 = .ok (.invokevirtual 113, 3) := by decide +kernel
theorem dX7_wouldLightTools_30 : decode cX7_wouldLightTools 30 = .ok (.ifCond .eq 5, 3) := by decide +kernel
theorem dX7_wouldLightTools_33 : decode cX7_wouldLightTools 33 = .ok (.iconst 1, 1) := by decide +kernel
theorem dX7_wouldLightTools_34 : decode cX7_wouldLightTools 34 = .ok (.ireturn, 1) := by decide +kernel
theorem dX7_wouldLightTools_35 : decode cX7_wouldLightTools 35 = .ok (.iinc 1 1, 3) := by decide +kernel
theorem dX7_wouldLightTools_38 : decode cX7_wouldLightTools 38 = .ok (.goto (-36), 3) := by decide +kernel
theorem dX7_wouldLightTools_41 : decode cX7_wouldLightTools 41 = .ok (.iconst 0, 1) := by decide +kernel
theorem dX7_wouldLightTools_42 : decode cX7_wouldLightTools 42 = .ok (.ireturn, 1) := by decide +kernel
theorem dX7_againstClosing_0 : decode cX7_againstClosing 0 = .ok (.aload_n 0, 1) := by decide +kernel
theorem dX7_againstClosing_1 : decode cX7_againstClosing 1 = .ok (.getfield 12, 3) := by decide +kernel
theorem dX7_againstClosing_4 : decode cX7_againstClosing 4 = .ok (.getfield 160, 3) := by decide +kernel
theorem dX7_againstClosing_7 : decode cX7_againstClosing 7 = .ok (.iload_n 1, 1) := by decide +kernel
theorem dX7_againstClosing_8 : decode cX7_againstClosing 8 = .ok (.baload, 1) := by decide +kernel
theorem dX7_againstClosing_9 : decode cX7_againstClosing 9 = .ok (.ifCond .eq 6, 3) := by decide +kernel
theorem dX7_againstClosing_12 : decode cX7_againstClosing 12 = .ok (.bipush 41, 2) := by decide +kernel
theorem dX7_againstClosing_14 : decode cX7_againstClosing 14 = .ok (.ireturn, 1) := by decide +kernel
theorem dX7_againstClosing_15 : decode cX7_againstClosing 15 = .ok (.aload_n 0, 1) := by decide +kernel
theorem dX7_againstClosing_16 : decode cX7_againstClosing 16 = .ok (.iload_n 1, 1) := by decide +kernel
theorem dX7_againstClosing_17 : decode cX7_againstClosing 17 = .ok (.iconst 1, 1) := by decide +kernel
theorem dX7_againstClosing_18 : decode cX7_againstClosing 18 = .ok (.invokevirtual 107, 3) := by decide +kernel
theorem dX7_againstClosing_21 : decode cX7_againstClosing 21 = .ok (.aload_n 0, 1) := by decide +kernel
theorem dX7_againstClosing_22 : decode cX7_againstClosing 22 = .ok (.invokevirtual 167, 3) := by decide +kernel
theorem dX7_againstClosing_25 : decode cX7_againstClosing 25 = .ok (.ifCond .eq 6, 3) := by decide +kernel
theorem dX7_againstClosing_28 : decode cX7_againstClosing 28 = .ok (.bipush 42, 2) := by decide +kernel
theorem dX7_againstClosing_30 : decode cX7_againstClosing 30 = .ok (.ireturn, 1) := by decide +kernel
theorem dX7_againstClosing_31 : decode cX7_againstClosing 31 = .ok (.aload_n 0, 1) := by decide +kernel
theorem dX7_againstClosing_32 : decode cX7_againstClosing 32 = .ok (.invokevirtual 170, 3) := by decide +kernel
theorem dX7_againstClosing_35 : decode cX7_againstClosing 35 = .ok (.ifCond .eq 8, 3) := by decide +kernel
theorem dX7_againstClosing_38 : decode cX7_againstClosing 38 = .ok (.bipush 43, 2) := by decide +kernel
theorem dX7_againstClosing_40 : decode cX7_againstClosing 40 = .ok (.goto 4, 3) := by decide +kernel
theorem dX7_againstClosing_43 : decode cX7_againstClosing 43 = .ok (.iconst 0, 1) := by decide +kernel
theorem dX7_againstClosing_44 : decode cX7_againstClosing 44 = .ok (.ireturn, 1) := by decide +kernel
theorem dX7_againstEarthing_0 : decode cX7_againstEarthing 0 = .ok (.aload_n 0, 1) := by decide +kernel
theorem dX7_againstEarthing_1 : decode cX7_againstEarthing 1 = .ok (.getfield 21, 3) := by decide +kernel
theorem dX7_againstEarthing_4 : decode cX7_againstEarthing 4 = .ok (.getfield 94, 3) := by decide +kernel
theorem dX7_againstEarthing_7 : decode cX7_againstEarthing 7 = .ok (.iload_n 1, 1) := by decide +kernel
theorem dX7_againstEarthing_8 : decode cX7_againstEarthing 8 = .ok (.baload, 1) := by decide +kernel
theorem dX7_againstEarthing_9 : decode cX7_againstEarthing 9 = .ok (.ifCond .eq 6, 3) := by decide +kernel
theorem dX7_againstEarthing_12 : decode cX7_againstEarthing 12 = .ok (.bipush 71, 2) := by decide +kernel
theorem dX7_againstEarthing_14 : decode cX7_againstEarthing 14 = .ok (.ireturn, 1) := by decide +kernel
theorem dX7_againstEarthing_15 : decode cX7_againstEarthing 15 = .ok (.aload_n 0, 1) := by decide +kernel
theorem dX7_againstEarthing_16 : decode cX7_againstEarthing 16 = .ok (.getfield 12, 3) := by decide +kernel
theorem dX7_againstEarthing_19 : decode cX7_againstEarthing 19 = .ok (.getfield 100, 3) := by decide +kernel
theorem dX7_againstEarthing_22 : decode cX7_againstEarthing 22 = .ok (.iload_n 1, 1) := by decide +kernel
theorem dX7_againstEarthing_23 : decode cX7_againstEarthing 23 = .ok (.baload, 1) := by decide +kernel
theorem dX7_againstEarthing_24 : decode cX7_againstEarthing 24 = .ok (.ifCond .eq 6, 3) := by decide +kernel
theorem dX7_againstEarthing_27 : decode cX7_againstEarthing 27 = .ok (.bipush 72, 2) := by decide +kernel
theorem dX7_againstEarthing_29 : decode cX7_againstEarthing 29 = .ok (.ireturn, 1) := by decide +kernel
theorem dX7_againstEarthing_30 : decode cX7_againstEarthing 30 = .ok (.aload_n 0, 1) := by decide +kernel
theorem dX7_againstEarthing_31 : decode cX7_againstEarthing 31 = .ok (.getfield 21, 3) := by decide +kernel
theorem dX7_againstEarthing_34 : decode cX7_againstEarthing 34 = .ok (.getfield 153, 3) := by decide +kernel
theorem dX7_againstEarthing_37 : decode cX7_againstEarthing 37 = .ok (.iload_n 1, 1) := by decide +kernel
theorem dX7_againstEarthing_38 : decode cX7_againstEarthing 38 = .ok (.baload, 1) := by decide +kernel
theorem dX7_againstEarthing_39 : decode cX7_againstEarthing 39 = .ok (.ifCond .eq 7, 3) := by decide +kernel
theorem dX7_againstEarthing_42 : decode cX7_againstEarthing 42 = .ok (.iconst 0, 1) := by decide +kernel
theorem dX7_againstEarthing_43 : decode cX7_againstEarthing 43 = .ok (.goto 5, 3) := by decide +kernel
theorem dX7_againstEarthing_46 : decode cX7_againstEarthing 46 = .ok (.bipush 73, 2) := by decide +kernel
theorem dX7_againstEarthing_48 : decode cX7_againstEarthing 48 = .ok (.ireturn, 1) := by decide +kernel
theorem dX7_wouldDarkenTrams_0 : decode cX7_wouldDarkenTrams 0 = .ok (.iconst 0, 1) := by decide +kernel
theorem dX7_wouldDarkenTrams_1 : decode cX7_wouldDarkenTrams 1 = .ok (.istore_n 1, 1) := by decide +kernel
theorem dX7_wouldDarkenTrams_2 : decode cX7_wouldDarkenTrams 2 = .ok (.iload_n 1, 1) := by decide +kernel
theorem dX7_wouldDarkenTrams_3 : decode cX7_wouldDarkenTrams 3 = .ok (.aload_n 0, 1) := by decide +kernel
theorem dX7_wouldDarkenTrams_4 : decode cX7_wouldDarkenTrams 4 = .ok (.getfield 12, 3) := by decide +kernel
theorem dX7_wouldDarkenTrams_7 : decode cX7_wouldDarkenTrams 7 = .ok (.getfield 49, 3) := by decide +kernel
theorem dX7_wouldDarkenTrams_10 : decode cX7_wouldDarkenTrams 10 = .ok (.if_icmp .ge 31, 3) := by decide +kernel
theorem dX7_wouldDarkenTrams_13 : decode cX7_wouldDarkenTrams 13 = .ok (.aload_n 0, 1) := by decide +kernel
theorem dX7_wouldDarkenTrams_14 : decode cX7_wouldDarkenTrams 14 = .ok (.getfield 21, 3) := by decide +kernel
theorem dX7_wouldDarkenTrams_17 : decode cX7_wouldDarkenTrams 17 = .ok (.getfield 153, 3) := by decide +kernel
theorem dX7_wouldDarkenTrams_20 : decode cX7_wouldDarkenTrams 20 = .ok (.iload_n 1, 1) := by decide +kernel
theorem dX7_wouldDarkenTrams_21 : decode cX7_wouldDarkenTrams 21 = .ok (.baload, 1) := by decide +kernel
theorem dX7_wouldDarkenTrams_22 : decode cX7_wouldDarkenTrams 22 = .ok (.ifCond .ne 13, 3) := by decide +kernel
theorem dX7_wouldDarkenTrams_25 : decode cX7_wouldDarkenTrams 25 = .ok (.aload_n 0, 1) := by decide +kernel
theorem dX7_wouldDarkenTrams_26 : decode cX7_wouldDarkenTrams 26 = .ok (.iload_n 1, 1) := by decide +kernel
theorem dX7_wouldDarkenTrams_27 : decode cX7_wouldDarkenTrams 27 = .ok (.invokevirtual 110, 3) := by decide +kernel
theorem dX7_wouldDarkenTrams_30 : decode cX7_wouldDarkenTrams 30 = .ok (.ifCond .eq 5, 3) := by decide +kernel
theorem dX7_wouldDarkenTrams_33 : decode cX7_wouldDarkenTrams 33 = .ok (.iconst 1, 1) := by decide +kernel
theorem dX7_wouldDarkenTrams_34 : decode cX7_wouldDarkenTrams 34 = .ok (.ireturn, 1) := by decide +kernel
theorem dX7_wouldDarkenTrams_35 : decode cX7_wouldDarkenTrams 35 = .ok (.iinc 1 1, 3) := by decide +kernel
theorem dX7_wouldDarkenTrams_38 : decode cX7_wouldDarkenTrams 38 = .ok (.goto (-36), 3) := by decide +kernel
theorem dX7_wouldDarkenTrams_41 : decode cX7_wouldDarkenTrams 41 = .ok (.iconst 0, 1) := by decide +kernel
theorem dX7_wouldDarkenTrams_42 : decode cX7_wouldDarkenTrams 42 = .ok (.ireturn, 1) := by decide +kernel
theorem dX7_againstOpening_0 : decode cX7_againstOpening 0 = .ok (.aload_n 0, 1) := by decide +kernel
theorem dX7_againstOpening_1 : decode cX7_againstOpening 1 = .ok (.getfield 12, 3) := by decide +kernel
theorem dX7_againstOpening_4 : decode cX7_againstOpening 4 = .ok (.getfield 160, 3) := by decide +kernel
theorem dX7_againstOpening_7 : decode cX7_againstOpening 7 = .ok (.iload_n 1, 1) := by decide +kernel
theorem dX7_againstOpening_8 : decode cX7_againstOpening 8 = .ok (.baload, 1) := by decide +kernel
theorem dX7_againstOpening_9 : decode cX7_againstOpening 9 = .ok (.ifCond .ne 6, 3) := by decide +kernel
theorem dX7_againstOpening_12 : decode cX7_againstOpening 12 = .ok (.bipush 31, 2) := by decide +kernel
theorem dX7_againstOpening_14 : decode cX7_againstOpening 14 = .ok (.ireturn, 1) := by decide +kernel
theorem dX7_againstOpening_15 : decode cX7_againstOpening 15 = .ok (.aload_n 0, 1) := by decide +kernel
theorem dX7_againstOpening_16 : decode cX7_againstOpening 16 = .ok (.iload_n 1, 1) := by decide +kernel
theorem dX7_againstOpening_17 : decode cX7_againstOpening 17 = .ok (.iconst 0, 1) := by decide +kernel
theorem dX7_againstOpening_18 : decode cX7_againstOpening 18 = .ok (.invokevirtual 107, 3) := by decide +kernel
theorem dX7_againstOpening_21 : decode cX7_againstOpening 21 = .ok (.aload_n 0, 1) := by decide +kernel
theorem dX7_againstOpening_22 : decode cX7_againstOpening 22 = .ok (.invokevirtual 163, 3) := by decide +kernel
theorem dX7_againstOpening_25 : decode cX7_againstOpening 25 = .ok (.ifCond .eq 8, 3) := by decide +kernel
theorem dX7_againstOpening_28 : decode cX7_againstOpening 28 = .ok (.bipush 32, 2) := by decide +kernel
theorem dX7_againstOpening_30 : decode cX7_againstOpening 30 = .ok (.goto 4, 3) := by decide +kernel
theorem dX7_againstOpening_33 : decode cX7_againstOpening 33 = .ok (.iconst 0, 1) := by decide +kernel
theorem dX7_againstOpening_34 : decode cX7_againstOpening 34 = .ok (.ireturn, 1) := by decide +kernel
theorem dX7_againstTakingEarth_0 : decode cX7_againstTakingEarth 0 = .ok (.aload_n 0, 1) := by decide +kernel
theorem dX7_againstTakingEarth_1 : decode cX7_againstTakingEarth 1 = .ok (.getfield 21, 3) := by decide +kernel
theorem dX7_againstTakingEarth_4 : decode cX7_againstTakingEarth 4 = .ok (.getfield 94, 3) := by decide +kernel
theorem dX7_againstTakingEarth_7 : decode cX7_againstTakingEarth 7 = .ok (.iload_n 1, 1) := by decide +kernel
theorem dX7_againstTakingEarth_8 : decode cX7_againstTakingEarth 8 = .ok (.baload, 1) := by decide +kernel
theorem dX7_againstTakingEarth_9 : decode cX7_againstTakingEarth 9 = .ok (.ifCond .ne 6, 3) := by decide +kernel
theorem dX7_againstTakingEarth_12 : decode cX7_againstTakingEarth 12 = .ok (.bipush 81, 2) := by decide +kernel
theorem dX7_againstTakingEarth_14 : decode cX7_againstTakingEarth 14 = .ok (.ireturn, 1) := by decide +kernel
theorem dX7_againstTakingEarth_15 : decode cX7_againstTakingEarth 15 = .ok (.aload_n 0, 1) := by decide +kernel
theorem dX7_againstTakingEarth_16 : decode cX7_againstTakingEarth 16 = .ok (.getfield 21, 3) := by decide +kernel
theorem dX7_againstTakingEarth_19 : decode cX7_againstTakingEarth 19 = .ok (.getfield 179, 3) := by decide +kernel
theorem dX7_againstTakingEarth_22 : decode cX7_againstTakingEarth 22 = .ok (.iload_n 1, 1) := by decide +kernel
theorem dX7_againstTakingEarth_23 : decode cX7_againstTakingEarth 23 = .ok (.baload, 1) := by decide +kernel
theorem dX7_againstTakingEarth_24 : decode cX7_againstTakingEarth 24 = .ok (.ifCond .eq 8, 3) := by decide +kernel
theorem dX7_againstTakingEarth_27 : decode cX7_againstTakingEarth 27 = .ok (.bipush 82, 2) := by decide +kernel
theorem dX7_againstTakingEarth_29 : decode cX7_againstTakingEarth 29 = .ok (.goto 4, 3) := by decide +kernel
theorem dX7_againstTakingEarth_32 : decode cX7_againstTakingEarth 32 = .ok (.iconst 0, 1) := by decide +kernel
theorem dX7_againstTakingEarth_33 : decode cX7_againstTakingEarth 33 = .ok (.ireturn, 1) := by decide +kernel
theorem dX7_againstTrams_0 : decode cX7_againstTrams 0 = .ok (.aload_n 0, 1) := by decide +kernel
theorem dX7_againstTrams_1 : decode cX7_againstTrams 1 = .ok (.getfield 21, 3) := by decide +kernel
theorem dX7_againstTrams_4 : decode cX7_againstTrams 4 = .ok (.getfield 153, 3) := by decide +kernel
theorem dX7_againstTrams_7 : decode cX7_againstTrams 7 = .ok (.iload_n 1, 1) := by decide +kernel
theorem dX7_againstTrams_8 : decode cX7_againstTrams 8 = .ok (.baload, 1) := by decide +kernel
theorem dX7_againstTrams_9 : decode cX7_againstTrams 9 = .ok (.ifCond .ne 6, 3) := by decide +kernel
theorem dX7_againstTrams_12 : decode cX7_againstTrams 12 = .ok (.bipush 21, 2) := by decide +kernel
theorem dX7_againstTrams_14 : decode cX7_againstTrams 14 = .ok (.ireturn, 1) := by decide +kernel
theorem dX7_againstTrams_15 : decode cX7_againstTrams 15 = .ok (.aload_n 0, 1) := by decide +kernel
theorem dX7_againstTrams_16 : decode cX7_againstTrams 16 = .ok (.getfield 12, 3) := by decide +kernel
theorem dX7_againstTrams_19 : decode cX7_againstTrams 19 = .ok (.getfield 100, 3) := by decide +kernel
theorem dX7_againstTrams_22 : decode cX7_againstTrams 22 = .ok (.iload_n 1, 1) := by decide +kernel
theorem dX7_againstTrams_23 : decode cX7_againstTrams 23 = .ok (.baload, 1) := by decide +kernel
theorem dX7_againstTrams_24 : decode cX7_againstTrams 24 = .ok (.ifCond .ne 6, 3) := by decide +kernel
theorem dX7_againstTrams_27 : decode cX7_againstTrams 27 = .ok (.bipush 22, 2) := by decide +kernel
theorem dX7_againstTrams_29 : decode cX7_againstTrams 29 = .ok (.ireturn, 1) := by decide +kernel
theorem dX7_againstTrams_30 : decode cX7_againstTrams 30 = .ok (.aload_n 0, 1) := by decide +kernel
theorem dX7_againstTrams_31 : decode cX7_againstTrams 31 = .ok (.getfield 21, 3) := by decide +kernel
theorem dX7_againstTrams_34 : decode cX7_againstTrams 34 = .ok (.getfield 97, 3) := by decide +kernel
theorem dX7_againstTrams_37 : decode cX7_againstTrams 37 = .ok (.iload_n 1, 1) := by decide +kernel
theorem dX7_againstTrams_38 : decode cX7_againstTrams 38 = .ok (.iaload, 1) := by decide +kernel
theorem dX7_againstTrams_39 : decode cX7_againstTrams 39 = .ok (.ifCond .le 8, 3) := by decide +kernel
theorem dX7_againstTrams_42 : decode cX7_againstTrams 42 = .ok (.bipush 23, 2) := by decide +kernel
theorem dX7_againstTrams_44 : decode cX7_againstTrams 44 = .ok (.goto 4, 3) := by decide +kernel
theorem dX7_againstTrams_47 : decode cX7_againstTrams 47 = .ok (.iconst 0, 1) := by decide +kernel
theorem dX7_againstTrams_48 : decode cX7_againstTrams 48 = .ok (.ireturn, 1) := by decide +kernel
theorem dX7_supposeFeeder_0 : decode cX7_supposeFeeder 0 = .ok (.aload_n 0, 1) := by decide +kernel
theorem dX7_supposeFeeder_1 : decode cX7_supposeFeeder 1 = .ok (.getfield 32, 3) := by decide +kernel
theorem dX7_supposeFeeder_4 : decode cX7_supposeFeeder 4 = .ok (.aload_n 0, 1) := by decide +kernel
theorem dX7_supposeFeeder_5 : decode cX7_supposeFeeder 5 = .ok (.getfield 12, 3) := by decide +kernel
theorem dX7_supposeFeeder_8 : decode cX7_supposeFeeder 8 = .ok (.invokevirtual 39, 3) := by decide +kernel
theorem dX7_supposeFeeder_11 : decode cX7_supposeFeeder 11 = .ok (.aload_n 0, 1) := by decide +kernel
theorem dX7_supposeFeeder_12 : decode cX7_supposeFeeder 12 = .ok (.getfield 32, 3) := by decide +kernel
theorem dX7_supposeFeeder_15 : decode cX7_supposeFeeder 15 = .ok (.iload_n 1, 1) := by decide +kernel
theorem dX7_supposeFeeder_16 : decode cX7_supposeFeeder 16 = .ok (.iload_n 2, 1) := by decide +kernel
theorem dX7_supposeFeeder_17 : decode cX7_supposeFeeder 17 = .ok (.invokevirtual 77, 3) := by decide +kernel
theorem dX7_supposeFeeder_20 : decode cX7_supposeFeeder 20 = .ok (.return_, 1) := by decide +kernel
theorem dX7_againstTurningOff_0 : decode cX7_againstTurningOff 0 = .ok (.aload_n 0, 1) := by decide +kernel
theorem dX7_againstTurningOff_1 : decode cX7_againstTurningOff 1 = .ok (.getfield 12, 3) := by decide +kernel
theorem dX7_againstTurningOff_4 : decode cX7_againstTurningOff 4 = .ok (.getfield 173, 3) := by decide +kernel
theorem dX7_againstTurningOff_7 : decode cX7_againstTurningOff 7 = .ok (.iload_n 1, 1) := by decide +kernel
theorem dX7_againstTurningOff_8 : decode cX7_againstTurningOff 8 = .ok (.iaload, 1) := by decide +kernel
theorem dX7_againstTurningOff_9 : decode cX7_againstTurningOff 9 = .ok (.iconst 2, 1) := by decide +kernel
theorem dX7_againstTurningOff_10 : decode cX7_againstTurningOff 10 = .ok (.if_icmp .eq 6, 3) := by decide +kernel
theorem dX7_againstTurningOff_13 : decode cX7_againstTurningOff 13 = .ok (.bipush 51, 2) := by decide +kernel
theorem dX7_againstTurningOff_15 : decode cX7_againstTurningOff 15 = .ok (.ireturn, 1) := by decide +kernel
theorem dX7_againstTurningOff_16 : decode cX7_againstTurningOff 16 = .ok (.aload_n 0, 1) := by decide +kernel
theorem dX7_againstTurningOff_17 : decode cX7_againstTurningOff 17 = .ok (.iload_n 1, 1) := by decide +kernel
theorem dX7_againstTurningOff_18 : decode cX7_againstTurningOff 18 = .ok (.iconst 1, 1) := by decide +kernel
theorem dX7_againstTurningOff_19 : decode cX7_againstTurningOff 19 = .ok (.invokevirtual 176, 3) := by decide +kernel
theorem dX7_againstTurningOff_22 : decode cX7_againstTurningOff 22 = .ok (.aload_n 0, 1) := by decide +kernel
theorem dX7_againstTurningOff_23 : decode cX7_againstTurningOff 23 = .ok (.invokevirtual 163, 3) := by decide +kernel
theorem dX7_againstTurningOff_26 : decode cX7_againstTurningOff 26 = .ok (.ifCond .eq 8, 3) := by decide +kernel
theorem dX7_againstTurningOff_29 : decode cX7_againstTurningOff 29 = .ok (.bipush 52, 2) := by decide +kernel
theorem dX7_againstTurningOff_31 : decode cX7_againstTurningOff 31 = .ok (.goto 4, 3) := by decide +kernel
theorem dX7_againstTurningOff_34 : decode cX7_againstTurningOff 34 = .ok (.iconst 0, 1) := by decide +kernel
theorem dX7_againstTurningOff_35 : decode cX7_againstTurningOff 35 = .ok (.ireturn, 1) := by decide +kernel
theorem dX7_againstTurningOn_0 : decode cX7_againstTurningOn 0 = .ok (.aload_n 0, 1) := by decide +kernel
theorem dX7_againstTurningOn_1 : decode cX7_againstTurningOn 1 = .ok (.getfield 12, 3) := by decide +kernel
theorem dX7_againstTurningOn_4 : decode cX7_againstTurningOn 4 = .ok (.getfield 173, 3) := by decide +kernel
theorem dX7_againstTurningOn_7 : decode cX7_againstTurningOn 7 = .ok (.iload_n 1, 1) := by decide +kernel
theorem dX7_againstTurningOn_8 : decode cX7_againstTurningOn 8 = .ok (.iaload, 1) := by decide +kernel
theorem dX7_againstTurningOn_9 : decode cX7_againstTurningOn 9 = .ok (.iconst 1, 1) := by decide +kernel
theorem dX7_againstTurningOn_10 : decode cX7_againstTurningOn 10 = .ok (.if_icmp .eq 6, 3) := by decide +kernel
theorem dX7_againstTurningOn_13 : decode cX7_againstTurningOn 13 = .ok (.bipush 61, 2) := by decide +kernel
theorem dX7_againstTurningOn_15 : decode cX7_againstTurningOn 15 = .ok (.ireturn, 1) := by decide +kernel
theorem dX7_againstTurningOn_16 : decode cX7_againstTurningOn 16 = .ok (.aload_n 0, 1) := by decide +kernel
theorem dX7_againstTurningOn_17 : decode cX7_againstTurningOn 17 = .ok (.iload_n 1, 1) := by decide +kernel
theorem dX7_againstTurningOn_18 : decode cX7_againstTurningOn 18 = .ok (.iconst 2, 1) := by decide +kernel
theorem dX7_againstTurningOn_19 : decode cX7_againstTurningOn 19 = .ok (.invokevirtual 176, 3) := by decide +kernel
theorem dX7_againstTurningOn_22 : decode cX7_againstTurningOn 22 = .ok (.aload_n 0, 1) := by decide +kernel
theorem dX7_againstTurningOn_23 : decode cX7_againstTurningOn 23 = .ok (.invokevirtual 167, 3) := by decide +kernel
theorem dX7_againstTurningOn_26 : decode cX7_againstTurningOn 26 = .ok (.ifCond .eq 6, 3) := by decide +kernel
theorem dX7_againstTurningOn_29 : decode cX7_againstTurningOn 29 = .ok (.bipush 62, 2) := by decide +kernel
theorem dX7_againstTurningOn_31 : decode cX7_againstTurningOn 31 = .ok (.ireturn, 1) := by decide +kernel
theorem dX7_againstTurningOn_32 : decode cX7_againstTurningOn 32 = .ok (.aload_n 0, 1) := by decide +kernel
theorem dX7_againstTurningOn_33 : decode cX7_againstTurningOn 33 = .ok (.invokevirtual 170, 3) := by decide +kernel
theorem dX7_againstTurningOn_36 : decode cX7_againstTurningOn 36 = .ok (.ifCond .eq 8, 3) := by decide +kernel
theorem dX7_againstTurningOn_39 : decode cX7_againstTurningOn 39 = .ok (.bipush 63, 2) := by decide +kernel
theorem dX7_againstTurningOn_41 : decode cX7_againstTurningOn 41 = .ok (.goto 4, 3) := by decide +kernel
theorem dX7_againstTurningOn_44 : decode cX7_againstTurningOn 44 = .ok (.iconst 0, 1) := by decide +kernel
theorem dX7_againstTurningOn_45 : decode cX7_againstTurningOn 45 = .ok (.ireturn, 1) := by decide +kernel
theorem dX7_reasonAgainst_0 : decode cX7_reasonAgainst 0 = .ok (.iload_n 1, 1) := by decide +kernel
theorem dX7_reasonAgainst_1 : decode cX7_reasonAgainst 1 = .ok (.tableswitch 85 0 6 #[43, 49, 55, 61, 67, 73, 79], 43) := by decide +kernel
theorem dX7_reasonAgainst_44 : decode cX7_reasonAgainst 44 = .ok (.aload_n 0, 1) := by decide +kernel
theorem dX7_reasonAgainst_45 : decode cX7_reasonAgainst 45 = .ok (.iload_n 2, 1) := by decide +kernel
theorem dX7_reasonAgainst_46 : decode cX7_reasonAgainst 46 = .ok (.invokevirtual 128, 3) := by decide +kernel
theorem dX7_reasonAgainst_49 : decode cX7_reasonAgainst 49 = .ok (.ireturn, 1) := by decide +kernel
theorem dX7_reasonAgainst_50 : decode cX7_reasonAgainst 50 = .ok (.aload_n 0, 1) := by decide +kernel
theorem dX7_reasonAgainst_51 : decode cX7_reasonAgainst 51 = .ok (.iload_n 2, 1) := by decide +kernel
theorem dX7_reasonAgainst_52 : decode cX7_reasonAgainst 52 = .ok (.invokevirtual 132, 3) := by decide +kernel
theorem dX7_reasonAgainst_55 : decode cX7_reasonAgainst 55 = .ok (.ireturn, 1) := by decide +kernel
theorem dX7_reasonAgainst_56 : decode cX7_reasonAgainst 56 = .ok (.aload_n 0, 1) := by decide +kernel
theorem dX7_reasonAgainst_57 : decode cX7_reasonAgainst 57 = .ok (.iload_n 2, 1) := by decide +kernel
theorem dX7_reasonAgainst_58 : decode cX7_reasonAgainst 58 = .ok (.invokevirtual 135, 3) := by decide +kernel
theorem dX7_reasonAgainst_61 : decode cX7_reasonAgainst 61 = .ok (.ireturn, 1) := by decide +kernel
theorem dX7_reasonAgainst_62 : decode cX7_reasonAgainst 62 = .ok (.aload_n 0, 1) := by decide +kernel
theorem dX7_reasonAgainst_63 : decode cX7_reasonAgainst 63 = .ok (.iload_n 2, 1) := by decide +kernel
theorem dX7_reasonAgainst_64 : decode cX7_reasonAgainst 64 = .ok (.invokevirtual 138, 3) := by decide +kernel
theorem dX7_reasonAgainst_67 : decode cX7_reasonAgainst 67 = .ok (.ireturn, 1) := by decide +kernel
theorem dX7_reasonAgainst_68 : decode cX7_reasonAgainst 68 = .ok (.aload_n 0, 1) := by decide +kernel
theorem dX7_reasonAgainst_69 : decode cX7_reasonAgainst 69 = .ok (.iload_n 2, 1) := by decide +kernel
theorem dX7_reasonAgainst_70 : decode cX7_reasonAgainst 70 = .ok (.invokevirtual 141, 3) := by decide +kernel
theorem dX7_reasonAgainst_73 : decode cX7_reasonAgainst 73 = .ok (.ireturn, 1) := by decide +kernel
theorem dX7_reasonAgainst_74 : decode cX7_reasonAgainst 74 = .ok (.aload_n 0, 1) := by decide +kernel
theorem dX7_reasonAgainst_75 : decode cX7_reasonAgainst 75 = .ok (.iload_n 2, 1) := by decide +kernel
theorem dX7_reasonAgainst_76 : decode cX7_reasonAgainst 76 = .ok (.invokevirtual 144, 3) := by decide +kernel
theorem dX7_reasonAgainst_79 : decode cX7_reasonAgainst 79 = .ok (.ireturn, 1) := by decide +kernel
theorem dX7_reasonAgainst_80 : decode cX7_reasonAgainst 80 = .ok (.aload_n 0, 1) := by decide +kernel
theorem dX7_reasonAgainst_81 : decode cX7_reasonAgainst 81 = .ok (.iload_n 2, 1) := by decide +kernel
theorem dX7_reasonAgainst_82 : decode cX7_reasonAgainst 82 = .ok (.invokevirtual 147, 3) := by decide +kernel
theorem dX7_reasonAgainst_85 : decode cX7_reasonAgainst 85 = .ok (.ireturn, 1) := by decide +kernel
theorem dX7_reasonAgainst_86 : decode cX7_reasonAgainst 86 = .ok (.aload_n 0, 1) := by decide +kernel
theorem dX7_reasonAgainst_87 : decode cX7_reasonAgainst 87 = .ok (.iload_n 2, 1) := by decide +kernel
theorem dX7_reasonAgainst_88 : decode cX7_reasonAgainst 88 = .ok (.invokevirtual 150, 3) := by decide +kernel
theorem dX7_reasonAgainst_91 : decode cX7_reasonAgainst 91 = .ok (.ireturn, 1) := by decide +kernel
theorem dX7_make_0 : decode cX7_make 0 = .ok (.iload_n 1, 1) := by decide +kernel
theorem dX7_make_1 : decode cX7_make 1 = .ok (.tableswitch 130 0 6 #[43, 56, 69, 81, 93, 105, 117], 43) := by decide +kernel
theorem dX7_make_44 : decode cX7_make 44 = .ok (.aload_n 0, 1) := by decide +kernel
theorem dX7_make_45 : decode cX7_make 45 = .ok (.getfield 21, 3) := by decide +kernel
theorem dX7_make_48 : decode cX7_make 48 = .ok (.getfield 153, 3) := by decide +kernel
theorem dX7_make_51 : decode cX7_make 51 = .ok (.iload_n 2, 1) := by decide +kernel
theorem dX7_make_52 : decode cX7_make 52 = .ok (.iconst 1, 1) := by decide +kernel
theorem dX7_make_53 : decode cX7_make 53 = .ok (.bastore, 1) := by decide +kernel
theorem dX7_make_54 : decode cX7_make 54 = .ok (.goto 87, 3) := by decide +kernel
theorem dX7_make_57 : decode cX7_make 57 = .ok (.aload_n 0, 1) := by decide +kernel
theorem dX7_make_58 : decode cX7_make 58 = .ok (.getfield 21, 3) := by decide +kernel
theorem dX7_make_61 : decode cX7_make 61 = .ok (.getfield 153, 3) := by decide +kernel
theorem dX7_make_64 : decode cX7_make 64 = .ok (.iload_n 2, 1) := by decide +kernel
theorem dX7_make_65 : decode cX7_make 65 = .ok (.iconst 0, 1) := by decide +kernel
theorem dX7_make_66 : decode cX7_make 66 = .ok (.bastore, 1) := by decide +kernel
theorem dX7_make_67 : decode cX7_make 67 = .ok (.goto 74, 3) := by decide +kernel
theorem dX7_make_70 : decode cX7_make 70 = .ok (.aload_n 0, 1) := by decide +kernel
theorem dX7_make_71 : decode cX7_make 71 = .ok (.getfield 12, 3) := by decide +kernel
theorem dX7_make_74 : decode cX7_make 74 = .ok (.iload_n 2, 1) := by decide +kernel
theorem dX7_make_75 : decode cX7_make 75 = .ok (.iconst 0, 1) := by decide +kernel
theorem dX7_make_76 : decode cX7_make 76 = .ok (.invokevirtual 90, 3) := by decide +kernel
theorem dX7_make_79 : decode cX7_make 79 = .ok (.goto 62, 3) := by decide +kernel
theorem dX7_make_82 : decode cX7_make 82 = .ok (.aload_n 0, 1) := by decide +kernel
theorem dX7_make_83 : decode cX7_make 83 = .ok (.getfield 12, 3) := by decide +kernel
theorem dX7_make_86 : decode cX7_make 86 = .ok (.iload_n 2, 1) := by decide +kernel
theorem dX7_make_87 : decode cX7_make 87 = .ok (.iconst 1, 1) := by decide +kernel
theorem dX7_make_88 : decode cX7_make 88 = .ok (.invokevirtual 90, 3) := by decide +kernel
theorem dX7_make_91 : decode cX7_make 91 = .ok (.goto 50, 3) := by decide +kernel
theorem dX7_make_94 : decode cX7_make 94 = .ok (.aload_n 0, 1) := by decide +kernel
theorem dX7_make_95 : decode cX7_make 95 = .ok (.getfield 12, 3) := by decide +kernel
theorem dX7_make_98 : decode cX7_make 98 = .ok (.iload_n 2, 1) := by decide +kernel
theorem dX7_make_99 : decode cX7_make 99 = .ok (.iconst 1, 1) := by decide +kernel
theorem dX7_make_100 : decode cX7_make 100 = .ok (.invokevirtual 77, 3) := by decide +kernel
theorem dX7_make_103 : decode cX7_make 103 = .ok (.goto 38, 3) := by decide +kernel
theorem dX7_make_106 : decode cX7_make 106 = .ok (.aload_n 0, 1) := by decide +kernel
theorem dX7_make_107 : decode cX7_make 107 = .ok (.getfield 12, 3) := by decide +kernel
theorem dX7_make_110 : decode cX7_make 110 = .ok (.iload_n 2, 1) := by decide +kernel
theorem dX7_make_111 : decode cX7_make 111 = .ok (.iconst 2, 1) := by decide +kernel
theorem dX7_make_112 : decode cX7_make 112 = .ok (.invokevirtual 77, 3) := by decide +kernel
theorem dX7_make_115 : decode cX7_make 115 = .ok (.goto 26, 3) := by decide +kernel
theorem dX7_make_118 : decode cX7_make 118 = .ok (.aload_n 0, 1) := by decide +kernel
theorem dX7_make_119 : decode cX7_make 119 = .ok (.getfield 21, 3) := by decide +kernel
theorem dX7_make_122 : decode cX7_make 122 = .ok (.getfield 94, 3) := by decide +kernel
theorem dX7_make_125 : decode cX7_make 125 = .ok (.iload_n 2, 1) := by decide +kernel
theorem dX7_make_126 : decode cX7_make 126 = .ok (.iconst 1, 1) := by decide +kernel
theorem dX7_make_127 : decode cX7_make 127 = .ok (.bastore, 1) := by decide +kernel
theorem dX7_make_128 : decode cX7_make 128 = .ok (.goto 13, 3) := by decide +kernel
theorem dX7_make_131 : decode cX7_make 131 = .ok (.aload_n 0, 1) := by decide +kernel
theorem dX7_make_132 : decode cX7_make 132 = .ok (.getfield 21, 3) := by decide +kernel
theorem dX7_make_135 : decode cX7_make 135 = .ok (.getfield 94, 3) := by decide +kernel
theorem dX7_make_138 : decode cX7_make 138 = .ok (.iload_n 2, 1) := by decide +kernel
theorem dX7_make_139 : decode cX7_make 139 = .ok (.iconst 0, 1) := by decide +kernel
theorem dX7_make_140 : decode cX7_make 140 = .ok (.bastore, 1) := by decide +kernel
theorem dX7_make_141 : decode cX7_make 141 = .ok (.aload_n 0, 1) := by decide +kernel
theorem dX7_make_142 : decode cX7_make 142 = .ok (.getfield 28, 3) := by decide +kernel
theorem dX7_make_145 : decode cX7_make 145 = .ok (.iload_n 1, 1) := by decide +kernel
theorem dX7_make_146 : decode cX7_make 146 = .ok (.iload_n 2, 1) := by decide +kernel
theorem dX7_make_147 : decode cX7_make 147 = .ok (.aload_n 0, 1) := by decide +kernel
theorem dX7_make_148 : decode cX7_make 148 = .ok (.getfield 21, 3) := by decide +kernel
theorem dX7_make_151 : decode cX7_make 151 = .ok (.getfield 182, 3) := by decide +kernel
theorem dX7_make_154 : decode cX7_make 154 = .ok (.invokevirtual 185, 3) := by decide +kernel
theorem dX7_make_157 : decode cX7_make 157 = .ok (.return_, 1) := by decide +kernel
