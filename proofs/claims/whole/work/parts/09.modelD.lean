theorem dX9_in_0 : decode cX9_in 0 = .ok (.iload_n 0, 1) := by decide +kernel
theorem dX9_in_1 : decode cX9_in 1 = .ok (.iload_n 1, 1) := by decide +kernel
theorem dX9_in_2 : decode cX9_in 2 = .ok (.if_icmp .lt 12, 3) := by decide +kernel
theorem dX9_in_5 : decode cX9_in 5 = .ok (.iload_n 0, 1) := by decide +kernel
theorem dX9_in_6 : decode cX9_in 6 = .ok (.iload_n 2, 1) := by decide +kernel
theorem dX9_in_7 : decode cX9_in 7 = .ok (.if_icmp .gt 7, 3) := by decide +kernel
theorem dX9_in_10 : decode cX9_in 10 = .ok (.iconst 1, 1) := by decide +kernel
theorem dX9_in_11 : decode cX9_in 11 = .ok (.goto 4, 3) := by decide +kernel
theorem dX9_in_14 : decode cX9_in 14 = .ok (.iconst 0, 1) := by decide +kernel
theorem dX9_in_15 : decode cX9_in 15 = .ok (.ireturn, 1) := by decide +kernel
theorem dX9_of_0 : decode cX9_of 0 = .ok (.aload_n 0, 1) := by decide +kernel
theorem dX9_of_1 : decode cX9_of 1 = .ok (.getfield 7, 3) := by decide +kernel
theorem dX9_of_4 : decode cX9_of 4 = .ok (.bipush 7, 2) := by decide +kernel
theorem dX9_of_6 : decode cX9_of 6 = .ok (.bipush 9, 2) := by decide +kernel
theorem dX9_of_8 : decode cX9_of 8 = .ok (.iload_n 1, 1) := by decide +kernel
theorem dX9_of_9 : decode cX9_of 9 = .ok (.imul, 1) := by decide +kernel
theorem dX9_of_10 : decode cX9_of 10 = .ok (.iadd, 1) := by decide +kernel
theorem dX9_of_11 : decode cX9_of 11 = .ok (.iload_n 2, 1) := by decide +kernel
theorem dX9_of_12 : decode cX9_of 12 = .ok (.iadd, 1) := by decide +kernel
theorem dX9_of_13 : decode cX9_of 13 = .ok (.iaload, 1) := by decide +kernel
theorem dX9_of_14 : decode cX9_of 14 = .ok (.ireturn, 1) := by decide +kernel
theorem dX9_put_0 : decode cX9_put 0 = .ok (.aload_n 0, 1) := by decide +kernel
theorem dX9_put_1 : decode cX9_put 1 = .ok (.getfield 7, 3) := by decide +kernel
theorem dX9_put_4 : decode cX9_put 4 = .ok (.bipush 7, 2) := by decide +kernel
theorem dX9_put_6 : decode cX9_put 6 = .ok (.bipush 9, 2) := by decide +kernel
theorem dX9_put_8 : decode cX9_put 8 = .ok (.iload_n 1, 1) := by decide +kernel
theorem dX9_put_9 : decode cX9_put 9 = .ok (.imul, 1) := by decide +kernel
theorem dX9_put_10 : decode cX9_put 10 = .ok (.iadd, 1) := by decide +kernel
theorem dX9_put_11 : decode cX9_put 11 = .ok (.iload_n 2, 1) := by decide +kernel
theorem dX9_put_12 : decode cX9_put 12 = .ok (.iadd, 1) := by decide +kernel
theorem dX9_put_13 : decode cX9_put 13 = .ok (.iload_n 3, 1) := by decide +kernel
theorem dX9_put_14 : decode cX9_put 14 = .ok (.iastore, 1) := by decide +kernel
theorem dX9_put_15 : decode cX9_put 15 = .ok (.return_, 1) := by decide +kernel
theorem dX9_at_0 : decode cX9_at 0 = .ok (.aload_n 0, 1) := by decide +kernel
theorem dX9_at_1 : decode cX9_at 1 = .ok (.getfield 7, 3) := by decide +kernel
theorem dX9_at_4 : decode cX9_at 4 = .ok (.bipush 97, 2) := by decide +kernel
theorem dX9_at_6 : decode cX9_at 6 = .ok (.iconst 4, 1) := by decide +kernel
theorem dX9_at_7 : decode cX9_at 7 = .ok (.iload_n 1, 1) := by decide +kernel
theorem dX9_at_8 : decode cX9_at 8 = .ok (.imul, 1) := by decide +kernel
theorem dX9_at_9 : decode cX9_at 9 = .ok (.iadd, 1) := by decide +kernel
theorem dX9_at_10 : decode cX9_at 10 = .ok (.iload_n 2, 1) := by decide +kernel
theorem dX9_at_11 : decode cX9_at 11 = .ok (.iadd, 1) := by decide +kernel
theorem dX9_at_12 : decode cX9_at 12 = .ok (.iaload, 1) := by decide +kernel
theorem dX9_at_13 : decode cX9_at 13 = .ok (.ireturn, 1) := by decide +kernel
theorem dX9_lay_0 : decode cX9_lay 0 = .ok (.aload_n 0, 1) := by decide +kernel
theorem dX9_lay_1 : decode cX9_lay 1 = .ok (.getfield 7, 3) := by decide +kernel
theorem dX9_lay_4 : decode cX9_lay 4 = .ok (.bipush 97, 2) := by decide +kernel
theorem dX9_lay_6 : decode cX9_lay 6 = .ok (.iconst 4, 1) := by decide +kernel
theorem dX9_lay_7 : decode cX9_lay 7 = .ok (.iload_n 1, 1) := by decide +kernel
theorem dX9_lay_8 : decode cX9_lay 8 = .ok (.imul, 1) := by decide +kernel
theorem dX9_lay_9 : decode cX9_lay 9 = .ok (.iadd, 1) := by decide +kernel
theorem dX9_lay_10 : decode cX9_lay 10 = .ok (.iload_n 2, 1) := by decide +kernel
theorem dX9_lay_11 : decode cX9_lay 11 = .ok (.iadd, 1) := by decide +kernel
theorem dX9_lay_12 : decode cX9_lay 12 = .ok (.iload_n 3, 1) := by decide +kernel
theorem dX9_lay_13 : decode cX9_lay 13 = .ok (.iastore, 1) := by decide +kernel
theorem dX9_lay_14 : decode cX9_lay 14 = .ok (.return_, 1) := by decide +kernel
theorem dX9_isSection_0 : decode cX9_isSection 0 = .ok (.iload_n 1, 1) := by decide +kernel
theorem dX9_isSection_1 : decode cX9_isSection 1 = .ok (.iconst 0, 1) := by decide +kernel
theorem dX9_isSection_2 : decode cX9_isSection 2 = .ok (.aload_n 0, 1) := by decide +kernel
theorem dX9_isSection_3 : decode cX9_isSection 3 = .ok (.getfield 7, 3) := by decide +kernel
theorem dX9_isSection_6 : decode cX9_isSection 6 = .ok (.iconst 0, 1) := by decide +kernel
theorem dX9_isSection_7 : decode cX9_isSection 7 = .ok (.iaload, 1) := by decide +kernel
theorem dX9_isSection_8 : decode cX9_isSection 8 = .ok (.iconst 1, 1) := by decide +kernel
theorem dX9_isSection_9 : decode cX9_isSection 9 = .ok (.isub, 1) := by decide +kernel
theorem dX9_isSection_10 : decode cX9_isSection 10 = .ok (.invokestatic 25, 3) := by decide +kernel
theorem dX9_isSection_13 : decode cX9_isSection 13 = .ok (.ireturn, 1) := by decide +kernel
theorem dX9_isIsolator_0 : decode cX9_isIsolator 0 = .ok (.iload_n 1, 1) := by decide +kernel
theorem dX9_isIsolator_1 : decode cX9_isIsolator 1 = .ok (.iconst 0, 1) := by decide +kernel
theorem dX9_isIsolator_2 : decode cX9_isIsolator 2 = .ok (.aload_n 0, 1) := by decide +kernel
theorem dX9_isIsolator_3 : decode cX9_isIsolator 3 = .ok (.getfield 7, 3) := by decide +kernel
theorem dX9_isIsolator_6 : decode cX9_isIsolator 6 = .ok (.iconst 1, 1) := by decide +kernel
theorem dX9_isIsolator_7 : decode cX9_isIsolator 7 = .ok (.iaload, 1) := by decide +kernel
theorem dX9_isIsolator_8 : decode cX9_isIsolator 8 = .ok (.iconst 1, 1) := by decide +kernel
theorem dX9_isIsolator_9 : decode cX9_isIsolator 9 = .ok (.isub, 1) := by decide +kernel
theorem dX9_isIsolator_10 : decode cX9_isIsolator 10 = .ok (.invokestatic 25, 3) := by decide +kernel
theorem dX9_isIsolator_13 : decode cX9_isIsolator 13 = .ok (.ireturn, 1) := by decide +kernel
theorem dX9_bits_0 : decode cX9_bits 0 = .ok (.iconst 0, 1) := by decide +kernel
theorem dX9_bits_1 : decode cX9_bits 1 = .ok (.istore_n 1, 1) := by decide +kernel
theorem dX9_bits_2 : decode cX9_bits 2 = .ok (.iload_n 0, 1) := by decide +kernel
theorem dX9_bits_3 : decode cX9_bits 3 = .ok (.istore_n 2, 1) := by decide +kernel
theorem dX9_bits_4 : decode cX9_bits 4 = .ok (.iload_n 2, 1) := by decide +kernel
theorem dX9_bits_5 : decode cX9_bits 5 = .ok (.ifCond .eq 15, 3) := by decide +kernel
theorem dX9_bits_8 : decode cX9_bits 8 = .ok (.iinc 1 1, 3) := by decide +kernel
theorem dX9_bits_11 : decode cX9_bits 11 = .ok (.iload_n 2, 1) := by decide +kernel
theorem dX9_bits_12 : decode cX9_bits 12 = .ok (.iload_n 2, 1) := by decide +kernel
theorem dX9_bits_13 : decode cX9_bits 13 = .ok (.iconst 1, 1) := by decide +kernel
theorem dX9_bits_14 : decode cX9_bits 14 = .ok (.isub, 1) := by decide +kernel
theorem dX9_bits_15 : decode cX9_bits 15 = .ok (.iand, 1) := by decide +kernel
theorem dX9_bits_16 : decode cX9_bits 16 = .ok (.istore_n 2, 1) := by decide +kernel
theorem dX9_bits_17 : decode cX9_bits 17 = .ok (.goto (-13), 3) := by decide +kernel
theorem dX9_bits_20 : decode cX9_bits 20 = .ok (.iload_n 1, 1) := by decide +kernel
theorem dX9_bits_21 : decode cX9_bits 21 = .ok (.ireturn, 1) := by decide +kernel
theorem dX9_records_0 : decode cX9_records 0 = .ok (.aload_n 0, 1) := by decide +kernel
theorem dX9_records_1 : decode cX9_records 1 = .ok (.getfield 29, 3) := by decide +kernel
theorem dX9_records_4 : decode cX9_records 4 = .ok (.iconst 5, 1) := by decide +kernel
theorem dX9_records_5 : decode cX9_records 5 = .ok (.if_icmp .ne 44, 3) := by decide +kernel
theorem dX9_records_8 : decode cX9_records 8 = .ok (.iconst 0, 1) := by decide +kernel
theorem dX9_records_9 : decode cX9_records 9 = .ok (.istore_n 1, 1) := by decide +kernel
theorem dX9_records_10 : decode cX9_records 10 = .ok (.iload_n 1, 1) := by decide +kernel
theorem dX9_records_11 : decode cX9_records 11 = .ok (.sipush 932, 3) := by decide +kernel
theorem dX9_records_14 : decode cX9_records 14 = .ok (.if_icmp .ge 25, 3) := by decide +kernel
theorem dX9_records_17 : decode cX9_records 17 = .ok (.aload_n 0, 1) := by decide +kernel
theorem dX9_records_18 : decode cX9_records 18 = .ok (.getfield 13, 3) := by decide +kernel
theorem dX9_records_21 : decode cX9_records 21 = .ok (.iload_n 1, 1) := by decide +kernel
theorem dX9_records_22 : decode cX9_records 22 = .ok (.aload_n 0, 1) := by decide +kernel
theorem dX9_records_23 : decode cX9_records 23 = .ok (.getfield 13, 3) := by decide +kernel
theorem dX9_records_26 : decode cX9_records 26 = .ok (.iload_n 1, 1) := by decide +kernel
theorem dX9_records_27 : decode cX9_records 27 = .ok (.sipush 233, 3) := by decide +kernel
theorem dX9_records_30 : decode cX9_records 30 = .ok (.iadd, 1) := by decide +kernel
theorem dX9_records_31 : decode cX9_records 31 = .ok (.iaload, 1) := by decide +kernel
theorem dX9_records_32 : decode cX9_records 32 = .ok (.iastore, 1) := by decide +kernel
theorem dX9_records_33 : decode cX9_records 33 = .ok (.iinc 1 1, 3) := by decide +kernel
theorem dX9_records_36 : decode cX9_records 36 = .ok (.goto (-26), 3) := by decide +kernel
theorem dX9_records_39 : decode cX9_records 39 = .ok (.aload_n 0, 1) := by decide +kernel
theorem dX9_records_40 : decode cX9_records 40 = .ok (.dup, 1) := by decide +kernel
theorem dX9_records_41 : decode cX9_records 41 = .ok (.getfield 29, 3) := by decide +kernel
theorem dX9_records_44 : decode cX9_records 44 = .ok (.iconst 1, 1) := by decide +kernel
theorem dX9_records_45 : decode cX9_records 45 = .ok (.isub, 1) := by decide +kernel
theorem dX9_records_46 : decode cX9_records 46 = .ok (.putfield 29, 3) := by decide +kernel
theorem dX9_records_49 : decode cX9_records 49 = .ok (.iconst 0, 1) := by decide +kernel
theorem dX9_records_50 : decode cX9_records 50 = .ok (.istore_n 1, 1) := by decide +kernel
theorem dX9_records_51 : decode cX9_records 51 = .ok (.iload_n 1, 1) := by decide +kernel
theorem dX9_records_52 : decode cX9_records 52 = .ok (.sipush 233, 3) := by decide +kernel
theorem dX9_records_55 : decode cX9_records 55 = .ok (.if_icmp .ge 30, 3) := by decide +kernel
theorem dX9_records_58 : decode cX9_records 58 = .ok (.aload_n 0, 1) := by decide +kernel
theorem dX9_records_59 : decode cX9_records 59 = .ok (.getfield 13, 3) := by decide +kernel
theorem dX9_records_62 : decode cX9_records 62 = .ok (.sipush 233, 3) := by decide +kernel
theorem dX9_records_65 : decode cX9_records 65 = .ok (.aload_n 0, 1) := by decide +kernel
theorem dX9_records_66 : decode cX9_records 66 = .ok (.getfield 29, 3) := by decide +kernel
theorem dX9_records_69 : decode cX9_records 69 = .ok (.imul, 1) := by decide +kernel
theorem dX9_records_70 : decode cX9_records 70 = .ok (.iload_n 1, 1) := by decide +kernel
theorem dX9_records_71 : decode cX9_records 71 = .ok (.iadd, 1) := by decide +kernel
theorem dX9_records_72 : decode cX9_records 72 = .ok (.aload_n 0, 1) := by decide +kernel
theorem dX9_records_73 : decode cX9_records 73 = .ok (.getfield 7, 3) := by decide +kernel
theorem dX9_records_76 : decode cX9_records 76 = .ok (.iload_n 1, 1) := by decide +kernel
theorem dX9_records_77 : decode cX9_records 77 = .ok (.iaload, 1) := by decide +kernel
theorem dX9_records_78 : decode cX9_records 78 = .ok (.iastore, 1) := by decide +kernel
theorem dX9_records_79 : decode cX9_records 79 = .ok (.iinc 1 1, 3) := by decide +kernel
theorem dX9_records_82 : decode cX9_records 82 = .ok (.goto (-31), 3) := by decide +kernel
theorem dX9_records_85 : decode cX9_records 85 = .ok (.aload_n 0, 1) := by decide +kernel
theorem dX9_records_86 : decode cX9_records 86 = .ok (.dup, 1) := by decide +kernel
theorem dX9_records_87 : decode cX9_records 87 = .ok (.getfield 29, 3) := by decide +kernel
theorem dX9_records_90 : decode cX9_records 90 = .ok (.iconst 1, 1) := by decide +kernel
theorem dX9_records_91 : decode cX9_records 91 = .ok (.iadd, 1) := by decide +kernel
theorem dX9_records_92 : decode cX9_records 92 = .ok (.putfield 29, 3) := by decide +kernel
theorem dX9_records_95 : decode cX9_records 95 = .ok (.return_, 1) := by decide +kernel
theorem dX9_undo_0 : decode cX9_undo 0 = .ok (.aload_n 0, 1) := by decide +kernel
theorem dX9_undo_1 : decode cX9_undo 1 = .ok (.getfield 29, 3) := by decide +kernel
theorem dX9_undo_4 : decode cX9_undo 4 = .ok (.ifCond .ne 6, 3) := by decide +kernel
theorem dX9_undo_7 : decode cX9_undo 7 = .ok (.bipush (-2), 2) := by decide +kernel
theorem dX9_undo_9 : decode cX9_undo 9 = .ok (.ireturn, 1) := by decide +kernel
theorem dX9_undo_10 : decode cX9_undo 10 = .ok (.aload_n 0, 1) := by decide +kernel
theorem dX9_undo_11 : decode cX9_undo 11 = .ok (.dup, 1) := by decide +kernel
theorem dX9_undo_12 : decode cX9_undo 12 = .ok (.getfield 29, 3) := by decide +kernel
theorem dX9_undo_15 : decode cX9_undo 15 = .ok (.iconst 1, 1) := by decide +kernel
theorem dX9_undo_16 : decode cX9_undo 16 = .ok (.isub, 1) := by decide +kernel
theorem dX9_undo_17 : decode cX9_undo 17 = .ok (.putfield 29, 3) := by decide +kernel
theorem dX9_undo_20 : decode cX9_undo 20 = .ok (.iconst 0, 1) := by decide +kernel
theorem dX9_undo_21 : decode cX9_undo 21 = .ok (.istore_n 1, 1) := by decide +kernel
theorem dX9_undo_22 : decode cX9_undo 22 = .ok (.iload_n 1, 1) := by decide +kernel
theorem dX9_undo_23 : decode cX9_undo 23 = .ok (.sipush 233, 3) := by decide +kernel
theorem dX9_undo_26 : decode cX9_undo 26 = .ok (.if_icmp .ge 30, 3) := by decide +kernel
theorem dX9_undo_29 : decode cX9_undo 29 = .ok (.aload_n 0, 1) := by decide +kernel
theorem dX9_undo_30 : decode cX9_undo 30 = .ok (.getfield 7, 3) := by decide +kernel
theorem dX9_undo_33 : decode cX9_undo 33 = .ok (.iload_n 1, 1) := by decide +kernel
theorem dX9_undo_34 : decode cX9_undo 34 = .ok (.aload_n 0, 1) := by decide +kernel
theorem dX9_undo_35 : decode cX9_undo 35 = .ok (.getfield 13, 3) := by decide +kernel
theorem dX9_undo_38 : decode cX9_undo 38 = .ok (.sipush 233, 3) := by decide +kernel
theorem dX9_undo_41 : decode cX9_undo 41 = .ok (.aload_n 0, 1) := by decide +kernel
theorem dX9_undo_42 : decode cX9_undo 42 = .ok (.getfield 29, 3) := by decide +kernel
theorem dX9_undo_45 : decode cX9_undo 45 = .ok (.imul, 1) := by decide +kernel
theorem dX9_undo_46 : decode cX9_undo 46 = .ok (.iload_n 1, 1) := by decide +kernel
theorem dX9_undo_47 : decode cX9_undo 47 = .ok (.iadd, 1) := by decide +kernel
theorem dX9_undo_48 : decode cX9_undo 48 = .ok (.iaload, 1) := by decide +kernel
theorem dX9_undo_49 : decode cX9_undo 49 = .ok (.iastore, 1) := by decide +kernel
theorem dX9_undo_50 : decode cX9_undo 50 = .ok (.iinc 1 1, 3) := by decide +kernel
theorem dX9_undo_53 : decode cX9_undo 53 = .ok (.goto (-31), 3) := by decide +kernel
theorem dX9_undo_56 : decode cX9_undo 56 = .ok (.aload_n 0, 1) := by decide +kernel
theorem dX9_undo_57 : decode cX9_undo 57 = .ok (.getfield 29, 3) := by decide +kernel
theorem dX9_undo_60 : decode cX9_undo 60 = .ok (.ireturn, 1) := by decide +kernel
theorem dX9_laysAside_0 : decode cX9_laysAside 0 = .ok (.iconst 0, 1) := by decide +kernel
theorem dX9_laysAside_1 : decode cX9_laysAside 1 = .ok (.istore_n 1, 1) := by decide +kernel
theorem dX9_laysAside_2 : decode cX9_laysAside 2 = .ok (.iload_n 1, 1) := by decide +kernel
theorem dX9_laysAside_3 : decode cX9_laysAside 3 = .ok (.sipush 233, 3) := by decide +kernel
theorem dX9_laysAside_6 : decode cX9_laysAside 6 = .ok (.if_icmp .ge 21, 3) := by decide +kernel
theorem dX9_laysAside_9 : decode cX9_laysAside 9 = .ok (.aload_n 0, 1) := by decide +kernel
theorem dX9_laysAside_10 : decode cX9_laysAside 10 = .ok (.getfield 16, 3) := by decide +kernel
theorem dX9_laysAside_13 : decode cX9_laysAside 13 = .ok (.iload_n 1, 1) := by decide +kernel
theorem dX9_laysAside_14 : decode cX9_laysAside 14 = .ok (.aload_n 0, 1) := by decide +kernel
theorem dX9_laysAside_15 : decode cX9_laysAside 15 = .ok (.getfield 7, 3) := by decide +kernel
theorem dX9_laysAside_18 : decode cX9_laysAside 18 = .ok (.iload_n 1, 1) := by decide +kernel
theorem dX9_laysAside_19 : decode cX9_laysAside 19 = .ok (.iaload, 1) := by decide +kernel
theorem dX9_laysAside_20 : decode cX9_laysAside 20 = .ok (.iastore, 1) := by decide +kernel
theorem dX9_laysAside_21 : decode cX9_laysAside 21 = .ok (.iinc 1 1, 3) := by decide +kernel
theorem dX9_laysAside_24 : decode cX9_laysAside 24 = .ok (.goto (-22), 3) := by decide +kernel
theorem dX9_laysAside_27 : decode cX9_laysAside 27 = .ok (.return_, 1) := by decide +kernel
theorem dX9_bringsBack_0 : decode cX9_bringsBack 0 = .ok (.iconst 0, 1) := by decide +kernel
theorem dX9_bringsBack_1 : decode cX9_bringsBack 1 = .ok (.istore_n 1, 1) := by decide +kernel
theorem dX9_bringsBack_2 : decode cX9_bringsBack 2 = .ok (.iload_n 1, 1) := by decide +kernel
theorem dX9_bringsBack_3 : decode cX9_bringsBack 3 = .ok (.sipush 233, 3) := by decide +kernel
theorem dX9_bringsBack_6 : decode cX9_bringsBack 6 = .ok (.if_icmp .ge 21, 3) := by decide +kernel
theorem dX9_bringsBack_9 : decode cX9_bringsBack 9 = .ok (.aload_n 0, 1) := by decide +kernel
theorem dX9_bringsBack_10 : decode cX9_bringsBack 10 = .ok (.getfield 7, 3) := by decide +kernel
theorem dX9_bringsBack_13 : decode cX9_bringsBack 13 = .ok (.iload_n 1, 1) := by decide +kernel
theorem dX9_bringsBack_14 : decode cX9_bringsBack 14 = .ok (.aload_n 0, 1) := by decide +kernel
theorem dX9_bringsBack_15 : decode cX9_bringsBack 15 = .ok (.getfield 16, 3) := by decide +kernel
theorem dX9_bringsBack_18 : decode cX9_bringsBack 18 = .ok (.iload_n 1, 1) := by decide +kernel
theorem dX9_bringsBack_19 : decode cX9_bringsBack 19 = .ok (.iaload, 1) := by decide +kernel
theorem dX9_bringsBack_20 : decode cX9_bringsBack 20 = .ok (.iastore, 1) := by decide +kernel
theorem dX9_bringsBack_21 : decode cX9_bringsBack 21 = .ok (.iinc 1 1, 3) := by decide +kernel
theorem dX9_bringsBack_24 : decode cX9_bringsBack 24 = .ok (.goto (-22), 3) := by decide +kernel
theorem dX9_bringsBack_27 : decode cX9_bringsBack 27 = .ok (.return_, 1) := by decide +kernel
theorem dX9_closedOnes_0 : decode cX9_closedOnes 0 = .ok (.iconst 0, 1) := by decide +kernel
theorem dX9_closedOnes_1 : decode cX9_closedOnes 1 = .ok (.istore_n 1, 1) := by decide +kernel
theorem dX9_closedOnes_2 : decode cX9_closedOnes 2 = .ok (.iconst 0, 1) := by decide +kernel
theorem dX9_closedOnes_3 : decode cX9_closedOnes 3 = .ok (.istore_n 2, 1) := by decide +kernel
theorem dX9_closedOnes_4 : decode cX9_closedOnes 4 = .ok (.iload_n 2, 1) := by decide +kernel
theorem dX9_closedOnes_5 : decode cX9_closedOnes 5 = .ok (.aload_n 0, 1) := by decide +kernel
theorem dX9_closedOnes_6 : decode cX9_closedOnes 6 = .ok (.getfield 7, 3) := by decide +kernel
theorem dX9_closedOnes_9 : decode cX9_closedOnes 9 = .ok (.iconst 1, 1) := by decide +kernel
theorem dX9_closedOnes_10 : decode cX9_closedOnes 10 = .ok (.iaload, 1) := by decide +kernel
theorem dX9_closedOnes_11 : decode cX9_closedOnes 11 = .ok (.if_icmp .ge 20, 3) := by decide +kernel
theorem dX9_closedOnes_14 : decode cX9_closedOnes 14 = .ok (.iload_n 1, 1) := by decide +kernel
theorem dX9_closedOnes_15 : decode cX9_closedOnes 15 = .ok (.aload_n 0, 1) := by decide +kernel
theorem dX9_closedOnes_16 : decode cX9_closedOnes 16 = .ok (.iload_n 2, 1) := by decide +kernel
theorem dX9_closedOnes_17 : decode cX9_closedOnes 17 = .ok (.iconst 2, 1) := by decide +kernel
theorem dX9_closedOnes_18 : decode cX9_closedOnes 18 = .ok (.invokevirtual 33, 3) := by decide +kernel
theorem dX9_closedOnes_21 : decode cX9_closedOnes 21 = .ok (.iload_n 2, 1) := by decide +kernel
theorem dX9_closedOnes_22 : decode cX9_closedOnes 22 = .ok (.ishl, 1) := by decide +kernel
theorem dX9_closedOnes_23 : decode cX9_closedOnes 23 = .ok (.ior, 1) := by decide +kernel
theorem dX9_closedOnes_24 : decode cX9_closedOnes 24 = .ok (.istore_n 1, 1) := by decide +kernel
theorem dX9_closedOnes_25 : decode cX9_closedOnes 25 = .ok (.iinc 2 1, 3) := by decide +kernel
theorem dX9_closedOnes_28 : decode cX9_closedOnes 28 = .ok (.goto (-24), 3) := by decide +kernel
theorem dX9_closedOnes_31 : decode cX9_closedOnes 31 = .ok (.iload_n 1, 1) := by decide +kernel
theorem dX9_closedOnes_32 : decode cX9_closedOnes 32 = .ok (.ireturn, 1) := by decide +kernel
theorem dX9_onOnes_0 : decode cX9_onOnes 0 = .ok (.iconst 0, 1) := by decide +kernel
theorem dX9_onOnes_1 : decode cX9_onOnes 1 = .ok (.istore_n 1, 1) := by decide +kernel
theorem dX9_onOnes_2 : decode cX9_onOnes 2 = .ok (.iconst 0, 1) := by decide +kernel
theorem dX9_onOnes_3 : decode cX9_onOnes 3 = .ok (.istore_n 2, 1) := by decide +kernel
theorem dX9_onOnes_4 : decode cX9_onOnes 4 = .ok (.iload_n 2, 1) := by decide +kernel
theorem dX9_onOnes_5 : decode cX9_onOnes 5 = .ok (.aload_n 0, 1) := by decide +kernel
theorem dX9_onOnes_6 : decode cX9_onOnes 6 = .ok (.getfield 7, 3) := by decide +kernel
theorem dX9_onOnes_9 : decode cX9_onOnes 9 = .ok (.iconst 0, 1) := by decide +kernel
theorem dX9_onOnes_10 : decode cX9_onOnes 10 = .ok (.iaload, 1) := by decide +kernel
theorem dX9_onOnes_11 : decode cX9_onOnes 11 = .ok (.if_icmp .ge 29, 3) := by decide +kernel
theorem dX9_onOnes_14 : decode cX9_onOnes 14 = .ok (.iload_n 1, 1) := by decide +kernel
theorem dX9_onOnes_15 : decode cX9_onOnes 15 = .ok (.aload_n 0, 1) := by decide +kernel
theorem dX9_onOnes_16 : decode cX9_onOnes 16 = .ok (.iload_n 2, 1) := by decide +kernel
theorem dX9_onOnes_17 : decode cX9_onOnes 17 = .ok (.iconst 1, 1) := by decide +kernel
theorem dX9_onOnes_18 : decode cX9_onOnes 18 = .ok (.invokevirtual 37, 3) := by decide +kernel
theorem dX9_onOnes_21 : decode cX9_onOnes 21 = .ok (.iconst 2, 1) := by decide +kernel
theorem dX9_onOnes_22 : decode cX9_onOnes 22 = .ok (.if_icmp .ne 9, 3) := by decide +kernel
theorem dX9_onOnes_25 : decode cX9_onOnes 25 = .ok (.iconst 1, 1) := by decide +kernel
theorem dX9_onOnes_26 : decode cX9_onOnes 26 = .ok (.iload_n 2, 1) := by decide +kernel
theorem dX9_onOnes_27 : decode cX9_onOnes 27 = .ok (.ishl, 1) := by decide +kernel
theorem dX9_onOnes_28 : decode cX9_onOnes 28 = .ok (.goto 4, 3) := by decide +kernel
theorem dX9_onOnes_31 : decode cX9_onOnes 31 = .ok (.iconst 0, 1) := by decide +kernel
theorem dX9_onOnes_32 : decode cX9_onOnes 32 = .ok (.ior, 1) := by decide +kernel
theorem dX9_onOnes_33 : decode cX9_onOnes 33 = .ok (.istore_n 1, 1) := by decide +kernel
theorem dX9_onOnes_34 : decode cX9_onOnes 34 = .ok (.iinc 2 1, 3) := by decide +kernel
theorem dX9_onOnes_37 : decode cX9_onOnes 37 = .ok (.goto (-33), 3) := by decide +kernel
theorem dX9_onOnes_40 : decode cX9_onOnes 40 = .ok (.iload_n 1, 1) := by decide +kernel
theorem dX9_onOnes_41 : decode cX9_onOnes 41 = .ok (.ireturn, 1) := by decide +kernel
theorem dX9_with_0 : decode cX9_with 0 = .ok (.iconst 0, 1) := by decide +kernel
theorem dX9_with_1 : decode cX9_with 1 = .ok (.istore_n 2, 1) := by decide +kernel
theorem dX9_with_2 : decode cX9_with 2 = .ok (.iconst 0, 1) := by decide +kernel
theorem dX9_with_3 : decode cX9_with 3 = .ok (.istore_n 3, 1) := by decide +kernel
theorem dX9_with_4 : decode cX9_with 4 = .ok (.iload_n 3, 1) := by decide +kernel
theorem dX9_with_5 : decode cX9_with 5 = .ok (.aload_n 0, 1) := by decide +kernel
theorem dX9_with_6 : decode cX9_with 6 = .ok (.getfield 7, 3) := by decide +kernel
theorem dX9_with_9 : decode cX9_with 9 = .ok (.iconst 0, 1) := by decide +kernel
theorem dX9_with_10 : decode cX9_with 10 = .ok (.iaload, 1) := by decide +kernel
theorem dX9_with_11 : decode cX9_with 11 = .ok (.if_icmp .ge 28, 3) := by decide +kernel
theorem dX9_with_14 : decode cX9_with 14 = .ok (.iload_n 2, 1) := by decide +kernel
theorem dX9_with_15 : decode cX9_with 15 = .ok (.aload_n 0, 1) := by decide +kernel
theorem dX9_with_16 : decode cX9_with 16 = .ok (.iload_n 3, 1) := by decide +kernel
theorem dX9_with_17 : decode cX9_with 17 = .ok (.iload_n 1, 1) := by decide +kernel
theorem dX9_with_18 : decode cX9_with 18 = .ok (.invokevirtual 37, 3) := by decide +kernel
theorem dX9_with_21 : decode cX9_with 21 = .ok (.ifCond .le 9, 3) := by decide +kernel
theorem dX9_with_24 : decode cX9_with 24 = .ok (.iconst 1, 1) := by decide +kernel
theorem dX9_with_25 : decode cX9_with 25 = .ok (.iload_n 3, 1) := by decide +kernel
theorem dX9_with_26 : decode cX9_with 26 = .ok (.ishl, 1) := by decide +kernel
theorem dX9_with_27 : decode cX9_with 27 = .ok (.goto 4, 3) := by decide +kernel
theorem dX9_with_30 : decode cX9_with 30 = .ok (.iconst 0, 1) := by decide +kernel
theorem dX9_with_31 : decode cX9_with 31 = .ok (.ior, 1) := by decide +kernel
theorem dX9_with_32 : decode cX9_with 32 = .ok (.istore_n 2, 1) := by decide +kernel
theorem dX9_with_33 : decode cX9_with 33 = .ok (.iinc 3 1, 3) := by decide +kernel
theorem dX9_with_36 : decode cX9_with 36 = .ok (.goto (-32), 3) := by decide +kernel
theorem dX9_with_39 : decode cX9_with 39 = .ok (.iload_n 2, 1) := by decide +kernel
theorem dX9_with_40 : decode cX9_with 40 = .ok (.ireturn, 1) := by decide +kernel
theorem dX9_trams_0 : decode cX9_trams 0 = .ok (.iconst 1, 1) := by decide +kernel
theorem dX9_trams_1 : decode cX9_trams 1 = .ok (.aload_n 0, 1) := by decide +kernel
theorem dX9_trams_2 : decode cX9_trams 2 = .ok (.getfield 7, 3) := by decide +kernel
theorem dX9_trams_5 : decode cX9_trams 5 = .ok (.iconst 0, 1) := by decide +kernel
theorem dX9_trams_6 : decode cX9_trams 6 = .ok (.iaload, 1) := by decide +kernel
theorem dX9_trams_7 : decode cX9_trams 7 = .ok (.ishl, 1) := by decide +kernel
theorem dX9_trams_8 : decode cX9_trams 8 = .ok (.iconst 1, 1) := by decide +kernel
theorem dX9_trams_9 : decode cX9_trams 9 = .ok (.isub, 1) := by decide +kernel
theorem dX9_trams_10 : decode cX9_trams 10 = .ok (.aload_n 0, 1) := by decide +kernel
theorem dX9_trams_11 : decode cX9_trams 11 = .ok (.iconst 2, 1) := by decide +kernel
theorem dX9_trams_12 : decode cX9_trams 12 = .ok (.invokevirtual 40, 3) := by decide +kernel
theorem dX9_trams_15 : decode cX9_trams 15 = .ok (.iconst (-1), 1) := by decide +kernel
theorem dX9_trams_16 : decode cX9_trams 16 = .ok (.ixor, 1) := by decide +kernel
theorem dX9_trams_17 : decode cX9_trams 17 = .ok (.iand, 1) := by decide +kernel
theorem dX9_trams_18 : decode cX9_trams 18 = .ok (.ireturn, 1) := by decide +kernel
theorem dX9_hanging_0 : decode cX9_hanging 0 = .ok (.iload_n 1, 1) := by decide +kernel
theorem dX9_hanging_1 : decode cX9_hanging 1 = .ok (.istore_n 3, 1) := by decide +kernel
theorem dX9_hanging_2 : decode cX9_hanging 2 = .ok (.iconst 0, 1) := by decide +kernel
theorem dX9_hanging_3 : decode cX9_hanging 3 = .ok (.istore 4, 2) := by decide +kernel
theorem dX9_hanging_5 : decode cX9_hanging 5 = .ok (.iload 4, 2) := by decide +kernel
theorem dX9_hanging_7 : decode cX9_hanging 7 = .ok (.bipush 10, 2) := by decide +kernel
theorem dX9_hanging_9 : decode cX9_hanging 9 = .ok (.if_icmp .ge 76, 3) := by decide +kernel
theorem dX9_hanging_12 : decode cX9_hanging 12 = .ok (.iconst 0, 1) := by decide +kernel
theorem dX9_hanging_13 : decode cX9_hanging 13 = .ok (.istore 5, 2) := by decide +kernel
theorem dX9_hanging_15 : decode cX9_hanging 15 = .ok (.iload 5, 2) := by decide +kernel
theorem dX9_hanging_17 : decode cX9_hanging 17 = .ok (.aload_n 0, 1) := by decide +kernel
theorem dX9_hanging_18 : decode cX9_hanging 18 = .ok (.getfield 7, 3) := by decide +kernel
theorem dX9_hanging_21 : decode cX9_hanging 21 = .ok (.iconst 1, 1) := by decide +kernel
theorem dX9_hanging_22 : decode cX9_hanging 22 = .ok (.iaload, 1) := by decide +kernel
theorem dX9_hanging_23 : decode cX9_hanging 23 = .ok (.if_icmp .ge 56, 3) := by decide +kernel
theorem dX9_hanging_26 : decode cX9_hanging 26 = .ok (.iconst 1, 1) := by decide +kernel
theorem dX9_hanging_27 : decode cX9_hanging 27 = .ok (.aload_n 0, 1) := by decide +kernel
theorem dX9_hanging_28 : decode cX9_hanging 28 = .ok (.iload 5, 2) := by decide +kernel
theorem dX9_hanging_30 : decode cX9_hanging 30 = .ok (.iconst 0, 1) := by decide +kernel
theorem dX9_hanging_31 : decode cX9_hanging 31 = .ok (.invokevirtual 33, 3) := by decide +kernel
theorem dX9_hanging_34 : decode cX9_hanging 34 = .ok (.ishl, 1) := by decide +kernel
theorem dX9_hanging_35 : decode cX9_hanging 35 = .ok (.iconst 1, 1) := by decide +kernel
theorem dX9_hanging_36 : decode cX9_hanging 36 = .ok (.aload_n 0, 1) := by decide +kernel
theorem dX9_hanging_37 : decode cX9_hanging 37 = .ok (.iload 5, 2) := by decide +kernel
theorem dX9_hanging_39 : decode cX9_hanging 39 = .ok (.iconst 1, 1) := by decide +kernel
theorem dX9_hanging_40 : decode cX9_hanging 40 = .ok (.invokevirtual 33, 3) := by decide +kernel
theorem dX9_hanging_43 : decode cX9_hanging 43 = .ok (.ishl, 1) := by decide +kernel
theorem dX9_hanging_44 : decode cX9_hanging 44 = .ok (.ior, 1) := by decide +kernel
theorem dX9_hanging_45 : decode cX9_hanging 45 = .ok (.istore 6, 2) := by decide +kernel
theorem dX9_hanging_47 : decode cX9_hanging 47 = .ok (.iload_n 3, 1) := by decide +kernel
theorem dX9_hanging_48 : decode cX9_hanging 48 = .ok (.iload_n 2, 1) := by decide +kernel
theorem dX9_hanging_49 : decode cX9_hanging 49 = .ok (.iload 5, 2) := by decide +kernel
theorem dX9_hanging_51 : decode cX9_hanging 51 = .ok (.ishr, 1) := by decide +kernel
theorem dX9_hanging_52 : decode cX9_hanging 52 = .ok (.iconst 1, 1) := by decide +kernel
theorem dX9_hanging_53 : decode cX9_hanging 53 = .ok (.iand, 1) := by decide +kernel
theorem dX9_hanging_54 : decode cX9_hanging 54 = .ok (.iconst 1, 1) := by decide +kernel
theorem dX9_hanging_55 : decode cX9_hanging 55 = .ok (.if_icmp .ne 15, 3) := by decide +kernel
theorem dX9_hanging_58 : decode cX9_hanging 58 = .ok (.iload_n 3, 1) := by decide +kernel
theorem dX9_hanging_59 : decode cX9_hanging 59 = .ok (.iload 6, 2) := by decide +kernel
theorem dX9_hanging_61 : decode cX9_hanging 61 = .ok (.iand, 1) := by decide +kernel
theorem dX9_hanging_62 : decode cX9_hanging 62 = .ok (.ifCond .eq 8, 3) := by decide +kernel
theorem dX9_hanging_65 : decode cX9_hanging 65 = .ok (.iload 6, 2) := by decide +kernel
theorem dX9_hanging_67 : decode cX9_hanging 67 = .ok (.goto 4, 3) := by decide +kernel
theorem dX9_hanging_70 : decode cX9_hanging 70 = .ok (.iconst 0, 1) := by decide +kernel
theorem dX9_hanging_71 : decode cX9_hanging 71 = .ok (.ior, 1) := by decide +kernel
theorem dX9_hanging_72 : decode cX9_hanging 72 = .ok (.istore_n 3, 1) := by decide +kernel
theorem dX9_hanging_73 : decode cX9_hanging 73 = .ok (.iinc 5 1, 3) := by decide +kernel
theorem dX9_hanging_76 : decode cX9_hanging 76 = .ok (.goto (-61), 3) := by decide +kernel
theorem dX9_hanging_79 : decode cX9_hanging 79 = .ok (.iinc 4 1, 3) := by decide +kernel
theorem dX9_hanging_82 : decode cX9_hanging 82 = .ok (.goto (-77), 3) := by decide +kernel
theorem dX9_hanging_85 : decode cX9_hanging 85 = .ok (.iload_n 3, 1) := by decide +kernel
theorem dX9_hanging_86 : decode cX9_hanging 86 = .ok (.ireturn, 1) := by decide +kernel
theorem dX9_live_0 : decode cX9_live 0 = .ok (.iconst 0, 1) := by decide +kernel
theorem dX9_live_1 : decode cX9_live 1 = .ok (.istore_n 3, 1) := by decide +kernel
theorem dX9_live_2 : decode cX9_live 2 = .ok (.iconst 0, 1) := by decide +kernel
theorem dX9_live_3 : decode cX9_live 3 = .ok (.istore 4, 2) := by decide +kernel
theorem dX9_live_5 : decode cX9_live 5 = .ok (.iload 4, 2) := by decide +kernel
theorem dX9_live_7 : decode cX9_live 7 = .ok (.aload_n 0, 1) := by decide +kernel
theorem dX9_live_8 : decode cX9_live 8 = .ok (.getfield 7, 3) := by decide +kernel
theorem dX9_live_11 : decode cX9_live 11 = .ok (.iconst 0, 1) := by decide +kernel
theorem dX9_live_12 : decode cX9_live 12 = .ok (.iaload, 1) := by decide +kernel
theorem dX9_live_13 : decode cX9_live 13 = .ok (.if_icmp .ge 34, 3) := by decide +kernel
theorem dX9_live_16 : decode cX9_live 16 = .ok (.iload_n 3, 1) := by decide +kernel
theorem dX9_live_17 : decode cX9_live 17 = .ok (.aload_n 0, 1) := by decide +kernel
theorem dX9_live_18 : decode cX9_live 18 = .ok (.iconst 1, 1) := by decide +kernel
theorem dX9_live_19 : decode cX9_live 19 = .ok (.iload 4, 2) := by decide +kernel
theorem dX9_live_21 : decode cX9_live 21 = .ok (.ishl, 1) := by decide +kernel
theorem dX9_live_22 : decode cX9_live 22 = .ok (.iload_n 2, 1) := by decide +kernel
theorem dX9_live_23 : decode cX9_live 23 = .ok (.invokevirtual 44, 3) := by decide +kernel
theorem dX9_live_26 : decode cX9_live 26 = .ok (.iload_n 1, 1) := by decide +kernel
theorem dX9_live_27 : decode cX9_live 27 = .ok (.iand, 1) := by decide +kernel
theorem dX9_live_28 : decode cX9_live 28 = .ok (.ifCond .eq 10, 3) := by decide +kernel
theorem dX9_live_31 : decode cX9_live 31 = .ok (.iconst 1, 1) := by decide +kernel
theorem dX9_live_32 : decode cX9_live 32 = .ok (.iload 4, 2) := by decide +kernel
theorem dX9_live_34 : decode cX9_live 34 = .ok (.ishl, 1) := by decide +kernel
theorem dX9_live_35 : decode cX9_live 35 = .ok (.goto 4, 3) := by decide +kernel
theorem dX9_live_38 : decode cX9_live 38 = .ok (.iconst 0, 1) := by decide +kernel
theorem dX9_live_39 : decode cX9_live 39 = .ok (.ior, 1) := by decide +kernel
theorem dX9_live_40 : decode cX9_live 40 = .ok (.istore_n 3, 1) := by decide +kernel
theorem dX9_live_41 : decode cX9_live 41 = .ok (.iinc 4 1, 3) := by decide +kernel
theorem dX9_live_44 : decode cX9_live 44 = .ok (.goto (-39), 3) := by decide +kernel
theorem dX9_live_47 : decode cX9_live 47 = .ok (.iload_n 3, 1) := by decide +kernel
theorem dX9_live_48 : decode cX9_live 48 = .ok (.ireturn, 1) := by decide +kernel
theorem dX9_liveNow_0 : decode cX9_liveNow 0 = .ok (.aload_n 0, 1) := by decide +kernel
theorem dX9_liveNow_1 : decode cX9_liveNow 1 = .ok (.aload_n 0, 1) := by decide +kernel
theorem dX9_liveNow_2 : decode cX9_liveNow 2 = .ok (.invokevirtual 47, 3) := by decide +kernel
theorem dX9_liveNow_5 : decode cX9_liveNow 5 = .ok (.aload_n 0, 1) := by decide +kernel
theorem dX9_liveNow_6 : decode cX9_liveNow 6 = .ok (.invokevirtual 51, 3) := by decide +kernel
theorem dX9_liveNow_9 : decode cX9_liveNow 9 = .ok (.invokevirtual 54, 3) := by decide +kernel
theorem dX9_liveNow_12 : decode cX9_liveNow 12 = .ok (.ireturn, 1) := by decide +kernel
theorem dX9_isLive_0 : decode cX9_isLive 0 = .ok (.aload_n 0, 1) := by decide +kernel
theorem dX9_isLive_1 : decode cX9_isLive 1 = .ok (.invokevirtual 57, 3) := by decide +kernel
theorem dX9_isLive_4 : decode cX9_isLive 4 = .ok (.iload_n 1, 1) := by decide +kernel
theorem dX9_isLive_5 : decode cX9_isLive 5 = .ok (.ishr, 1) := by decide +kernel
theorem dX9_isLive_6 : decode cX9_isLive 6 = .ok (.iconst 1, 1) := by decide +kernel
theorem dX9_isLive_7 : decode cX9_isLive 7 = .ok (.iand, 1) := by decide +kernel
theorem dX9_isLive_8 : decode cX9_isLive 8 = .ok (.iconst 1, 1) := by decide +kernel
theorem dX9_isLive_9 : decode cX9_isLive 9 = .ok (.if_icmp .ne 7, 3) := by decide +kernel
theorem dX9_isLive_12 : decode cX9_isLive 12 = .ok (.iconst 1, 1) := by decide +kernel
theorem dX9_isLive_13 : decode cX9_isLive 13 = .ok (.goto 4, 3) := by decide +kernel
theorem dX9_isLive_16 : decode cX9_isLive 16 = .ok (.iconst 0, 1) := by decide +kernel
theorem dX9_isLive_17 : decode cX9_isLive 17 = .ok (.ireturn, 1) := by decide +kernel
theorem dX9_logged_0 : decode cX9_logged 0 = .ok (.aload_n 0, 1) := by decide +kernel
theorem dX9_logged_1 : decode cX9_logged 1 = .ok (.getfield 7, 3) := by decide +kernel
theorem dX9_logged_4 : decode cX9_logged 4 = .ok (.sipush 161, 3) := by decide +kernel
theorem dX9_logged_7 : decode cX9_logged 7 = .ok (.iconst 3, 1) := by decide +kernel
theorem dX9_logged_8 : decode cX9_logged 8 = .ok (.iload_n 1, 1) := by decide +kernel
theorem dX9_logged_9 : decode cX9_logged 9 = .ok (.imul, 1) := by decide +kernel
theorem dX9_logged_10 : decode cX9_logged 10 = .ok (.iadd, 1) := by decide +kernel
theorem dX9_logged_11 : decode cX9_logged 11 = .ok (.iload_n 2, 1) := by decide +kernel
theorem dX9_logged_12 : decode cX9_logged 12 = .ok (.iadd, 1) := by decide +kernel
theorem dX9_logged_13 : decode cX9_logged 13 = .ok (.iaload, 1) := by decide +kernel
theorem dX9_logged_14 : decode cX9_logged 14 = .ok (.ireturn, 1) := by decide +kernel
theorem dX9_toldBy_0 : decode cX9_toldBy 0 = .ok (.iconst (-1), 1) := by decide +kernel
theorem dX9_toldBy_1 : decode cX9_toldBy 1 = .ok (.istore 4, 2) := by decide +kernel
theorem dX9_toldBy_3 : decode cX9_toldBy 3 = .ok (.iconst 0, 1) := by decide +kernel
theorem dX9_toldBy_4 : decode cX9_toldBy 4 = .ok (.istore 5, 2) := by decide +kernel
theorem dX9_toldBy_6 : decode cX9_toldBy 6 = .ok (.iload 5, 2) := by decide +kernel
theorem dX9_toldBy_8 : decode cX9_toldBy 8 = .ok (.aload_n 0, 1) := by decide +kernel
theorem dX9_toldBy_9 : decode cX9_toldBy 9 = .ok (.getfield 7, 3) := by decide +kernel
theorem dX9_toldBy_12 : decode cX9_toldBy 12 = .ok (.iconst 5, 1) := by decide +kernel
theorem dX9_toldBy_13 : decode cX9_toldBy 13 = .ok (.iaload, 1) := by decide +kernel
theorem dX9_toldBy_14 : decode cX9_toldBy 14 = .ok (.if_icmp .ge 68, 3) := by decide +kernel
theorem dX9_toldBy_17 : decode cX9_toldBy 17 = .ok (.aload_n 0, 1) := by decide +kernel
theorem dX9_toldBy_18 : decode cX9_toldBy 18 = .ok (.iload 5, 2) := by decide +kernel
theorem dX9_toldBy_20 : decode cX9_toldBy 20 = .ok (.iconst 0, 1) := by decide +kernel
theorem dX9_toldBy_21 : decode cX9_toldBy 21 = .ok (.invokevirtual 60, 3) := by decide +kernel
theorem dX9_toldBy_24 : decode cX9_toldBy 24 = .ok (.iload_n 1, 1) := by decide +kernel
theorem dX9_toldBy_25 : decode cX9_toldBy 25 = .ok (.if_icmp .eq 14, 3) := by decide +kernel
theorem dX9_toldBy_28 : decode cX9_toldBy 28 = .ok (.aload_n 0, 1) := by decide +kernel
theorem dX9_toldBy_29 : decode cX9_toldBy 29 = .ok (.iload 5, 2) := by decide +kernel
theorem dX9_toldBy_31 : decode cX9_toldBy 31 = .ok (.iconst 0, 1) := by decide +kernel
theorem dX9_toldBy_32 : decode cX9_toldBy 32 = .ok (.invokevirtual 60, 3) := by decide +kernel
theorem dX9_toldBy_35 : decode cX9_toldBy 35 = .ok (.iload_n 2, 1) := by decide +kernel
theorem dX9_toldBy_36 : decode cX9_toldBy 36 = .ok (.if_icmp .ne 18, 3) := by decide +kernel
theorem dX9_toldBy_39 : decode cX9_toldBy 39 = .ok (.aload_n 0, 1) := by decide +kernel
theorem dX9_toldBy_40 : decode cX9_toldBy 40 = .ok (.iload 5, 2) := by decide +kernel
theorem dX9_toldBy_42 : decode cX9_toldBy 42 = .ok (.iconst 1, 1) := by decide +kernel
theorem dX9_toldBy_43 : decode cX9_toldBy 43 = .ok (.invokevirtual 60, 3) := by decide +kernel
theorem dX9_toldBy_46 : decode cX9_toldBy 46 = .ok (.iload_n 3, 1) := by decide +kernel
theorem dX9_toldBy_47 : decode cX9_toldBy 47 = .ok (.if_icmp .ne 7, 3) := by decide +kernel
theorem dX9_toldBy_50 : decode cX9_toldBy 50 = .ok (.iconst 1, 1) := by decide +kernel
theorem dX9_toldBy_51 : decode cX9_toldBy 51 = .ok (.goto 4, 3) := by decide +kernel
theorem dX9_toldBy_54 : decode cX9_toldBy 54 = .ok (.iconst 0, 1) := by decide +kernel
theorem dX9_toldBy_55 : decode cX9_toldBy 55 = .ok (.istore 6, 2) := by decide +kernel
theorem dX9_toldBy_57 : decode cX9_toldBy 57 = .ok (.iload 6, 2) := by decide +kernel
theorem dX9_toldBy_59 : decode cX9_toldBy 59 = .ok (.ifCond .eq 13, 3) := by decide +kernel
theorem dX9_toldBy_62 : decode cX9_toldBy 62 = .ok (.aload_n 0, 1) := by decide +kernel
theorem dX9_toldBy_63 : decode cX9_toldBy 63 = .ok (.iload 5, 2) := by decide +kernel
theorem dX9_toldBy_65 : decode cX9_toldBy 65 = .ok (.iconst 0, 1) := by decide +kernel
theorem dX9_toldBy_66 : decode cX9_toldBy 66 = .ok (.invokevirtual 60, 3) := by decide +kernel
theorem dX9_toldBy_69 : decode cX9_toldBy 69 = .ok (.goto 5, 3) := by decide +kernel
theorem dX9_toldBy_72 : decode cX9_toldBy 72 = .ok (.iload 4, 2) := by decide +kernel
theorem dX9_toldBy_74 : decode cX9_toldBy 74 = .ok (.istore 4, 2) := by decide +kernel
theorem dX9_toldBy_76 : decode cX9_toldBy 76 = .ok (.iinc 5 1, 3) := by decide +kernel
theorem dX9_toldBy_79 : decode cX9_toldBy 79 = .ok (.goto (-73), 3) := by decide +kernel
theorem dX9_toldBy_82 : decode cX9_toldBy 82 = .ok (.iload 4, 2) := by decide +kernel
theorem dX9_toldBy_84 : decode cX9_toldBy 84 = .ok (.ireturn, 1) := by decide +kernel
theorem dX9_closedAgain_0 : decode cX9_closedAgain 0 = .ok (.aload_n 0, 1) := by decide +kernel
theorem dX9_closedAgain_1 : decode cX9_closedAgain 1 = .ok (.iconst 2, 1) := by decide +kernel
theorem dX9_closedAgain_2 : decode cX9_closedAgain 2 = .ok (.iconst 3, 1) := by decide +kernel
theorem dX9_closedAgain_3 : decode cX9_closedAgain 3 = .ok (.iload_n 1, 1) := by decide +kernel
theorem dX9_closedAgain_4 : decode cX9_closedAgain 4 = .ok (.invokevirtual 63, 3) := by decide +kernel
theorem dX9_closedAgain_7 : decode cX9_closedAgain 7 = .ok (.istore_n 2, 1) := by decide +kernel
theorem dX9_closedAgain_8 : decode cX9_closedAgain 8 = .ok (.iload_n 2, 1) := by decide +kernel
theorem dX9_closedAgain_9 : decode cX9_closedAgain 9 = .ok (.ifCond .ge 12, 3) := by decide +kernel
theorem dX9_closedAgain_12 : decode cX9_closedAgain 12 = .ok (.aload_n 0, 1) := by decide +kernel
theorem dX9_closedAgain_13 : decode cX9_closedAgain 13 = .ok (.iload_n 1, 1) := by decide +kernel
theorem dX9_closedAgain_14 : decode cX9_closedAgain 14 = .ok (.iconst 3, 1) := by decide +kernel
theorem dX9_closedAgain_15 : decode cX9_closedAgain 15 = .ok (.invokevirtual 33, 3) := by decide +kernel
theorem dX9_closedAgain_18 : decode cX9_closedAgain 18 = .ok (.goto 13, 3) := by decide +kernel
theorem dX9_closedAgain_21 : decode cX9_closedAgain 21 = .ok (.iload_n 2, 1) := by decide +kernel
theorem dX9_closedAgain_22 : decode cX9_closedAgain 22 = .ok (.iconst 3, 1) := by decide +kernel
theorem dX9_closedAgain_23 : decode cX9_closedAgain 23 = .ok (.if_icmp .ne 7, 3) := by decide +kernel
theorem dX9_closedAgain_26 : decode cX9_closedAgain 26 = .ok (.iconst 1, 1) := by decide +kernel
theorem dX9_closedAgain_27 : decode cX9_closedAgain 27 = .ok (.goto 4, 3) := by decide +kernel
theorem dX9_closedAgain_30 : decode cX9_closedAgain 30 = .ok (.iconst 0, 1) := by decide +kernel
theorem dX9_closedAgain_31 : decode cX9_closedAgain 31 = .ok (.ireturn, 1) := by decide +kernel
theorem dX9_onAgain_0 : decode cX9_onAgain 0 = .ok (.aload_n 0, 1) := by decide +kernel
theorem dX9_onAgain_1 : decode cX9_onAgain 1 = .ok (.iconst 4, 1) := by decide +kernel
theorem dX9_onAgain_2 : decode cX9_onAgain 2 = .ok (.iconst 5, 1) := by decide +kernel
theorem dX9_onAgain_3 : decode cX9_onAgain 3 = .ok (.iload_n 1, 1) := by decide +kernel
theorem dX9_onAgain_4 : decode cX9_onAgain 4 = .ok (.invokevirtual 63, 3) := by decide +kernel
theorem dX9_onAgain_7 : decode cX9_onAgain 7 = .ok (.istore_n 2, 1) := by decide +kernel
theorem dX9_onAgain_8 : decode cX9_onAgain 8 = .ok (.iload_n 2, 1) := by decide +kernel
theorem dX9_onAgain_9 : decode cX9_onAgain 9 = .ok (.ifCond .ge 13, 3) := by decide +kernel
theorem dX9_onAgain_12 : decode cX9_onAgain 12 = .ok (.aload_n 0, 1) := by decide +kernel
theorem dX9_onAgain_13 : decode cX9_onAgain 13 = .ok (.iload_n 1, 1) := by decide +kernel
theorem dX9_onAgain_14 : decode cX9_onAgain 14 = .ok (.bipush 8, 2) := by decide +kernel
theorem dX9_onAgain_16 : decode cX9_onAgain 16 = .ok (.invokevirtual 37, 3) := by decide +kernel
theorem dX9_onAgain_19 : decode cX9_onAgain 19 = .ok (.goto 13, 3) := by decide +kernel
theorem dX9_onAgain_22 : decode cX9_onAgain 22 = .ok (.iload_n 2, 1) := by decide +kernel
theorem dX9_onAgain_23 : decode cX9_onAgain 23 = .ok (.iconst 5, 1) := by decide +kernel
theorem dX9_onAgain_24 : decode cX9_onAgain 24 = .ok (.if_icmp .ne 7, 3) := by decide +kernel
theorem dX9_onAgain_27 : decode cX9_onAgain 27 = .ok (.iconst 1, 1) := by decide +kernel
theorem dX9_onAgain_28 : decode cX9_onAgain 28 = .ok (.goto 4, 3) := by decide +kernel
theorem dX9_onAgain_31 : decode cX9_onAgain 31 = .ok (.iconst 0, 1) := by decide +kernel
theorem dX9_onAgain_32 : decode cX9_onAgain 32 = .ok (.ireturn, 1) := by decide +kernel
theorem dX9_liveAgain_0 : decode cX9_liveAgain 0 = .ok (.iconst 0, 1) := by decide +kernel
theorem dX9_liveAgain_1 : decode cX9_liveAgain 1 = .ok (.istore_n 1, 1) := by decide +kernel
theorem dX9_liveAgain_2 : decode cX9_liveAgain 2 = .ok (.iconst 0, 1) := by decide +kernel
theorem dX9_liveAgain_3 : decode cX9_liveAgain 3 = .ok (.istore_n 2, 1) := by decide +kernel
theorem dX9_liveAgain_4 : decode cX9_liveAgain 4 = .ok (.iconst 0, 1) := by decide +kernel
theorem dX9_liveAgain_5 : decode cX9_liveAgain 5 = .ok (.istore_n 3, 1) := by decide +kernel
theorem dX9_liveAgain_6 : decode cX9_liveAgain 6 = .ok (.iload_n 3, 1) := by decide +kernel
theorem dX9_liveAgain_7 : decode cX9_liveAgain 7 = .ok (.aload_n 0, 1) := by decide +kernel
theorem dX9_liveAgain_8 : decode cX9_liveAgain 8 = .ok (.getfield 7, 3) := by decide +kernel
theorem dX9_liveAgain_11 : decode cX9_liveAgain 11 = .ok (.iconst 0, 1) := by decide +kernel
theorem dX9_liveAgain_12 : decode cX9_liveAgain 12 = .ok (.iaload, 1) := by decide +kernel
theorem dX9_liveAgain_13 : decode cX9_liveAgain 13 = .ok (.if_icmp .ge 19, 3) := by decide +kernel
theorem dX9_liveAgain_16 : decode cX9_liveAgain 16 = .ok (.iload_n 1, 1) := by decide +kernel
theorem dX9_liveAgain_17 : decode cX9_liveAgain 17 = .ok (.aload_n 0, 1) := by decide +kernel
theorem dX9_liveAgain_18 : decode cX9_liveAgain 18 = .ok (.iload_n 3, 1) := by decide +kernel
theorem dX9_liveAgain_19 : decode cX9_liveAgain 19 = .ok (.invokevirtual 67, 3) := by decide +kernel
theorem dX9_liveAgain_22 : decode cX9_liveAgain 22 = .ok (.iload_n 3, 1) := by decide +kernel
theorem dX9_liveAgain_23 : decode cX9_liveAgain 23 = .ok (.ishl, 1) := by decide +kernel
theorem dX9_liveAgain_24 : decode cX9_liveAgain 24 = .ok (.ior, 1) := by decide +kernel
theorem dX9_liveAgain_25 : decode cX9_liveAgain 25 = .ok (.istore_n 1, 1) := by decide +kernel
theorem dX9_liveAgain_26 : decode cX9_liveAgain 26 = .ok (.iinc 3 1, 3) := by decide +kernel
theorem dX9_liveAgain_29 : decode cX9_liveAgain 29 = .ok (.goto (-23), 3) := by decide +kernel
theorem dX9_liveAgain_32 : decode cX9_liveAgain 32 = .ok (.iconst 0, 1) := by decide +kernel
theorem dX9_liveAgain_33 : decode cX9_liveAgain 33 = .ok (.istore_n 3, 1) := by decide +kernel
theorem dX9_liveAgain_34 : decode cX9_liveAgain 34 = .ok (.iload_n 3, 1) := by decide +kernel
theorem dX9_liveAgain_35 : decode cX9_liveAgain 35 = .ok (.aload_n 0, 1) := by decide +kernel
theorem dX9_liveAgain_36 : decode cX9_liveAgain 36 = .ok (.getfield 7, 3) := by decide +kernel
theorem dX9_liveAgain_39 : decode cX9_liveAgain 39 = .ok (.iconst 1, 1) := by decide +kernel
theorem dX9_liveAgain_40 : decode cX9_liveAgain 40 = .ok (.iaload, 1) := by decide +kernel
theorem dX9_liveAgain_41 : decode cX9_liveAgain 41 = .ok (.if_icmp .ge 19, 3) := by decide +kernel
theorem dX9_liveAgain_44 : decode cX9_liveAgain 44 = .ok (.iload_n 2, 1) := by decide +kernel
theorem dX9_liveAgain_45 : decode cX9_liveAgain 45 = .ok (.aload_n 0, 1) := by decide +kernel
theorem dX9_liveAgain_46 : decode cX9_liveAgain 46 = .ok (.iload_n 3, 1) := by decide +kernel
theorem dX9_liveAgain_47 : decode cX9_liveAgain 47 = .ok (.invokevirtual 70, 3) := by decide +kernel
theorem dX9_liveAgain_50 : decode cX9_liveAgain 50 = .ok (.iload_n 3, 1) := by decide +kernel
theorem dX9_liveAgain_51 : decode cX9_liveAgain 51 = .ok (.ishl, 1) := by decide +kernel
theorem dX9_liveAgain_52 : decode cX9_liveAgain 52 = .ok (.ior, 1) := by decide +kernel
theorem dX9_liveAgain_53 : decode cX9_liveAgain 53 = .ok (.istore_n 2, 1) := by decide +kernel
theorem dX9_liveAgain_54 : decode cX9_liveAgain 54 = .ok (.iinc 3 1, 3) := by decide +kernel
theorem dX9_liveAgain_57 : decode cX9_liveAgain 57 = .ok (.goto (-23), 3) := by decide +kernel
theorem dX9_liveAgain_60 : decode cX9_liveAgain 60 = .ok (.aload_n 0, 1) := by decide +kernel
theorem dX9_liveAgain_61 : decode cX9_liveAgain 61 = .ok (.iload_n 1, 1) := by decide +kernel
theorem dX9_liveAgain_62 : decode cX9_liveAgain 62 = .ok (.iload_n 2, 1) := by decide +kernel
theorem dX9_liveAgain_63 : decode cX9_liveAgain 63 = .ok (.invokevirtual 44, 3) := by decide +kernel
theorem dX9_liveAgain_66 : decode cX9_liveAgain 66 = .ok (.ireturn, 1) := by decide +kernel
theorem dX9_section_0 : decode cX9_section 0 = .ok (.iload_n 1, 1) := by decide +kernel
theorem dX9_section_1 : decode cX9_section 1 = .ok (.iconst 1, 1) := by decide +kernel
theorem dX9_section_2 : decode cX9_section 2 = .ok (.bipush 9, 2) := by decide +kernel
theorem dX9_section_4 : decode cX9_section 4 = .ok (.invokestatic 25, 3) := by decide +kernel
theorem dX9_section_7 : decode cX9_section 7 = .ok (.ifCond .eq 12, 3) := by decide +kernel
theorem dX9_section_10 : decode cX9_section 10 = .ok (.iload_n 2, 1) := by decide +kernel
theorem dX9_section_11 : decode cX9_section 11 = .ok (.iconst 0, 1) := by decide +kernel
theorem dX9_section_12 : decode cX9_section 12 = .ok (.iconst 1, 1) := by decide +kernel
theorem dX9_section_13 : decode cX9_section 13 = .ok (.invokestatic 25, 3) := by decide +kernel
theorem dX9_section_16 : decode cX9_section 16 = .ok (.ifCond .ne 5, 3) := by decide +kernel
theorem dX9_section_19 : decode cX9_section 19 = .ok (.iconst (-1), 1) := by decide +kernel
theorem dX9_section_20 : decode cX9_section 20 = .ok (.ireturn, 1) := by decide +kernel
theorem dX9_section_21 : decode cX9_section 21 = .ok (.aload_n 0, 1) := by decide +kernel
theorem dX9_section_22 : decode cX9_section 22 = .ok (.getfield 7, 3) := by decide +kernel
theorem dX9_section_25 : decode cX9_section 25 = .ok (.iconst 0, 1) := by decide +kernel
theorem dX9_section_26 : decode cX9_section 26 = .ok (.iaload, 1) := by decide +kernel
theorem dX9_section_27 : decode cX9_section 27 = .ok (.bipush 10, 2) := by decide +kernel
theorem dX9_section_29 : decode cX9_section 29 = .ok (.if_icmp .ne 6, 3) := by decide +kernel
theorem dX9_section_32 : decode cX9_section 32 = .ok (.bipush (-3), 2) := by decide +kernel
theorem dX9_section_34 : decode cX9_section 34 = .ok (.ireturn, 1) := by decide +kernel
theorem dX9_section_35 : decode cX9_section 35 = .ok (.aload_n 0, 1) := by decide +kernel
theorem dX9_section_36 : decode cX9_section 36 = .ok (.invokevirtual 73, 3) := by decide +kernel
theorem dX9_section_39 : decode cX9_section 39 = .ok (.aload_n 0, 1) := by decide +kernel
theorem dX9_section_40 : decode cX9_section 40 = .ok (.getfield 7, 3) := by decide +kernel
theorem dX9_section_43 : decode cX9_section 43 = .ok (.iconst 0, 1) := by decide +kernel
theorem dX9_section_44 : decode cX9_section 44 = .ok (.iaload, 1) := by decide +kernel
theorem dX9_section_45 : decode cX9_section 45 = .ok (.istore_n 3, 1) := by decide +kernel
theorem dX9_section_46 : decode cX9_section 46 = .ok (.iconst 0, 1) := by decide +kernel
theorem dX9_section_47 : decode cX9_section 47 = .ok (.istore 4, 2) := by decide +kernel
theorem dX9_section_49 : decode cX9_section 49 = .ok (.iload 4, 2) := by decide +kernel
theorem dX9_section_51 : decode cX9_section 51 = .ok (.bipush 9, 2) := by decide +kernel
theorem dX9_section_53 : decode cX9_section 53 = .ok (.if_icmp .ge 17, 3) := by decide +kernel
theorem dX9_section_56 : decode cX9_section 56 = .ok (.aload_n 0, 1) := by decide +kernel
theorem dX9_section_57 : decode cX9_section 57 = .ok (.iload_n 3, 1) := by decide +kernel
theorem dX9_section_58 : decode cX9_section 58 = .ok (.iload 4, 2) := by decide +kernel
theorem dX9_section_60 : decode cX9_section 60 = .ok (.iconst 0, 1) := by decide +kernel
theorem dX9_section_61 : decode cX9_section 61 = .ok (.invokevirtual 76, 3) := by decide +kernel
theorem dX9_section_64 : decode cX9_section 64 = .ok (.iinc 4 1, 3) := by decide +kernel
theorem dX9_section_67 : decode cX9_section 67 = .ok (.goto (-18), 3) := by decide +kernel
theorem dX9_section_70 : decode cX9_section 70 = .ok (.aload_n 0, 1) := by decide +kernel
theorem dX9_section_71 : decode cX9_section 71 = .ok (.iload_n 3, 1) := by decide +kernel
theorem dX9_section_72 : decode cX9_section 72 = .ok (.iconst 0, 1) := by decide +kernel
theorem dX9_section_73 : decode cX9_section 73 = .ok (.iload_n 1, 1) := by decide +kernel
theorem dX9_section_74 : decode cX9_section 74 = .ok (.invokevirtual 76, 3) := by decide +kernel
theorem dX9_section_77 : decode cX9_section 77 = .ok (.aload_n 0, 1) := by decide +kernel
theorem dX9_section_78 : decode cX9_section 78 = .ok (.iload_n 3, 1) := by decide +kernel
theorem dX9_section_79 : decode cX9_section 79 = .ok (.iconst 1, 1) := by decide +kernel
theorem dX9_section_80 : decode cX9_section 80 = .ok (.iconst 2, 1) := by decide +kernel
theorem dX9_section_81 : decode cX9_section 81 = .ok (.iload_n 2, 1) := by decide +kernel
theorem dX9_section_82 : decode cX9_section 82 = .ok (.imul, 1) := by decide +kernel
theorem dX9_section_83 : decode cX9_section 83 = .ok (.invokevirtual 76, 3) := by decide +kernel
theorem dX9_section_86 : decode cX9_section 86 = .ok (.aload_n 0, 1) := by decide +kernel
theorem dX9_section_87 : decode cX9_section 87 = .ok (.iload_n 3, 1) := by decide +kernel
theorem dX9_section_88 : decode cX9_section 88 = .ok (.bipush 8, 2) := by decide +kernel
theorem dX9_section_90 : decode cX9_section 90 = .ok (.iload_n 2, 1) := by decide +kernel
theorem dX9_section_91 : decode cX9_section 91 = .ok (.invokevirtual 76, 3) := by decide +kernel
theorem dX9_section_94 : decode cX9_section 94 = .ok (.aload_n 0, 1) := by decide +kernel
theorem dX9_section_95 : decode cX9_section 95 = .ok (.getfield 7, 3) := by decide +kernel
theorem dX9_section_98 : decode cX9_section 98 = .ok (.iconst 0, 1) := by decide +kernel
theorem dX9_section_99 : decode cX9_section 99 = .ok (.dup2, 1) := by decide +kernel
theorem dX9_section_100 : decode cX9_section 100 = .ok (.iaload, 1) := by decide +kernel
theorem dX9_section_101 : decode cX9_section 101 = .ok (.iconst 1, 1) := by decide +kernel
theorem dX9_section_102 : decode cX9_section 102 = .ok (.iadd, 1) := by decide +kernel
theorem dX9_section_103 : decode cX9_section 103 = .ok (.iastore, 1) := by decide +kernel
theorem dX9_section_104 : decode cX9_section 104 = .ok (.iload_n 3, 1) := by decide +kernel
theorem dX9_section_105 : decode cX9_section 105 = .ok (.ireturn, 1) := by decide +kernel
theorem dX9_against_0 : decode cX9_against 0 = .ok (.iload_n 2, 1) := by decide +kernel
theorem dX9_against_1 : decode cX9_against 1 = .ok (.iload_n 1, 1) := by decide +kernel
theorem dX9_against_2 : decode cX9_against 2 = .ok (.iconst (-1), 1) := by decide +kernel
theorem dX9_against_3 : decode cX9_against 3 = .ok (.ixor, 1) := by decide +kernel
theorem dX9_against_4 : decode cX9_against 4 = .ok (.iand, 1) := by decide +kernel
theorem dX9_against_5 : decode cX9_against 5 = .ok (.istore_n 3, 1) := by decide +kernel
theorem dX9_against_6 : decode cX9_against 6 = .ok (.iload_n 3, 1) := by decide +kernel
theorem dX9_against_7 : decode cX9_against 7 = .ok (.aload_n 0, 1) := by decide +kernel
theorem dX9_against_8 : decode cX9_against 8 = .ok (.iconst 3, 1) := by decide +kernel
theorem dX9_against_9 : decode cX9_against 9 = .ok (.invokevirtual 40, 3) := by decide +kernel
theorem dX9_against_12 : decode cX9_against 12 = .ok (.iand, 1) := by decide +kernel
theorem dX9_against_13 : decode cX9_against 13 = .ok (.ifCond .eq 7, 3) := by decide +kernel
theorem dX9_against_16 : decode cX9_against 16 = .ok (.iconst 1, 1) := by decide +kernel
theorem dX9_against_17 : decode cX9_against 17 = .ok (.goto 19, 3) := by decide +kernel
theorem dX9_against_20 : decode cX9_against 20 = .ok (.iload_n 3, 1) := by decide +kernel
theorem dX9_against_21 : decode cX9_against 21 = .ok (.aload_n 0, 1) := by decide +kernel
theorem dX9_against_22 : decode cX9_against 22 = .ok (.bipush 7, 2) := by decide +kernel
theorem dX9_against_24 : decode cX9_against 24 = .ok (.invokevirtual 40, 3) := by decide +kernel
theorem dX9_against_27 : decode cX9_against 27 = .ok (.iand, 1) := by decide +kernel
theorem dX9_against_28 : decode cX9_against 28 = .ok (.ifCond .eq 7, 3) := by decide +kernel
theorem dX9_against_31 : decode cX9_against 31 = .ok (.iconst 2, 1) := by decide +kernel
theorem dX9_against_32 : decode cX9_against 32 = .ok (.goto 4, 3) := by decide +kernel
theorem dX9_against_35 : decode cX9_against 35 = .ok (.iconst 0, 1) := by decide +kernel
theorem dX9_against_36 : decode cX9_against 36 = .ok (.ireturn, 1) := by decide +kernel
theorem dX9_newIsolator_0 : decode cX9_newIsolator 0 = .ok (.aload_n 0, 1) := by decide +kernel
theorem dX9_newIsolator_1 : decode cX9_newIsolator 1 = .ok (.getfield 7, 3) := by decide +kernel
theorem dX9_newIsolator_4 : decode cX9_newIsolator 4 = .ok (.iconst 1, 1) := by decide +kernel
theorem dX9_newIsolator_5 : decode cX9_newIsolator 5 = .ok (.iaload, 1) := by decide +kernel
theorem dX9_newIsolator_6 : decode cX9_newIsolator 6 = .ok (.istore_n 3, 1) := by decide +kernel
theorem dX9_newIsolator_7 : decode cX9_newIsolator 7 = .ok (.aload_n 0, 1) := by decide +kernel
theorem dX9_newIsolator_8 : decode cX9_newIsolator 8 = .ok (.iload_n 3, 1) := by decide +kernel
theorem dX9_newIsolator_9 : decode cX9_newIsolator 9 = .ok (.iconst 0, 1) := by decide +kernel
theorem dX9_newIsolator_10 : decode cX9_newIsolator 10 = .ok (.iload_n 1, 1) := by decide +kernel
theorem dX9_newIsolator_11 : decode cX9_newIsolator 11 = .ok (.invokevirtual 80, 3) := by decide +kernel
theorem dX9_newIsolator_14 : decode cX9_newIsolator 14 = .ok (.aload_n 0, 1) := by decide +kernel
theorem dX9_newIsolator_15 : decode cX9_newIsolator 15 = .ok (.iload_n 3, 1) := by decide +kernel
theorem dX9_newIsolator_16 : decode cX9_newIsolator 16 = .ok (.iconst 1, 1) := by decide +kernel
theorem dX9_newIsolator_17 : decode cX9_newIsolator 17 = .ok (.iload_n 2, 1) := by decide +kernel
theorem dX9_newIsolator_18 : decode cX9_newIsolator 18 = .ok (.invokevirtual 80, 3) := by decide +kernel
theorem dX9_newIsolator_21 : decode cX9_newIsolator 21 = .ok (.aload_n 0, 1) := by decide +kernel
theorem dX9_newIsolator_22 : decode cX9_newIsolator 22 = .ok (.iload_n 3, 1) := by decide +kernel
theorem dX9_newIsolator_23 : decode cX9_newIsolator 23 = .ok (.iconst 2, 1) := by decide +kernel
theorem dX9_newIsolator_24 : decode cX9_newIsolator 24 = .ok (.iconst 1, 1) := by decide +kernel
theorem dX9_newIsolator_25 : decode cX9_newIsolator 25 = .ok (.invokevirtual 80, 3) := by decide +kernel
theorem dX9_newIsolator_28 : decode cX9_newIsolator 28 = .ok (.aload_n 0, 1) := by decide +kernel
theorem dX9_newIsolator_29 : decode cX9_newIsolator 29 = .ok (.iload_n 3, 1) := by decide +kernel
theorem dX9_newIsolator_30 : decode cX9_newIsolator 30 = .ok (.iconst 3, 1) := by decide +kernel
theorem dX9_newIsolator_31 : decode cX9_newIsolator 31 = .ok (.iconst 1, 1) := by decide +kernel
theorem dX9_newIsolator_32 : decode cX9_newIsolator 32 = .ok (.invokevirtual 80, 3) := by decide +kernel
theorem dX9_newIsolator_35 : decode cX9_newIsolator 35 = .ok (.aload_n 0, 1) := by decide +kernel
theorem dX9_newIsolator_36 : decode cX9_newIsolator 36 = .ok (.getfield 7, 3) := by decide +kernel
theorem dX9_newIsolator_39 : decode cX9_newIsolator 39 = .ok (.iconst 1, 1) := by decide +kernel
theorem dX9_newIsolator_40 : decode cX9_newIsolator 40 = .ok (.dup2, 1) := by decide +kernel
theorem dX9_newIsolator_41 : decode cX9_newIsolator 41 = .ok (.iaload, 1) := by decide +kernel
theorem dX9_newIsolator_42 : decode cX9_newIsolator 42 = .ok (.iconst 1, 1) := by decide +kernel
theorem dX9_newIsolator_43 : decode cX9_newIsolator 43 = .ok (.iadd, 1) := by decide +kernel
theorem dX9_newIsolator_44 : decode cX9_newIsolator 44 = .ok (.iastore, 1) := by decide +kernel
theorem dX9_newIsolator_45 : decode cX9_newIsolator 45 = .ok (.return_, 1) := by decide +kernel
theorem dX9_mayJoin_0 : decode cX9_mayJoin 0 = .ok (.aload_n 0, 1) := by decide +kernel
theorem dX9_mayJoin_1 : decode cX9_mayJoin 1 = .ok (.invokevirtual 57, 3) := by decide +kernel
theorem dX9_mayJoin_4 : decode cX9_mayJoin 4 = .ok (.istore_n 3, 1) := by decide +kernel
theorem dX9_mayJoin_5 : decode cX9_mayJoin 5 = .ok (.aload_n 0, 1) := by decide +kernel
theorem dX9_mayJoin_6 : decode cX9_mayJoin 6 = .ok (.iconst 1, 1) := by decide +kernel
theorem dX9_mayJoin_7 : decode cX9_mayJoin 7 = .ok (.iload_n 1, 1) := by decide +kernel
theorem dX9_mayJoin_8 : decode cX9_mayJoin 8 = .ok (.ishl, 1) := by decide +kernel
theorem dX9_mayJoin_9 : decode cX9_mayJoin 9 = .ok (.iconst 1, 1) := by decide +kernel
theorem dX9_mayJoin_10 : decode cX9_mayJoin 10 = .ok (.iload_n 2, 1) := by decide +kernel
theorem dX9_mayJoin_11 : decode cX9_mayJoin 11 = .ok (.ishl, 1) := by decide +kernel
theorem dX9_mayJoin_12 : decode cX9_mayJoin 12 = .ok (.ior, 1) := by decide +kernel
theorem dX9_mayJoin_13 : decode cX9_mayJoin 13 = .ok (.aload_n 0, 1) := by decide +kernel
theorem dX9_mayJoin_14 : decode cX9_mayJoin 14 = .ok (.invokevirtual 51, 3) := by decide +kernel
theorem dX9_mayJoin_17 : decode cX9_mayJoin 17 = .ok (.invokevirtual 44, 3) := by decide +kernel
theorem dX9_mayJoin_20 : decode cX9_mayJoin 20 = .ok (.istore 4, 2) := by decide +kernel
theorem dX9_mayJoin_22 : decode cX9_mayJoin 22 = .ok (.aload_n 0, 1) := by decide +kernel
theorem dX9_mayJoin_23 : decode cX9_mayJoin 23 = .ok (.iload_n 3, 1) := by decide +kernel
theorem dX9_mayJoin_24 : decode cX9_mayJoin 24 = .ok (.iload 4, 2) := by decide +kernel
theorem dX9_mayJoin_26 : decode cX9_mayJoin 26 = .ok (.iload_n 3, 1) := by decide +kernel
theorem dX9_mayJoin_27 : decode cX9_mayJoin 27 = .ok (.iand, 1) := by decide +kernel
theorem dX9_mayJoin_28 : decode cX9_mayJoin 28 = .ok (.ifCond .eq 10, 3) := by decide +kernel
theorem dX9_mayJoin_31 : decode cX9_mayJoin 31 = .ok (.iload_n 3, 1) := by decide +kernel
theorem dX9_mayJoin_32 : decode cX9_mayJoin 32 = .ok (.iload 4, 2) := by decide +kernel
theorem dX9_mayJoin_34 : decode cX9_mayJoin 34 = .ok (.ior, 1) := by decide +kernel
theorem dX9_mayJoin_35 : decode cX9_mayJoin 35 = .ok (.goto 4, 3) := by decide +kernel
theorem dX9_mayJoin_38 : decode cX9_mayJoin 38 = .ok (.iload_n 3, 1) := by decide +kernel
theorem dX9_mayJoin_39 : decode cX9_mayJoin 39 = .ok (.invokevirtual 83, 3) := by decide +kernel
theorem dX9_mayJoin_42 : decode cX9_mayJoin 42 = .ok (.ifCond .ne 7, 3) := by decide +kernel
theorem dX9_mayJoin_45 : decode cX9_mayJoin 45 = .ok (.iconst 1, 1) := by decide +kernel
theorem dX9_mayJoin_46 : decode cX9_mayJoin 46 = .ok (.goto 4, 3) := by decide +kernel
theorem dX9_mayJoin_49 : decode cX9_mayJoin 49 = .ok (.iconst 0, 1) := by decide +kernel
theorem dX9_mayJoin_50 : decode cX9_mayJoin 50 = .ok (.ireturn, 1) := by decide +kernel
theorem dX9_isolator_0 : decode cX9_isolator 0 = .ok (.aload_n 0, 1) := by decide +kernel
theorem dX9_isolator_1 : decode cX9_isolator 1 = .ok (.iload_n 1, 1) := by decide +kernel
theorem dX9_isolator_2 : decode cX9_isolator 2 = .ok (.invokevirtual 86, 3) := by decide +kernel
theorem dX9_isolator_5 : decode cX9_isolator 5 = .ok (.ifCond .eq 16, 3) := by decide +kernel
theorem dX9_isolator_8 : decode cX9_isolator 8 = .ok (.aload_n 0, 1) := by decide +kernel
theorem dX9_isolator_9 : decode cX9_isolator 9 = .ok (.iload_n 2, 1) := by decide +kernel
theorem dX9_isolator_10 : decode cX9_isolator 10 = .ok (.invokevirtual 86, 3) := by decide +kernel
theorem dX9_isolator_13 : decode cX9_isolator 13 = .ok (.ifCond .eq 8, 3) := by decide +kernel
theorem dX9_isolator_16 : decode cX9_isolator 16 = .ok (.iload_n 1, 1) := by decide +kernel
theorem dX9_isolator_17 : decode cX9_isolator 17 = .ok (.iload_n 2, 1) := by decide +kernel
theorem dX9_isolator_18 : decode cX9_isolator 18 = .ok (.if_icmp .ne 5, 3) := by decide +kernel
theorem dX9_isolator_21 : decode cX9_isolator 21 = .ok (.iconst (-1), 1) := by decide +kernel
theorem dX9_isolator_22 : decode cX9_isolator 22 = .ok (.ireturn, 1) := by decide +kernel
theorem dX9_isolator_23 : decode cX9_isolator 23 = .ok (.aload_n 0, 1) := by decide +kernel
theorem dX9_isolator_24 : decode cX9_isolator 24 = .ok (.iload_n 1, 1) := by decide +kernel
theorem dX9_isolator_25 : decode cX9_isolator 25 = .ok (.iload_n 2, 1) := by decide +kernel
theorem dX9_isolator_26 : decode cX9_isolator 26 = .ok (.invokevirtual 90, 3) := by decide +kernel
theorem dX9_isolator_29 : decode cX9_isolator 29 = .ok (.ifCond .ne 6, 3) := by decide +kernel
theorem dX9_isolator_32 : decode cX9_isolator 32 = .ok (.bipush (-2), 2) := by decide +kernel
theorem dX9_isolator_34 : decode cX9_isolator 34 = .ok (.ireturn, 1) := by decide +kernel
theorem dX9_isolator_35 : decode cX9_isolator 35 = .ok (.aload_n 0, 1) := by decide +kernel
theorem dX9_isolator_36 : decode cX9_isolator 36 = .ok (.getfield 7, 3) := by decide +kernel
theorem dX9_isolator_39 : decode cX9_isolator 39 = .ok (.iconst 1, 1) := by decide +kernel
theorem dX9_isolator_40 : decode cX9_isolator 40 = .ok (.iaload, 1) := by decide +kernel
theorem dX9_isolator_41 : decode cX9_isolator 41 = .ok (.bipush 16, 2) := by decide +kernel
theorem dX9_isolator_43 : decode cX9_isolator 43 = .ok (.if_icmp .ne 6, 3) := by decide +kernel
theorem dX9_isolator_46 : decode cX9_isolator 46 = .ok (.bipush (-3), 2) := by decide +kernel
theorem dX9_isolator_48 : decode cX9_isolator 48 = .ok (.ireturn, 1) := by decide +kernel
theorem dX9_isolator_49 : decode cX9_isolator 49 = .ok (.aload_n 0, 1) := by decide +kernel
theorem dX9_isolator_50 : decode cX9_isolator 50 = .ok (.invokevirtual 73, 3) := by decide +kernel
theorem dX9_isolator_53 : decode cX9_isolator 53 = .ok (.aload_n 0, 1) := by decide +kernel
theorem dX9_isolator_54 : decode cX9_isolator 54 = .ok (.iload_n 1, 1) := by decide +kernel
theorem dX9_isolator_55 : decode cX9_isolator 55 = .ok (.iload_n 2, 1) := by decide +kernel
theorem dX9_isolator_56 : decode cX9_isolator 56 = .ok (.invokevirtual 94, 3) := by decide +kernel
theorem dX9_isolator_59 : decode cX9_isolator 59 = .ok (.aload_n 0, 1) := by decide +kernel
theorem dX9_isolator_60 : decode cX9_isolator 60 = .ok (.getfield 7, 3) := by decide +kernel
theorem dX9_isolator_63 : decode cX9_isolator 63 = .ok (.iconst 1, 1) := by decide +kernel
theorem dX9_isolator_64 : decode cX9_isolator 64 = .ok (.iaload, 1) := by decide +kernel
theorem dX9_isolator_65 : decode cX9_isolator 65 = .ok (.iconst 1, 1) := by decide +kernel
theorem dX9_isolator_66 : decode cX9_isolator 66 = .ok (.isub, 1) := by decide +kernel
theorem dX9_isolator_67 : decode cX9_isolator 67 = .ok (.ireturn, 1) := by decide +kernel
theorem dX9_busesOut_0 : decode cX9_busesOut 0 = .ok (.iconst 0, 1) := by decide +kernel
theorem dX9_busesOut_1 : decode cX9_busesOut 1 = .ok (.istore_n 1, 1) := by decide +kernel
theorem dX9_busesOut_2 : decode cX9_busesOut 2 = .ok (.iconst 0, 1) := by decide +kernel
theorem dX9_busesOut_3 : decode cX9_busesOut 3 = .ok (.istore_n 2, 1) := by decide +kernel
theorem dX9_busesOut_4 : decode cX9_busesOut 4 = .ok (.iload_n 2, 1) := by decide +kernel
theorem dX9_busesOut_5 : decode cX9_busesOut 5 = .ok (.aload_n 0, 1) := by decide +kernel
theorem dX9_busesOut_6 : decode cX9_busesOut 6 = .ok (.getfield 7, 3) := by decide +kernel
theorem dX9_busesOut_9 : decode cX9_busesOut 9 = .ok (.iconst 0, 1) := by decide +kernel
theorem dX9_busesOut_10 : decode cX9_busesOut 10 = .ok (.iaload, 1) := by decide +kernel
theorem dX9_busesOut_11 : decode cX9_busesOut 11 = .ok (.if_icmp .ge 32, 3) := by decide +kernel
theorem dX9_busesOut_14 : decode cX9_busesOut 14 = .ok (.iload_n 1, 1) := by decide +kernel
theorem dX9_busesOut_15 : decode cX9_busesOut 15 = .ok (.aload_n 0, 1) := by decide +kernel
theorem dX9_busesOut_16 : decode cX9_busesOut 16 = .ok (.iload_n 2, 1) := by decide +kernel
theorem dX9_busesOut_17 : decode cX9_busesOut 17 = .ok (.iconst 2, 1) := by decide +kernel
theorem dX9_busesOut_18 : decode cX9_busesOut 18 = .ok (.invokevirtual 37, 3) := by decide +kernel
theorem dX9_busesOut_21 : decode cX9_busesOut 21 = .ok (.iconst 1, 1) := by decide +kernel
theorem dX9_busesOut_22 : decode cX9_busesOut 22 = .ok (.if_icmp .ne 12, 3) := by decide +kernel
theorem dX9_busesOut_25 : decode cX9_busesOut 25 = .ok (.aload_n 0, 1) := by decide +kernel
theorem dX9_busesOut_26 : decode cX9_busesOut 26 = .ok (.iload_n 2, 1) := by decide +kernel
theorem dX9_busesOut_27 : decode cX9_busesOut 27 = .ok (.iconst 0, 1) := by decide +kernel
theorem dX9_busesOut_28 : decode cX9_busesOut 28 = .ok (.invokevirtual 37, 3) := by decide +kernel
theorem dX9_busesOut_31 : decode cX9_busesOut 31 = .ok (.goto 4, 3) := by decide +kernel
theorem dX9_busesOut_34 : decode cX9_busesOut 34 = .ok (.iconst 0, 1) := by decide +kernel
theorem dX9_busesOut_35 : decode cX9_busesOut 35 = .ok (.iadd, 1) := by decide +kernel
theorem dX9_busesOut_36 : decode cX9_busesOut 36 = .ok (.istore_n 1, 1) := by decide +kernel
theorem dX9_busesOut_37 : decode cX9_busesOut 37 = .ok (.iinc 2 1, 3) := by decide +kernel
theorem dX9_busesOut_40 : decode cX9_busesOut 40 = .ok (.goto (-36), 3) := by decide +kernel
theorem dX9_busesOut_43 : decode cX9_busesOut 43 = .ok (.iload_n 1, 1) := by decide +kernel
theorem dX9_busesOut_44 : decode cX9_busesOut 44 = .ok (.ireturn, 1) := by decide +kernel
theorem dX9_free_0 : decode cX9_free 0 = .ok (.aload_n 0, 1) := by decide +kernel
theorem dX9_free_1 : decode cX9_free 1 = .ok (.getfield 7, 3) := by decide +kernel
theorem dX9_free_4 : decode cX9_free 4 = .ok (.iconst 2, 1) := by decide +kernel
theorem dX9_free_5 : decode cX9_free 5 = .ok (.iaload, 1) := by decide +kernel
theorem dX9_free_6 : decode cX9_free 6 = .ok (.aload_n 0, 1) := by decide +kernel
theorem dX9_free_7 : decode cX9_free 7 = .ok (.invokevirtual 98, 3) := by decide +kernel
theorem dX9_free_10 : decode cX9_free 10 = .ok (.isub, 1) := by decide +kernel
theorem dX9_free_11 : decode cX9_free 11 = .ok (.ireturn, 1) := by decide +kernel
theorem dX9_pool_0 : decode cX9_pool 0 = .ok (.iload_n 1, 1) := by decide +kernel
theorem dX9_pool_1 : decode cX9_pool 1 = .ok (.iconst 0, 1) := by decide +kernel
theorem dX9_pool_2 : decode cX9_pool 2 = .ok (.bipush 40, 2) := by decide +kernel
theorem dX9_pool_4 : decode cX9_pool 4 = .ok (.invokestatic 25, 3) := by decide +kernel
theorem dX9_pool_7 : decode cX9_pool 7 = .ok (.ifCond .ne 5, 3) := by decide +kernel
theorem dX9_pool_10 : decode cX9_pool 10 = .ok (.iconst (-1), 1) := by decide +kernel
theorem dX9_pool_11 : decode cX9_pool 11 = .ok (.ireturn, 1) := by decide +kernel
theorem dX9_pool_12 : decode cX9_pool 12 = .ok (.aload_n 0, 1) := by decide +kernel
theorem dX9_pool_13 : decode cX9_pool 13 = .ok (.invokevirtual 98, 3) := by decide +kernel
theorem dX9_pool_16 : decode cX9_pool 16 = .ok (.iload_n 1, 1) := by decide +kernel
theorem dX9_pool_17 : decode cX9_pool 17 = .ok (.if_icmp .le 6, 3) := by decide +kernel
theorem dX9_pool_20 : decode cX9_pool 20 = .ok (.bipush (-2), 2) := by decide +kernel
theorem dX9_pool_22 : decode cX9_pool 22 = .ok (.ireturn, 1) := by decide +kernel
theorem dX9_pool_23 : decode cX9_pool 23 = .ok (.aload_n 0, 1) := by decide +kernel
theorem dX9_pool_24 : decode cX9_pool 24 = .ok (.invokevirtual 73, 3) := by decide +kernel
theorem dX9_pool_27 : decode cX9_pool 27 = .ok (.aload_n 0, 1) := by decide +kernel
theorem dX9_pool_28 : decode cX9_pool 28 = .ok (.getfield 7, 3) := by decide +kernel
theorem dX9_pool_31 : decode cX9_pool 31 = .ok (.iconst 2, 1) := by decide +kernel
theorem dX9_pool_32 : decode cX9_pool 32 = .ok (.iload_n 1, 1) := by decide +kernel
theorem dX9_pool_33 : decode cX9_pool 33 = .ok (.iastore, 1) := by decide +kernel
theorem dX9_pool_34 : decode cX9_pool 34 = .ok (.aload_n 0, 1) := by decide +kernel
theorem dX9_pool_35 : decode cX9_pool 35 = .ok (.invokevirtual 101, 3) := by decide +kernel
theorem dX9_pool_38 : decode cX9_pool 38 = .ok (.ireturn, 1) := by decide +kernel
theorem dX9_closedAt_0 : decode cX9_closedAt 0 = .ok (.iconst 0, 1) := by decide +kernel
theorem dX9_closedAt_1 : decode cX9_closedAt 1 = .ok (.istore_n 2, 1) := by decide +kernel
theorem dX9_closedAt_2 : decode cX9_closedAt 2 = .ok (.iconst 0, 1) := by decide +kernel
theorem dX9_closedAt_3 : decode cX9_closedAt 3 = .ok (.istore_n 3, 1) := by decide +kernel
theorem dX9_closedAt_4 : decode cX9_closedAt 4 = .ok (.iload_n 3, 1) := by decide +kernel
theorem dX9_closedAt_5 : decode cX9_closedAt 5 = .ok (.aload_n 0, 1) := by decide +kernel
theorem dX9_closedAt_6 : decode cX9_closedAt 6 = .ok (.getfield 7, 3) := by decide +kernel
theorem dX9_closedAt_9 : decode cX9_closedAt 9 = .ok (.iconst 1, 1) := by decide +kernel
theorem dX9_closedAt_10 : decode cX9_closedAt 10 = .ok (.iaload, 1) := by decide +kernel
theorem dX9_closedAt_11 : decode cX9_closedAt 11 = .ok (.if_icmp .ge 47, 3) := by decide +kernel
theorem dX9_closedAt_14 : decode cX9_closedAt 14 = .ok (.iload_n 2, 1) := by decide +kernel
theorem dX9_closedAt_15 : decode cX9_closedAt 15 = .ok (.aload_n 0, 1) := by decide +kernel
theorem dX9_closedAt_16 : decode cX9_closedAt 16 = .ok (.iload_n 3, 1) := by decide +kernel
theorem dX9_closedAt_17 : decode cX9_closedAt 17 = .ok (.iconst 2, 1) := by decide +kernel
theorem dX9_closedAt_18 : decode cX9_closedAt 18 = .ok (.invokevirtual 33, 3) := by decide +kernel
theorem dX9_closedAt_21 : decode cX9_closedAt 21 = .ok (.iconst 1, 1) := by decide +kernel
theorem dX9_closedAt_22 : decode cX9_closedAt 22 = .ok (.if_icmp .ne 27, 3) := by decide +kernel
theorem dX9_closedAt_25 : decode cX9_closedAt 25 = .ok (.aload_n 0, 1) := by decide +kernel
theorem dX9_closedAt_26 : decode cX9_closedAt 26 = .ok (.iload_n 3, 1) := by decide +kernel
theorem dX9_closedAt_27 : decode cX9_closedAt 27 = .ok (.iconst 0, 1) := by decide +kernel
theorem dX9_closedAt_28 : decode cX9_closedAt 28 = .ok (.invokevirtual 33, 3) := by decide +kernel
theorem dX9_closedAt_31 : decode cX9_closedAt 31 = .ok (.iload_n 1, 1) := by decide +kernel
theorem dX9_closedAt_32 : decode cX9_closedAt 32 = .ok (.if_icmp .eq 13, 3) := by decide +kernel
theorem dX9_closedAt_35 : decode cX9_closedAt 35 = .ok (.aload_n 0, 1) := by decide +kernel
theorem dX9_closedAt_36 : decode cX9_closedAt 36 = .ok (.iload_n 3, 1) := by decide +kernel
theorem dX9_closedAt_37 : decode cX9_closedAt 37 = .ok (.iconst 1, 1) := by decide +kernel
theorem dX9_closedAt_38 : decode cX9_closedAt 38 = .ok (.invokevirtual 33, 3) := by decide +kernel
theorem dX9_closedAt_41 : decode cX9_closedAt 41 = .ok (.iload_n 1, 1) := by decide +kernel
theorem dX9_closedAt_42 : decode cX9_closedAt 42 = .ok (.if_icmp .ne 7, 3) := by decide +kernel
theorem dX9_closedAt_45 : decode cX9_closedAt 45 = .ok (.iconst 1, 1) := by decide +kernel
theorem dX9_closedAt_46 : decode cX9_closedAt 46 = .ok (.goto 4, 3) := by decide +kernel
theorem dX9_closedAt_49 : decode cX9_closedAt 49 = .ok (.iconst 0, 1) := by decide +kernel
theorem dX9_closedAt_50 : decode cX9_closedAt 50 = .ok (.iadd, 1) := by decide +kernel
theorem dX9_closedAt_51 : decode cX9_closedAt 51 = .ok (.istore_n 2, 1) := by decide +kernel
theorem dX9_closedAt_52 : decode cX9_closedAt 52 = .ok (.iinc 3 1, 3) := by decide +kernel
theorem dX9_closedAt_55 : decode cX9_closedAt 55 = .ok (.goto (-51), 3) := by decide +kernel
theorem dX9_closedAt_58 : decode cX9_closedAt 58 = .ok (.iload_n 2, 1) := by decide +kernel
theorem dX9_closedAt_59 : decode cX9_closedAt 59 = .ok (.ireturn, 1) := by decide +kernel
theorem dX9_sectionOf_0 : decode cX9_sectionOf 0 = .ok (.aload_n 0, 1) := by decide +kernel
theorem dX9_sectionOf_1 : decode cX9_sectionOf 1 = .ok (.iload_n 1, 1) := by decide +kernel
theorem dX9_sectionOf_2 : decode cX9_sectionOf 2 = .ok (.invokevirtual 86, 3) := by decide +kernel
theorem dX9_sectionOf_5 : decode cX9_sectionOf 5 = .ok (.ifCond .eq 13, 3) := by decide +kernel
theorem dX9_sectionOf_8 : decode cX9_sectionOf 8 = .ok (.iload_n 2, 1) := by decide +kernel
theorem dX9_sectionOf_9 : decode cX9_sectionOf 9 = .ok (.iconst 0, 1) := by decide +kernel
theorem dX9_sectionOf_10 : decode cX9_sectionOf 10 = .ok (.bipush 10, 2) := by decide +kernel
theorem dX9_sectionOf_12 : decode cX9_sectionOf 12 = .ok (.invokestatic 25, 3) := by decide +kernel
theorem dX9_sectionOf_15 : decode cX9_sectionOf 15 = .ok (.ifCond .ne 5, 3) := by decide +kernel
theorem dX9_sectionOf_18 : decode cX9_sectionOf 18 = .ok (.iconst (-1), 1) := by decide +kernel
theorem dX9_sectionOf_19 : decode cX9_sectionOf 19 = .ok (.ireturn, 1) := by decide +kernel
theorem dX9_sectionOf_20 : decode cX9_sectionOf 20 = .ok (.iload_n 2, 1) := by decide +kernel
theorem dX9_sectionOf_21 : decode cX9_sectionOf 21 = .ok (.tableswitch 123 0 9 #[55, 55, 62, 76, 85, 85, 85, 94, 102, 117], 55) := by decide +kernel
theorem dX9_sectionOf_76 : decode cX9_sectionOf 76 = .ok (.aload_n 0, 1) := by decide +kernel
theorem dX9_sectionOf_77 : decode cX9_sectionOf 77 = .ok (.iload_n 1, 1) := by decide +kernel
theorem dX9_sectionOf_78 : decode cX9_sectionOf 78 = .ok (.iload_n 2, 1) := by decide +kernel
theorem dX9_sectionOf_79 : decode cX9_sectionOf 79 = .ok (.invokevirtual 37, 3) := by decide +kernel
theorem dX9_sectionOf_82 : decode cX9_sectionOf 82 = .ok (.ireturn, 1) := by decide +kernel
theorem dX9_sectionOf_83 : decode cX9_sectionOf 83 = .ok (.aload_n 0, 1) := by decide +kernel
theorem dX9_sectionOf_84 : decode cX9_sectionOf 84 = .ok (.iload_n 1, 1) := by decide +kernel
theorem dX9_sectionOf_85 : decode cX9_sectionOf 85 = .ok (.invokevirtual 104, 3) := by decide +kernel
theorem dX9_sectionOf_88 : decode cX9_sectionOf 88 = .ok (.ifCond .eq 7, 3) := by decide +kernel
theorem dX9_sectionOf_91 : decode cX9_sectionOf 91 = .ok (.iconst 1, 1) := by decide +kernel
theorem dX9_sectionOf_92 : decode cX9_sectionOf 92 = .ok (.goto 4, 3) := by decide +kernel
theorem dX9_sectionOf_95 : decode cX9_sectionOf 95 = .ok (.iconst 0, 1) := by decide +kernel
theorem dX9_sectionOf_96 : decode cX9_sectionOf 96 = .ok (.ireturn, 1) := by decide +kernel
theorem dX9_sectionOf_97 : decode cX9_sectionOf 97 = .ok (.aload_n 0, 1) := by decide +kernel
theorem dX9_sectionOf_98 : decode cX9_sectionOf 98 = .ok (.invokevirtual 107, 3) := by decide +kernel
theorem dX9_sectionOf_101 : decode cX9_sectionOf 101 = .ok (.iload_n 1, 1) := by decide +kernel
theorem dX9_sectionOf_102 : decode cX9_sectionOf 102 = .ok (.ishr, 1) := by decide +kernel
theorem dX9_sectionOf_103 : decode cX9_sectionOf 103 = .ok (.iconst 1, 1) := by decide +kernel
theorem dX9_sectionOf_104 : decode cX9_sectionOf 104 = .ok (.iand, 1) := by decide +kernel
theorem dX9_sectionOf_105 : decode cX9_sectionOf 105 = .ok (.ireturn, 1) := by decide +kernel
theorem dX9_sectionOf_106 : decode cX9_sectionOf 106 = .ok (.aload_n 0, 1) := by decide +kernel
theorem dX9_sectionOf_107 : decode cX9_sectionOf 107 = .ok (.iload_n 1, 1) := by decide +kernel
theorem dX9_sectionOf_108 : decode cX9_sectionOf 108 = .ok (.iload_n 2, 1) := by decide +kernel
theorem dX9_sectionOf_109 : decode cX9_sectionOf 109 = .ok (.iconst 2, 1) := by decide +kernel
theorem dX9_sectionOf_110 : decode cX9_sectionOf 110 = .ok (.isub, 1) := by decide +kernel
theorem dX9_sectionOf_111 : decode cX9_sectionOf 111 = .ok (.invokevirtual 37, 3) := by decide +kernel
theorem dX9_sectionOf_114 : decode cX9_sectionOf 114 = .ok (.ireturn, 1) := by decide +kernel
theorem dX9_sectionOf_115 : decode cX9_sectionOf 115 = .ok (.aload_n 0, 1) := by decide +kernel
theorem dX9_sectionOf_116 : decode cX9_sectionOf 116 = .ok (.iload_n 1, 1) := by decide +kernel
theorem dX9_sectionOf_117 : decode cX9_sectionOf 117 = .ok (.bipush 7, 2) := by decide +kernel
theorem dX9_sectionOf_119 : decode cX9_sectionOf 119 = .ok (.invokevirtual 37, 3) := by decide +kernel
theorem dX9_sectionOf_122 : decode cX9_sectionOf 122 = .ok (.ireturn, 1) := by decide +kernel
theorem dX9_sectionOf_123 : decode cX9_sectionOf 123 = .ok (.aload_n 0, 1) := by decide +kernel
theorem dX9_sectionOf_124 : decode cX9_sectionOf 124 = .ok (.iconst 1, 1) := by decide +kernel
theorem dX9_sectionOf_125 : decode cX9_sectionOf 125 = .ok (.iload_n 1, 1) := by decide +kernel
theorem dX9_sectionOf_126 : decode cX9_sectionOf 126 = .ok (.ishl, 1) := by decide +kernel
theorem dX9_sectionOf_127 : decode cX9_sectionOf 127 = .ok (.aload_n 0, 1) := by decide +kernel
theorem dX9_sectionOf_128 : decode cX9_sectionOf 128 = .ok (.invokevirtual 51, 3) := by decide +kernel
theorem dX9_sectionOf_131 : decode cX9_sectionOf 131 = .ok (.invokevirtual 44, 3) := by decide +kernel
theorem dX9_sectionOf_134 : decode cX9_sectionOf 134 = .ok (.invokestatic 110, 3) := by decide +kernel
theorem dX9_sectionOf_137 : decode cX9_sectionOf 137 = .ok (.ireturn, 1) := by decide +kernel
theorem dX9_sectionOf_138 : decode cX9_sectionOf 138 = .ok (.aload_n 0, 1) := by decide +kernel
theorem dX9_sectionOf_139 : decode cX9_sectionOf 139 = .ok (.iload_n 1, 1) := by decide +kernel
theorem dX9_sectionOf_140 : decode cX9_sectionOf 140 = .ok (.invokevirtual 113, 3) := by decide +kernel
theorem dX9_sectionOf_143 : decode cX9_sectionOf 143 = .ok (.ireturn, 1) := by decide +kernel
theorem dX9_sectionOf_144 : decode cX9_sectionOf 144 = .ok (.aload_n 0, 1) := by decide +kernel
theorem dX9_sectionOf_145 : decode cX9_sectionOf 145 = .ok (.iload_n 1, 1) := by decide +kernel
theorem dX9_sectionOf_146 : decode cX9_sectionOf 146 = .ok (.iconst 4, 1) := by decide +kernel
theorem dX9_sectionOf_147 : decode cX9_sectionOf 147 = .ok (.invokevirtual 37, 3) := by decide +kernel
theorem dX9_sectionOf_150 : decode cX9_sectionOf 150 = .ok (.iconst 1, 1) := by decide +kernel
theorem dX9_sectionOf_151 : decode cX9_sectionOf 151 = .ok (.if_icmp .ne 13, 3) := by decide +kernel
theorem dX9_sectionOf_154 : decode cX9_sectionOf 154 = .ok (.aload_n 0, 1) := by decide +kernel
theorem dX9_sectionOf_155 : decode cX9_sectionOf 155 = .ok (.iload_n 1, 1) := by decide +kernel
theorem dX9_sectionOf_156 : decode cX9_sectionOf 156 = .ok (.bipush 6, 2) := by decide +kernel
theorem dX9_sectionOf_158 : decode cX9_sectionOf 158 = .ok (.invokevirtual 37, 3) := by decide +kernel
theorem dX9_sectionOf_161 : decode cX9_sectionOf 161 = .ok (.goto 5, 3) := by decide +kernel
theorem dX9_sectionOf_164 : decode cX9_sectionOf 164 = .ok (.bipush (-4), 2) := by decide +kernel
theorem dX9_sectionOf_166 : decode cX9_sectionOf 166 = .ok (.ireturn, 1) := by decide +kernel
theorem dX9_liveWith_0 : decode cX9_liveWith 0 = .ok (.iconst 1, 1) := by decide +kernel
theorem dX9_liveWith_1 : decode cX9_liveWith 1 = .ok (.iload_n 1, 1) := by decide +kernel
theorem dX9_liveWith_2 : decode cX9_liveWith 2 = .ok (.ishl, 1) := by decide +kernel
theorem dX9_liveWith_3 : decode cX9_liveWith 3 = .ok (.istore_n 3, 1) := by decide +kernel
theorem dX9_liveWith_4 : decode cX9_liveWith 4 = .ok (.aload_n 0, 1) := by decide +kernel
theorem dX9_liveWith_5 : decode cX9_liveWith 5 = .ok (.aload_n 0, 1) := by decide +kernel
theorem dX9_liveWith_6 : decode cX9_liveWith 6 = .ok (.invokevirtual 47, 3) := by decide +kernel
theorem dX9_liveWith_9 : decode cX9_liveWith 9 = .ok (.iload_n 2, 1) := by decide +kernel
theorem dX9_liveWith_10 : decode cX9_liveWith 10 = .ok (.ifCond .eq 12, 3) := by decide +kernel
theorem dX9_liveWith_13 : decode cX9_liveWith 13 = .ok (.aload_n 0, 1) := by decide +kernel
theorem dX9_liveWith_14 : decode cX9_liveWith 14 = .ok (.invokevirtual 51, 3) := by decide +kernel
theorem dX9_liveWith_17 : decode cX9_liveWith 17 = .ok (.iload_n 3, 1) := by decide +kernel
theorem dX9_liveWith_18 : decode cX9_liveWith 18 = .ok (.ior, 1) := by decide +kernel
theorem dX9_liveWith_19 : decode cX9_liveWith 19 = .ok (.goto 11, 3) := by decide +kernel
theorem dX9_liveWith_22 : decode cX9_liveWith 22 = .ok (.aload_n 0, 1) := by decide +kernel
theorem dX9_liveWith_23 : decode cX9_liveWith 23 = .ok (.invokevirtual 51, 3) := by decide +kernel
theorem dX9_liveWith_26 : decode cX9_liveWith 26 = .ok (.iload_n 3, 1) := by decide +kernel
theorem dX9_liveWith_27 : decode cX9_liveWith 27 = .ok (.iconst (-1), 1) := by decide +kernel
theorem dX9_liveWith_28 : decode cX9_liveWith 28 = .ok (.ixor, 1) := by decide +kernel
theorem dX9_liveWith_29 : decode cX9_liveWith 29 = .ok (.iand, 1) := by decide +kernel
theorem dX9_liveWith_30 : decode cX9_liveWith 30 = .ok (.invokevirtual 54, 3) := by decide +kernel
theorem dX9_liveWith_33 : decode cX9_liveWith 33 = .ok (.ireturn, 1) := by decide +kernel
theorem dX9_isolatorOf_0 : decode cX9_isolatorOf 0 = .ok (.aload_n 0, 1) := by decide +kernel
theorem dX9_isolatorOf_1 : decode cX9_isolatorOf 1 = .ok (.iload_n 1, 1) := by decide +kernel
theorem dX9_isolatorOf_2 : decode cX9_isolatorOf 2 = .ok (.invokevirtual 116, 3) := by decide +kernel
theorem dX9_isolatorOf_5 : decode cX9_isolatorOf 5 = .ok (.ifCond .eq 12, 3) := by decide +kernel
theorem dX9_isolatorOf_8 : decode cX9_isolatorOf 8 = .ok (.iload_n 2, 1) := by decide +kernel
theorem dX9_isolatorOf_9 : decode cX9_isolatorOf 9 = .ok (.iconst 0, 1) := by decide +kernel
theorem dX9_isolatorOf_10 : decode cX9_isolatorOf 10 = .ok (.iconst 5, 1) := by decide +kernel
theorem dX9_isolatorOf_11 : decode cX9_isolatorOf 11 = .ok (.invokestatic 25, 3) := by decide +kernel
theorem dX9_isolatorOf_14 : decode cX9_isolatorOf 14 = .ok (.ifCond .ne 5, 3) := by decide +kernel
theorem dX9_isolatorOf_17 : decode cX9_isolatorOf 17 = .ok (.iconst (-1), 1) := by decide +kernel
theorem dX9_isolatorOf_18 : decode cX9_isolatorOf 18 = .ok (.ireturn, 1) := by decide +kernel
theorem dX9_isolatorOf_19 : decode cX9_isolatorOf 19 = .ok (.iload_n 2, 1) := by decide +kernel
theorem dX9_isolatorOf_20 : decode cX9_isolatorOf 20 = .ok (.tableswitch 68 3 5 #[28, 34, 51], 28) := by decide +kernel
theorem dX9_isolatorOf_48 : decode cX9_isolatorOf 48 = .ok (.aload_n 0, 1) := by decide +kernel
theorem dX9_isolatorOf_49 : decode cX9_isolatorOf 49 = .ok (.iload_n 1, 1) := by decide +kernel
theorem dX9_isolatorOf_50 : decode cX9_isolatorOf 50 = .ok (.invokevirtual 70, 3) := by decide +kernel
theorem dX9_isolatorOf_53 : decode cX9_isolatorOf 53 = .ok (.ireturn, 1) := by decide +kernel
theorem dX9_isolatorOf_54 : decode cX9_isolatorOf 54 = .ok (.aload_n 0, 1) := by decide +kernel
theorem dX9_isolatorOf_55 : decode cX9_isolatorOf 55 = .ok (.invokevirtual 57, 3) := by decide +kernel
theorem dX9_isolatorOf_58 : decode cX9_isolatorOf 58 = .ok (.aload_n 0, 1) := by decide +kernel
theorem dX9_isolatorOf_59 : decode cX9_isolatorOf 59 = .ok (.iload_n 1, 1) := by decide +kernel
theorem dX9_isolatorOf_60 : decode cX9_isolatorOf 60 = .ok (.iconst 0, 1) := by decide +kernel
theorem dX9_isolatorOf_61 : decode cX9_isolatorOf 61 = .ok (.invokevirtual 119, 3) := by decide +kernel
theorem dX9_isolatorOf_64 : decode cX9_isolatorOf 64 = .ok (.iconst (-1), 1) := by decide +kernel
theorem dX9_isolatorOf_65 : decode cX9_isolatorOf 65 = .ok (.ixor, 1) := by decide +kernel
theorem dX9_isolatorOf_66 : decode cX9_isolatorOf 66 = .ok (.iand, 1) := by decide +kernel
theorem dX9_isolatorOf_67 : decode cX9_isolatorOf 67 = .ok (.invokestatic 110, 3) := by decide +kernel
theorem dX9_isolatorOf_70 : decode cX9_isolatorOf 70 = .ok (.ireturn, 1) := by decide +kernel
theorem dX9_isolatorOf_71 : decode cX9_isolatorOf 71 = .ok (.aload_n 0, 1) := by decide +kernel
theorem dX9_isolatorOf_72 : decode cX9_isolatorOf 72 = .ok (.iload_n 1, 1) := by decide +kernel
theorem dX9_isolatorOf_73 : decode cX9_isolatorOf 73 = .ok (.iconst 1, 1) := by decide +kernel
theorem dX9_isolatorOf_74 : decode cX9_isolatorOf 74 = .ok (.invokevirtual 119, 3) := by decide +kernel
theorem dX9_isolatorOf_77 : decode cX9_isolatorOf 77 = .ok (.aload_n 0, 1) := by decide +kernel
theorem dX9_isolatorOf_78 : decode cX9_isolatorOf 78 = .ok (.invokevirtual 57, 3) := by decide +kernel
theorem dX9_isolatorOf_81 : decode cX9_isolatorOf 81 = .ok (.iconst (-1), 1) := by decide +kernel
theorem dX9_isolatorOf_82 : decode cX9_isolatorOf 82 = .ok (.ixor, 1) := by decide +kernel
theorem dX9_isolatorOf_83 : decode cX9_isolatorOf 83 = .ok (.iand, 1) := by decide +kernel
theorem dX9_isolatorOf_84 : decode cX9_isolatorOf 84 = .ok (.invokestatic 110, 3) := by decide +kernel
theorem dX9_isolatorOf_87 : decode cX9_isolatorOf 87 = .ok (.ireturn, 1) := by decide +kernel
theorem dX9_isolatorOf_88 : decode cX9_isolatorOf 88 = .ok (.aload_n 0, 1) := by decide +kernel
theorem dX9_isolatorOf_89 : decode cX9_isolatorOf 89 = .ok (.iload_n 1, 1) := by decide +kernel
theorem dX9_isolatorOf_90 : decode cX9_isolatorOf 90 = .ok (.iload_n 2, 1) := by decide +kernel
theorem dX9_isolatorOf_91 : decode cX9_isolatorOf 91 = .ok (.invokevirtual 33, 3) := by decide +kernel
theorem dX9_isolatorOf_94 : decode cX9_isolatorOf 94 = .ok (.ireturn, 1) := by decide +kernel
theorem dX9_groups_0 : decode cX9_groups 0 = .ok (.iconst 0, 1) := by decide +kernel
theorem dX9_groups_1 : decode cX9_groups 1 = .ok (.istore_n 1, 1) := by decide +kernel
theorem dX9_groups_2 : decode cX9_groups 2 = .ok (.iconst 0, 1) := by decide +kernel
theorem dX9_groups_3 : decode cX9_groups 3 = .ok (.istore_n 2, 1) := by decide +kernel
theorem dX9_groups_4 : decode cX9_groups 4 = .ok (.iconst 0, 1) := by decide +kernel
theorem dX9_groups_5 : decode cX9_groups 5 = .ok (.istore_n 3, 1) := by decide +kernel
theorem dX9_groups_6 : decode cX9_groups 6 = .ok (.iload_n 3, 1) := by decide +kernel
theorem dX9_groups_7 : decode cX9_groups 7 = .ok (.aload_n 0, 1) := by decide +kernel
theorem dX9_groups_8 : decode cX9_groups 8 = .ok (.getfield 7, 3) := by decide +kernel
theorem dX9_groups_11 : decode cX9_groups 11 = .ok (.iconst 0, 1) := by decide +kernel
theorem dX9_groups_12 : decode cX9_groups 12 = .ok (.iaload, 1) := by decide +kernel
theorem dX9_groups_13 : decode cX9_groups 13 = .ok (.if_icmp .ge 39, 3) := by decide +kernel
theorem dX9_groups_16 : decode cX9_groups 16 = .ok (.iload_n 1, 1) := by decide +kernel
theorem dX9_groups_17 : decode cX9_groups 17 = .ok (.iload_n 2, 1) := by decide +kernel
theorem dX9_groups_18 : decode cX9_groups 18 = .ok (.iload_n 3, 1) := by decide +kernel
theorem dX9_groups_19 : decode cX9_groups 19 = .ok (.ishr, 1) := by decide +kernel
theorem dX9_groups_20 : decode cX9_groups 20 = .ok (.iconst 1, 1) := by decide +kernel
theorem dX9_groups_21 : decode cX9_groups 21 = .ok (.iand, 1) := by decide +kernel
theorem dX9_groups_22 : decode cX9_groups 22 = .ok (.ifCond .ne 7, 3) := by decide +kernel
theorem dX9_groups_25 : decode cX9_groups 25 = .ok (.iconst 1, 1) := by decide +kernel
theorem dX9_groups_26 : decode cX9_groups 26 = .ok (.goto 4, 3) := by decide +kernel
theorem dX9_groups_29 : decode cX9_groups 29 = .ok (.iconst 0, 1) := by decide +kernel
theorem dX9_groups_30 : decode cX9_groups 30 = .ok (.iadd, 1) := by decide +kernel
theorem dX9_groups_31 : decode cX9_groups 31 = .ok (.istore_n 1, 1) := by decide +kernel
theorem dX9_groups_32 : decode cX9_groups 32 = .ok (.iload_n 2, 1) := by decide +kernel
theorem dX9_groups_33 : decode cX9_groups 33 = .ok (.aload_n 0, 1) := by decide +kernel
theorem dX9_groups_34 : decode cX9_groups 34 = .ok (.iconst 1, 1) := by decide +kernel
theorem dX9_groups_35 : decode cX9_groups 35 = .ok (.iload_n 3, 1) := by decide +kernel
theorem dX9_groups_36 : decode cX9_groups 36 = .ok (.ishl, 1) := by decide +kernel
theorem dX9_groups_37 : decode cX9_groups 37 = .ok (.aload_n 0, 1) := by decide +kernel
theorem dX9_groups_38 : decode cX9_groups 38 = .ok (.invokevirtual 51, 3) := by decide +kernel
theorem dX9_groups_41 : decode cX9_groups 41 = .ok (.invokevirtual 44, 3) := by decide +kernel
theorem dX9_groups_44 : decode cX9_groups 44 = .ok (.ior, 1) := by decide +kernel
theorem dX9_groups_45 : decode cX9_groups 45 = .ok (.istore_n 2, 1) := by decide +kernel
theorem dX9_groups_46 : decode cX9_groups 46 = .ok (.iinc 3 1, 3) := by decide +kernel
theorem dX9_groups_49 : decode cX9_groups 49 = .ok (.goto (-43), 3) := by decide +kernel
theorem dX9_groups_52 : decode cX9_groups 52 = .ok (.iload_n 1, 1) := by decide +kernel
theorem dX9_groups_53 : decode cX9_groups 53 = .ok (.ireturn, 1) := by decide +kernel
theorem dX9_toolsLeft_0 : decode cX9_toolsLeft 0 = .ok (.iconst 0, 1) := by decide +kernel
theorem dX9_toolsLeft_1 : decode cX9_toolsLeft 1 = .ok (.istore_n 1, 1) := by decide +kernel
theorem dX9_toolsLeft_2 : decode cX9_toolsLeft 2 = .ok (.iconst 0, 1) := by decide +kernel
theorem dX9_toolsLeft_3 : decode cX9_toolsLeft 3 = .ok (.istore_n 2, 1) := by decide +kernel
theorem dX9_toolsLeft_4 : decode cX9_toolsLeft 4 = .ok (.iload_n 2, 1) := by decide +kernel
theorem dX9_toolsLeft_5 : decode cX9_toolsLeft 5 = .ok (.aload_n 0, 1) := by decide +kernel
theorem dX9_toolsLeft_6 : decode cX9_toolsLeft 6 = .ok (.getfield 7, 3) := by decide +kernel
theorem dX9_toolsLeft_9 : decode cX9_toolsLeft 9 = .ok (.iconst 0, 1) := by decide +kernel
theorem dX9_toolsLeft_10 : decode cX9_toolsLeft 10 = .ok (.iaload, 1) := by decide +kernel
theorem dX9_toolsLeft_11 : decode cX9_toolsLeft 11 = .ok (.if_icmp .ge 19, 3) := by decide +kernel
theorem dX9_toolsLeft_14 : decode cX9_toolsLeft 14 = .ok (.iload_n 1, 1) := by decide +kernel
theorem dX9_toolsLeft_15 : decode cX9_toolsLeft 15 = .ok (.aload_n 0, 1) := by decide +kernel
theorem dX9_toolsLeft_16 : decode cX9_toolsLeft 16 = .ok (.iload_n 2, 1) := by decide +kernel
theorem dX9_toolsLeft_17 : decode cX9_toolsLeft 17 = .ok (.bipush 7, 2) := by decide +kernel
theorem dX9_toolsLeft_19 : decode cX9_toolsLeft 19 = .ok (.invokevirtual 37, 3) := by decide +kernel
theorem dX9_toolsLeft_22 : decode cX9_toolsLeft 22 = .ok (.iadd, 1) := by decide +kernel
theorem dX9_toolsLeft_23 : decode cX9_toolsLeft 23 = .ok (.istore_n 1, 1) := by decide +kernel
theorem dX9_toolsLeft_24 : decode cX9_toolsLeft 24 = .ok (.iinc 2 1, 3) := by decide +kernel
theorem dX9_toolsLeft_27 : decode cX9_toolsLeft 27 = .ok (.goto (-23), 3) := by decide +kernel
theorem dX9_toolsLeft_30 : decode cX9_toolsLeft 30 = .ok (.iload_n 1, 1) := by decide +kernel
theorem dX9_toolsLeft_31 : decode cX9_toolsLeft 31 = .ok (.ireturn, 1) := by decide +kernel
theorem dX9_lateOnes_0 : decode cX9_lateOnes 0 = .ok (.iconst 0, 1) := by decide +kernel
theorem dX9_lateOnes_1 : decode cX9_lateOnes 1 = .ok (.istore_n 1, 1) := by decide +kernel
theorem dX9_lateOnes_2 : decode cX9_lateOnes 2 = .ok (.iconst 0, 1) := by decide +kernel
theorem dX9_lateOnes_3 : decode cX9_lateOnes 3 = .ok (.istore_n 2, 1) := by decide +kernel
theorem dX9_lateOnes_4 : decode cX9_lateOnes 4 = .ok (.iload_n 2, 1) := by decide +kernel
theorem dX9_lateOnes_5 : decode cX9_lateOnes 5 = .ok (.aload_n 0, 1) := by decide +kernel
theorem dX9_lateOnes_6 : decode cX9_lateOnes 6 = .ok (.getfield 7, 3) := by decide +kernel
theorem dX9_lateOnes_9 : decode cX9_lateOnes 9 = .ok (.iconst 0, 1) := by decide +kernel
theorem dX9_lateOnes_10 : decode cX9_lateOnes 10 = .ok (.iaload, 1) := by decide +kernel
theorem dX9_lateOnes_11 : decode cX9_lateOnes 11 = .ok (.if_icmp .ge 43, 3) := by decide +kernel
theorem dX9_lateOnes_14 : decode cX9_lateOnes 14 = .ok (.iload_n 1, 1) := by decide +kernel
theorem dX9_lateOnes_15 : decode cX9_lateOnes 15 = .ok (.aload_n 0, 1) := by decide +kernel
theorem dX9_lateOnes_16 : decode cX9_lateOnes 16 = .ok (.iload_n 2, 1) := by decide +kernel
theorem dX9_lateOnes_17 : decode cX9_lateOnes 17 = .ok (.iconst 4, 1) := by decide +kernel
theorem dX9_lateOnes_18 : decode cX9_lateOnes 18 = .ok (.invokevirtual 37, 3) := by decide +kernel
theorem dX9_lateOnes_21 : decode cX9_lateOnes 21 = .ok (.iconst 1, 1) := by decide +kernel
theorem dX9_lateOnes_22 : decode cX9_lateOnes 22 = .ok (.if_icmp .ne 23, 3) := by decide +kernel
theorem dX9_lateOnes_25 : decode cX9_lateOnes 25 = .ok (.aload_n 0, 1) := by decide +kernel
theorem dX9_lateOnes_26 : decode cX9_lateOnes 26 = .ok (.getfield 7, 3) := by decide +kernel
theorem dX9_lateOnes_29 : decode cX9_lateOnes 29 = .ok (.iconst 3, 1) := by decide +kernel
theorem dX9_lateOnes_30 : decode cX9_lateOnes 30 = .ok (.iaload, 1) := by decide +kernel
theorem dX9_lateOnes_31 : decode cX9_lateOnes 31 = .ok (.aload_n 0, 1) := by decide +kernel
theorem dX9_lateOnes_32 : decode cX9_lateOnes 32 = .ok (.iload_n 2, 1) := by decide +kernel
theorem dX9_lateOnes_33 : decode cX9_lateOnes 33 = .ok (.bipush 6, 2) := by decide +kernel
theorem dX9_lateOnes_35 : decode cX9_lateOnes 35 = .ok (.invokevirtual 37, 3) := by decide +kernel
theorem dX9_lateOnes_38 : decode cX9_lateOnes 38 = .ok (.if_icmp .le 7, 3) := by decide +kernel
theorem dX9_lateOnes_41 : decode cX9_lateOnes 41 = .ok (.iconst 1, 1) := by decide +kernel
theorem dX9_lateOnes_42 : decode cX9_lateOnes 42 = .ok (.goto 4, 3) := by decide +kernel
theorem dX9_lateOnes_45 : decode cX9_lateOnes 45 = .ok (.iconst 0, 1) := by decide +kernel
theorem dX9_lateOnes_46 : decode cX9_lateOnes 46 = .ok (.iadd, 1) := by decide +kernel
theorem dX9_lateOnes_47 : decode cX9_lateOnes 47 = .ok (.istore_n 1, 1) := by decide +kernel
theorem dX9_lateOnes_48 : decode cX9_lateOnes 48 = .ok (.iinc 2 1, 3) := by decide +kernel
theorem dX9_lateOnes_51 : decode cX9_lateOnes 51 = .ok (.goto (-47), 3) := by decide +kernel
theorem dX9_lateOnes_54 : decode cX9_lateOnes 54 = .ok (.iload_n 1, 1) := by decide +kernel
theorem dX9_lateOnes_55 : decode cX9_lateOnes 55 = .ok (.ireturn, 1) := by decide +kernel
theorem dX9_count_0 : decode cX9_count 0 = .ok (.iload_n 1, 1) := by decide +kernel
theorem dX9_count_1 : decode cX9_count 1 = .ok (.tableswitch 171 0 15 #[79, 79, 79, 86, 91, 99, 108, 117, 122, 129, 136, 143, 151, 156, 161, 166], 79) := by decide +kernel
theorem dX9_count_80 : decode cX9_count 80 = .ok (.aload_n 0, 1) := by decide +kernel
theorem dX9_count_81 : decode cX9_count 81 = .ok (.getfield 7, 3) := by decide +kernel
theorem dX9_count_84 : decode cX9_count 84 = .ok (.iload_n 1, 1) := by decide +kernel
theorem dX9_count_85 : decode cX9_count 85 = .ok (.iaload, 1) := by decide +kernel
theorem dX9_count_86 : decode cX9_count 86 = .ok (.ireturn, 1) := by decide +kernel
theorem dX9_count_87 : decode cX9_count 87 = .ok (.aload_n 0, 1) := by decide +kernel
theorem dX9_count_88 : decode cX9_count 88 = .ok (.invokevirtual 101, 3) := by decide +kernel
theorem dX9_count_91 : decode cX9_count 91 = .ok (.ireturn, 1) := by decide +kernel
theorem dX9_count_92 : decode cX9_count 92 = .ok (.aload_n 0, 1) := by decide +kernel
theorem dX9_count_93 : decode cX9_count 93 = .ok (.invokevirtual 57, 3) := by decide +kernel
theorem dX9_count_96 : decode cX9_count 96 = .ok (.invokestatic 110, 3) := by decide +kernel
theorem dX9_count_99 : decode cX9_count 99 = .ok (.ireturn, 1) := by decide +kernel
theorem dX9_count_100 : decode cX9_count 100 = .ok (.aload_n 0, 1) := by decide +kernel
theorem dX9_count_101 : decode cX9_count 101 = .ok (.iconst 2, 1) := by decide +kernel
theorem dX9_count_102 : decode cX9_count 102 = .ok (.invokevirtual 40, 3) := by decide +kernel
theorem dX9_count_105 : decode cX9_count 105 = .ok (.invokestatic 110, 3) := by decide +kernel
theorem dX9_count_108 : decode cX9_count 108 = .ok (.ireturn, 1) := by decide +kernel
theorem dX9_count_109 : decode cX9_count 109 = .ok (.aload_n 0, 1) := by decide +kernel
theorem dX9_count_110 : decode cX9_count 110 = .ok (.iconst 4, 1) := by decide +kernel
theorem dX9_count_111 : decode cX9_count 111 = .ok (.invokevirtual 40, 3) := by decide +kernel
theorem dX9_count_114 : decode cX9_count 114 = .ok (.invokestatic 110, 3) := by decide +kernel
theorem dX9_count_117 : decode cX9_count 117 = .ok (.ireturn, 1) := by decide +kernel
theorem dX9_count_118 : decode cX9_count 118 = .ok (.aload_n 0, 1) := by decide +kernel
theorem dX9_count_119 : decode cX9_count 119 = .ok (.invokevirtual 123, 3) := by decide +kernel
theorem dX9_count_122 : decode cX9_count 122 = .ok (.ireturn, 1) := by decide +kernel
theorem dX9_count_123 : decode cX9_count 123 = .ok (.aload_n 0, 1) := by decide +kernel
theorem dX9_count_124 : decode cX9_count 124 = .ok (.getfield 7, 3) := by decide +kernel
theorem dX9_count_127 : decode cX9_count 127 = .ok (.iconst 3, 1) := by decide +kernel
theorem dX9_count_128 : decode cX9_count 128 = .ok (.iaload, 1) := by decide +kernel
theorem dX9_count_129 : decode cX9_count 129 = .ok (.ireturn, 1) := by decide +kernel
theorem dX9_count_130 : decode cX9_count 130 = .ok (.aload_n 0, 1) := by decide +kernel
theorem dX9_count_131 : decode cX9_count 131 = .ok (.getfield 7, 3) := by decide +kernel
theorem dX9_count_134 : decode cX9_count 134 = .ok (.iconst 4, 1) := by decide +kernel
theorem dX9_count_135 : decode cX9_count 135 = .ok (.iaload, 1) := by decide +kernel
theorem dX9_count_136 : decode cX9_count 136 = .ok (.ireturn, 1) := by decide +kernel
theorem dX9_count_137 : decode cX9_count 137 = .ok (.aload_n 0, 1) := by decide +kernel
theorem dX9_count_138 : decode cX9_count 138 = .ok (.getfield 7, 3) := by decide +kernel
theorem dX9_count_141 : decode cX9_count 141 = .ok (.iconst 5, 1) := by decide +kernel
theorem dX9_count_142 : decode cX9_count 142 = .ok (.iaload, 1) := by decide +kernel
theorem dX9_count_143 : decode cX9_count 143 = .ok (.ireturn, 1) := by decide +kernel
theorem dX9_count_144 : decode cX9_count 144 = .ok (.aload_n 0, 1) := by decide +kernel
theorem dX9_count_145 : decode cX9_count 145 = .ok (.getfield 7, 3) := by decide +kernel
theorem dX9_count_148 : decode cX9_count 148 = .ok (.bipush 6, 2) := by decide +kernel
theorem dX9_count_150 : decode cX9_count 150 = .ok (.iaload, 1) := by decide +kernel
theorem dX9_count_151 : decode cX9_count 151 = .ok (.ireturn, 1) := by decide +kernel
theorem dX9_count_152 : decode cX9_count 152 = .ok (.aload_n 0, 1) := by decide +kernel
theorem dX9_count_153 : decode cX9_count 153 = .ok (.invokevirtual 126, 3) := by decide +kernel
theorem dX9_count_156 : decode cX9_count 156 = .ok (.ireturn, 1) := by decide +kernel
theorem dX9_count_157 : decode cX9_count 157 = .ok (.aload_n 0, 1) := by decide +kernel
theorem dX9_count_158 : decode cX9_count 158 = .ok (.invokevirtual 129, 3) := by decide +kernel
theorem dX9_count_161 : decode cX9_count 161 = .ok (.ireturn, 1) := by decide +kernel
theorem dX9_count_162 : decode cX9_count 162 = .ok (.aload_n 0, 1) := by decide +kernel
theorem dX9_count_163 : decode cX9_count 163 = .ok (.getfield 29, 3) := by decide +kernel
theorem dX9_count_166 : decode cX9_count 166 = .ok (.ireturn, 1) := by decide +kernel
theorem dX9_count_167 : decode cX9_count 167 = .ok (.aload_n 0, 1) := by decide +kernel
theorem dX9_count_168 : decode cX9_count 168 = .ok (.getfield 132, 3) := by decide +kernel
theorem dX9_count_171 : decode cX9_count 171 = .ok (.ireturn, 1) := by decide +kernel
theorem dX9_count_172 : decode cX9_count 172 = .ok (.iconst (-1), 1) := by decide +kernel
theorem dX9_count_173 : decode cX9_count 173 = .ok (.ireturn, 1) := by decide +kernel
theorem dX9_isPlace_0 : decode cX9_isPlace 0 = .ok (.iload_n 1, 1) := by decide +kernel
theorem dX9_isPlace_1 : decode cX9_isPlace 1 = .ok (.iconst 2, 1) := by decide +kernel
theorem dX9_isPlace_2 : decode cX9_isPlace 2 = .ok (.if_icmp .eq 8, 3) := by decide +kernel
theorem dX9_isPlace_5 : decode cX9_isPlace 5 = .ok (.iload_n 1, 1) := by decide +kernel
theorem dX9_isPlace_6 : decode cX9_isPlace 6 = .ok (.iconst 3, 1) := by decide +kernel
theorem dX9_isPlace_7 : decode cX9_isPlace 7 = .ok (.if_icmp .ne 11, 3) := by decide +kernel
theorem dX9_isPlace_10 : decode cX9_isPlace 10 = .ok (.aload_n 0, 1) := by decide +kernel
theorem dX9_isPlace_11 : decode cX9_isPlace 11 = .ok (.iload_n 2, 1) := by decide +kernel
theorem dX9_isPlace_12 : decode cX9_isPlace 12 = .ok (.invokevirtual 116, 3) := by decide +kernel
theorem dX9_isPlace_15 : decode cX9_isPlace 15 = .ok (.goto 8, 3) := by decide +kernel
theorem dX9_isPlace_18 : decode cX9_isPlace 18 = .ok (.aload_n 0, 1) := by decide +kernel
theorem dX9_isPlace_19 : decode cX9_isPlace 19 = .ok (.iload_n 2, 1) := by decide +kernel
theorem dX9_isPlace_20 : decode cX9_isPlace 20 = .ok (.invokevirtual 86, 3) := by decide +kernel
theorem dX9_isPlace_23 : decode cX9_isPlace 23 = .ok (.ireturn, 1) := by decide +kernel
theorem dX9_darkens_0 : decode cX9_darkens 0 = .ok (.aload_n 0, 1) := by decide +kernel
theorem dX9_darkens_1 : decode cX9_darkens 1 = .ok (.invokevirtual 57, 3) := by decide +kernel
theorem dX9_darkens_4 : decode cX9_darkens 4 = .ok (.iload_n 1, 1) := by decide +kernel
theorem dX9_darkens_5 : decode cX9_darkens 5 = .ok (.iconst (-1), 1) := by decide +kernel
theorem dX9_darkens_6 : decode cX9_darkens 6 = .ok (.ixor, 1) := by decide +kernel
theorem dX9_darkens_7 : decode cX9_darkens 7 = .ok (.iand, 1) := by decide +kernel
theorem dX9_darkens_8 : decode cX9_darkens 8 = .ok (.aload_n 0, 1) := by decide +kernel
theorem dX9_darkens_9 : decode cX9_darkens 9 = .ok (.invokevirtual 135, 3) := by decide +kernel
theorem dX9_darkens_12 : decode cX9_darkens 12 = .ok (.iand, 1) := by decide +kernel
theorem dX9_darkens_13 : decode cX9_darkens 13 = .ok (.ifCond .eq 7, 3) := by decide +kernel
theorem dX9_darkens_16 : decode cX9_darkens 16 = .ok (.iload_n 2, 1) := by decide +kernel
theorem dX9_darkens_17 : decode cX9_darkens 17 = .ok (.goto 4, 3) := by decide +kernel
theorem dX9_darkens_20 : decode cX9_darkens 20 = .ok (.iconst 0, 1) := by decide +kernel
theorem dX9_darkens_21 : decode cX9_darkens 21 = .ok (.ireturn, 1) := by decide +kernel
theorem dX9_lights_0 : decode cX9_lights 0 = .ok (.aload_n 0, 1) := by decide +kernel
theorem dX9_lights_1 : decode cX9_lights 1 = .ok (.aload_n 0, 1) := by decide +kernel
theorem dX9_lights_2 : decode cX9_lights 2 = .ok (.invokevirtual 57, 3) := by decide +kernel
theorem dX9_lights_5 : decode cX9_lights 5 = .ok (.iload_n 1, 1) := by decide +kernel
theorem dX9_lights_6 : decode cX9_lights 6 = .ok (.invokevirtual 83, 3) := by decide +kernel
theorem dX9_lights_9 : decode cX9_lights 9 = .ok (.istore_n 3, 1) := by decide +kernel
theorem dX9_lights_10 : decode cX9_lights 10 = .ok (.iload_n 3, 1) := by decide +kernel
theorem dX9_lights_11 : decode cX9_lights 11 = .ok (.ifCond .ne 7, 3) := by decide +kernel
theorem dX9_lights_14 : decode cX9_lights 14 = .ok (.iconst 0, 1) := by decide +kernel
theorem dX9_lights_15 : decode cX9_lights 15 = .ok (.goto 8, 3) := by decide +kernel
theorem dX9_lights_18 : decode cX9_lights 18 = .ok (.iload_n 2, 1) := by decide +kernel
theorem dX9_lights_19 : decode cX9_lights 19 = .ok (.iload_n 3, 1) := by decide +kernel
theorem dX9_lights_20 : decode cX9_lights 20 = .ok (.iadd, 1) := by decide +kernel
theorem dX9_lights_21 : decode cX9_lights 21 = .ok (.iconst 1, 1) := by decide +kernel
theorem dX9_lights_22 : decode cX9_lights 22 = .ok (.isub, 1) := by decide +kernel
theorem dX9_lights_23 : decode cX9_lights 23 = .ok (.ireturn, 1) := by decide +kernel
theorem dX9_refuses_0 : decode cX9_refuses 0 = .ok (.iload_n 1, 1) := by decide +kernel
theorem dX9_refuses_1 : decode cX9_refuses 1 = .ok (.tableswitch 299 0 6 #[43, 78, 122, 149, 177, 217, 255], 43) := by decide +kernel
theorem dX9_refuses_44 : decode cX9_refuses 44 = .ok (.aload_n 0, 1) := by decide +kernel
theorem dX9_refuses_45 : decode cX9_refuses 45 = .ok (.iload_n 2, 1) := by decide +kernel
theorem dX9_refuses_46 : decode cX9_refuses 46 = .ok (.iconst 2, 1) := by decide +kernel
theorem dX9_refuses_47 : decode cX9_refuses 47 = .ok (.invokevirtual 37, 3) := by decide +kernel
theorem dX9_refuses_50 : decode cX9_refuses 50 = .ok (.iconst 1, 1) := by decide +kernel
theorem dX9_refuses_51 : decode cX9_refuses 51 = .ok (.if_icmp .ne 8, 3) := by decide +kernel
theorem dX9_refuses_54 : decode cX9_refuses 54 = .ok (.bipush 11, 2) := by decide +kernel
theorem dX9_refuses_56 : decode cX9_refuses 56 = .ok (.goto 22, 3) := by decide +kernel
theorem dX9_refuses_59 : decode cX9_refuses 59 = .ok (.aload_n 0, 1) := by decide +kernel
theorem dX9_refuses_60 : decode cX9_refuses 60 = .ok (.invokevirtual 101, 3) := by decide +kernel
theorem dX9_refuses_63 : decode cX9_refuses 63 = .ok (.aload_n 0, 1) := by decide +kernel
theorem dX9_refuses_64 : decode cX9_refuses 64 = .ok (.iload_n 2, 1) := by decide +kernel
theorem dX9_refuses_65 : decode cX9_refuses 65 = .ok (.iconst 0, 1) := by decide +kernel
theorem dX9_refuses_66 : decode cX9_refuses 66 = .ok (.invokevirtual 37, 3) := by decide +kernel
theorem dX9_refuses_69 : decode cX9_refuses 69 = .ok (.if_icmp .ge 8, 3) := by decide +kernel
theorem dX9_refuses_72 : decode cX9_refuses 72 = .ok (.bipush 12, 2) := by decide +kernel
theorem dX9_refuses_74 : decode cX9_refuses 74 = .ok (.goto 4, 3) := by decide +kernel
theorem dX9_refuses_77 : decode cX9_refuses 77 = .ok (.iconst 0, 1) := by decide +kernel
theorem dX9_refuses_78 : decode cX9_refuses 78 = .ok (.ireturn, 1) := by decide +kernel
theorem dX9_refuses_79 : decode cX9_refuses 79 = .ok (.aload_n 0, 1) := by decide +kernel
theorem dX9_refuses_80 : decode cX9_refuses 80 = .ok (.iload_n 2, 1) := by decide +kernel
theorem dX9_refuses_81 : decode cX9_refuses 81 = .ok (.iconst 2, 1) := by decide +kernel
theorem dX9_refuses_82 : decode cX9_refuses 82 = .ok (.invokevirtual 37, 3) := by decide +kernel
theorem dX9_refuses_85 : decode cX9_refuses 85 = .ok (.ifCond .ne 8, 3) := by decide +kernel
theorem dX9_refuses_88 : decode cX9_refuses 88 = .ok (.bipush 21, 2) := by decide +kernel
theorem dX9_refuses_90 : decode cX9_refuses 90 = .ok (.goto 32, 3) := by decide +kernel
theorem dX9_refuses_93 : decode cX9_refuses 93 = .ok (.aload_n 0, 1) := by decide +kernel
theorem dX9_refuses_94 : decode cX9_refuses 94 = .ok (.iload_n 2, 1) := by decide +kernel
theorem dX9_refuses_95 : decode cX9_refuses 95 = .ok (.invokevirtual 104, 3) := by decide +kernel
theorem dX9_refuses_98 : decode cX9_refuses 98 = .ok (.ifCond .ne 8, 3) := by decide +kernel
theorem dX9_refuses_101 : decode cX9_refuses 101 = .ok (.bipush 22, 2) := by decide +kernel
theorem dX9_refuses_103 : decode cX9_refuses 103 = .ok (.goto 19, 3) := by decide +kernel
theorem dX9_refuses_106 : decode cX9_refuses 106 = .ok (.aload_n 0, 1) := by decide +kernel
theorem dX9_refuses_107 : decode cX9_refuses 107 = .ok (.iload_n 2, 1) := by decide +kernel
theorem dX9_refuses_108 : decode cX9_refuses 108 = .ok (.bipush 7, 2) := by decide +kernel
theorem dX9_refuses_110 : decode cX9_refuses 110 = .ok (.invokevirtual 37, 3) := by decide +kernel
theorem dX9_refuses_113 : decode cX9_refuses 113 = .ok (.ifCond .le 8, 3) := by decide +kernel
theorem dX9_refuses_116 : decode cX9_refuses 116 = .ok (.bipush 23, 2) := by decide +kernel
theorem dX9_refuses_118 : decode cX9_refuses 118 = .ok (.goto 4, 3) := by decide +kernel
theorem dX9_refuses_121 : decode cX9_refuses 121 = .ok (.iconst 0, 1) := by decide +kernel
theorem dX9_refuses_122 : decode cX9_refuses 122 = .ok (.ireturn, 1) := by decide +kernel
theorem dX9_refuses_123 : decode cX9_refuses 123 = .ok (.aload_n 0, 1) := by decide +kernel
theorem dX9_refuses_124 : decode cX9_refuses 124 = .ok (.iload_n 2, 1) := by decide +kernel
theorem dX9_refuses_125 : decode cX9_refuses 125 = .ok (.iconst 2, 1) := by decide +kernel
theorem dX9_refuses_126 : decode cX9_refuses 126 = .ok (.invokevirtual 33, 3) := by decide +kernel
theorem dX9_refuses_129 : decode cX9_refuses 129 = .ok (.ifCond .ne 8, 3) := by decide +kernel
theorem dX9_refuses_132 : decode cX9_refuses 132 = .ok (.bipush 31, 2) := by decide +kernel
theorem dX9_refuses_134 : decode cX9_refuses 134 = .ok (.goto 15, 3) := by decide +kernel
theorem dX9_refuses_137 : decode cX9_refuses 137 = .ok (.aload_n 0, 1) := by decide +kernel
theorem dX9_refuses_138 : decode cX9_refuses 138 = .ok (.aload_n 0, 1) := by decide +kernel
theorem dX9_refuses_139 : decode cX9_refuses 139 = .ok (.iload_n 2, 1) := by decide +kernel
theorem dX9_refuses_140 : decode cX9_refuses 140 = .ok (.iconst 0, 1) := by decide +kernel
theorem dX9_refuses_141 : decode cX9_refuses 141 = .ok (.invokevirtual 119, 3) := by decide +kernel
theorem dX9_refuses_144 : decode cX9_refuses 144 = .ok (.bipush 32, 2) := by decide +kernel
theorem dX9_refuses_146 : decode cX9_refuses 146 = .ok (.invokevirtual 138, 3) := by decide +kernel
theorem dX9_refuses_149 : decode cX9_refuses 149 = .ok (.ireturn, 1) := by decide +kernel
theorem dX9_refuses_150 : decode cX9_refuses 150 = .ok (.aload_n 0, 1) := by decide +kernel
theorem dX9_refuses_151 : decode cX9_refuses 151 = .ok (.iload_n 2, 1) := by decide +kernel
theorem dX9_refuses_152 : decode cX9_refuses 152 = .ok (.iconst 2, 1) := by decide +kernel
theorem dX9_refuses_153 : decode cX9_refuses 153 = .ok (.invokevirtual 33, 3) := by decide +kernel
theorem dX9_refuses_156 : decode cX9_refuses 156 = .ok (.iconst 1, 1) := by decide +kernel
theorem dX9_refuses_157 : decode cX9_refuses 157 = .ok (.if_icmp .ne 8, 3) := by decide +kernel
theorem dX9_refuses_160 : decode cX9_refuses 160 = .ok (.bipush 41, 2) := by decide +kernel
theorem dX9_refuses_162 : decode cX9_refuses 162 = .ok (.goto 15, 3) := by decide +kernel
theorem dX9_refuses_165 : decode cX9_refuses 165 = .ok (.aload_n 0, 1) := by decide +kernel
theorem dX9_refuses_166 : decode cX9_refuses 166 = .ok (.aload_n 0, 1) := by decide +kernel
theorem dX9_refuses_167 : decode cX9_refuses 167 = .ok (.iload_n 2, 1) := by decide +kernel
theorem dX9_refuses_168 : decode cX9_refuses 168 = .ok (.iconst 1, 1) := by decide +kernel
theorem dX9_refuses_169 : decode cX9_refuses 169 = .ok (.invokevirtual 119, 3) := by decide +kernel
theorem dX9_refuses_172 : decode cX9_refuses 172 = .ok (.bipush 42, 2) := by decide +kernel
theorem dX9_refuses_174 : decode cX9_refuses 174 = .ok (.invokevirtual 141, 3) := by decide +kernel
theorem dX9_refuses_177 : decode cX9_refuses 177 = .ok (.ireturn, 1) := by decide +kernel
theorem dX9_refuses_178 : decode cX9_refuses 178 = .ok (.aload_n 0, 1) := by decide +kernel
theorem dX9_refuses_179 : decode cX9_refuses 179 = .ok (.iload_n 2, 1) := by decide +kernel
theorem dX9_refuses_180 : decode cX9_refuses 180 = .ok (.iconst 1, 1) := by decide +kernel
theorem dX9_refuses_181 : decode cX9_refuses 181 = .ok (.invokevirtual 37, 3) := by decide +kernel
theorem dX9_refuses_184 : decode cX9_refuses 184 = .ok (.iconst 2, 1) := by decide +kernel
theorem dX9_refuses_185 : decode cX9_refuses 185 = .ok (.if_icmp .eq 8, 3) := by decide +kernel
theorem dX9_refuses_188 : decode cX9_refuses 188 = .ok (.bipush 51, 2) := by decide +kernel
theorem dX9_refuses_190 : decode cX9_refuses 190 = .ok (.goto 27, 3) := by decide +kernel
theorem dX9_refuses_193 : decode cX9_refuses 193 = .ok (.aload_n 0, 1) := by decide +kernel
theorem dX9_refuses_194 : decode cX9_refuses 194 = .ok (.aload_n 0, 1) := by decide +kernel
theorem dX9_refuses_195 : decode cX9_refuses 195 = .ok (.aload_n 0, 1) := by decide +kernel
theorem dX9_refuses_196 : decode cX9_refuses 196 = .ok (.invokevirtual 47, 3) := by decide +kernel
theorem dX9_refuses_199 : decode cX9_refuses 199 = .ok (.iconst 1, 1) := by decide +kernel
theorem dX9_refuses_200 : decode cX9_refuses 200 = .ok (.iload_n 2, 1) := by decide +kernel
theorem dX9_refuses_201 : decode cX9_refuses 201 = .ok (.ishl, 1) := by decide +kernel
theorem dX9_refuses_202 : decode cX9_refuses 202 = .ok (.iconst (-1), 1) := by decide +kernel
theorem dX9_refuses_203 : decode cX9_refuses 203 = .ok (.ixor, 1) := by decide +kernel
theorem dX9_refuses_204 : decode cX9_refuses 204 = .ok (.iand, 1) := by decide +kernel
theorem dX9_refuses_205 : decode cX9_refuses 205 = .ok (.aload_n 0, 1) := by decide +kernel
theorem dX9_refuses_206 : decode cX9_refuses 206 = .ok (.invokevirtual 51, 3) := by decide +kernel
theorem dX9_refuses_209 : decode cX9_refuses 209 = .ok (.invokevirtual 54, 3) := by decide +kernel
theorem dX9_refuses_212 : decode cX9_refuses 212 = .ok (.bipush 52, 2) := by decide +kernel
theorem dX9_refuses_214 : decode cX9_refuses 214 = .ok (.invokevirtual 138, 3) := by decide +kernel
theorem dX9_refuses_217 : decode cX9_refuses 217 = .ok (.ireturn, 1) := by decide +kernel
theorem dX9_refuses_218 : decode cX9_refuses 218 = .ok (.aload_n 0, 1) := by decide +kernel
theorem dX9_refuses_219 : decode cX9_refuses 219 = .ok (.iload_n 2, 1) := by decide +kernel
theorem dX9_refuses_220 : decode cX9_refuses 220 = .ok (.iconst 1, 1) := by decide +kernel
theorem dX9_refuses_221 : decode cX9_refuses 221 = .ok (.invokevirtual 37, 3) := by decide +kernel
theorem dX9_refuses_224 : decode cX9_refuses 224 = .ok (.iconst 1, 1) := by decide +kernel
theorem dX9_refuses_225 : decode cX9_refuses 225 = .ok (.if_icmp .eq 8, 3) := by decide +kernel
theorem dX9_refuses_228 : decode cX9_refuses 228 = .ok (.bipush 61, 2) := by decide +kernel
theorem dX9_refuses_230 : decode cX9_refuses 230 = .ok (.goto 25, 3) := by decide +kernel
theorem dX9_refuses_233 : decode cX9_refuses 233 = .ok (.aload_n 0, 1) := by decide +kernel
theorem dX9_refuses_234 : decode cX9_refuses 234 = .ok (.aload_n 0, 1) := by decide +kernel
theorem dX9_refuses_235 : decode cX9_refuses 235 = .ok (.aload_n 0, 1) := by decide +kernel
theorem dX9_refuses_236 : decode cX9_refuses 236 = .ok (.invokevirtual 47, 3) := by decide +kernel
theorem dX9_refuses_239 : decode cX9_refuses 239 = .ok (.iconst 1, 1) := by decide +kernel
theorem dX9_refuses_240 : decode cX9_refuses 240 = .ok (.iload_n 2, 1) := by decide +kernel
theorem dX9_refuses_241 : decode cX9_refuses 241 = .ok (.ishl, 1) := by decide +kernel
theorem dX9_refuses_242 : decode cX9_refuses 242 = .ok (.ior, 1) := by decide +kernel
theorem dX9_refuses_243 : decode cX9_refuses 243 = .ok (.aload_n 0, 1) := by decide +kernel
theorem dX9_refuses_244 : decode cX9_refuses 244 = .ok (.invokevirtual 51, 3) := by decide +kernel
theorem dX9_refuses_247 : decode cX9_refuses 247 = .ok (.invokevirtual 54, 3) := by decide +kernel
theorem dX9_refuses_250 : decode cX9_refuses 250 = .ok (.bipush 62, 2) := by decide +kernel
theorem dX9_refuses_252 : decode cX9_refuses 252 = .ok (.invokevirtual 141, 3) := by decide +kernel
theorem dX9_refuses_255 : decode cX9_refuses 255 = .ok (.ireturn, 1) := by decide +kernel
theorem dX9_refuses_256 : decode cX9_refuses 256 = .ok (.aload_n 0, 1) := by decide +kernel
theorem dX9_refuses_257 : decode cX9_refuses 257 = .ok (.iload_n 2, 1) := by decide +kernel
theorem dX9_refuses_258 : decode cX9_refuses 258 = .ok (.iconst 3, 1) := by decide +kernel
theorem dX9_refuses_259 : decode cX9_refuses 259 = .ok (.invokevirtual 37, 3) := by decide +kernel
theorem dX9_refuses_262 : decode cX9_refuses 262 = .ok (.iconst 1, 1) := by decide +kernel
theorem dX9_refuses_263 : decode cX9_refuses 263 = .ok (.if_icmp .ne 8, 3) := by decide +kernel
theorem dX9_refuses_266 : decode cX9_refuses 266 = .ok (.bipush 71, 2) := by decide +kernel
theorem dX9_refuses_268 : decode cX9_refuses 268 = .ok (.goto 31, 3) := by decide +kernel
theorem dX9_refuses_271 : decode cX9_refuses 271 = .ok (.aload_n 0, 1) := by decide +kernel
theorem dX9_refuses_272 : decode cX9_refuses 272 = .ok (.iload_n 2, 1) := by decide +kernel
theorem dX9_refuses_273 : decode cX9_refuses 273 = .ok (.invokevirtual 104, 3) := by decide +kernel
theorem dX9_refuses_276 : decode cX9_refuses 276 = .ok (.ifCond .eq 8, 3) := by decide +kernel
theorem dX9_refuses_279 : decode cX9_refuses 279 = .ok (.bipush 72, 2) := by decide +kernel
theorem dX9_refuses_281 : decode cX9_refuses 281 = .ok (.goto 18, 3) := by decide +kernel
theorem dX9_refuses_284 : decode cX9_refuses 284 = .ok (.aload_n 0, 1) := by decide +kernel
theorem dX9_refuses_285 : decode cX9_refuses 285 = .ok (.iload_n 2, 1) := by decide +kernel
theorem dX9_refuses_286 : decode cX9_refuses 286 = .ok (.iconst 2, 1) := by decide +kernel
theorem dX9_refuses_287 : decode cX9_refuses 287 = .ok (.invokevirtual 37, 3) := by decide +kernel
theorem dX9_refuses_290 : decode cX9_refuses 290 = .ok (.ifCond .ne 8, 3) := by decide +kernel
theorem dX9_refuses_293 : decode cX9_refuses 293 = .ok (.bipush 73, 2) := by decide +kernel
theorem dX9_refuses_295 : decode cX9_refuses 295 = .ok (.goto 4, 3) := by decide +kernel
theorem dX9_refuses_298 : decode cX9_refuses 298 = .ok (.iconst 0, 1) := by decide +kernel
theorem dX9_refuses_299 : decode cX9_refuses 299 = .ok (.ireturn, 1) := by decide +kernel
theorem dX9_refuses_300 : decode cX9_refuses 300 = .ok (.aload_n 0, 1) := by decide +kernel
theorem dX9_refuses_301 : decode cX9_refuses 301 = .ok (.iload_n 2, 1) := by decide +kernel
theorem dX9_refuses_302 : decode cX9_refuses 302 = .ok (.iconst 3, 1) := by decide +kernel
theorem dX9_refuses_303 : decode cX9_refuses 303 = .ok (.invokevirtual 37, 3) := by decide +kernel
theorem dX9_refuses_306 : decode cX9_refuses 306 = .ok (.ifCond .ne 8, 3) := by decide +kernel
theorem dX9_refuses_309 : decode cX9_refuses 309 = .ok (.bipush 81, 2) := by decide +kernel
theorem dX9_refuses_311 : decode cX9_refuses 311 = .ok (.goto 19, 3) := by decide +kernel
theorem dX9_refuses_314 : decode cX9_refuses 314 = .ok (.aload_n 0, 1) := by decide +kernel
theorem dX9_refuses_315 : decode cX9_refuses 315 = .ok (.iload_n 2, 1) := by decide +kernel
theorem dX9_refuses_316 : decode cX9_refuses 316 = .ok (.iconst 4, 1) := by decide +kernel
theorem dX9_refuses_317 : decode cX9_refuses 317 = .ok (.invokevirtual 37, 3) := by decide +kernel
theorem dX9_refuses_320 : decode cX9_refuses 320 = .ok (.iconst 1, 1) := by decide +kernel
theorem dX9_refuses_321 : decode cX9_refuses 321 = .ok (.if_icmp .ne 8, 3) := by decide +kernel
theorem dX9_refuses_324 : decode cX9_refuses 324 = .ok (.bipush 82, 2) := by decide +kernel
theorem dX9_refuses_326 : decode cX9_refuses 326 = .ok (.goto 4, 3) := by decide +kernel
theorem dX9_refuses_329 : decode cX9_refuses 329 = .ok (.iconst 0, 1) := by decide +kernel
theorem dX9_refuses_330 : decode cX9_refuses 330 = .ok (.ireturn, 1) := by decide +kernel
theorem dX9_refusal_0 : decode cX9_refusal 0 = .ok (.iload_n 1, 1) := by decide +kernel
theorem dX9_refusal_1 : decode cX9_refusal 1 = .ok (.iconst 0, 1) := by decide +kernel
theorem dX9_refusal_2 : decode cX9_refusal 2 = .ok (.bipush 7, 2) := by decide +kernel
theorem dX9_refusal_4 : decode cX9_refusal 4 = .ok (.invokestatic 25, 3) := by decide +kernel
theorem dX9_refusal_7 : decode cX9_refusal 7 = .ok (.ifCond .eq 21, 3) := by decide +kernel
theorem dX9_refusal_10 : decode cX9_refusal 10 = .ok (.aload_n 0, 1) := by decide +kernel
theorem dX9_refusal_11 : decode cX9_refusal 11 = .ok (.iload_n 1, 1) := by decide +kernel
theorem dX9_refusal_12 : decode cX9_refusal 12 = .ok (.iload_n 2, 1) := by decide +kernel
theorem dX9_refusal_13 : decode cX9_refusal 13 = .ok (.invokevirtual 144, 3) := by decide +kernel
theorem dX9_refusal_16 : decode cX9_refusal 16 = .ok (.ifCond .eq 12, 3) := by decide +kernel
theorem dX9_refusal_19 : decode cX9_refusal 19 = .ok (.aload_n 0, 1) := by decide +kernel
theorem dX9_refusal_20 : decode cX9_refusal 20 = .ok (.iload_n 1, 1) := by decide +kernel
theorem dX9_refusal_21 : decode cX9_refusal 21 = .ok (.iload_n 2, 1) := by decide +kernel
theorem dX9_refusal_22 : decode cX9_refusal 22 = .ok (.invokevirtual 147, 3) := by decide +kernel
theorem dX9_refusal_25 : decode cX9_refusal 25 = .ok (.goto 4, 3) := by decide +kernel
theorem dX9_refusal_28 : decode cX9_refusal 28 = .ok (.iconst (-1), 1) := by decide +kernel
theorem dX9_refusal_29 : decode cX9_refusal 29 = .ok (.ireturn, 1) := by decide +kernel
theorem dX9_forgets_0 : decode cX9_forgets 0 = .ok (.aload_n 0, 1) := by decide +kernel
theorem dX9_forgets_1 : decode cX9_forgets 1 = .ok (.iconst 0, 1) := by decide +kernel
theorem dX9_forgets_2 : decode cX9_forgets 2 = .ok (.iconst 0, 1) := by decide +kernel
theorem dX9_forgets_3 : decode cX9_forgets 3 = .ok (.invokevirtual 60, 3) := by decide +kernel
theorem dX9_forgets_6 : decode cX9_forgets 6 = .ok (.istore_n 1, 1) := by decide +kernel
theorem dX9_forgets_7 : decode cX9_forgets 7 = .ok (.aload_n 0, 1) := by decide +kernel
theorem dX9_forgets_8 : decode cX9_forgets 8 = .ok (.iconst 0, 1) := by decide +kernel
theorem dX9_forgets_9 : decode cX9_forgets 9 = .ok (.iconst 1, 1) := by decide +kernel
theorem dX9_forgets_10 : decode cX9_forgets 10 = .ok (.invokevirtual 60, 3) := by decide +kernel
theorem dX9_forgets_13 : decode cX9_forgets 13 = .ok (.istore_n 2, 1) := by decide +kernel
theorem dX9_forgets_14 : decode cX9_forgets 14 = .ok (.iload_n 1, 1) := by decide +kernel
theorem dX9_forgets_15 : decode cX9_forgets 15 = .ok (.iconst 2, 1) := by decide +kernel
theorem dX9_forgets_16 : decode cX9_forgets 16 = .ok (.if_icmp .eq 8, 3) := by decide +kernel
theorem dX9_forgets_19 : decode cX9_forgets 19 = .ok (.iload_n 1, 1) := by decide +kernel
theorem dX9_forgets_20 : decode cX9_forgets 20 = .ok (.iconst 3, 1) := by decide +kernel
theorem dX9_forgets_21 : decode cX9_forgets 21 = .ok (.if_icmp .ne 22, 3) := by decide +kernel
theorem dX9_forgets_24 : decode cX9_forgets 24 = .ok (.aload_n 0, 1) := by decide +kernel
theorem dX9_forgets_25 : decode cX9_forgets 25 = .ok (.iload_n 2, 1) := by decide +kernel
theorem dX9_forgets_26 : decode cX9_forgets 26 = .ok (.iconst 3, 1) := by decide +kernel
theorem dX9_forgets_27 : decode cX9_forgets 27 = .ok (.iload_n 1, 1) := by decide +kernel
theorem dX9_forgets_28 : decode cX9_forgets 28 = .ok (.iconst 3, 1) := by decide +kernel
theorem dX9_forgets_29 : decode cX9_forgets 29 = .ok (.if_icmp .ne 7, 3) := by decide +kernel
theorem dX9_forgets_32 : decode cX9_forgets 32 = .ok (.iconst 1, 1) := by decide +kernel
theorem dX9_forgets_33 : decode cX9_forgets 33 = .ok (.goto 4, 3) := by decide +kernel
theorem dX9_forgets_36 : decode cX9_forgets 36 = .ok (.iconst 0, 1) := by decide +kernel
theorem dX9_forgets_37 : decode cX9_forgets 37 = .ok (.invokevirtual 80, 3) := by decide +kernel
theorem dX9_forgets_40 : decode cX9_forgets 40 = .ok (.goto 30, 3) := by decide +kernel
theorem dX9_forgets_43 : decode cX9_forgets 43 = .ok (.iload_n 1, 1) := by decide +kernel
theorem dX9_forgets_44 : decode cX9_forgets 44 = .ok (.iconst 4, 1) := by decide +kernel
theorem dX9_forgets_45 : decode cX9_forgets 45 = .ok (.if_icmp .eq 8, 3) := by decide +kernel
theorem dX9_forgets_48 : decode cX9_forgets 48 = .ok (.iload_n 1, 1) := by decide +kernel
theorem dX9_forgets_49 : decode cX9_forgets 49 = .ok (.iconst 5, 1) := by decide +kernel
theorem dX9_forgets_50 : decode cX9_forgets 50 = .ok (.if_icmp .ne 20, 3) := by decide +kernel
theorem dX9_forgets_53 : decode cX9_forgets 53 = .ok (.aload_n 0, 1) := by decide +kernel
theorem dX9_forgets_54 : decode cX9_forgets 54 = .ok (.iload_n 2, 1) := by decide +kernel
theorem dX9_forgets_55 : decode cX9_forgets 55 = .ok (.bipush 8, 2) := by decide +kernel
theorem dX9_forgets_57 : decode cX9_forgets 57 = .ok (.iload_n 1, 1) := by decide +kernel
theorem dX9_forgets_58 : decode cX9_forgets 58 = .ok (.iconst 5, 1) := by decide +kernel
theorem dX9_forgets_59 : decode cX9_forgets 59 = .ok (.if_icmp .ne 7, 3) := by decide +kernel
theorem dX9_forgets_62 : decode cX9_forgets 62 = .ok (.iconst 1, 1) := by decide +kernel
theorem dX9_forgets_63 : decode cX9_forgets 63 = .ok (.goto 4, 3) := by decide +kernel
theorem dX9_forgets_66 : decode cX9_forgets 66 = .ok (.iconst 0, 1) := by decide +kernel
theorem dX9_forgets_67 : decode cX9_forgets 67 = .ok (.invokevirtual 76, 3) := by decide +kernel
theorem dX9_forgets_70 : decode cX9_forgets 70 = .ok (.aload_n 0, 1) := by decide +kernel
theorem dX9_forgets_71 : decode cX9_forgets 71 = .ok (.getfield 7, 3) := by decide +kernel
theorem dX9_forgets_74 : decode cX9_forgets 74 = .ok (.iconst 5, 1) := by decide +kernel
theorem dX9_forgets_75 : decode cX9_forgets 75 = .ok (.dup2, 1) := by decide +kernel
theorem dX9_forgets_76 : decode cX9_forgets 76 = .ok (.iaload, 1) := by decide +kernel
theorem dX9_forgets_77 : decode cX9_forgets 77 = .ok (.iconst 1, 1) := by decide +kernel
theorem dX9_forgets_78 : decode cX9_forgets 78 = .ok (.isub, 1) := by decide +kernel
theorem dX9_forgets_79 : decode cX9_forgets 79 = .ok (.iastore, 1) := by decide +kernel
theorem dX9_forgets_80 : decode cX9_forgets 80 = .ok (.sipush 161, 3) := by decide +kernel
theorem dX9_forgets_83 : decode cX9_forgets 83 = .ok (.istore_n 3, 1) := by decide +kernel
theorem dX9_forgets_84 : decode cX9_forgets 84 = .ok (.iload_n 3, 1) := by decide +kernel
theorem dX9_forgets_85 : decode cX9_forgets 85 = .ok (.sipush 161, 3) := by decide +kernel
theorem dX9_forgets_88 : decode cX9_forgets 88 = .ok (.iconst 3, 1) := by decide +kernel
theorem dX9_forgets_89 : decode cX9_forgets 89 = .ok (.aload_n 0, 1) := by decide +kernel
theorem dX9_forgets_90 : decode cX9_forgets 90 = .ok (.getfield 7, 3) := by decide +kernel
theorem dX9_forgets_93 : decode cX9_forgets 93 = .ok (.iconst 5, 1) := by decide +kernel
theorem dX9_forgets_94 : decode cX9_forgets 94 = .ok (.iaload, 1) := by decide +kernel
theorem dX9_forgets_95 : decode cX9_forgets 95 = .ok (.imul, 1) := by decide +kernel
theorem dX9_forgets_96 : decode cX9_forgets 96 = .ok (.iadd, 1) := by decide +kernel
theorem dX9_forgets_97 : decode cX9_forgets 97 = .ok (.if_icmp .ge 23, 3) := by decide +kernel
theorem dX9_forgets_100 : decode cX9_forgets 100 = .ok (.aload_n 0, 1) := by decide +kernel
theorem dX9_forgets_101 : decode cX9_forgets 101 = .ok (.getfield 7, 3) := by decide +kernel
theorem dX9_forgets_104 : decode cX9_forgets 104 = .ok (.iload_n 3, 1) := by decide +kernel
theorem dX9_forgets_105 : decode cX9_forgets 105 = .ok (.aload_n 0, 1) := by decide +kernel
theorem dX9_forgets_106 : decode cX9_forgets 106 = .ok (.getfield 7, 3) := by decide +kernel
theorem dX9_forgets_109 : decode cX9_forgets 109 = .ok (.iload_n 3, 1) := by decide +kernel
theorem dX9_forgets_110 : decode cX9_forgets 110 = .ok (.iconst 3, 1) := by decide +kernel
theorem dX9_forgets_111 : decode cX9_forgets 111 = .ok (.iadd, 1) := by decide +kernel
theorem dX9_forgets_112 : decode cX9_forgets 112 = .ok (.iaload, 1) := by decide +kernel
theorem dX9_forgets_113 : decode cX9_forgets 113 = .ok (.iastore, 1) := by decide +kernel
theorem dX9_forgets_114 : decode cX9_forgets 114 = .ok (.iinc 3 1, 3) := by decide +kernel
theorem dX9_forgets_117 : decode cX9_forgets 117 = .ok (.goto (-33), 3) := by decide +kernel
theorem dX9_forgets_120 : decode cX9_forgets 120 = .ok (.return_, 1) := by decide +kernel
theorem dX9_makes_0 : decode cX9_makes 0 = .ok (.iload_n 1, 1) := by decide +kernel
theorem dX9_makes_1 : decode cX9_makes 1 = .ok (.iconst 2, 1) := by decide +kernel
theorem dX9_makes_2 : decode cX9_makes 2 = .ok (.if_icmp .eq 8, 3) := by decide +kernel
theorem dX9_makes_5 : decode cX9_makes 5 = .ok (.iload_n 1, 1) := by decide +kernel
theorem dX9_makes_6 : decode cX9_makes 6 = .ok (.iconst 3, 1) := by decide +kernel
theorem dX9_makes_7 : decode cX9_makes 7 = .ok (.if_icmp .ne 22, 3) := by decide +kernel
theorem dX9_makes_10 : decode cX9_makes 10 = .ok (.aload_n 0, 1) := by decide +kernel
theorem dX9_makes_11 : decode cX9_makes 11 = .ok (.iload_n 2, 1) := by decide +kernel
theorem dX9_makes_12 : decode cX9_makes 12 = .ok (.iconst 2, 1) := by decide +kernel
theorem dX9_makes_13 : decode cX9_makes 13 = .ok (.iload_n 1, 1) := by decide +kernel
theorem dX9_makes_14 : decode cX9_makes 14 = .ok (.iconst 3, 1) := by decide +kernel
theorem dX9_makes_15 : decode cX9_makes 15 = .ok (.if_icmp .ne 7, 3) := by decide +kernel
theorem dX9_makes_18 : decode cX9_makes 18 = .ok (.iconst 1, 1) := by decide +kernel
theorem dX9_makes_19 : decode cX9_makes 19 = .ok (.goto 4, 3) := by decide +kernel
theorem dX9_makes_22 : decode cX9_makes 22 = .ok (.iconst 0, 1) := by decide +kernel
theorem dX9_makes_23 : decode cX9_makes 23 = .ok (.invokevirtual 80, 3) := by decide +kernel
theorem dX9_makes_26 : decode cX9_makes 26 = .ok (.goto 76, 3) := by decide +kernel
theorem dX9_makes_29 : decode cX9_makes 29 = .ok (.iload_n 1, 1) := by decide +kernel
theorem dX9_makes_30 : decode cX9_makes 30 = .ok (.iconst 4, 1) := by decide +kernel
theorem dX9_makes_31 : decode cX9_makes 31 = .ok (.if_icmp .eq 8, 3) := by decide +kernel
theorem dX9_makes_34 : decode cX9_makes 34 = .ok (.iload_n 1, 1) := by decide +kernel
theorem dX9_makes_35 : decode cX9_makes 35 = .ok (.iconst 5, 1) := by decide +kernel
theorem dX9_makes_36 : decode cX9_makes 36 = .ok (.if_icmp .ne 22, 3) := by decide +kernel
theorem dX9_makes_39 : decode cX9_makes 39 = .ok (.aload_n 0, 1) := by decide +kernel
theorem dX9_makes_40 : decode cX9_makes 40 = .ok (.iload_n 2, 1) := by decide +kernel
theorem dX9_makes_41 : decode cX9_makes 41 = .ok (.iconst 1, 1) := by decide +kernel
theorem dX9_makes_42 : decode cX9_makes 42 = .ok (.iload_n 1, 1) := by decide +kernel
theorem dX9_makes_43 : decode cX9_makes 43 = .ok (.iconst 5, 1) := by decide +kernel
theorem dX9_makes_44 : decode cX9_makes 44 = .ok (.if_icmp .ne 7, 3) := by decide +kernel
theorem dX9_makes_47 : decode cX9_makes 47 = .ok (.iconst 2, 1) := by decide +kernel
theorem dX9_makes_48 : decode cX9_makes 48 = .ok (.goto 4, 3) := by decide +kernel
theorem dX9_makes_51 : decode cX9_makes 51 = .ok (.iconst 1, 1) := by decide +kernel
theorem dX9_makes_52 : decode cX9_makes 52 = .ok (.invokevirtual 76, 3) := by decide +kernel
theorem dX9_makes_55 : decode cX9_makes 55 = .ok (.goto 47, 3) := by decide +kernel
theorem dX9_makes_58 : decode cX9_makes 58 = .ok (.iload_n 1, 1) := by decide +kernel
theorem dX9_makes_59 : decode cX9_makes 59 = .ok (.ifCond .eq 8, 3) := by decide +kernel
theorem dX9_makes_62 : decode cX9_makes 62 = .ok (.iload_n 1, 1) := by decide +kernel
theorem dX9_makes_63 : decode cX9_makes 63 = .ok (.iconst 1, 1) := by decide +kernel
theorem dX9_makes_64 : decode cX9_makes 64 = .ok (.if_icmp .ne 21, 3) := by decide +kernel
theorem dX9_makes_67 : decode cX9_makes 67 = .ok (.aload_n 0, 1) := by decide +kernel
theorem dX9_makes_68 : decode cX9_makes 68 = .ok (.iload_n 2, 1) := by decide +kernel
theorem dX9_makes_69 : decode cX9_makes 69 = .ok (.iconst 2, 1) := by decide +kernel
theorem dX9_makes_70 : decode cX9_makes 70 = .ok (.iload_n 1, 1) := by decide +kernel
theorem dX9_makes_71 : decode cX9_makes 71 = .ok (.ifCond .ne 7, 3) := by decide +kernel
theorem dX9_makes_74 : decode cX9_makes 74 = .ok (.iconst 1, 1) := by decide +kernel
theorem dX9_makes_75 : decode cX9_makes 75 = .ok (.goto 4, 3) := by decide +kernel
theorem dX9_makes_78 : decode cX9_makes 78 = .ok (.iconst 0, 1) := by decide +kernel
theorem dX9_makes_79 : decode cX9_makes 79 = .ok (.invokevirtual 76, 3) := by decide +kernel
theorem dX9_makes_82 : decode cX9_makes 82 = .ok (.goto 20, 3) := by decide +kernel
theorem dX9_makes_85 : decode cX9_makes 85 = .ok (.aload_n 0, 1) := by decide +kernel
theorem dX9_makes_86 : decode cX9_makes 86 = .ok (.iload_n 2, 1) := by decide +kernel
theorem dX9_makes_87 : decode cX9_makes 87 = .ok (.iconst 3, 1) := by decide +kernel
theorem dX9_makes_88 : decode cX9_makes 88 = .ok (.iload_n 1, 1) := by decide +kernel
theorem dX9_makes_89 : decode cX9_makes 89 = .ok (.bipush 6, 2) := by decide +kernel
theorem dX9_makes_91 : decode cX9_makes 91 = .ok (.if_icmp .ne 7, 3) := by decide +kernel
theorem dX9_makes_94 : decode cX9_makes 94 = .ok (.iconst 1, 1) := by decide +kernel
theorem dX9_makes_95 : decode cX9_makes 95 = .ok (.goto 4, 3) := by decide +kernel
theorem dX9_makes_98 : decode cX9_makes 98 = .ok (.iconst 0, 1) := by decide +kernel
theorem dX9_makes_99 : decode cX9_makes 99 = .ok (.invokevirtual 76, 3) := by decide +kernel
theorem dX9_makes_102 : decode cX9_makes 102 = .ok (.aload_n 0, 1) := by decide +kernel
theorem dX9_makes_103 : decode cX9_makes 103 = .ok (.getfield 7, 3) := by decide +kernel
theorem dX9_makes_106 : decode cX9_makes 106 = .ok (.iconst 5, 1) := by decide +kernel
theorem dX9_makes_107 : decode cX9_makes 107 = .ok (.iaload, 1) := by decide +kernel
theorem dX9_makes_108 : decode cX9_makes 108 = .ok (.bipush 24, 2) := by decide +kernel
theorem dX9_makes_110 : decode cX9_makes 110 = .ok (.if_icmp .ne 7, 3) := by decide +kernel
theorem dX9_makes_113 : decode cX9_makes 113 = .ok (.aload_n 0, 1) := by decide +kernel
theorem dX9_makes_114 : decode cX9_makes 114 = .ok (.invokevirtual 150, 3) := by decide +kernel
theorem dX9_makes_117 : decode cX9_makes 117 = .ok (.sipush 161, 3) := by decide +kernel
theorem dX9_makes_120 : decode cX9_makes 120 = .ok (.iconst 3, 1) := by decide +kernel
theorem dX9_makes_121 : decode cX9_makes 121 = .ok (.aload_n 0, 1) := by decide +kernel
theorem dX9_makes_122 : decode cX9_makes 122 = .ok (.getfield 7, 3) := by decide +kernel
theorem dX9_makes_125 : decode cX9_makes 125 = .ok (.iconst 5, 1) := by decide +kernel
theorem dX9_makes_126 : decode cX9_makes 126 = .ok (.iaload, 1) := by decide +kernel
theorem dX9_makes_127 : decode cX9_makes 127 = .ok (.imul, 1) := by decide +kernel
theorem dX9_makes_128 : decode cX9_makes 128 = .ok (.iadd, 1) := by decide +kernel
theorem dX9_makes_129 : decode cX9_makes 129 = .ok (.istore_n 3, 1) := by decide +kernel
theorem dX9_makes_130 : decode cX9_makes 130 = .ok (.aload_n 0, 1) := by decide +kernel
theorem dX9_makes_131 : decode cX9_makes 131 = .ok (.getfield 7, 3) := by decide +kernel
theorem dX9_makes_134 : decode cX9_makes 134 = .ok (.iload_n 3, 1) := by decide +kernel
theorem dX9_makes_135 : decode cX9_makes 135 = .ok (.iload_n 1, 1) := by decide +kernel
theorem dX9_makes_136 : decode cX9_makes 136 = .ok (.iastore, 1) := by decide +kernel
theorem dX9_makes_137 : decode cX9_makes 137 = .ok (.aload_n 0, 1) := by decide +kernel
theorem dX9_makes_138 : decode cX9_makes 138 = .ok (.getfield 7, 3) := by decide +kernel
theorem dX9_makes_141 : decode cX9_makes 141 = .ok (.iload_n 3, 1) := by decide +kernel
theorem dX9_makes_142 : decode cX9_makes 142 = .ok (.iconst 1, 1) := by decide +kernel
theorem dX9_makes_143 : decode cX9_makes 143 = .ok (.iadd, 1) := by decide +kernel
theorem dX9_makes_144 : decode cX9_makes 144 = .ok (.iload_n 2, 1) := by decide +kernel
theorem dX9_makes_145 : decode cX9_makes 145 = .ok (.iastore, 1) := by decide +kernel
theorem dX9_makes_146 : decode cX9_makes 146 = .ok (.aload_n 0, 1) := by decide +kernel
theorem dX9_makes_147 : decode cX9_makes 147 = .ok (.getfield 7, 3) := by decide +kernel
theorem dX9_makes_150 : decode cX9_makes 150 = .ok (.iload_n 3, 1) := by decide +kernel
theorem dX9_makes_151 : decode cX9_makes 151 = .ok (.iconst 2, 1) := by decide +kernel
theorem dX9_makes_152 : decode cX9_makes 152 = .ok (.iadd, 1) := by decide +kernel
theorem dX9_makes_153 : decode cX9_makes 153 = .ok (.aload_n 0, 1) := by decide +kernel
theorem dX9_makes_154 : decode cX9_makes 154 = .ok (.getfield 7, 3) := by decide +kernel
theorem dX9_makes_157 : decode cX9_makes 157 = .ok (.iconst 3, 1) := by decide +kernel
theorem dX9_makes_158 : decode cX9_makes 158 = .ok (.iaload, 1) := by decide +kernel
theorem dX9_makes_159 : decode cX9_makes 159 = .ok (.iastore, 1) := by decide +kernel
theorem dX9_makes_160 : decode cX9_makes 160 = .ok (.aload_n 0, 1) := by decide +kernel
theorem dX9_makes_161 : decode cX9_makes 161 = .ok (.getfield 7, 3) := by decide +kernel
theorem dX9_makes_164 : decode cX9_makes 164 = .ok (.iconst 5, 1) := by decide +kernel
theorem dX9_makes_165 : decode cX9_makes 165 = .ok (.dup2, 1) := by decide +kernel
theorem dX9_makes_166 : decode cX9_makes 166 = .ok (.iaload, 1) := by decide +kernel
theorem dX9_makes_167 : decode cX9_makes 167 = .ok (.iconst 1, 1) := by decide +kernel
theorem dX9_makes_168 : decode cX9_makes 168 = .ok (.iadd, 1) := by decide +kernel
theorem dX9_makes_169 : decode cX9_makes 169 = .ok (.iastore, 1) := by decide +kernel
theorem dX9_makes_170 : decode cX9_makes 170 = .ok (.aload_n 0, 1) := by decide +kernel
theorem dX9_makes_171 : decode cX9_makes 171 = .ok (.getfield 7, 3) := by decide +kernel
theorem dX9_makes_174 : decode cX9_makes 174 = .ok (.iconst 4, 1) := by decide +kernel
theorem dX9_makes_175 : decode cX9_makes 175 = .ok (.dup2, 1) := by decide +kernel
theorem dX9_makes_176 : decode cX9_makes 176 = .ok (.iaload, 1) := by decide +kernel
theorem dX9_makes_177 : decode cX9_makes 177 = .ok (.iconst 1, 1) := by decide +kernel
theorem dX9_makes_178 : decode cX9_makes 178 = .ok (.iadd, 1) := by decide +kernel
theorem dX9_makes_179 : decode cX9_makes 179 = .ok (.iastore, 1) := by decide +kernel
theorem dX9_makes_180 : decode cX9_makes 180 = .ok (.return_, 1) := by decide +kernel
theorem dX9_step_0 : decode cX9_step 0 = .ok (.iload_n 1, 1) := by decide +kernel
theorem dX9_step_1 : decode cX9_step 1 = .ok (.iconst 0, 1) := by decide +kernel
theorem dX9_step_2 : decode cX9_step 2 = .ok (.bipush 7, 2) := by decide +kernel
theorem dX9_step_4 : decode cX9_step 4 = .ok (.invokestatic 25, 3) := by decide +kernel
theorem dX9_step_7 : decode cX9_step 7 = .ok (.ifCond .eq 12, 3) := by decide +kernel
theorem dX9_step_10 : decode cX9_step 10 = .ok (.aload_n 0, 1) := by decide +kernel
theorem dX9_step_11 : decode cX9_step 11 = .ok (.iload_n 1, 1) := by decide +kernel
theorem dX9_step_12 : decode cX9_step 12 = .ok (.iload_n 2, 1) := by decide +kernel
theorem dX9_step_13 : decode cX9_step 13 = .ok (.invokevirtual 144, 3) := by decide +kernel
theorem dX9_step_16 : decode cX9_step 16 = .ok (.ifCond .ne 5, 3) := by decide +kernel
theorem dX9_step_19 : decode cX9_step 19 = .ok (.iconst (-1), 1) := by decide +kernel
theorem dX9_step_20 : decode cX9_step 20 = .ok (.ireturn, 1) := by decide +kernel
theorem dX9_step_21 : decode cX9_step 21 = .ok (.aload_n 0, 1) := by decide +kernel
theorem dX9_step_22 : decode cX9_step 22 = .ok (.iload_n 1, 1) := by decide +kernel
theorem dX9_step_23 : decode cX9_step 23 = .ok (.iload_n 2, 1) := by decide +kernel
theorem dX9_step_24 : decode cX9_step 24 = .ok (.invokevirtual 147, 3) := by decide +kernel
theorem dX9_step_27 : decode cX9_step 27 = .ok (.ifCond .eq 6, 3) := by decide +kernel
theorem dX9_step_30 : decode cX9_step 30 = .ok (.bipush (-2), 2) := by decide +kernel
theorem dX9_step_32 : decode cX9_step 32 = .ok (.ireturn, 1) := by decide +kernel
theorem dX9_step_33 : decode cX9_step 33 = .ok (.aload_n 0, 1) := by decide +kernel
theorem dX9_step_34 : decode cX9_step 34 = .ok (.invokevirtual 73, 3) := by decide +kernel
theorem dX9_step_37 : decode cX9_step 37 = .ok (.aload_n 0, 1) := by decide +kernel
theorem dX9_step_38 : decode cX9_step 38 = .ok (.iload_n 1, 1) := by decide +kernel
theorem dX9_step_39 : decode cX9_step 39 = .ok (.iload_n 2, 1) := by decide +kernel
theorem dX9_step_40 : decode cX9_step 40 = .ok (.invokevirtual 153, 3) := by decide +kernel
theorem dX9_step_43 : decode cX9_step 43 = .ok (.aload_n 0, 1) := by decide +kernel
theorem dX9_step_44 : decode cX9_step 44 = .ok (.invokevirtual 57, 3) := by decide +kernel
theorem dX9_step_47 : decode cX9_step 47 = .ok (.invokestatic 110, 3) := by decide +kernel
theorem dX9_step_50 : decode cX9_step 50 = .ok (.ireturn, 1) := by decide +kernel
theorem dX9_log_0 : decode cX9_log 0 = .ok (.iload_n 1, 1) := by decide +kernel
theorem dX9_log_1 : decode cX9_log 1 = .ok (.ifCond .lt 12, 3) := by decide +kernel
theorem dX9_log_4 : decode cX9_log 4 = .ok (.iload_n 2, 1) := by decide +kernel
theorem dX9_log_5 : decode cX9_log 5 = .ok (.iconst 0, 1) := by decide +kernel
theorem dX9_log_6 : decode cX9_log 6 = .ok (.iconst 2, 1) := by decide +kernel
theorem dX9_log_7 : decode cX9_log 7 = .ok (.invokestatic 25, 3) := by decide +kernel
theorem dX9_log_10 : decode cX9_log 10 = .ok (.ifCond .ne 5, 3) := by decide +kernel
theorem dX9_log_13 : decode cX9_log 13 = .ok (.iconst (-1), 1) := by decide +kernel
theorem dX9_log_14 : decode cX9_log 14 = .ok (.ireturn, 1) := by decide +kernel
theorem dX9_log_15 : decode cX9_log 15 = .ok (.iload_n 1, 1) := by decide +kernel
theorem dX9_log_16 : decode cX9_log 16 = .ok (.aload_n 0, 1) := by decide +kernel
theorem dX9_log_17 : decode cX9_log 17 = .ok (.getfield 7, 3) := by decide +kernel
theorem dX9_log_20 : decode cX9_log 20 = .ok (.iconst 5, 1) := by decide +kernel
theorem dX9_log_21 : decode cX9_log 21 = .ok (.iaload, 1) := by decide +kernel
theorem dX9_log_22 : decode cX9_log 22 = .ok (.if_icmp .ge 21, 3) := by decide +kernel
theorem dX9_log_25 : decode cX9_log 25 = .ok (.aload_n 0, 1) := by decide +kernel
theorem dX9_log_26 : decode cX9_log 26 = .ok (.aload_n 0, 1) := by decide +kernel
theorem dX9_log_27 : decode cX9_log 27 = .ok (.getfield 7, 3) := by decide +kernel
theorem dX9_log_30 : decode cX9_log 30 = .ok (.iconst 5, 1) := by decide +kernel
theorem dX9_log_31 : decode cX9_log 31 = .ok (.iaload, 1) := by decide +kernel
theorem dX9_log_32 : decode cX9_log 32 = .ok (.iconst 1, 1) := by decide +kernel
theorem dX9_log_33 : decode cX9_log 33 = .ok (.isub, 1) := by decide +kernel
theorem dX9_log_34 : decode cX9_log 34 = .ok (.iload_n 1, 1) := by decide +kernel
theorem dX9_log_35 : decode cX9_log 35 = .ok (.isub, 1) := by decide +kernel
theorem dX9_log_36 : decode cX9_log 36 = .ok (.iload_n 2, 1) := by decide +kernel
theorem dX9_log_37 : decode cX9_log 37 = .ok (.invokevirtual 60, 3) := by decide +kernel
theorem dX9_log_40 : decode cX9_log 40 = .ok (.goto 5, 3) := by decide +kernel
theorem dX9_log_43 : decode cX9_log 43 = .ok (.bipush (-4), 2) := by decide +kernel
theorem dX9_log_45 : decode cX9_log 45 = .ok (.ireturn, 1) := by decide +kernel
theorem dX9_plans_0 : decode cX9_plans 0 = .ok (.aload_n 0, 1) := by decide +kernel
theorem dX9_plans_1 : decode cX9_plans 1 = .ok (.getfield 22, 3) := by decide +kernel
theorem dX9_plans_4 : decode cX9_plans 4 = .ok (.aload_n 0, 1) := by decide +kernel
theorem dX9_plans_5 : decode cX9_plans 5 = .ok (.getfield 156, 3) := by decide +kernel
theorem dX9_plans_8 : decode cX9_plans 8 = .ok (.bipush 100, 2) := by decide +kernel
theorem dX9_plans_10 : decode cX9_plans 10 = .ok (.iload_n 1, 1) := by decide +kernel
theorem dX9_plans_11 : decode cX9_plans 11 = .ok (.imul, 1) := by decide +kernel
theorem dX9_plans_12 : decode cX9_plans 12 = .ok (.iload_n 2, 1) := by decide +kernel
theorem dX9_plans_13 : decode cX9_plans 13 = .ok (.iadd, 1) := by decide +kernel
theorem dX9_plans_14 : decode cX9_plans 14 = .ok (.iastore, 1) := by decide +kernel
theorem dX9_plans_15 : decode cX9_plans 15 = .ok (.aload_n 0, 1) := by decide +kernel
theorem dX9_plans_16 : decode cX9_plans 16 = .ok (.dup, 1) := by decide +kernel
theorem dX9_plans_17 : decode cX9_plans 17 = .ok (.getfield 156, 3) := by decide +kernel
theorem dX9_plans_20 : decode cX9_plans 20 = .ok (.iconst 1, 1) := by decide +kernel
theorem dX9_plans_21 : decode cX9_plans 21 = .ok (.iadd, 1) := by decide +kernel
theorem dX9_plans_22 : decode cX9_plans 22 = .ok (.putfield 156, 3) := by decide +kernel
theorem dX9_plans_25 : decode cX9_plans 25 = .ok (.return_, 1) := by decide +kernel
theorem dX9_laysPlan_0 : decode cX9_laysPlan 0 = .ok (.aload_n 0, 1) := by decide +kernel
theorem dX9_laysPlan_1 : decode cX9_laysPlan 1 = .ok (.iconst 0, 1) := by decide +kernel
theorem dX9_laysPlan_2 : decode cX9_laysPlan 2 = .ok (.putfield 156, 3) := by decide +kernel
theorem dX9_laysPlan_5 : decode cX9_laysPlan 5 = .ok (.aload_n 0, 1) := by decide +kernel
theorem dX9_laysPlan_6 : decode cX9_laysPlan 6 = .ok (.iload_n 1, 1) := by decide +kernel
theorem dX9_laysPlan_7 : decode cX9_laysPlan 7 = .ok (.iconst 2, 1) := by decide +kernel
theorem dX9_laysPlan_8 : decode cX9_laysPlan 8 = .ok (.invokevirtual 37, 3) := by decide +kernel
theorem dX9_laysPlan_11 : decode cX9_laysPlan 11 = .ok (.ifCond .ne 9, 3) := by decide +kernel
theorem dX9_laysPlan_14 : decode cX9_laysPlan 14 = .ok (.aload_n 0, 1) := by decide +kernel
theorem dX9_laysPlan_15 : decode cX9_laysPlan 15 = .ok (.iconst 0, 1) := by decide +kernel
theorem dX9_laysPlan_16 : decode cX9_laysPlan 16 = .ok (.iload_n 1, 1) := by decide +kernel
theorem dX9_laysPlan_17 : decode cX9_laysPlan 17 = .ok (.invokevirtual 159, 3) := by decide +kernel
theorem dX9_laysPlan_20 : decode cX9_laysPlan 20 = .ok (.aload_n 0, 1) := by decide +kernel
theorem dX9_laysPlan_21 : decode cX9_laysPlan 21 = .ok (.iload_n 1, 1) := by decide +kernel
theorem dX9_laysPlan_22 : decode cX9_laysPlan 22 = .ok (.iconst 1, 1) := by decide +kernel
theorem dX9_laysPlan_23 : decode cX9_laysPlan 23 = .ok (.invokevirtual 37, 3) := by decide +kernel
theorem dX9_laysPlan_26 : decode cX9_laysPlan 26 = .ok (.iconst 2, 1) := by decide +kernel
theorem dX9_laysPlan_27 : decode cX9_laysPlan 27 = .ok (.if_icmp .ne 9, 3) := by decide +kernel
theorem dX9_laysPlan_30 : decode cX9_laysPlan 30 = .ok (.aload_n 0, 1) := by decide +kernel
theorem dX9_laysPlan_31 : decode cX9_laysPlan 31 = .ok (.iconst 4, 1) := by decide +kernel
theorem dX9_laysPlan_32 : decode cX9_laysPlan 32 = .ok (.iload_n 1, 1) := by decide +kernel
theorem dX9_laysPlan_33 : decode cX9_laysPlan 33 = .ok (.invokevirtual 159, 3) := by decide +kernel
theorem dX9_laysPlan_36 : decode cX9_laysPlan 36 = .ok (.iconst 0, 1) := by decide +kernel
theorem dX9_laysPlan_37 : decode cX9_laysPlan 37 = .ok (.istore_n 2, 1) := by decide +kernel
theorem dX9_laysPlan_38 : decode cX9_laysPlan 38 = .ok (.iload_n 2, 1) := by decide +kernel
theorem dX9_laysPlan_39 : decode cX9_laysPlan 39 = .ok (.aload_n 0, 1) := by decide +kernel
theorem dX9_laysPlan_40 : decode cX9_laysPlan 40 = .ok (.getfield 7, 3) := by decide +kernel
theorem dX9_laysPlan_43 : decode cX9_laysPlan 43 = .ok (.iconst 1, 1) := by decide +kernel
theorem dX9_laysPlan_44 : decode cX9_laysPlan 44 = .ok (.iaload, 1) := by decide +kernel
theorem dX9_laysPlan_45 : decode cX9_laysPlan 45 = .ok (.if_icmp .ge 45, 3) := by decide +kernel
theorem dX9_laysPlan_48 : decode cX9_laysPlan 48 = .ok (.aload_n 0, 1) := by decide +kernel
theorem dX9_laysPlan_49 : decode cX9_laysPlan 49 = .ok (.iload_n 2, 1) := by decide +kernel
theorem dX9_laysPlan_50 : decode cX9_laysPlan 50 = .ok (.iconst 2, 1) := by decide +kernel
theorem dX9_laysPlan_51 : decode cX9_laysPlan 51 = .ok (.invokevirtual 33, 3) := by decide +kernel
theorem dX9_laysPlan_54 : decode cX9_laysPlan 54 = .ok (.iconst 1, 1) := by decide +kernel
theorem dX9_laysPlan_55 : decode cX9_laysPlan 55 = .ok (.if_icmp .ne 29, 3) := by decide +kernel
theorem dX9_laysPlan_58 : decode cX9_laysPlan 58 = .ok (.aload_n 0, 1) := by decide +kernel
theorem dX9_laysPlan_59 : decode cX9_laysPlan 59 = .ok (.iload_n 2, 1) := by decide +kernel
theorem dX9_laysPlan_60 : decode cX9_laysPlan 60 = .ok (.iconst 0, 1) := by decide +kernel
theorem dX9_laysPlan_61 : decode cX9_laysPlan 61 = .ok (.invokevirtual 33, 3) := by decide +kernel
theorem dX9_laysPlan_64 : decode cX9_laysPlan 64 = .ok (.iload_n 1, 1) := by decide +kernel
theorem dX9_laysPlan_65 : decode cX9_laysPlan 65 = .ok (.if_icmp .eq 13, 3) := by decide +kernel
theorem dX9_laysPlan_68 : decode cX9_laysPlan 68 = .ok (.aload_n 0, 1) := by decide +kernel
theorem dX9_laysPlan_69 : decode cX9_laysPlan 69 = .ok (.iload_n 2, 1) := by decide +kernel
theorem dX9_laysPlan_70 : decode cX9_laysPlan 70 = .ok (.iconst 1, 1) := by decide +kernel
theorem dX9_laysPlan_71 : decode cX9_laysPlan 71 = .ok (.invokevirtual 33, 3) := by decide +kernel
theorem dX9_laysPlan_74 : decode cX9_laysPlan 74 = .ok (.iload_n 1, 1) := by decide +kernel
theorem dX9_laysPlan_75 : decode cX9_laysPlan 75 = .ok (.if_icmp .ne 9, 3) := by decide +kernel
theorem dX9_laysPlan_78 : decode cX9_laysPlan 78 = .ok (.aload_n 0, 1) := by decide +kernel
theorem dX9_laysPlan_79 : decode cX9_laysPlan 79 = .ok (.iconst 2, 1) := by decide +kernel
theorem dX9_laysPlan_80 : decode cX9_laysPlan 80 = .ok (.iload_n 2, 1) := by decide +kernel
theorem dX9_laysPlan_81 : decode cX9_laysPlan 81 = .ok (.invokevirtual 159, 3) := by decide +kernel
theorem dX9_laysPlan_84 : decode cX9_laysPlan 84 = .ok (.iinc 2 1, 3) := by decide +kernel
theorem dX9_laysPlan_87 : decode cX9_laysPlan 87 = .ok (.goto (-49), 3) := by decide +kernel
theorem dX9_laysPlan_90 : decode cX9_laysPlan 90 = .ok (.aload_n 0, 1) := by decide +kernel
theorem dX9_laysPlan_91 : decode cX9_laysPlan 91 = .ok (.iload_n 1, 1) := by decide +kernel
theorem dX9_laysPlan_92 : decode cX9_laysPlan 92 = .ok (.iconst 3, 1) := by decide +kernel
theorem dX9_laysPlan_93 : decode cX9_laysPlan 93 = .ok (.invokevirtual 37, 3) := by decide +kernel
theorem dX9_laysPlan_96 : decode cX9_laysPlan 96 = .ok (.ifCond .ne 10, 3) := by decide +kernel
theorem dX9_laysPlan_99 : decode cX9_laysPlan 99 = .ok (.aload_n 0, 1) := by decide +kernel
theorem dX9_laysPlan_100 : decode cX9_laysPlan 100 = .ok (.bipush 6, 2) := by decide +kernel
theorem dX9_laysPlan_102 : decode cX9_laysPlan 102 = .ok (.iload_n 1, 1) := by decide +kernel
theorem dX9_laysPlan_103 : decode cX9_laysPlan 103 = .ok (.invokevirtual 159, 3) := by decide +kernel
theorem dX9_laysPlan_106 : decode cX9_laysPlan 106 = .ok (.return_, 1) := by decide +kernel
theorem dX9_plan_0 : decode cX9_plan 0 = .ok (.aload_n 0, 1) := by decide +kernel
theorem dX9_plan_1 : decode cX9_plan 1 = .ok (.iload_n 1, 1) := by decide +kernel
theorem dX9_plan_2 : decode cX9_plan 2 = .ok (.invokevirtual 86, 3) := by decide +kernel
theorem dX9_plan_5 : decode cX9_plan 5 = .ok (.ifCond .eq 7, 3) := by decide +kernel
theorem dX9_plan_8 : decode cX9_plan 8 = .ok (.iload_n 2, 1) := by decide +kernel
theorem dX9_plan_9 : decode cX9_plan 9 = .ok (.ifCond .ge 5, 3) := by decide +kernel
theorem dX9_plan_12 : decode cX9_plan 12 = .ok (.iconst (-1), 1) := by decide +kernel
theorem dX9_plan_13 : decode cX9_plan 13 = .ok (.ireturn, 1) := by decide +kernel
theorem dX9_plan_14 : decode cX9_plan 14 = .ok (.aload_n 0, 1) := by decide +kernel
theorem dX9_plan_15 : decode cX9_plan 15 = .ok (.iload_n 1, 1) := by decide +kernel
theorem dX9_plan_16 : decode cX9_plan 16 = .ok (.invokevirtual 162, 3) := by decide +kernel
theorem dX9_plan_19 : decode cX9_plan 19 = .ok (.iload_n 2, 1) := by decide +kernel
theorem dX9_plan_20 : decode cX9_plan 20 = .ok (.aload_n 0, 1) := by decide +kernel
theorem dX9_plan_21 : decode cX9_plan 21 = .ok (.getfield 156, 3) := by decide +kernel
theorem dX9_plan_24 : decode cX9_plan 24 = .ok (.if_icmp .ge 12, 3) := by decide +kernel
theorem dX9_plan_27 : decode cX9_plan 27 = .ok (.aload_n 0, 1) := by decide +kernel
theorem dX9_plan_28 : decode cX9_plan 28 = .ok (.getfield 22, 3) := by decide +kernel
theorem dX9_plan_31 : decode cX9_plan 31 = .ok (.iload_n 2, 1) := by decide +kernel
theorem dX9_plan_32 : decode cX9_plan 32 = .ok (.iaload, 1) := by decide +kernel
theorem dX9_plan_33 : decode cX9_plan 33 = .ok (.goto 5, 3) := by decide +kernel
theorem dX9_plan_36 : decode cX9_plan 36 = .ok (.bipush (-4), 2) := by decide +kernel
theorem dX9_plan_38 : decode cX9_plan 38 = .ok (.ireturn, 1) := by decide +kernel
theorem dX9_canPlan_0 : decode cX9_canPlan 0 = .ok (.aload_n 0, 1) := by decide +kernel
theorem dX9_canPlan_1 : decode cX9_canPlan 1 = .ok (.iload_n 1, 1) := by decide +kernel
theorem dX9_canPlan_2 : decode cX9_canPlan 2 = .ok (.invokevirtual 86, 3) := by decide +kernel
theorem dX9_canPlan_5 : decode cX9_canPlan 5 = .ok (.ifCond .ne 5, 3) := by decide +kernel
theorem dX9_canPlan_8 : decode cX9_canPlan 8 = .ok (.iconst (-1), 1) := by decide +kernel
theorem dX9_canPlan_9 : decode cX9_canPlan 9 = .ok (.ireturn, 1) := by decide +kernel
theorem dX9_canPlan_10 : decode cX9_canPlan 10 = .ok (.aload_n 0, 1) := by decide +kernel
theorem dX9_canPlan_11 : decode cX9_canPlan 11 = .ok (.iload_n 1, 1) := by decide +kernel
theorem dX9_canPlan_12 : decode cX9_canPlan 12 = .ok (.invokevirtual 162, 3) := by decide +kernel
theorem dX9_canPlan_15 : decode cX9_canPlan 15 = .ok (.aload_n 0, 1) := by decide +kernel
theorem dX9_canPlan_16 : decode cX9_canPlan 16 = .ok (.invokevirtual 166, 3) := by decide +kernel
theorem dX9_canPlan_19 : decode cX9_canPlan 19 = .ok (.iconst 0, 1) := by decide +kernel
theorem dX9_canPlan_20 : decode cX9_canPlan 20 = .ok (.istore_n 2, 1) := by decide +kernel
theorem dX9_canPlan_21 : decode cX9_canPlan 21 = .ok (.iload_n 2, 1) := by decide +kernel
theorem dX9_canPlan_22 : decode cX9_canPlan 22 = .ok (.aload_n 0, 1) := by decide +kernel
theorem dX9_canPlan_23 : decode cX9_canPlan 23 = .ok (.getfield 156, 3) := by decide +kernel
theorem dX9_canPlan_26 : decode cX9_canPlan 26 = .ok (.if_icmp .ge 56, 3) := by decide +kernel
theorem dX9_canPlan_29 : decode cX9_canPlan 29 = .ok (.aload_n 0, 1) := by decide +kernel
theorem dX9_canPlan_30 : decode cX9_canPlan 30 = .ok (.aload_n 0, 1) := by decide +kernel
theorem dX9_canPlan_31 : decode cX9_canPlan 31 = .ok (.getfield 22, 3) := by decide +kernel
theorem dX9_canPlan_34 : decode cX9_canPlan 34 = .ok (.iload_n 2, 1) := by decide +kernel
theorem dX9_canPlan_35 : decode cX9_canPlan 35 = .ok (.iaload, 1) := by decide +kernel
theorem dX9_canPlan_36 : decode cX9_canPlan 36 = .ok (.bipush 100, 2) := by decide +kernel
theorem dX9_canPlan_38 : decode cX9_canPlan 38 = .ok (.idiv, 1) := by decide +kernel
theorem dX9_canPlan_39 : decode cX9_canPlan 39 = .ok (.aload_n 0, 1) := by decide +kernel
theorem dX9_canPlan_40 : decode cX9_canPlan 40 = .ok (.getfield 22, 3) := by decide +kernel
theorem dX9_canPlan_43 : decode cX9_canPlan 43 = .ok (.iload_n 2, 1) := by decide +kernel
theorem dX9_canPlan_44 : decode cX9_canPlan 44 = .ok (.iaload, 1) := by decide +kernel
theorem dX9_canPlan_45 : decode cX9_canPlan 45 = .ok (.bipush 100, 2) := by decide +kernel
theorem dX9_canPlan_47 : decode cX9_canPlan 47 = .ok (.irem, 1) := by decide +kernel
theorem dX9_canPlan_48 : decode cX9_canPlan 48 = .ok (.invokevirtual 147, 3) := by decide +kernel
theorem dX9_canPlan_51 : decode cX9_canPlan 51 = .ok (.ifCond .ne 31, 3) := by decide +kernel
theorem dX9_canPlan_54 : decode cX9_canPlan 54 = .ok (.aload_n 0, 1) := by decide +kernel
theorem dX9_canPlan_55 : decode cX9_canPlan 55 = .ok (.aload_n 0, 1) := by decide +kernel
theorem dX9_canPlan_56 : decode cX9_canPlan 56 = .ok (.getfield 22, 3) := by decide +kernel
theorem dX9_canPlan_59 : decode cX9_canPlan 59 = .ok (.iload_n 2, 1) := by decide +kernel
theorem dX9_canPlan_60 : decode cX9_canPlan 60 = .ok (.iaload, 1) := by decide +kernel
theorem dX9_canPlan_61 : decode cX9_canPlan 61 = .ok (.bipush 100, 2) := by decide +kernel
theorem dX9_canPlan_63 : decode cX9_canPlan 63 = .ok (.idiv, 1) := by decide +kernel
theorem dX9_canPlan_64 : decode cX9_canPlan 64 = .ok (.aload_n 0, 1) := by decide +kernel
theorem dX9_canPlan_65 : decode cX9_canPlan 65 = .ok (.getfield 22, 3) := by decide +kernel
theorem dX9_canPlan_68 : decode cX9_canPlan 68 = .ok (.iload_n 2, 1) := by decide +kernel
theorem dX9_canPlan_69 : decode cX9_canPlan 69 = .ok (.iaload, 1) := by decide +kernel
theorem dX9_canPlan_70 : decode cX9_canPlan 70 = .ok (.bipush 100, 2) := by decide +kernel
theorem dX9_canPlan_72 : decode cX9_canPlan 72 = .ok (.irem, 1) := by decide +kernel
theorem dX9_canPlan_73 : decode cX9_canPlan 73 = .ok (.invokevirtual 153, 3) := by decide +kernel
theorem dX9_canPlan_76 : decode cX9_canPlan 76 = .ok (.iinc 2 1, 3) := by decide +kernel
theorem dX9_canPlan_79 : decode cX9_canPlan 79 = .ok (.goto (-58), 3) := by decide +kernel
theorem dX9_canPlan_82 : decode cX9_canPlan 82 = .ok (.aload_n 0, 1) := by decide +kernel
theorem dX9_canPlan_83 : decode cX9_canPlan 83 = .ok (.invokevirtual 169, 3) := by decide +kernel
theorem dX9_canPlan_86 : decode cX9_canPlan 86 = .ok (.iload_n 2, 1) := by decide +kernel
theorem dX9_canPlan_87 : decode cX9_canPlan 87 = .ok (.ireturn, 1) := by decide +kernel
theorem dX9_enter_0 : decode cX9_enter 0 = .ok (.aload_n 0, 1) := by decide +kernel
theorem dX9_enter_1 : decode cX9_enter 1 = .ok (.iload_n 1, 1) := by decide +kernel
theorem dX9_enter_2 : decode cX9_enter 2 = .ok (.invokevirtual 86, 3) := by decide +kernel
theorem dX9_enter_5 : decode cX9_enter 5 = .ok (.ifCond .eq 28, 3) := by decide +kernel
theorem dX9_enter_8 : decode cX9_enter 8 = .ok (.iload_n 2, 1) := by decide +kernel
theorem dX9_enter_9 : decode cX9_enter 9 = .ok (.iconst 0, 1) := by decide +kernel
theorem dX9_enter_10 : decode cX9_enter 10 = .ok (.bipush 50, 2) := by decide +kernel
theorem dX9_enter_12 : decode cX9_enter 12 = .ok (.invokestatic 25, 3) := by decide +kernel
theorem dX9_enter_15 : decode cX9_enter 15 = .ok (.ifCond .eq 18, 3) := by decide +kernel
theorem dX9_enter_18 : decode cX9_enter 18 = .ok (.iload_n 3, 1) := by decide +kernel
theorem dX9_enter_19 : decode cX9_enter 19 = .ok (.aload_n 0, 1) := by decide +kernel
theorem dX9_enter_20 : decode cX9_enter 20 = .ok (.getfield 7, 3) := by decide +kernel
theorem dX9_enter_23 : decode cX9_enter 23 = .ok (.iconst 3, 1) := by decide +kernel
theorem dX9_enter_24 : decode cX9_enter 24 = .ok (.iaload, 1) := by decide +kernel
theorem dX9_enter_25 : decode cX9_enter 25 = .ok (.ldc 172, 2) := by decide +kernel
theorem dX9_enter_27 : decode cX9_enter 27 = .ok (.invokestatic 25, 3) := by decide +kernel
theorem dX9_enter_30 : decode cX9_enter 30 = .ok (.ifCond .ne 5, 3) := by decide +kernel
theorem dX9_enter_33 : decode cX9_enter 33 = .ok (.iconst (-1), 1) := by decide +kernel
theorem dX9_enter_34 : decode cX9_enter 34 = .ok (.ireturn, 1) := by decide +kernel
theorem dX9_enter_35 : decode cX9_enter 35 = .ok (.aload_n 0, 1) := by decide +kernel
theorem dX9_enter_36 : decode cX9_enter 36 = .ok (.iload_n 1, 1) := by decide +kernel
theorem dX9_enter_37 : decode cX9_enter 37 = .ok (.iconst 3, 1) := by decide +kernel
theorem dX9_enter_38 : decode cX9_enter 38 = .ok (.invokevirtual 37, 3) := by decide +kernel
theorem dX9_enter_41 : decode cX9_enter 41 = .ok (.ifCond .eq 13, 3) := by decide +kernel
theorem dX9_enter_44 : decode cX9_enter 44 = .ok (.aload_n 0, 1) := by decide +kernel
theorem dX9_enter_45 : decode cX9_enter 45 = .ok (.iload_n 1, 1) := by decide +kernel
theorem dX9_enter_46 : decode cX9_enter 46 = .ok (.iconst 4, 1) := by decide +kernel
theorem dX9_enter_47 : decode cX9_enter 47 = .ok (.invokevirtual 37, 3) := by decide +kernel
theorem dX9_enter_50 : decode cX9_enter 50 = .ok (.iconst 1, 1) := by decide +kernel
theorem dX9_enter_51 : decode cX9_enter 51 = .ok (.if_icmp .ne 6, 3) := by decide +kernel
theorem dX9_enter_54 : decode cX9_enter 54 = .ok (.bipush (-2), 2) := by decide +kernel
theorem dX9_enter_56 : decode cX9_enter 56 = .ok (.ireturn, 1) := by decide +kernel
theorem dX9_enter_57 : decode cX9_enter 57 = .ok (.aload_n 0, 1) := by decide +kernel
theorem dX9_enter_58 : decode cX9_enter 58 = .ok (.invokevirtual 73, 3) := by decide +kernel
theorem dX9_enter_61 : decode cX9_enter 61 = .ok (.aload_n 0, 1) := by decide +kernel
theorem dX9_enter_62 : decode cX9_enter 62 = .ok (.iload_n 1, 1) := by decide +kernel
theorem dX9_enter_63 : decode cX9_enter 63 = .ok (.iconst 4, 1) := by decide +kernel
theorem dX9_enter_64 : decode cX9_enter 64 = .ok (.iconst 1, 1) := by decide +kernel
theorem dX9_enter_65 : decode cX9_enter 65 = .ok (.invokevirtual 76, 3) := by decide +kernel
theorem dX9_enter_68 : decode cX9_enter 68 = .ok (.aload_n 0, 1) := by decide +kernel
theorem dX9_enter_69 : decode cX9_enter 69 = .ok (.iload_n 1, 1) := by decide +kernel
theorem dX9_enter_70 : decode cX9_enter 70 = .ok (.iconst 5, 1) := by decide +kernel
theorem dX9_enter_71 : decode cX9_enter 71 = .ok (.iload_n 2, 1) := by decide +kernel
theorem dX9_enter_72 : decode cX9_enter 72 = .ok (.invokevirtual 76, 3) := by decide +kernel
theorem dX9_enter_75 : decode cX9_enter 75 = .ok (.aload_n 0, 1) := by decide +kernel
theorem dX9_enter_76 : decode cX9_enter 76 = .ok (.iload_n 1, 1) := by decide +kernel
theorem dX9_enter_77 : decode cX9_enter 77 = .ok (.bipush 6, 2) := by decide +kernel
theorem dX9_enter_79 : decode cX9_enter 79 = .ok (.iload_n 3, 1) := by decide +kernel
theorem dX9_enter_80 : decode cX9_enter 80 = .ok (.invokevirtual 76, 3) := by decide +kernel
theorem dX9_enter_83 : decode cX9_enter 83 = .ok (.aload_n 0, 1) := by decide +kernel
theorem dX9_enter_84 : decode cX9_enter 84 = .ok (.iconst 4, 1) := by decide +kernel
theorem dX9_enter_85 : decode cX9_enter 85 = .ok (.invokevirtual 40, 3) := by decide +kernel
theorem dX9_enter_88 : decode cX9_enter 88 = .ok (.invokestatic 110, 3) := by decide +kernel
theorem dX9_enter_91 : decode cX9_enter 91 = .ok (.ireturn, 1) := by decide +kernel
theorem dX9_leave_0 : decode cX9_leave 0 = .ok (.aload_n 0, 1) := by decide +kernel
theorem dX9_leave_1 : decode cX9_leave 1 = .ok (.iload_n 1, 1) := by decide +kernel
theorem dX9_leave_2 : decode cX9_leave 2 = .ok (.invokevirtual 86, 3) := by decide +kernel
theorem dX9_leave_5 : decode cX9_leave 5 = .ok (.ifCond .eq 13, 3) := by decide +kernel
theorem dX9_leave_8 : decode cX9_leave 8 = .ok (.iload_n 2, 1) := by decide +kernel
theorem dX9_leave_9 : decode cX9_leave 9 = .ok (.iconst 0, 1) := by decide +kernel
theorem dX9_leave_10 : decode cX9_leave 10 = .ok (.bipush 50, 2) := by decide +kernel
theorem dX9_leave_12 : decode cX9_leave 12 = .ok (.invokestatic 25, 3) := by decide +kernel
theorem dX9_leave_15 : decode cX9_leave 15 = .ok (.ifCond .ne 5, 3) := by decide +kernel
theorem dX9_leave_18 : decode cX9_leave 18 = .ok (.iconst (-1), 1) := by decide +kernel
theorem dX9_leave_19 : decode cX9_leave 19 = .ok (.ireturn, 1) := by decide +kernel
theorem dX9_leave_20 : decode cX9_leave 20 = .ok (.aload_n 0, 1) := by decide +kernel
theorem dX9_leave_21 : decode cX9_leave 21 = .ok (.iload_n 1, 1) := by decide +kernel
theorem dX9_leave_22 : decode cX9_leave 22 = .ok (.iconst 4, 1) := by decide +kernel
theorem dX9_leave_23 : decode cX9_leave 23 = .ok (.invokevirtual 37, 3) := by decide +kernel
theorem dX9_leave_26 : decode cX9_leave 26 = .ok (.ifCond .eq 13, 3) := by decide +kernel
theorem dX9_leave_29 : decode cX9_leave 29 = .ok (.aload_n 0, 1) := by decide +kernel
theorem dX9_leave_30 : decode cX9_leave 30 = .ok (.iload_n 1, 1) := by decide +kernel
theorem dX9_leave_31 : decode cX9_leave 31 = .ok (.iconst 5, 1) := by decide +kernel
theorem dX9_leave_32 : decode cX9_leave 32 = .ok (.invokevirtual 37, 3) := by decide +kernel
theorem dX9_leave_35 : decode cX9_leave 35 = .ok (.iload_n 2, 1) := by decide +kernel
theorem dX9_leave_36 : decode cX9_leave 36 = .ok (.if_icmp .ge 6, 3) := by decide +kernel
theorem dX9_leave_39 : decode cX9_leave 39 = .ok (.bipush (-2), 2) := by decide +kernel
theorem dX9_leave_41 : decode cX9_leave 41 = .ok (.ireturn, 1) := by decide +kernel
theorem dX9_leave_42 : decode cX9_leave 42 = .ok (.aload_n 0, 1) := by decide +kernel
theorem dX9_leave_43 : decode cX9_leave 43 = .ok (.invokevirtual 73, 3) := by decide +kernel
theorem dX9_leave_46 : decode cX9_leave 46 = .ok (.aload_n 0, 1) := by decide +kernel
theorem dX9_leave_47 : decode cX9_leave 47 = .ok (.iload_n 1, 1) := by decide +kernel
theorem dX9_leave_48 : decode cX9_leave 48 = .ok (.bipush 7, 2) := by decide +kernel
theorem dX9_leave_50 : decode cX9_leave 50 = .ok (.aload_n 0, 1) := by decide +kernel
theorem dX9_leave_51 : decode cX9_leave 51 = .ok (.iload_n 1, 1) := by decide +kernel
theorem dX9_leave_52 : decode cX9_leave 52 = .ok (.bipush 7, 2) := by decide +kernel
theorem dX9_leave_54 : decode cX9_leave 54 = .ok (.invokevirtual 37, 3) := by decide +kernel
theorem dX9_leave_57 : decode cX9_leave 57 = .ok (.aload_n 0, 1) := by decide +kernel
theorem dX9_leave_58 : decode cX9_leave 58 = .ok (.iload_n 1, 1) := by decide +kernel
theorem dX9_leave_59 : decode cX9_leave 59 = .ok (.iconst 5, 1) := by decide +kernel
theorem dX9_leave_60 : decode cX9_leave 60 = .ok (.invokevirtual 37, 3) := by decide +kernel
theorem dX9_leave_63 : decode cX9_leave 63 = .ok (.iadd, 1) := by decide +kernel
theorem dX9_leave_64 : decode cX9_leave 64 = .ok (.iload_n 2, 1) := by decide +kernel
theorem dX9_leave_65 : decode cX9_leave 65 = .ok (.isub, 1) := by decide +kernel
theorem dX9_leave_66 : decode cX9_leave 66 = .ok (.invokevirtual 76, 3) := by decide +kernel
theorem dX9_leave_69 : decode cX9_leave 69 = .ok (.aload_n 0, 1) := by decide +kernel
theorem dX9_leave_70 : decode cX9_leave 70 = .ok (.getfield 7, 3) := by decide +kernel
theorem dX9_leave_73 : decode cX9_leave 73 = .ok (.iconst 3, 1) := by decide +kernel
theorem dX9_leave_74 : decode cX9_leave 74 = .ok (.iaload, 1) := by decide +kernel
theorem dX9_leave_75 : decode cX9_leave 75 = .ok (.aload_n 0, 1) := by decide +kernel
theorem dX9_leave_76 : decode cX9_leave 76 = .ok (.iload_n 1, 1) := by decide +kernel
theorem dX9_leave_77 : decode cX9_leave 77 = .ok (.bipush 6, 2) := by decide +kernel
theorem dX9_leave_79 : decode cX9_leave 79 = .ok (.invokevirtual 37, 3) := by decide +kernel
theorem dX9_leave_82 : decode cX9_leave 82 = .ok (.if_icmp .le 20, 3) := by decide +kernel
theorem dX9_leave_85 : decode cX9_leave 85 = .ok (.aload_n 0, 1) := by decide +kernel
theorem dX9_leave_86 : decode cX9_leave 86 = .ok (.getfield 7, 3) := by decide +kernel
theorem dX9_leave_89 : decode cX9_leave 89 = .ok (.iconst 3, 1) := by decide +kernel
theorem dX9_leave_90 : decode cX9_leave 90 = .ok (.iaload, 1) := by decide +kernel
theorem dX9_leave_91 : decode cX9_leave 91 = .ok (.aload_n 0, 1) := by decide +kernel
theorem dX9_leave_92 : decode cX9_leave 92 = .ok (.iload_n 1, 1) := by decide +kernel
theorem dX9_leave_93 : decode cX9_leave 93 = .ok (.bipush 6, 2) := by decide +kernel
theorem dX9_leave_95 : decode cX9_leave 95 = .ok (.invokevirtual 37, 3) := by decide +kernel
theorem dX9_leave_98 : decode cX9_leave 98 = .ok (.isub, 1) := by decide +kernel
theorem dX9_leave_99 : decode cX9_leave 99 = .ok (.goto 4, 3) := by decide +kernel
theorem dX9_leave_102 : decode cX9_leave 102 = .ok (.iconst 0, 1) := by decide +kernel
theorem dX9_leave_103 : decode cX9_leave 103 = .ok (.istore_n 3, 1) := by decide +kernel
theorem dX9_leave_104 : decode cX9_leave 104 = .ok (.aload_n 0, 1) := by decide +kernel
theorem dX9_leave_105 : decode cX9_leave 105 = .ok (.getfield 7, 3) := by decide +kernel
theorem dX9_leave_108 : decode cX9_leave 108 = .ok (.bipush 6, 2) := by decide +kernel
theorem dX9_leave_110 : decode cX9_leave 110 = .ok (.dup2, 1) := by decide +kernel
theorem dX9_leave_111 : decode cX9_leave 111 = .ok (.iaload, 1) := by decide +kernel
theorem dX9_leave_112 : decode cX9_leave 112 = .ok (.iload_n 3, 1) := by decide +kernel
theorem dX9_leave_113 : decode cX9_leave 113 = .ok (.iadd, 1) := by decide +kernel
theorem dX9_leave_114 : decode cX9_leave 114 = .ok (.iastore, 1) := by decide +kernel
theorem dX9_leave_115 : decode cX9_leave 115 = .ok (.aload_n 0, 1) := by decide +kernel
theorem dX9_leave_116 : decode cX9_leave 116 = .ok (.iload_n 1, 1) := by decide +kernel
theorem dX9_leave_117 : decode cX9_leave 117 = .ok (.iconst 4, 1) := by decide +kernel
theorem dX9_leave_118 : decode cX9_leave 118 = .ok (.iconst 0, 1) := by decide +kernel
theorem dX9_leave_119 : decode cX9_leave 119 = .ok (.invokevirtual 76, 3) := by decide +kernel
theorem dX9_leave_122 : decode cX9_leave 122 = .ok (.aload_n 0, 1) := by decide +kernel
theorem dX9_leave_123 : decode cX9_leave 123 = .ok (.iload_n 1, 1) := by decide +kernel
theorem dX9_leave_124 : decode cX9_leave 124 = .ok (.iconst 5, 1) := by decide +kernel
theorem dX9_leave_125 : decode cX9_leave 125 = .ok (.iconst 0, 1) := by decide +kernel
theorem dX9_leave_126 : decode cX9_leave 126 = .ok (.invokevirtual 76, 3) := by decide +kernel
theorem dX9_leave_129 : decode cX9_leave 129 = .ok (.aload_n 0, 1) := by decide +kernel
theorem dX9_leave_130 : decode cX9_leave 130 = .ok (.iload_n 1, 1) := by decide +kernel
theorem dX9_leave_131 : decode cX9_leave 131 = .ok (.bipush 6, 2) := by decide +kernel
theorem dX9_leave_133 : decode cX9_leave 133 = .ok (.iconst 0, 1) := by decide +kernel
theorem dX9_leave_134 : decode cX9_leave 134 = .ok (.invokevirtual 76, 3) := by decide +kernel
theorem dX9_leave_137 : decode cX9_leave 137 = .ok (.iload_n 3, 1) := by decide +kernel
theorem dX9_leave_138 : decode cX9_leave 138 = .ok (.ireturn, 1) := by decide +kernel
theorem dX9_fetch_0 : decode cX9_fetch 0 = .ok (.aload_n 0, 1) := by decide +kernel
theorem dX9_fetch_1 : decode cX9_fetch 1 = .ok (.iload_n 1, 1) := by decide +kernel
theorem dX9_fetch_2 : decode cX9_fetch 2 = .ok (.invokevirtual 86, 3) := by decide +kernel
theorem dX9_fetch_5 : decode cX9_fetch 5 = .ok (.ifCond .ne 5, 3) := by decide +kernel
theorem dX9_fetch_8 : decode cX9_fetch 8 = .ok (.iconst (-1), 1) := by decide +kernel
theorem dX9_fetch_9 : decode cX9_fetch 9 = .ok (.ireturn, 1) := by decide +kernel
theorem dX9_fetch_10 : decode cX9_fetch 10 = .ok (.aload_n 0, 1) := by decide +kernel
theorem dX9_fetch_11 : decode cX9_fetch 11 = .ok (.iload_n 1, 1) := by decide +kernel
theorem dX9_fetch_12 : decode cX9_fetch 12 = .ok (.bipush 7, 2) := by decide +kernel
theorem dX9_fetch_14 : decode cX9_fetch 14 = .ok (.invokevirtual 37, 3) := by decide +kernel
theorem dX9_fetch_17 : decode cX9_fetch 17 = .ok (.istore_n 2, 1) := by decide +kernel
theorem dX9_fetch_18 : decode cX9_fetch 18 = .ok (.iload_n 2, 1) := by decide +kernel
theorem dX9_fetch_19 : decode cX9_fetch 19 = .ok (.ifCond .eq 21, 3) := by decide +kernel
theorem dX9_fetch_22 : decode cX9_fetch 22 = .ok (.aload_n 0, 1) := by decide +kernel
theorem dX9_fetch_23 : decode cX9_fetch 23 = .ok (.iload_n 1, 1) := by decide +kernel
theorem dX9_fetch_24 : decode cX9_fetch 24 = .ok (.invokevirtual 104, 3) := by decide +kernel
theorem dX9_fetch_27 : decode cX9_fetch 27 = .ok (.ifCond .ne 13, 3) := by decide +kernel
theorem dX9_fetch_30 : decode cX9_fetch 30 = .ok (.aload_n 0, 1) := by decide +kernel
theorem dX9_fetch_31 : decode cX9_fetch 31 = .ok (.iload_n 1, 1) := by decide +kernel
theorem dX9_fetch_32 : decode cX9_fetch 32 = .ok (.iconst 4, 1) := by decide +kernel
theorem dX9_fetch_33 : decode cX9_fetch 33 = .ok (.invokevirtual 37, 3) := by decide +kernel
theorem dX9_fetch_36 : decode cX9_fetch 36 = .ok (.iconst 1, 1) := by decide +kernel
theorem dX9_fetch_37 : decode cX9_fetch 37 = .ok (.if_icmp .ne 6, 3) := by decide +kernel
theorem dX9_fetch_40 : decode cX9_fetch 40 = .ok (.bipush (-2), 2) := by decide +kernel
theorem dX9_fetch_42 : decode cX9_fetch 42 = .ok (.ireturn, 1) := by decide +kernel
theorem dX9_fetch_43 : decode cX9_fetch 43 = .ok (.aload_n 0, 1) := by decide +kernel
theorem dX9_fetch_44 : decode cX9_fetch 44 = .ok (.invokevirtual 73, 3) := by decide +kernel
theorem dX9_fetch_47 : decode cX9_fetch 47 = .ok (.aload_n 0, 1) := by decide +kernel
theorem dX9_fetch_48 : decode cX9_fetch 48 = .ok (.iload_n 1, 1) := by decide +kernel
theorem dX9_fetch_49 : decode cX9_fetch 49 = .ok (.bipush 7, 2) := by decide +kernel
theorem dX9_fetch_51 : decode cX9_fetch 51 = .ok (.iconst 0, 1) := by decide +kernel
theorem dX9_fetch_52 : decode cX9_fetch 52 = .ok (.invokevirtual 76, 3) := by decide +kernel
theorem dX9_fetch_55 : decode cX9_fetch 55 = .ok (.iload_n 2, 1) := by decide +kernel
theorem dX9_fetch_56 : decode cX9_fetch 56 = .ok (.ireturn, 1) := by decide +kernel
theorem dX9_pass_0 : decode cX9_pass 0 = .ok (.iload_n 1, 1) := by decide +kernel
theorem dX9_pass_1 : decode cX9_pass 1 = .ok (.iconst 1, 1) := by decide +kernel
theorem dX9_pass_2 : decode cX9_pass 2 = .ok (.sipush 10000, 3) := by decide +kernel
theorem dX9_pass_5 : decode cX9_pass 5 = .ok (.invokestatic 25, 3) := by decide +kernel
theorem dX9_pass_8 : decode cX9_pass 8 = .ok (.ifCond .ne 5, 3) := by decide +kernel
theorem dX9_pass_11 : decode cX9_pass 11 = .ok (.iconst (-1), 1) := by decide +kernel
theorem dX9_pass_12 : decode cX9_pass 12 = .ok (.ireturn, 1) := by decide +kernel
theorem dX9_pass_13 : decode cX9_pass 13 = .ok (.aload_n 0, 1) := by decide +kernel
theorem dX9_pass_14 : decode cX9_pass 14 = .ok (.getfield 7, 3) := by decide +kernel
theorem dX9_pass_17 : decode cX9_pass 17 = .ok (.iconst 3, 1) := by decide +kernel
theorem dX9_pass_18 : decode cX9_pass 18 = .ok (.iaload, 1) := by decide +kernel
theorem dX9_pass_19 : decode cX9_pass 19 = .ok (.iload_n 1, 1) := by decide +kernel
theorem dX9_pass_20 : decode cX9_pass 20 = .ok (.iadd, 1) := by decide +kernel
theorem dX9_pass_21 : decode cX9_pass 21 = .ok (.ldc 172, 2) := by decide +kernel
theorem dX9_pass_23 : decode cX9_pass 23 = .ok (.if_icmp .le 6, 3) := by decide +kernel
theorem dX9_pass_26 : decode cX9_pass 26 = .ok (.bipush (-3), 2) := by decide +kernel
theorem dX9_pass_28 : decode cX9_pass 28 = .ok (.ireturn, 1) := by decide +kernel
theorem dX9_pass_29 : decode cX9_pass 29 = .ok (.aload_n 0, 1) := by decide +kernel
theorem dX9_pass_30 : decode cX9_pass 30 = .ok (.invokevirtual 73, 3) := by decide +kernel
theorem dX9_pass_33 : decode cX9_pass 33 = .ok (.aload_n 0, 1) := by decide +kernel
theorem dX9_pass_34 : decode cX9_pass 34 = .ok (.getfield 7, 3) := by decide +kernel
theorem dX9_pass_37 : decode cX9_pass 37 = .ok (.iconst 3, 1) := by decide +kernel
theorem dX9_pass_38 : decode cX9_pass 38 = .ok (.dup2, 1) := by decide +kernel
theorem dX9_pass_39 : decode cX9_pass 39 = .ok (.iaload, 1) := by decide +kernel
theorem dX9_pass_40 : decode cX9_pass 40 = .ok (.iload_n 1, 1) := by decide +kernel
theorem dX9_pass_41 : decode cX9_pass 41 = .ok (.iadd, 1) := by decide +kernel
theorem dX9_pass_42 : decode cX9_pass 42 = .ok (.iastore, 1) := by decide +kernel
theorem dX9_pass_43 : decode cX9_pass 43 = .ok (.aload_n 0, 1) := by decide +kernel
theorem dX9_pass_44 : decode cX9_pass 44 = .ok (.getfield 7, 3) := by decide +kernel
theorem dX9_pass_47 : decode cX9_pass 47 = .ok (.iconst 3, 1) := by decide +kernel
theorem dX9_pass_48 : decode cX9_pass 48 = .ok (.iaload, 1) := by decide +kernel
theorem dX9_pass_49 : decode cX9_pass 49 = .ok (.ireturn, 1) := by decide +kernel
theorem dX9_type_0 : decode cX9_type 0 = .ok (.iload_n 1, 1) := by decide +kernel
theorem dX9_type_1 : decode cX9_type 1 = .ok (.bipush 32, 2) := by decide +kernel
theorem dX9_type_3 : decode cX9_type 3 = .ok (.bipush 126, 2) := by decide +kernel
theorem dX9_type_5 : decode cX9_type 5 = .ok (.invokestatic 25, 3) := by decide +kernel
theorem dX9_type_8 : decode cX9_type 8 = .ok (.ifCond .ne 5, 3) := by decide +kernel
theorem dX9_type_11 : decode cX9_type 11 = .ok (.iconst (-1), 1) := by decide +kernel
theorem dX9_type_12 : decode cX9_type 12 = .ok (.ireturn, 1) := by decide +kernel
theorem dX9_type_13 : decode cX9_type 13 = .ok (.aload_n 0, 1) := by decide +kernel
theorem dX9_type_14 : decode cX9_type 14 = .ok (.getfield 132, 3) := by decide +kernel
theorem dX9_type_17 : decode cX9_type 17 = .ok (.bipush 60, 2) := by decide +kernel
theorem dX9_type_19 : decode cX9_type 19 = .ok (.if_icmp .ne 6, 3) := by decide +kernel
theorem dX9_type_22 : decode cX9_type 22 = .ok (.bipush (-3), 2) := by decide +kernel
theorem dX9_type_24 : decode cX9_type 24 = .ok (.ireturn, 1) := by decide +kernel
theorem dX9_type_25 : decode cX9_type 25 = .ok (.aload_n 0, 1) := by decide +kernel
theorem dX9_type_26 : decode cX9_type 26 = .ok (.getfield 19, 3) := by decide +kernel
theorem dX9_type_29 : decode cX9_type 29 = .ok (.aload_n 0, 1) := by decide +kernel
theorem dX9_type_30 : decode cX9_type 30 = .ok (.getfield 132, 3) := by decide +kernel
theorem dX9_type_33 : decode cX9_type 33 = .ok (.iload_n 1, 1) := by decide +kernel
theorem dX9_type_34 : decode cX9_type 34 = .ok (.iastore, 1) := by decide +kernel
theorem dX9_type_35 : decode cX9_type 35 = .ok (.aload_n 0, 1) := by decide +kernel
theorem dX9_type_36 : decode cX9_type 36 = .ok (.dup, 1) := by decide +kernel
theorem dX9_type_37 : decode cX9_type 37 = .ok (.getfield 132, 3) := by decide +kernel
theorem dX9_type_40 : decode cX9_type 40 = .ok (.iconst 1, 1) := by decide +kernel
theorem dX9_type_41 : decode cX9_type 41 = .ok (.iadd, 1) := by decide +kernel
theorem dX9_type_42 : decode cX9_type 42 = .ok (.putfield 132, 3) := by decide +kernel
theorem dX9_type_45 : decode cX9_type 45 = .ok (.aload_n 0, 1) := by decide +kernel
theorem dX9_type_46 : decode cX9_type 46 = .ok (.getfield 132, 3) := by decide +kernel
theorem dX9_type_49 : decode cX9_type 49 = .ok (.ireturn, 1) := by decide +kernel
theorem dX9_clearText_0 : decode cX9_clearText 0 = .ok (.aload_n 0, 1) := by decide +kernel
theorem dX9_clearText_1 : decode cX9_clearText 1 = .ok (.getfield 132, 3) := by decide +kernel
theorem dX9_clearText_4 : decode cX9_clearText 4 = .ok (.istore_n 1, 1) := by decide +kernel
theorem dX9_clearText_5 : decode cX9_clearText 5 = .ok (.aload_n 0, 1) := by decide +kernel
theorem dX9_clearText_6 : decode cX9_clearText 6 = .ok (.iconst 0, 1) := by decide +kernel
theorem dX9_clearText_7 : decode cX9_clearText 7 = .ok (.putfield 132, 3) := by decide +kernel
theorem dX9_clearText_10 : decode cX9_clearText 10 = .ok (.iload_n 1, 1) := by decide +kernel
theorem dX9_clearText_11 : decode cX9_clearText 11 = .ok (.ireturn, 1) := by decide +kernel
theorem dX9_kindOf_0 : decode cX9_kindOf 0 = .ok (.iload_n 0, 1) := by decide +kernel
theorem dX9_kindOf_1 : decode cX9_kindOf 1 = .ok (.tableswitch 106 98 116 #[91, 97, 106, 103, 99, 106, 106, 106, 106, 106, 106, 106, 101, 95, 106, 106, 106, 106, 93], 91) := by decide +kernel
theorem dX9_kindOf_92 : decode cX9_kindOf 92 = .ok (.iconst 0, 1) := by decide +kernel
theorem dX9_kindOf_93 : decode cX9_kindOf 93 = .ok (.ireturn, 1) := by decide +kernel
theorem dX9_kindOf_94 : decode cX9_kindOf 94 = .ok (.iconst 1, 1) := by decide +kernel
theorem dX9_kindOf_95 : decode cX9_kindOf 95 = .ok (.ireturn, 1) := by decide +kernel
theorem dX9_kindOf_96 : decode cX9_kindOf 96 = .ok (.iconst 2, 1) := by decide +kernel
theorem dX9_kindOf_97 : decode cX9_kindOf 97 = .ok (.ireturn, 1) := by decide +kernel
theorem dX9_kindOf_98 : decode cX9_kindOf 98 = .ok (.iconst 3, 1) := by decide +kernel
theorem dX9_kindOf_99 : decode cX9_kindOf 99 = .ok (.ireturn, 1) := by decide +kernel
theorem dX9_kindOf_100 : decode cX9_kindOf 100 = .ok (.iconst 4, 1) := by decide +kernel
theorem dX9_kindOf_101 : decode cX9_kindOf 101 = .ok (.ireturn, 1) := by decide +kernel
theorem dX9_kindOf_102 : decode cX9_kindOf 102 = .ok (.iconst 5, 1) := by decide +kernel
theorem dX9_kindOf_103 : decode cX9_kindOf 103 = .ok (.ireturn, 1) := by decide +kernel
theorem dX9_kindOf_104 : decode cX9_kindOf 104 = .ok (.bipush 6, 2) := by decide +kernel
theorem dX9_kindOf_106 : decode cX9_kindOf 106 = .ok (.ireturn, 1) := by decide +kernel
theorem dX9_kindOf_107 : decode cX9_kindOf 107 = .ok (.iload_n 0, 1) := by decide +kernel
theorem dX9_kindOf_108 : decode cX9_kindOf 108 = .ok (.bipush 117, 2) := by decide +kernel
theorem dX9_kindOf_110 : decode cX9_kindOf 110 = .ok (.if_icmp .ne 8, 3) := by decide +kernel
theorem dX9_kindOf_113 : decode cX9_kindOf 113 = .ok (.bipush 7, 2) := by decide +kernel
theorem dX9_kindOf_115 : decode cX9_kindOf 115 = .ok (.goto 4, 3) := by decide +kernel
theorem dX9_kindOf_118 : decode cX9_kindOf 118 = .ok (.iconst (-1), 1) := by decide +kernel
theorem dX9_kindOf_119 : decode cX9_kindOf 119 = .ok (.ireturn, 1) := by decide +kernel
theorem dX9_isFormed_0 : decode cX9_isFormed 0 = .ok (.aload_n 0, 1) := by decide +kernel
theorem dX9_isFormed_1 : decode cX9_isFormed 1 = .ok (.aload_n 0, 1) := by decide +kernel
theorem dX9_isFormed_2 : decode cX9_isFormed 2 = .ok (.getfield 19, 3) := by decide +kernel
theorem dX9_isFormed_5 : decode cX9_isFormed 5 = .ok (.aload_n 0, 1) := by decide +kernel
theorem dX9_isFormed_6 : decode cX9_isFormed 6 = .ok (.getfield 173, 3) := by decide +kernel
theorem dX9_isFormed_9 : decode cX9_isFormed 9 = .ok (.iaload, 1) := by decide +kernel
theorem dX9_isFormed_10 : decode cX9_isFormed 10 = .ok (.invokestatic 176, 3) := by decide +kernel
theorem dX9_isFormed_13 : decode cX9_isFormed 13 = .ok (.putfield 179, 3) := by decide +kernel
theorem dX9_isFormed_16 : decode cX9_isFormed 16 = .ok (.aload_n 0, 1) := by decide +kernel
theorem dX9_isFormed_17 : decode cX9_isFormed 17 = .ok (.dup, 1) := by decide +kernel
theorem dX9_isFormed_18 : decode cX9_isFormed 18 = .ok (.getfield 173, 3) := by decide +kernel
theorem dX9_isFormed_21 : decode cX9_isFormed 21 = .ok (.iconst 1, 1) := by decide +kernel
theorem dX9_isFormed_22 : decode cX9_isFormed 22 = .ok (.iadd, 1) := by decide +kernel
theorem dX9_isFormed_23 : decode cX9_isFormed 23 = .ok (.putfield 173, 3) := by decide +kernel
theorem dX9_isFormed_26 : decode cX9_isFormed 26 = .ok (.iconst 0, 1) := by decide +kernel
theorem dX9_isFormed_27 : decode cX9_isFormed 27 = .ok (.istore_n 1, 1) := by decide +kernel
theorem dX9_isFormed_28 : decode cX9_isFormed 28 = .ok (.aload_n 0, 1) := by decide +kernel
theorem dX9_isFormed_29 : decode cX9_isFormed 29 = .ok (.iconst 0, 1) := by decide +kernel
theorem dX9_isFormed_30 : decode cX9_isFormed 30 = .ok (.putfield 182, 3) := by decide +kernel
theorem dX9_isFormed_33 : decode cX9_isFormed 33 = .ok (.aload_n 0, 1) := by decide +kernel
theorem dX9_isFormed_34 : decode cX9_isFormed 34 = .ok (.getfield 179, 3) := by decide +kernel
theorem dX9_isFormed_37 : decode cX9_isFormed 37 = .ok (.ifCond .lt 78, 3) := by decide +kernel
theorem dX9_isFormed_40 : decode cX9_isFormed 40 = .ok (.iload_n 1, 1) := by decide +kernel
theorem dX9_isFormed_41 : decode cX9_isFormed 41 = .ok (.iconst 2, 1) := by decide +kernel
theorem dX9_isFormed_42 : decode cX9_isFormed 42 = .ok (.if_icmp .ge 73, 3) := by decide +kernel
theorem dX9_isFormed_45 : decode cX9_isFormed 45 = .ok (.aload_n 0, 1) := by decide +kernel
theorem dX9_isFormed_46 : decode cX9_isFormed 46 = .ok (.getfield 173, 3) := by decide +kernel
theorem dX9_isFormed_49 : decode cX9_isFormed 49 = .ok (.aload_n 0, 1) := by decide +kernel
theorem dX9_isFormed_50 : decode cX9_isFormed 50 = .ok (.getfield 132, 3) := by decide +kernel
theorem dX9_isFormed_53 : decode cX9_isFormed 53 = .ok (.if_icmp .ge 62, 3) := by decide +kernel
theorem dX9_isFormed_56 : decode cX9_isFormed 56 = .ok (.aload_n 0, 1) := by decide +kernel
theorem dX9_isFormed_57 : decode cX9_isFormed 57 = .ok (.getfield 19, 3) := by decide +kernel
theorem dX9_isFormed_60 : decode cX9_isFormed 60 = .ok (.aload_n 0, 1) := by decide +kernel
theorem dX9_isFormed_61 : decode cX9_isFormed 61 = .ok (.getfield 173, 3) := by decide +kernel
theorem dX9_isFormed_64 : decode cX9_isFormed 64 = .ok (.iaload, 1) := by decide +kernel
theorem dX9_isFormed_65 : decode cX9_isFormed 65 = .ok (.bipush 48, 2) := by decide +kernel
theorem dX9_isFormed_67 : decode cX9_isFormed 67 = .ok (.bipush 57, 2) := by decide +kernel
theorem dX9_isFormed_69 : decode cX9_isFormed 69 = .ok (.invokestatic 25, 3) := by decide +kernel
theorem dX9_isFormed_72 : decode cX9_isFormed 72 = .ok (.ifCond .eq 43, 3) := by decide +kernel
theorem dX9_isFormed_75 : decode cX9_isFormed 75 = .ok (.aload_n 0, 1) := by decide +kernel
theorem dX9_isFormed_76 : decode cX9_isFormed 76 = .ok (.bipush 10, 2) := by decide +kernel
theorem dX9_isFormed_78 : decode cX9_isFormed 78 = .ok (.aload_n 0, 1) := by decide +kernel
theorem dX9_isFormed_79 : decode cX9_isFormed 79 = .ok (.getfield 182, 3) := by decide +kernel
theorem dX9_isFormed_82 : decode cX9_isFormed 82 = .ok (.imul, 1) := by decide +kernel
theorem dX9_isFormed_83 : decode cX9_isFormed 83 = .ok (.aload_n 0, 1) := by decide +kernel
theorem dX9_isFormed_84 : decode cX9_isFormed 84 = .ok (.getfield 19, 3) := by decide +kernel
theorem dX9_isFormed_87 : decode cX9_isFormed 87 = .ok (.aload_n 0, 1) := by decide +kernel
theorem dX9_isFormed_88 : decode cX9_isFormed 88 = .ok (.getfield 173, 3) := by decide +kernel
theorem dX9_isFormed_91 : decode cX9_isFormed 91 = .ok (.iaload, 1) := by decide +kernel
theorem dX9_isFormed_92 : decode cX9_isFormed 92 = .ok (.iadd, 1) := by decide +kernel
theorem dX9_isFormed_93 : decode cX9_isFormed 93 = .ok (.bipush 48, 2) := by decide +kernel
theorem dX9_isFormed_95 : decode cX9_isFormed 95 = .ok (.isub, 1) := by decide +kernel
theorem dX9_isFormed_96 : decode cX9_isFormed 96 = .ok (.putfield 182, 3) := by decide +kernel
theorem dX9_isFormed_99 : decode cX9_isFormed 99 = .ok (.iinc 1 1, 3) := by decide +kernel
theorem dX9_isFormed_102 : decode cX9_isFormed 102 = .ok (.aload_n 0, 1) := by decide +kernel
theorem dX9_isFormed_103 : decode cX9_isFormed 103 = .ok (.dup, 1) := by decide +kernel
theorem dX9_isFormed_104 : decode cX9_isFormed 104 = .ok (.getfield 173, 3) := by decide +kernel
theorem dX9_isFormed_107 : decode cX9_isFormed 107 = .ok (.iconst 1, 1) := by decide +kernel
theorem dX9_isFormed_108 : decode cX9_isFormed 108 = .ok (.iadd, 1) := by decide +kernel
theorem dX9_isFormed_109 : decode cX9_isFormed 109 = .ok (.putfield 173, 3) := by decide +kernel
theorem dX9_isFormed_112 : decode cX9_isFormed 112 = .ok (.goto (-79), 3) := by decide +kernel
theorem dX9_isFormed_115 : decode cX9_isFormed 115 = .ok (.iload_n 1, 1) := by decide +kernel
theorem dX9_isFormed_116 : decode cX9_isFormed 116 = .ok (.ifCond .le 32, 3) := by decide +kernel
theorem dX9_isFormed_119 : decode cX9_isFormed 119 = .ok (.aload_n 0, 1) := by decide +kernel
theorem dX9_isFormed_120 : decode cX9_isFormed 120 = .ok (.getfield 173, 3) := by decide +kernel
theorem dX9_isFormed_123 : decode cX9_isFormed 123 = .ok (.aload_n 0, 1) := by decide +kernel
theorem dX9_isFormed_124 : decode cX9_isFormed 124 = .ok (.getfield 132, 3) := by decide +kernel
theorem dX9_isFormed_127 : decode cX9_isFormed 127 = .ok (.if_icmp .ge 21, 3) := by decide +kernel
theorem dX9_isFormed_130 : decode cX9_isFormed 130 = .ok (.aload_n 0, 1) := by decide +kernel
theorem dX9_isFormed_131 : decode cX9_isFormed 131 = .ok (.getfield 19, 3) := by decide +kernel
theorem dX9_isFormed_134 : decode cX9_isFormed 134 = .ok (.aload_n 0, 1) := by decide +kernel
theorem dX9_isFormed_135 : decode cX9_isFormed 135 = .ok (.getfield 173, 3) := by decide +kernel
theorem dX9_isFormed_138 : decode cX9_isFormed 138 = .ok (.iaload, 1) := by decide +kernel
theorem dX9_isFormed_139 : decode cX9_isFormed 139 = .ok (.bipush 59, 2) := by decide +kernel
theorem dX9_isFormed_141 : decode cX9_isFormed 141 = .ok (.if_icmp .ne 7, 3) := by decide +kernel
theorem dX9_isFormed_144 : decode cX9_isFormed 144 = .ok (.iconst 1, 1) := by decide +kernel
theorem dX9_isFormed_145 : decode cX9_isFormed 145 = .ok (.goto 4, 3) := by decide +kernel
theorem dX9_isFormed_148 : decode cX9_isFormed 148 = .ok (.iconst 0, 1) := by decide +kernel
theorem dX9_isFormed_149 : decode cX9_isFormed 149 = .ok (.istore_n 2, 1) := by decide +kernel
theorem dX9_isFormed_150 : decode cX9_isFormed 150 = .ok (.aload_n 0, 1) := by decide +kernel
theorem dX9_isFormed_151 : decode cX9_isFormed 151 = .ok (.dup, 1) := by decide +kernel
theorem dX9_isFormed_152 : decode cX9_isFormed 152 = .ok (.getfield 173, 3) := by decide +kernel
theorem dX9_isFormed_155 : decode cX9_isFormed 155 = .ok (.iconst 1, 1) := by decide +kernel
theorem dX9_isFormed_156 : decode cX9_isFormed 156 = .ok (.iadd, 1) := by decide +kernel
theorem dX9_isFormed_157 : decode cX9_isFormed 157 = .ok (.putfield 173, 3) := by decide +kernel
theorem dX9_isFormed_160 : decode cX9_isFormed 160 = .ok (.iload_n 2, 1) := by decide +kernel
theorem dX9_isFormed_161 : decode cX9_isFormed 161 = .ok (.ireturn, 1) := by decide +kernel
theorem dX9_reasonOfText_0 : decode cX9_reasonOfText 0 = .ok (.aload_n 0, 1) := by decide +kernel
theorem dX9_reasonOfText_1 : decode cX9_reasonOfText 1 = .ok (.iconst 0, 1) := by decide +kernel
theorem dX9_reasonOfText_2 : decode cX9_reasonOfText 2 = .ok (.putfield 173, 3) := by decide +kernel
theorem dX9_reasonOfText_5 : decode cX9_reasonOfText 5 = .ok (.aload_n 0, 1) := by decide +kernel
theorem dX9_reasonOfText_6 : decode cX9_reasonOfText 6 = .ok (.iconst 0, 1) := by decide +kernel
theorem dX9_reasonOfText_7 : decode cX9_reasonOfText 7 = .ok (.putfield 185, 3) := by decide +kernel
theorem dX9_reasonOfText_10 : decode cX9_reasonOfText 10 = .ok (.iconst 0, 1) := by decide +kernel
theorem dX9_reasonOfText_11 : decode cX9_reasonOfText 11 = .ok (.istore_n 1, 1) := by decide +kernel
theorem dX9_reasonOfText_12 : decode cX9_reasonOfText 12 = .ok (.aload_n 0, 1) := by decide +kernel
theorem dX9_reasonOfText_13 : decode cX9_reasonOfText 13 = .ok (.getfield 173, 3) := by decide +kernel
theorem dX9_reasonOfText_16 : decode cX9_reasonOfText 16 = .ok (.aload_n 0, 1) := by decide +kernel
theorem dX9_reasonOfText_17 : decode cX9_reasonOfText 17 = .ok (.getfield 132, 3) := by decide +kernel
theorem dX9_reasonOfText_20 : decode cX9_reasonOfText 20 = .ok (.if_icmp .ge 87, 3) := by decide +kernel
theorem dX9_reasonOfText_23 : decode cX9_reasonOfText 23 = .ok (.iload_n 1, 1) := by decide +kernel
theorem dX9_reasonOfText_24 : decode cX9_reasonOfText 24 = .ok (.ifCond .ne 83, 3) := by decide +kernel
theorem dX9_reasonOfText_27 : decode cX9_reasonOfText 27 = .ok (.aload_n 0, 1) := by decide +kernel
theorem dX9_reasonOfText_28 : decode cX9_reasonOfText 28 = .ok (.aload_n 0, 1) := by decide +kernel
theorem dX9_reasonOfText_29 : decode cX9_reasonOfText 29 = .ok (.getfield 173, 3) := by decide +kernel
theorem dX9_reasonOfText_32 : decode cX9_reasonOfText 32 = .ok (.putfield 188, 3) := by decide +kernel
theorem dX9_reasonOfText_35 : decode cX9_reasonOfText 35 = .ok (.aload_n 0, 1) := by decide +kernel
theorem dX9_reasonOfText_36 : decode cX9_reasonOfText 36 = .ok (.invokevirtual 191, 3) := by decide +kernel
theorem dX9_reasonOfText_39 : decode cX9_reasonOfText 39 = .ok (.ifCond .ne 7, 3) := by decide +kernel
theorem dX9_reasonOfText_42 : decode cX9_reasonOfText 42 = .ok (.iconst 1, 1) := by decide +kernel
theorem dX9_reasonOfText_43 : decode cX9_reasonOfText 43 = .ok (.goto 34, 3) := by decide +kernel
theorem dX9_reasonOfText_46 : decode cX9_reasonOfText 46 = .ok (.aload_n 0, 1) := by decide +kernel
theorem dX9_reasonOfText_47 : decode cX9_reasonOfText 47 = .ok (.aload_n 0, 1) := by decide +kernel
theorem dX9_reasonOfText_48 : decode cX9_reasonOfText 48 = .ok (.getfield 179, 3) := by decide +kernel
theorem dX9_reasonOfText_51 : decode cX9_reasonOfText 51 = .ok (.aload_n 0, 1) := by decide +kernel
theorem dX9_reasonOfText_52 : decode cX9_reasonOfText 52 = .ok (.getfield 182, 3) := by decide +kernel
theorem dX9_reasonOfText_55 : decode cX9_reasonOfText 55 = .ok (.invokevirtual 144, 3) := by decide +kernel
theorem dX9_reasonOfText_58 : decode cX9_reasonOfText 58 = .ok (.ifCond .ne 7, 3) := by decide +kernel
theorem dX9_reasonOfText_61 : decode cX9_reasonOfText 61 = .ok (.iconst 2, 1) := by decide +kernel
theorem dX9_reasonOfText_62 : decode cX9_reasonOfText 62 = .ok (.goto 15, 3) := by decide +kernel
theorem dX9_reasonOfText_65 : decode cX9_reasonOfText 65 = .ok (.aload_n 0, 1) := by decide +kernel
theorem dX9_reasonOfText_66 : decode cX9_reasonOfText 66 = .ok (.aload_n 0, 1) := by decide +kernel
theorem dX9_reasonOfText_67 : decode cX9_reasonOfText 67 = .ok (.getfield 179, 3) := by decide +kernel
theorem dX9_reasonOfText_70 : decode cX9_reasonOfText 70 = .ok (.aload_n 0, 1) := by decide +kernel
theorem dX9_reasonOfText_71 : decode cX9_reasonOfText 71 = .ok (.getfield 182, 3) := by decide +kernel
theorem dX9_reasonOfText_74 : decode cX9_reasonOfText 74 = .ok (.invokevirtual 147, 3) := by decide +kernel
theorem dX9_reasonOfText_77 : decode cX9_reasonOfText 77 = .ok (.istore_n 1, 1) := by decide +kernel
theorem dX9_reasonOfText_78 : decode cX9_reasonOfText 78 = .ok (.iload_n 1, 1) := by decide +kernel
theorem dX9_reasonOfText_79 : decode cX9_reasonOfText 79 = .ok (.ifCond .ne (-67), 3) := by decide +kernel
theorem dX9_reasonOfText_82 : decode cX9_reasonOfText 82 = .ok (.aload_n 0, 1) := by decide +kernel
theorem dX9_reasonOfText_83 : decode cX9_reasonOfText 83 = .ok (.aload_n 0, 1) := by decide +kernel
theorem dX9_reasonOfText_84 : decode cX9_reasonOfText 84 = .ok (.getfield 179, 3) := by decide +kernel
theorem dX9_reasonOfText_87 : decode cX9_reasonOfText 87 = .ok (.aload_n 0, 1) := by decide +kernel
theorem dX9_reasonOfText_88 : decode cX9_reasonOfText 88 = .ok (.getfield 182, 3) := by decide +kernel
theorem dX9_reasonOfText_91 : decode cX9_reasonOfText 91 = .ok (.invokevirtual 153, 3) := by decide +kernel
theorem dX9_reasonOfText_94 : decode cX9_reasonOfText 94 = .ok (.aload_n 0, 1) := by decide +kernel
theorem dX9_reasonOfText_95 : decode cX9_reasonOfText 95 = .ok (.dup, 1) := by decide +kernel
theorem dX9_reasonOfText_96 : decode cX9_reasonOfText 96 = .ok (.getfield 185, 3) := by decide +kernel
theorem dX9_reasonOfText_99 : decode cX9_reasonOfText 99 = .ok (.iconst 1, 1) := by decide +kernel
theorem dX9_reasonOfText_100 : decode cX9_reasonOfText 100 = .ok (.iadd, 1) := by decide +kernel
theorem dX9_reasonOfText_101 : decode cX9_reasonOfText 101 = .ok (.putfield 185, 3) := by decide +kernel
theorem dX9_reasonOfText_104 : decode cX9_reasonOfText 104 = .ok (.goto (-92), 3) := by decide +kernel
theorem dX9_reasonOfText_107 : decode cX9_reasonOfText 107 = .ok (.iload_n 1, 1) := by decide +kernel
theorem dX9_reasonOfText_108 : decode cX9_reasonOfText 108 = .ok (.ireturn, 1) := by decide +kernel
theorem dX9_fault_0 : decode cX9_fault 0 = .ok (.iload_n 1, 1) := by decide +kernel
theorem dX9_fault_1 : decode cX9_fault 1 = .ok (.iconst 0, 1) := by decide +kernel
theorem dX9_fault_2 : decode cX9_fault 2 = .ok (.iconst 1, 1) := by decide +kernel
theorem dX9_fault_3 : decode cX9_fault 3 = .ok (.invokestatic 25, 3) := by decide +kernel
theorem dX9_fault_6 : decode cX9_fault 6 = .ok (.ifCond .ne 5, 3) := by decide +kernel
theorem dX9_fault_9 : decode cX9_fault 9 = .ok (.iconst (-1), 1) := by decide +kernel
theorem dX9_fault_10 : decode cX9_fault 10 = .ok (.ireturn, 1) := by decide +kernel
theorem dX9_fault_11 : decode cX9_fault 11 = .ok (.aload_n 0, 1) := by decide +kernel
theorem dX9_fault_12 : decode cX9_fault 12 = .ok (.invokevirtual 166, 3) := by decide +kernel
theorem dX9_fault_15 : decode cX9_fault 15 = .ok (.aload_n 0, 1) := by decide +kernel
theorem dX9_fault_16 : decode cX9_fault 16 = .ok (.invokevirtual 195, 3) := by decide +kernel
theorem dX9_fault_19 : decode cX9_fault 19 = .ok (.istore_n 2, 1) := by decide +kernel
theorem dX9_fault_20 : decode cX9_fault 20 = .ok (.aload_n 0, 1) := by decide +kernel
theorem dX9_fault_21 : decode cX9_fault 21 = .ok (.invokevirtual 169, 3) := by decide +kernel
theorem dX9_fault_24 : decode cX9_fault 24 = .ok (.iload_n 2, 1) := by decide +kernel
theorem dX9_fault_25 : decode cX9_fault 25 = .ok (.ifCond .ne 8, 3) := by decide +kernel
theorem dX9_fault_28 : decode cX9_fault 28 = .ok (.bipush (-4), 2) := by decide +kernel
theorem dX9_fault_30 : decode cX9_fault 30 = .ok (.goto 15, 3) := by decide +kernel
theorem dX9_fault_33 : decode cX9_fault 33 = .ok (.iload_n 1, 1) := by decide +kernel
theorem dX9_fault_34 : decode cX9_fault 34 = .ok (.ifCond .ne 10, 3) := by decide +kernel
theorem dX9_fault_37 : decode cX9_fault 37 = .ok (.aload_n 0, 1) := by decide +kernel
theorem dX9_fault_38 : decode cX9_fault 38 = .ok (.getfield 188, 3) := by decide +kernel
theorem dX9_fault_41 : decode cX9_fault 41 = .ok (.goto 4, 3) := by decide +kernel
theorem dX9_fault_44 : decode cX9_fault 44 = .ok (.iload_n 2, 1) := by decide +kernel
theorem dX9_fault_45 : decode cX9_fault 45 = .ok (.ireturn, 1) := by decide +kernel
theorem dX9_play_0 : decode cX9_play 0 = .ok (.aload_n 0, 1) := by decide +kernel
theorem dX9_play_1 : decode cX9_play 1 = .ok (.invokevirtual 166, 3) := by decide +kernel
theorem dX9_play_4 : decode cX9_play 4 = .ok (.aload_n 0, 1) := by decide +kernel
theorem dX9_play_5 : decode cX9_play 5 = .ok (.invokevirtual 195, 3) := by decide +kernel
theorem dX9_play_8 : decode cX9_play 8 = .ok (.istore_n 1, 1) := by decide +kernel
theorem dX9_play_9 : decode cX9_play 9 = .ok (.aload_n 0, 1) := by decide +kernel
theorem dX9_play_10 : decode cX9_play 10 = .ok (.invokevirtual 169, 3) := by decide +kernel
theorem dX9_play_13 : decode cX9_play 13 = .ok (.iload_n 1, 1) := by decide +kernel
theorem dX9_play_14 : decode cX9_play 14 = .ok (.ifCond .eq 6, 3) := by decide +kernel
theorem dX9_play_17 : decode cX9_play 17 = .ok (.bipush (-2), 2) := by decide +kernel
theorem dX9_play_19 : decode cX9_play 19 = .ok (.ireturn, 1) := by decide +kernel
theorem dX9_play_20 : decode cX9_play 20 = .ok (.aload_n 0, 1) := by decide +kernel
theorem dX9_play_21 : decode cX9_play 21 = .ok (.invokevirtual 73, 3) := by decide +kernel
theorem dX9_play_24 : decode cX9_play 24 = .ok (.aload_n 0, 1) := by decide +kernel
theorem dX9_play_25 : decode cX9_play 25 = .ok (.invokevirtual 195, 3) := by decide +kernel
theorem dX9_play_28 : decode cX9_play 28 = .ok (.istore_n 2, 1) := by decide +kernel
theorem dX9_play_29 : decode cX9_play 29 = .ok (.aload_n 0, 1) := by decide +kernel
theorem dX9_play_30 : decode cX9_play 30 = .ok (.getfield 185, 3) := by decide +kernel
theorem dX9_play_33 : decode cX9_play 33 = .ok (.ireturn, 1) := by decide +kernel
