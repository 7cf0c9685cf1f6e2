theorem dX4_begin_0 : decode cX4_begin 0 = .ok (.aload_n 0, 1) := by decide +kernel
theorem dX4_begin_1 : decode cX4_begin 1 = .ok (.getfield 12, 3) := by decide +kernel
theorem dX4_begin_4 : decode cX4_begin 4 = .ok (.aload_n 1, 1) := by decide +kernel
theorem dX4_begin_5 : decode cX4_begin 5 = .ok (.invokevirtual 74, 3) := by decide +kernel
theorem dX4_begin_8 : decode cX4_begin 8 = .ok (.aload_n 0, 1) := by decide +kernel
theorem dX4_begin_9 : decode cX4_begin 9 = .ok (.iconst 0, 1) := by decide +kernel
theorem dX4_begin_10 : decode cX4_begin 10 = .ok (.putfield 46, 3) := by decide +kernel
theorem dX4_begin_13 : decode cX4_begin 13 = .ok (.aload_n 0, 1) := by decide +kernel
theorem dX4_begin_14 : decode cX4_begin 14 = .ok (.iconst 0, 1) := by decide +kernel
theorem dX4_begin_15 : decode cX4_begin 15 = .ok (.putfield 49, 3) := by decide +kernel
theorem dX4_begin_18 : decode cX4_begin 18 = .ok (.aload_n 0, 1) := by decide +kernel
theorem dX4_begin_19 : decode cX4_begin 19 = .ok (.iconst 0, 1) := by decide +kernel
theorem dX4_begin_20 : decode cX4_begin 20 = .ok (.putfield 39, 3) := by decide +kernel
theorem dX4_begin_23 : decode cX4_begin 23 = .ok (.return_, 1) := by decide +kernel
theorem dX4_tryPlan_0 : decode cX4_tryPlan 0 = .ok (.aload_n 0, 1) := by decide +kernel
theorem dX4_tryPlan_1 : decode cX4_tryPlan 1 = .ok (.aload_n 1, 1) := by decide +kernel
theorem dX4_tryPlan_2 : decode cX4_tryPlan 2 = .ok (.invokevirtual 18, 3) := by decide +kernel
theorem dX4_tryPlan_5 : decode cX4_tryPlan 5 = .ok (.iconst 0, 1) := by decide +kernel
theorem dX4_tryPlan_6 : decode cX4_tryPlan 6 = .ok (.istore_n 3, 1) := by decide +kernel
theorem dX4_tryPlan_7 : decode cX4_tryPlan 7 = .ok (.iload_n 3, 1) := by decide +kernel
theorem dX4_tryPlan_8 : decode cX4_tryPlan 8 = .ok (.aload_n 2, 1) := by decide +kernel
theorem dX4_tryPlan_9 : decode cX4_tryPlan 9 = .ok (.getfield 22, 3) := by decide +kernel
theorem dX4_tryPlan_12 : decode cX4_tryPlan 12 = .ok (.if_icmp .ge 69, 3) := by decide +kernel
theorem dX4_tryPlan_15 : decode cX4_tryPlan 15 = .ok (.aload_n 0, 1) := by decide +kernel
theorem dX4_tryPlan_16 : decode cX4_tryPlan 16 = .ok (.aload_n 0, 1) := by decide +kernel
theorem dX4_tryPlan_17 : decode cX4_tryPlan 17 = .ok (.getfield 12, 3) := by decide +kernel
theorem dX4_tryPlan_20 : decode cX4_tryPlan 20 = .ok (.aload_n 2, 1) := by decide +kernel
theorem dX4_tryPlan_21 : decode cX4_tryPlan 21 = .ok (.getfield 28, 3) := by decide +kernel
theorem dX4_tryPlan_24 : decode cX4_tryPlan 24 = .ok (.iload_n 3, 1) := by decide +kernel
theorem dX4_tryPlan_25 : decode cX4_tryPlan 25 = .ok (.iaload, 1) := by decide +kernel
theorem dX4_tryPlan_26 : decode cX4_tryPlan 26 = .ok (.aload_n 2, 1) := by decide +kernel
theorem dX4_tryPlan_27 : decode cX4_tryPlan 27 = .ok (.getfield 32, 3) := by decide +kernel
theorem dX4_tryPlan_30 : decode cX4_tryPlan 30 = .ok (.iload_n 3, 1) := by decide +kernel
theorem dX4_tryPlan_31 : decode cX4_tryPlan 31 = .ok (.iaload, 1) := by decide +kernel
theorem dX4_tryPlan_32 : decode cX4_tryPlan 32 = .ok (.invokevirtual 35, 3) := by decide +kernel
theorem dX4_tryPlan_35 : decode cX4_tryPlan 35 = .ok (.putfield 39, 3) := by decide +kernel
theorem dX4_tryPlan_38 : decode cX4_tryPlan 38 = .ok (.aload_n 0, 1) := by decide +kernel
theorem dX4_tryPlan_39 : decode cX4_tryPlan 39 = .ok (.getfield 39, 3) := by decide +kernel
theorem dX4_tryPlan_42 : decode cX4_tryPlan 42 = .ok (.ifCond .eq 4, 3) := by decide +kernel
theorem dX4_tryPlan_45 : decode cX4_tryPlan 45 = .ok (.return_, 1) := by decide +kernel
theorem dX4_tryPlan_46 : decode cX4_tryPlan 46 = .ok (.aload_n 0, 1) := by decide +kernel
theorem dX4_tryPlan_47 : decode cX4_tryPlan 47 = .ok (.getfield 12, 3) := by decide +kernel
theorem dX4_tryPlan_50 : decode cX4_tryPlan 50 = .ok (.aload_n 2, 1) := by decide +kernel
theorem dX4_tryPlan_51 : decode cX4_tryPlan 51 = .ok (.getfield 28, 3) := by decide +kernel
theorem dX4_tryPlan_54 : decode cX4_tryPlan 54 = .ok (.iload_n 3, 1) := by decide +kernel
theorem dX4_tryPlan_55 : decode cX4_tryPlan 55 = .ok (.iaload, 1) := by decide +kernel
theorem dX4_tryPlan_56 : decode cX4_tryPlan 56 = .ok (.aload_n 2, 1) := by decide +kernel
theorem dX4_tryPlan_57 : decode cX4_tryPlan 57 = .ok (.getfield 32, 3) := by decide +kernel
theorem dX4_tryPlan_60 : decode cX4_tryPlan 60 = .ok (.iload_n 3, 1) := by decide +kernel
theorem dX4_tryPlan_61 : decode cX4_tryPlan 61 = .ok (.iaload, 1) := by decide +kernel
theorem dX4_tryPlan_62 : decode cX4_tryPlan 62 = .ok (.invokevirtual 42, 3) := by decide +kernel
theorem dX4_tryPlan_65 : decode cX4_tryPlan 65 = .ok (.aload_n 0, 1) := by decide +kernel
theorem dX4_tryPlan_66 : decode cX4_tryPlan 66 = .ok (.dup, 1) := by decide +kernel
theorem dX4_tryPlan_67 : decode cX4_tryPlan 67 = .ok (.getfield 46, 3) := by decide +kernel
theorem dX4_tryPlan_70 : decode cX4_tryPlan 70 = .ok (.iconst 1, 1) := by decide +kernel
theorem dX4_tryPlan_71 : decode cX4_tryPlan 71 = .ok (.iadd, 1) := by decide +kernel
theorem dX4_tryPlan_72 : decode cX4_tryPlan 72 = .ok (.putfield 46, 3) := by decide +kernel
theorem dX4_tryPlan_75 : decode cX4_tryPlan 75 = .ok (.iinc 3 1, 3) := by decide +kernel
theorem dX4_tryPlan_78 : decode cX4_tryPlan 78 = .ok (.goto (-71), 3) := by decide +kernel
theorem dX4_tryPlan_81 : decode cX4_tryPlan 81 = .ok (.return_, 1) := by decide +kernel
theorem dX4_tryText_0 : decode cX4_tryText 0 = .ok (.aload_n 0, 1) := by decide +kernel
theorem dX4_tryText_1 : decode cX4_tryText 1 = .ok (.aload_n 1, 1) := by decide +kernel
theorem dX4_tryText_2 : decode cX4_tryText 2 = .ok (.invokevirtual 18, 3) := by decide +kernel
theorem dX4_tryText_5 : decode cX4_tryText 5 = .ok (.iconst 0, 1) := by decide +kernel
theorem dX4_tryText_6 : decode cX4_tryText 6 = .ok (.istore_n 3, 1) := by decide +kernel
theorem dX4_tryText_7 : decode cX4_tryText 7 = .ok (.iload_n 3, 1) := by decide +kernel
theorem dX4_tryText_8 : decode cX4_tryText 8 = .ok (.bipush 60, 2) := by decide +kernel
theorem dX4_tryText_10 : decode cX4_tryText 10 = .ok (.if_icmp .ge 125, 3) := by decide +kernel
theorem dX4_tryText_13 : decode cX4_tryText 13 = .ok (.aload_n 0, 1) := by decide +kernel
theorem dX4_tryText_14 : decode cX4_tryText 14 = .ok (.getfield 49, 3) := by decide +kernel
theorem dX4_tryText_17 : decode cX4_tryText 17 = .ok (.aload_n 2, 1) := by decide +kernel
theorem dX4_tryText_18 : decode cX4_tryText 18 = .ok (.getfield 52, 3) := by decide +kernel
theorem dX4_tryText_21 : decode cX4_tryText 21 = .ok (.if_icmp .ge 114, 3) := by decide +kernel
theorem dX4_tryText_24 : decode cX4_tryText 24 = .ok (.aload_n 2, 1) := by decide +kernel
theorem dX4_tryText_25 : decode cX4_tryText 25 = .ok (.aload_n 0, 1) := by decide +kernel
theorem dX4_tryText_26 : decode cX4_tryText 26 = .ok (.getfield 49, 3) := by decide +kernel
theorem dX4_tryText_29 : decode cX4_tryText 29 = .ok (.invokevirtual 57, 3) := by decide +kernel
theorem dX4_tryText_32 : decode cX4_tryText 32 = .ok (.ifCond .ne 11, 3) := by decide +kernel
theorem dX4_tryText_35 : decode cX4_tryText 35 = .ok (.aload_n 0, 1) := by decide +kernel
theorem dX4_tryText_36 : decode cX4_tryText 36 = .ok (.iconst 1, 1) := by decide +kernel
theorem dX4_tryText_37 : decode cX4_tryText 37 = .ok (.putfield 39, 3) := by decide +kernel
theorem dX4_tryText_40 : decode cX4_tryText 40 = .ok (.goto 48, 3) := by decide +kernel
theorem dX4_tryText_43 : decode cX4_tryText 43 = .ok (.aload_n 0, 1) := by decide +kernel
theorem dX4_tryText_44 : decode cX4_tryText 44 = .ok (.getfield 12, 3) := by decide +kernel
theorem dX4_tryText_47 : decode cX4_tryText 47 = .ok (.aload_n 2, 1) := by decide +kernel
theorem dX4_tryText_48 : decode cX4_tryText 48 = .ok (.getfield 61, 3) := by decide +kernel
theorem dX4_tryText_51 : decode cX4_tryText 51 = .ok (.aload_n 2, 1) := by decide +kernel
theorem dX4_tryText_52 : decode cX4_tryText 52 = .ok (.getfield 64, 3) := by decide +kernel
theorem dX4_tryText_55 : decode cX4_tryText 55 = .ok (.invokevirtual 67, 3) := by decide +kernel
theorem dX4_tryText_58 : decode cX4_tryText 58 = .ok (.ifCond .ne 11, 3) := by decide +kernel
theorem dX4_tryText_61 : decode cX4_tryText 61 = .ok (.aload_n 0, 1) := by decide +kernel
theorem dX4_tryText_62 : decode cX4_tryText 62 = .ok (.iconst 2, 1) := by decide +kernel
theorem dX4_tryText_63 : decode cX4_tryText 63 = .ok (.putfield 39, 3) := by decide +kernel
theorem dX4_tryText_66 : decode cX4_tryText 66 = .ok (.goto 22, 3) := by decide +kernel
theorem dX4_tryText_69 : decode cX4_tryText 69 = .ok (.aload_n 0, 1) := by decide +kernel
theorem dX4_tryText_70 : decode cX4_tryText 70 = .ok (.aload_n 0, 1) := by decide +kernel
theorem dX4_tryText_71 : decode cX4_tryText 71 = .ok (.getfield 12, 3) := by decide +kernel
theorem dX4_tryText_74 : decode cX4_tryText 74 = .ok (.aload_n 2, 1) := by decide +kernel
theorem dX4_tryText_75 : decode cX4_tryText 75 = .ok (.getfield 61, 3) := by decide +kernel
theorem dX4_tryText_78 : decode cX4_tryText 78 = .ok (.aload_n 2, 1) := by decide +kernel
theorem dX4_tryText_79 : decode cX4_tryText 79 = .ok (.getfield 64, 3) := by decide +kernel
theorem dX4_tryText_82 : decode cX4_tryText 82 = .ok (.invokevirtual 35, 3) := by decide +kernel
theorem dX4_tryText_85 : decode cX4_tryText 85 = .ok (.putfield 39, 3) := by decide +kernel
theorem dX4_tryText_88 : decode cX4_tryText 88 = .ok (.aload_n 0, 1) := by decide +kernel
theorem dX4_tryText_89 : decode cX4_tryText 89 = .ok (.getfield 39, 3) := by decide +kernel
theorem dX4_tryText_92 : decode cX4_tryText 92 = .ok (.ifCond .eq 4, 3) := by decide +kernel
theorem dX4_tryText_95 : decode cX4_tryText 95 = .ok (.return_, 1) := by decide +kernel
theorem dX4_tryText_96 : decode cX4_tryText 96 = .ok (.aload_n 0, 1) := by decide +kernel
theorem dX4_tryText_97 : decode cX4_tryText 97 = .ok (.getfield 12, 3) := by decide +kernel
theorem dX4_tryText_100 : decode cX4_tryText 100 = .ok (.aload_n 2, 1) := by decide +kernel
theorem dX4_tryText_101 : decode cX4_tryText 101 = .ok (.getfield 61, 3) := by decide +kernel
theorem dX4_tryText_104 : decode cX4_tryText 104 = .ok (.aload_n 2, 1) := by decide +kernel
theorem dX4_tryText_105 : decode cX4_tryText 105 = .ok (.getfield 64, 3) := by decide +kernel
theorem dX4_tryText_108 : decode cX4_tryText 108 = .ok (.invokevirtual 42, 3) := by decide +kernel
theorem dX4_tryText_111 : decode cX4_tryText 111 = .ok (.aload_n 0, 1) := by decide +kernel
theorem dX4_tryText_112 : decode cX4_tryText 112 = .ok (.dup, 1) := by decide +kernel
theorem dX4_tryText_113 : decode cX4_tryText 113 = .ok (.getfield 46, 3) := by decide +kernel
theorem dX4_tryText_116 : decode cX4_tryText 116 = .ok (.iconst 1, 1) := by decide +kernel
theorem dX4_tryText_117 : decode cX4_tryText 117 = .ok (.iadd, 1) := by decide +kernel
theorem dX4_tryText_118 : decode cX4_tryText 118 = .ok (.putfield 46, 3) := by decide +kernel
theorem dX4_tryText_121 : decode cX4_tryText 121 = .ok (.aload_n 0, 1) := by decide +kernel
theorem dX4_tryText_122 : decode cX4_tryText 122 = .ok (.aload_n 2, 1) := by decide +kernel
theorem dX4_tryText_123 : decode cX4_tryText 123 = .ok (.getfield 71, 3) := by decide +kernel
theorem dX4_tryText_126 : decode cX4_tryText 126 = .ok (.putfield 49, 3) := by decide +kernel
theorem dX4_tryText_129 : decode cX4_tryText 129 = .ok (.iinc 3 1, 3) := by decide +kernel
theorem dX4_tryText_132 : decode cX4_tryText 132 = .ok (.goto (-125), 3) := by decide +kernel
theorem dX4_tryText_135 : decode cX4_tryText 135 = .ok (.return_, 1) := by decide +kernel
theorem dX8_section_0 : decode cX8_section 0 = .ok (.iload_n 1, 1) := by decide +kernel
theorem dX8_section_1 : decode cX8_section 1 = .ok (.iconst 1, 1) := by decide +kernel
theorem dX8_section_2 : decode cX8_section 2 = .ok (.bipush 9, 2) := by decide +kernel
theorem dX8_section_4 : decode cX8_section 4 = .ok (.invokestatic 44, 3) := by decide +kernel
theorem dX8_section_7 : decode cX8_section 7 = .ok (.ifCond .ne 12, 3) := by decide +kernel
theorem dX8_section_10 : decode cX8_section 10 = .ok (.iload_n 2, 1) := by decide +kernel
theorem dX8_section_11 : decode cX8_section 11 = .ok (.iconst 0, 1) := by decide +kernel
theorem dX8_section_12 : decode cX8_section 12 = .ok (.iconst 1, 1) := by decide +kernel
theorem dX8_section_13 : decode cX8_section 13 = .ok (.invokestatic 44, 3) := by decide +kernel
theorem dX8_section_16 : decode cX8_section 16 = .ok (.ifCond .eq 5, 3) := by decide +kernel
theorem dX8_section_19 : decode cX8_section 19 = .ok (.iconst (-1), 1) := by decide +kernel
theorem dX8_section_20 : decode cX8_section 20 = .ok (.ireturn, 1) := by decide +kernel
theorem dX8_section_21 : decode cX8_section 21 = .ok (.aload_n 0, 1) := by decide +kernel
theorem dX8_section_22 : decode cX8_section 22 = .ok (.getfield 10, 3) := by decide +kernel
theorem dX8_section_25 : decode cX8_section 25 = .ok (.getfield 48, 3) := by decide +kernel
theorem dX8_section_28 : decode cX8_section 28 = .ok (.getfield 52, 3) := by decide +kernel
theorem dX8_section_31 : decode cX8_section 31 = .ok (.bipush 10, 2) := by decide +kernel
theorem dX8_section_33 : decode cX8_section 33 = .ok (.if_icmp .lt 6, 3) := by decide +kernel
theorem dX8_section_36 : decode cX8_section 36 = .ok (.bipush (-3), 2) := by decide +kernel
theorem dX8_section_38 : decode cX8_section 38 = .ok (.ireturn, 1) := by decide +kernel
theorem dX8_section_39 : decode cX8_section 39 = .ok (.aload_n 0, 1) := by decide +kernel
theorem dX8_section_40 : decode cX8_section 40 = .ok (.getfield 19, 3) := by decide +kernel
theorem dX8_section_43 : decode cX8_section 43 = .ok (.aload_n 0, 1) := by decide +kernel
theorem dX8_section_44 : decode cX8_section 44 = .ok (.getfield 10, 3) := by decide +kernel
theorem dX8_section_47 : decode cX8_section 47 = .ok (.invokevirtual 58, 3) := by decide +kernel
theorem dX8_section_50 : decode cX8_section 50 = .ok (.aload_n 0, 1) := by decide +kernel
theorem dX8_section_51 : decode cX8_section 51 = .ok (.getfield 10, 3) := by decide +kernel
theorem dX8_section_54 : decode cX8_section 54 = .ok (.iload_n 1, 1) := by decide +kernel
theorem dX8_section_55 : decode cX8_section 55 = .ok (.iload_n 2, 1) := by decide +kernel
theorem dX8_section_56 : decode cX8_section 56 = .ok (.iconst 1, 1) := by decide +kernel
theorem dX8_section_57 : decode cX8_section 57 = .ok (.if_icmp .ne 7, 3) := by decide +kernel
theorem dX8_section_60 : decode cX8_section 60 = .ok (.iconst 2, 1) := by decide +kernel
theorem dX8_section_61 : decode cX8_section 61 = .ok (.goto 4, 3) := by decide +kernel
theorem dX8_section_64 : decode cX8_section 64 = .ok (.iconst 0, 1) := by decide +kernel
theorem dX8_section_65 : decode cX8_section 65 = .ok (.invokevirtual 62, 3) := by decide +kernel
theorem dX8_section_68 : decode cX8_section 68 = .ok (.ireturn, 1) := by decide +kernel
theorem dX8_isolator_0 : decode cX8_isolator 0 = .ok (.aload_n 0, 1) := by decide +kernel
theorem dX8_isolator_1 : decode cX8_isolator 1 = .ok (.getfield 10, 3) := by decide +kernel
theorem dX8_isolator_4 : decode cX8_isolator 4 = .ok (.iload_n 1, 1) := by decide +kernel
theorem dX8_isolator_5 : decode cX8_isolator 5 = .ok (.invokevirtual 66, 3) := by decide +kernel
theorem dX8_isolator_8 : decode cX8_isolator 8 = .ok (.ifCond .eq 19, 3) := by decide +kernel
theorem dX8_isolator_11 : decode cX8_isolator 11 = .ok (.aload_n 0, 1) := by decide +kernel
theorem dX8_isolator_12 : decode cX8_isolator 12 = .ok (.getfield 10, 3) := by decide +kernel
theorem dX8_isolator_15 : decode cX8_isolator 15 = .ok (.iload_n 2, 1) := by decide +kernel
theorem dX8_isolator_16 : decode cX8_isolator 16 = .ok (.invokevirtual 66, 3) := by decide +kernel
theorem dX8_isolator_19 : decode cX8_isolator 19 = .ok (.ifCond .eq 8, 3) := by decide +kernel
theorem dX8_isolator_22 : decode cX8_isolator 22 = .ok (.iload_n 1, 1) := by decide +kernel
theorem dX8_isolator_23 : decode cX8_isolator 23 = .ok (.iload_n 2, 1) := by decide +kernel
theorem dX8_isolator_24 : decode cX8_isolator 24 = .ok (.if_icmp .ne 5, 3) := by decide +kernel
theorem dX8_isolator_27 : decode cX8_isolator 27 = .ok (.iconst (-1), 1) := by decide +kernel
theorem dX8_isolator_28 : decode cX8_isolator 28 = .ok (.ireturn, 1) := by decide +kernel
theorem dX8_isolator_29 : decode cX8_isolator 29 = .ok (.aload_n 0, 1) := by decide +kernel
theorem dX8_isolator_30 : decode cX8_isolator 30 = .ok (.getfield 10, 3) := by decide +kernel
theorem dX8_isolator_33 : decode cX8_isolator 33 = .ok (.iload_n 1, 1) := by decide +kernel
theorem dX8_isolator_34 : decode cX8_isolator 34 = .ok (.iload_n 2, 1) := by decide +kernel
theorem dX8_isolator_35 : decode cX8_isolator 35 = .ok (.invokevirtual 70, 3) := by decide +kernel
theorem dX8_isolator_38 : decode cX8_isolator 38 = .ok (.ifCond .eq 6, 3) := by decide +kernel
theorem dX8_isolator_41 : decode cX8_isolator 41 = .ok (.bipush (-2), 2) := by decide +kernel
theorem dX8_isolator_43 : decode cX8_isolator 43 = .ok (.ireturn, 1) := by decide +kernel
theorem dX8_isolator_44 : decode cX8_isolator 44 = .ok (.aload_n 0, 1) := by decide +kernel
theorem dX8_isolator_45 : decode cX8_isolator 45 = .ok (.getfield 10, 3) := by decide +kernel
theorem dX8_isolator_48 : decode cX8_isolator 48 = .ok (.getfield 48, 3) := by decide +kernel
theorem dX8_isolator_51 : decode cX8_isolator 51 = .ok (.getfield 74, 3) := by decide +kernel
theorem dX8_isolator_54 : decode cX8_isolator 54 = .ok (.bipush 16, 2) := by decide +kernel
theorem dX8_isolator_56 : decode cX8_isolator 56 = .ok (.if_icmp .lt 6, 3) := by decide +kernel
theorem dX8_isolator_59 : decode cX8_isolator 59 = .ok (.bipush (-3), 2) := by decide +kernel
theorem dX8_isolator_61 : decode cX8_isolator 61 = .ok (.ireturn, 1) := by decide +kernel
theorem dX8_isolator_62 : decode cX8_isolator 62 = .ok (.aload_n 0, 1) := by decide +kernel
theorem dX8_isolator_63 : decode cX8_isolator 63 = .ok (.getfield 19, 3) := by decide +kernel
theorem dX8_isolator_66 : decode cX8_isolator 66 = .ok (.aload_n 0, 1) := by decide +kernel
theorem dX8_isolator_67 : decode cX8_isolator 67 = .ok (.getfield 10, 3) := by decide +kernel
theorem dX8_isolator_70 : decode cX8_isolator 70 = .ok (.invokevirtual 58, 3) := by decide +kernel
theorem dX8_isolator_73 : decode cX8_isolator 73 = .ok (.aload_n 0, 1) := by decide +kernel
theorem dX8_isolator_74 : decode cX8_isolator 74 = .ok (.getfield 10, 3) := by decide +kernel
theorem dX8_isolator_77 : decode cX8_isolator 77 = .ok (.iload_n 1, 1) := by decide +kernel
theorem dX8_isolator_78 : decode cX8_isolator 78 = .ok (.iload_n 2, 1) := by decide +kernel
theorem dX8_isolator_79 : decode cX8_isolator 79 = .ok (.invokevirtual 77, 3) := by decide +kernel
theorem dX8_isolator_82 : decode cX8_isolator 82 = .ok (.ireturn, 1) := by decide +kernel
theorem dX8_pool_0 : decode cX8_pool 0 = .ok (.iload_n 1, 1) := by decide +kernel
theorem dX8_pool_1 : decode cX8_pool 1 = .ok (.iconst 0, 1) := by decide +kernel
theorem dX8_pool_2 : decode cX8_pool 2 = .ok (.bipush 40, 2) := by decide +kernel
theorem dX8_pool_4 : decode cX8_pool 4 = .ok (.invokestatic 44, 3) := by decide +kernel
theorem dX8_pool_7 : decode cX8_pool 7 = .ok (.ifCond .eq 5, 3) := by decide +kernel
theorem dX8_pool_10 : decode cX8_pool 10 = .ok (.iconst (-1), 1) := by decide +kernel
theorem dX8_pool_11 : decode cX8_pool 11 = .ok (.ireturn, 1) := by decide +kernel
theorem dX8_pool_12 : decode cX8_pool 12 = .ok (.aload_n 0, 1) := by decide +kernel
theorem dX8_pool_13 : decode cX8_pool 13 = .ok (.getfield 10, 3) := by decide +kernel
theorem dX8_pool_16 : decode cX8_pool 16 = .ok (.getfield 80, 3) := by decide +kernel
theorem dX8_pool_19 : decode cX8_pool 19 = .ok (.invokevirtual 84, 3) := by decide +kernel
theorem dX8_pool_22 : decode cX8_pool 22 = .ok (.iload_n 1, 1) := by decide +kernel
theorem dX8_pool_23 : decode cX8_pool 23 = .ok (.if_icmp .le 6, 3) := by decide +kernel
theorem dX8_pool_26 : decode cX8_pool 26 = .ok (.bipush (-2), 2) := by decide +kernel
theorem dX8_pool_28 : decode cX8_pool 28 = .ok (.ireturn, 1) := by decide +kernel
theorem dX8_pool_29 : decode cX8_pool 29 = .ok (.aload_n 0, 1) := by decide +kernel
theorem dX8_pool_30 : decode cX8_pool 30 = .ok (.getfield 19, 3) := by decide +kernel
theorem dX8_pool_33 : decode cX8_pool 33 = .ok (.aload_n 0, 1) := by decide +kernel
theorem dX8_pool_34 : decode cX8_pool 34 = .ok (.getfield 10, 3) := by decide +kernel
theorem dX8_pool_37 : decode cX8_pool 37 = .ok (.invokevirtual 58, 3) := by decide +kernel
theorem dX8_pool_40 : decode cX8_pool 40 = .ok (.aload_n 0, 1) := by decide +kernel
theorem dX8_pool_41 : decode cX8_pool 41 = .ok (.getfield 10, 3) := by decide +kernel
theorem dX8_pool_44 : decode cX8_pool 44 = .ok (.getfield 80, 3) := by decide +kernel
theorem dX8_pool_47 : decode cX8_pool 47 = .ok (.iload_n 1, 1) := by decide +kernel
theorem dX8_pool_48 : decode cX8_pool 48 = .ok (.putfield 90, 3) := by decide +kernel
theorem dX8_pool_51 : decode cX8_pool 51 = .ok (.aload_n 0, 1) := by decide +kernel
theorem dX8_pool_52 : decode cX8_pool 52 = .ok (.getfield 10, 3) := by decide +kernel
theorem dX8_pool_55 : decode cX8_pool 55 = .ok (.getfield 80, 3) := by decide +kernel
theorem dX8_pool_58 : decode cX8_pool 58 = .ok (.invokevirtual 93, 3) := by decide +kernel
theorem dX8_pool_61 : decode cX8_pool 61 = .ok (.ireturn, 1) := by decide +kernel
theorem dX8_sectionOf_0 : decode cX8_sectionOf 0 = .ok (.aload_n 0, 1) := by decide +kernel
theorem dX8_sectionOf_1 : decode cX8_sectionOf 1 = .ok (.getfield 10, 3) := by decide +kernel
theorem dX8_sectionOf_4 : decode cX8_sectionOf 4 = .ok (.iload_n 1, 1) := by decide +kernel
theorem dX8_sectionOf_5 : decode cX8_sectionOf 5 = .ok (.invokevirtual 66, 3) := by decide +kernel
theorem dX8_sectionOf_8 : decode cX8_sectionOf 8 = .ok (.ifCond .ne 5, 3) := by decide +kernel
theorem dX8_sectionOf_11 : decode cX8_sectionOf 11 = .ok (.iconst (-1), 1) := by decide +kernel
theorem dX8_sectionOf_12 : decode cX8_sectionOf 12 = .ok (.ireturn, 1) := by decide +kernel
theorem dX8_sectionOf_13 : decode cX8_sectionOf 13 = .ok (.aload_n 0, 1) := by decide +kernel
theorem dX8_sectionOf_14 : decode cX8_sectionOf 14 = .ok (.getfield 10, 3) := by decide +kernel
theorem dX8_sectionOf_17 : decode cX8_sectionOf 17 = .ok (.getfield 48, 3) := by decide +kernel
theorem dX8_sectionOf_20 : decode cX8_sectionOf 20 = .ok (.astore_n 3, 1) := by decide +kernel
theorem dX8_sectionOf_21 : decode cX8_sectionOf 21 = .ok (.aload_n 0, 1) := by decide +kernel
theorem dX8_sectionOf_22 : decode cX8_sectionOf 22 = .ok (.getfield 10, 3) := by decide +kernel
theorem dX8_sectionOf_25 : decode cX8_sectionOf 25 = .ok (.getfield 80, 3) := by decide +kernel
theorem dX8_sectionOf_28 : decode cX8_sectionOf 28 = .ok (.astore 4, 2) := by decide +kernel
theorem dX8_sectionOf_30 : decode cX8_sectionOf 30 = .ok (.iload_n 2, 1) := by decide +kernel
theorem dX8_sectionOf_31 : decode cX8_sectionOf 31 = .ok (.tableswitch 170 0 10 #[57, 65, 72, 82, 94, 105, 116, 127, 135, 141, 147], 57) := by decide +kernel
theorem dX8_sectionOf_88 : decode cX8_sectionOf 88 = .ok (.aload 4, 2) := by decide +kernel
theorem dX8_sectionOf_90 : decode cX8_sectionOf 90 = .ok (.getfield 96, 3) := by decide +kernel
theorem dX8_sectionOf_93 : decode cX8_sectionOf 93 = .ok (.iload_n 1, 1) := by decide +kernel
theorem dX8_sectionOf_94 : decode cX8_sectionOf 94 = .ok (.iaload, 1) := by decide +kernel
theorem dX8_sectionOf_95 : decode cX8_sectionOf 95 = .ok (.ireturn, 1) := by decide +kernel
theorem dX8_sectionOf_96 : decode cX8_sectionOf 96 = .ok (.aload_n 3, 1) := by decide +kernel
theorem dX8_sectionOf_97 : decode cX8_sectionOf 97 = .ok (.getfield 100, 3) := by decide +kernel
theorem dX8_sectionOf_100 : decode cX8_sectionOf 100 = .ok (.iload_n 1, 1) := by decide +kernel
theorem dX8_sectionOf_101 : decode cX8_sectionOf 101 = .ok (.iaload, 1) := by decide +kernel
theorem dX8_sectionOf_102 : decode cX8_sectionOf 102 = .ok (.ireturn, 1) := by decide +kernel
theorem dX8_sectionOf_103 : decode cX8_sectionOf 103 = .ok (.aload_n 3, 1) := by decide +kernel
theorem dX8_sectionOf_104 : decode cX8_sectionOf 104 = .ok (.getfield 103, 3) := by decide +kernel
theorem dX8_sectionOf_107 : decode cX8_sectionOf 107 = .ok (.iload_n 1, 1) := by decide +kernel
theorem dX8_sectionOf_108 : decode cX8_sectionOf 108 = .ok (.baload, 1) := by decide +kernel
theorem dX8_sectionOf_109 : decode cX8_sectionOf 109 = .ok (.invokestatic 107, 3) := by decide +kernel
theorem dX8_sectionOf_112 : decode cX8_sectionOf 112 = .ok (.ireturn, 1) := by decide +kernel
theorem dX8_sectionOf_113 : decode cX8_sectionOf 113 = .ok (.aload_n 0, 1) := by decide +kernel
theorem dX8_sectionOf_114 : decode cX8_sectionOf 114 = .ok (.getfield 10, 3) := by decide +kernel
theorem dX8_sectionOf_117 : decode cX8_sectionOf 117 = .ok (.iload_n 1, 1) := by decide +kernel
theorem dX8_sectionOf_118 : decode cX8_sectionOf 118 = .ok (.invokevirtual 111, 3) := by decide +kernel
theorem dX8_sectionOf_121 : decode cX8_sectionOf 121 = .ok (.invokestatic 107, 3) := by decide +kernel
theorem dX8_sectionOf_124 : decode cX8_sectionOf 124 = .ok (.ireturn, 1) := by decide +kernel
theorem dX8_sectionOf_125 : decode cX8_sectionOf 125 = .ok (.aload 4, 2) := by decide +kernel
theorem dX8_sectionOf_127 : decode cX8_sectionOf 127 = .ok (.getfield 114, 3) := by decide +kernel
theorem dX8_sectionOf_130 : decode cX8_sectionOf 130 = .ok (.iload_n 1, 1) := by decide +kernel
theorem dX8_sectionOf_131 : decode cX8_sectionOf 131 = .ok (.baload, 1) := by decide +kernel
theorem dX8_sectionOf_132 : decode cX8_sectionOf 132 = .ok (.invokestatic 107, 3) := by decide +kernel
theorem dX8_sectionOf_135 : decode cX8_sectionOf 135 = .ok (.ireturn, 1) := by decide +kernel
theorem dX8_sectionOf_136 : decode cX8_sectionOf 136 = .ok (.aload 4, 2) := by decide +kernel
theorem dX8_sectionOf_138 : decode cX8_sectionOf 138 = .ok (.getfield 117, 3) := by decide +kernel
theorem dX8_sectionOf_141 : decode cX8_sectionOf 141 = .ok (.iload_n 1, 1) := by decide +kernel
theorem dX8_sectionOf_142 : decode cX8_sectionOf 142 = .ok (.baload, 1) := by decide +kernel
theorem dX8_sectionOf_143 : decode cX8_sectionOf 143 = .ok (.invokestatic 107, 3) := by decide +kernel
theorem dX8_sectionOf_146 : decode cX8_sectionOf 146 = .ok (.ireturn, 1) := by decide +kernel
theorem dX8_sectionOf_147 : decode cX8_sectionOf 147 = .ok (.aload 4, 2) := by decide +kernel
theorem dX8_sectionOf_149 : decode cX8_sectionOf 149 = .ok (.getfield 120, 3) := by decide +kernel
theorem dX8_sectionOf_152 : decode cX8_sectionOf 152 = .ok (.iload_n 1, 1) := by decide +kernel
theorem dX8_sectionOf_153 : decode cX8_sectionOf 153 = .ok (.baload, 1) := by decide +kernel
theorem dX8_sectionOf_154 : decode cX8_sectionOf 154 = .ok (.invokestatic 107, 3) := by decide +kernel
theorem dX8_sectionOf_157 : decode cX8_sectionOf 157 = .ok (.ireturn, 1) := by decide +kernel
theorem dX8_sectionOf_158 : decode cX8_sectionOf 158 = .ok (.aload 4, 2) := by decide +kernel
theorem dX8_sectionOf_160 : decode cX8_sectionOf 160 = .ok (.getfield 123, 3) := by decide +kernel
theorem dX8_sectionOf_163 : decode cX8_sectionOf 163 = .ok (.iload_n 1, 1) := by decide +kernel
theorem dX8_sectionOf_164 : decode cX8_sectionOf 164 = .ok (.iaload, 1) := by decide +kernel
theorem dX8_sectionOf_165 : decode cX8_sectionOf 165 = .ok (.ireturn, 1) := by decide +kernel
theorem dX8_sectionOf_166 : decode cX8_sectionOf 166 = .ok (.aload_n 3, 1) := by decide +kernel
theorem dX8_sectionOf_167 : decode cX8_sectionOf 167 = .ok (.iload_n 1, 1) := by decide +kernel
theorem dX8_sectionOf_168 : decode cX8_sectionOf 168 = .ok (.invokevirtual 126, 3) := by decide +kernel
theorem dX8_sectionOf_171 : decode cX8_sectionOf 171 = .ok (.ireturn, 1) := by decide +kernel
theorem dX8_sectionOf_172 : decode cX8_sectionOf 172 = .ok (.aload_n 3, 1) := by decide +kernel
theorem dX8_sectionOf_173 : decode cX8_sectionOf 173 = .ok (.iload_n 1, 1) := by decide +kernel
theorem dX8_sectionOf_174 : decode cX8_sectionOf 174 = .ok (.invokevirtual 130, 3) := by decide +kernel
theorem dX8_sectionOf_177 : decode cX8_sectionOf 177 = .ok (.ireturn, 1) := by decide +kernel
theorem dX8_sectionOf_178 : decode cX8_sectionOf 178 = .ok (.aload 4, 2) := by decide +kernel
theorem dX8_sectionOf_180 : decode cX8_sectionOf 180 = .ok (.getfield 120, 3) := by decide +kernel
theorem dX8_sectionOf_183 : decode cX8_sectionOf 183 = .ok (.iload_n 1, 1) := by decide +kernel
theorem dX8_sectionOf_184 : decode cX8_sectionOf 184 = .ok (.baload, 1) := by decide +kernel
theorem dX8_sectionOf_185 : decode cX8_sectionOf 185 = .ok (.ifCond .eq 13, 3) := by decide +kernel
theorem dX8_sectionOf_188 : decode cX8_sectionOf 188 = .ok (.aload 4, 2) := by decide +kernel
theorem dX8_sectionOf_190 : decode cX8_sectionOf 190 = .ok (.getfield 133, 3) := by decide +kernel
theorem dX8_sectionOf_193 : decode cX8_sectionOf 193 = .ok (.iload_n 1, 1) := by decide +kernel
theorem dX8_sectionOf_194 : decode cX8_sectionOf 194 = .ok (.iaload, 1) := by decide +kernel
theorem dX8_sectionOf_195 : decode cX8_sectionOf 195 = .ok (.goto 5, 3) := by decide +kernel
theorem dX8_sectionOf_198 : decode cX8_sectionOf 198 = .ok (.bipush (-4), 2) := by decide +kernel
theorem dX8_sectionOf_200 : decode cX8_sectionOf 200 = .ok (.ireturn, 1) := by decide +kernel
theorem dX8_sectionOf_201 : decode cX8_sectionOf 201 = .ok (.iconst (-1), 1) := by decide +kernel
theorem dX8_sectionOf_202 : decode cX8_sectionOf 202 = .ok (.ireturn, 1) := by decide +kernel
theorem dX8_isolatorOf_0 : decode cX8_isolatorOf 0 = .ok (.aload_n 0, 1) := by decide +kernel
theorem dX8_isolatorOf_1 : decode cX8_isolatorOf 1 = .ok (.getfield 10, 3) := by decide +kernel
theorem dX8_isolatorOf_4 : decode cX8_isolatorOf 4 = .ok (.iload_n 1, 1) := by decide +kernel
theorem dX8_isolatorOf_5 : decode cX8_isolatorOf 5 = .ok (.invokevirtual 136, 3) := by decide +kernel
theorem dX8_isolatorOf_8 : decode cX8_isolatorOf 8 = .ok (.ifCond .ne 5, 3) := by decide +kernel
theorem dX8_isolatorOf_11 : decode cX8_isolatorOf 11 = .ok (.iconst (-1), 1) := by decide +kernel
theorem dX8_isolatorOf_12 : decode cX8_isolatorOf 12 = .ok (.ireturn, 1) := by decide +kernel
theorem dX8_isolatorOf_13 : decode cX8_isolatorOf 13 = .ok (.aload_n 0, 1) := by decide +kernel
theorem dX8_isolatorOf_14 : decode cX8_isolatorOf 14 = .ok (.getfield 10, 3) := by decide +kernel
theorem dX8_isolatorOf_17 : decode cX8_isolatorOf 17 = .ok (.getfield 48, 3) := by decide +kernel
theorem dX8_isolatorOf_20 : decode cX8_isolatorOf 20 = .ok (.astore_n 3, 1) := by decide +kernel
theorem dX8_isolatorOf_21 : decode cX8_isolatorOf 21 = .ok (.iload_n 2, 1) := by decide +kernel
theorem dX8_isolatorOf_22 : decode cX8_isolatorOf 22 = .ok (.tableswitch 92 0 5 #[38, 45, 52, 62, 74, 83], 38) := by decide +kernel
theorem dX8_isolatorOf_60 : decode cX8_isolatorOf 60 = .ok (.aload_n 3, 1) := by decide +kernel
theorem dX8_isolatorOf_61 : decode cX8_isolatorOf 61 = .ok (.getfield 139, 3) := by decide +kernel
theorem dX8_isolatorOf_64 : decode cX8_isolatorOf 64 = .ok (.iload_n 1, 1) := by decide +kernel
theorem dX8_isolatorOf_65 : decode cX8_isolatorOf 65 = .ok (.iaload, 1) := by decide +kernel
theorem dX8_isolatorOf_66 : decode cX8_isolatorOf 66 = .ok (.ireturn, 1) := by decide +kernel
theorem dX8_isolatorOf_67 : decode cX8_isolatorOf 67 = .ok (.aload_n 3, 1) := by decide +kernel
theorem dX8_isolatorOf_68 : decode cX8_isolatorOf 68 = .ok (.getfield 142, 3) := by decide +kernel
theorem dX8_isolatorOf_71 : decode cX8_isolatorOf 71 = .ok (.iload_n 1, 1) := by decide +kernel
theorem dX8_isolatorOf_72 : decode cX8_isolatorOf 72 = .ok (.iaload, 1) := by decide +kernel
theorem dX8_isolatorOf_73 : decode cX8_isolatorOf 73 = .ok (.ireturn, 1) := by decide +kernel
theorem dX8_isolatorOf_74 : decode cX8_isolatorOf 74 = .ok (.aload_n 3, 1) := by decide +kernel
theorem dX8_isolatorOf_75 : decode cX8_isolatorOf 75 = .ok (.getfield 145, 3) := by decide +kernel
theorem dX8_isolatorOf_78 : decode cX8_isolatorOf 78 = .ok (.iload_n 1, 1) := by decide +kernel
theorem dX8_isolatorOf_79 : decode cX8_isolatorOf 79 = .ok (.baload, 1) := by decide +kernel
theorem dX8_isolatorOf_80 : decode cX8_isolatorOf 80 = .ok (.invokestatic 107, 3) := by decide +kernel
theorem dX8_isolatorOf_83 : decode cX8_isolatorOf 83 = .ok (.ireturn, 1) := by decide +kernel
theorem dX8_isolatorOf_84 : decode cX8_isolatorOf 84 = .ok (.aload_n 0, 1) := by decide +kernel
theorem dX8_isolatorOf_85 : decode cX8_isolatorOf 85 = .ok (.getfield 10, 3) := by decide +kernel
theorem dX8_isolatorOf_88 : decode cX8_isolatorOf 88 = .ok (.iload_n 1, 1) := by decide +kernel
theorem dX8_isolatorOf_89 : decode cX8_isolatorOf 89 = .ok (.invokevirtual 148, 3) := by decide +kernel
theorem dX8_isolatorOf_92 : decode cX8_isolatorOf 92 = .ok (.invokestatic 107, 3) := by decide +kernel
theorem dX8_isolatorOf_95 : decode cX8_isolatorOf 95 = .ok (.ireturn, 1) := by decide +kernel
theorem dX8_isolatorOf_96 : decode cX8_isolatorOf 96 = .ok (.aload_n 0, 1) := by decide +kernel
theorem dX8_isolatorOf_97 : decode cX8_isolatorOf 97 = .ok (.getfield 10, 3) := by decide +kernel
theorem dX8_isolatorOf_100 : decode cX8_isolatorOf 100 = .ok (.iload_n 1, 1) := by decide +kernel
theorem dX8_isolatorOf_101 : decode cX8_isolatorOf 101 = .ok (.invokevirtual 151, 3) := by decide +kernel
theorem dX8_isolatorOf_104 : decode cX8_isolatorOf 104 = .ok (.ireturn, 1) := by decide +kernel
theorem dX8_isolatorOf_105 : decode cX8_isolatorOf 105 = .ok (.aload_n 0, 1) := by decide +kernel
theorem dX8_isolatorOf_106 : decode cX8_isolatorOf 106 = .ok (.getfield 10, 3) := by decide +kernel
theorem dX8_isolatorOf_109 : decode cX8_isolatorOf 109 = .ok (.iload_n 1, 1) := by decide +kernel
theorem dX8_isolatorOf_110 : decode cX8_isolatorOf 110 = .ok (.invokevirtual 154, 3) := by decide +kernel
theorem dX8_isolatorOf_113 : decode cX8_isolatorOf 113 = .ok (.ireturn, 1) := by decide +kernel
theorem dX8_isolatorOf_114 : decode cX8_isolatorOf 114 = .ok (.iconst (-1), 1) := by decide +kernel
theorem dX8_isolatorOf_115 : decode cX8_isolatorOf 115 = .ok (.ireturn, 1) := by decide +kernel
theorem dX8_count_0 : decode cX8_count 0 = .ok (.aload_n 0, 1) := by decide +kernel
theorem dX8_count_1 : decode cX8_count 1 = .ok (.getfield 10, 3) := by decide +kernel
theorem dX8_count_4 : decode cX8_count 4 = .ok (.getfield 80, 3) := by decide +kernel
theorem dX8_count_7 : decode cX8_count 7 = .ok (.astore_n 2, 1) := by decide +kernel
theorem dX8_count_8 : decode cX8_count 8 = .ok (.iload_n 1, 1) := by decide +kernel
theorem dX8_count_9 : decode cX8_count 9 = .ok (.tableswitch 210 0 15 #[79, 90, 101, 106, 111, 125, 133, 141, 146, 151, 162, 173, 178, 183, 194, 202], 79) := by decide +kernel
theorem dX8_count_88 : decode cX8_count 88 = .ok (.aload_n 0, 1) := by decide +kernel
theorem dX8_count_89 : decode cX8_count 89 = .ok (.getfield 10, 3) := by decide +kernel
theorem dX8_count_92 : decode cX8_count 92 = .ok (.getfield 48, 3) := by decide +kernel
theorem dX8_count_95 : decode cX8_count 95 = .ok (.getfield 52, 3) := by decide +kernel
theorem dX8_count_98 : decode cX8_count 98 = .ok (.ireturn, 1) := by decide +kernel
theorem dX8_count_99 : decode cX8_count 99 = .ok (.aload_n 0, 1) := by decide +kernel
theorem dX8_count_100 : decode cX8_count 100 = .ok (.getfield 10, 3) := by decide +kernel
theorem dX8_count_103 : decode cX8_count 103 = .ok (.getfield 48, 3) := by decide +kernel
theorem dX8_count_106 : decode cX8_count 106 = .ok (.getfield 74, 3) := by decide +kernel
theorem dX8_count_109 : decode cX8_count 109 = .ok (.ireturn, 1) := by decide +kernel
theorem dX8_count_110 : decode cX8_count 110 = .ok (.aload_n 2, 1) := by decide +kernel
theorem dX8_count_111 : decode cX8_count 111 = .ok (.getfield 90, 3) := by decide +kernel
theorem dX8_count_114 : decode cX8_count 114 = .ok (.ireturn, 1) := by decide +kernel
theorem dX8_count_115 : decode cX8_count 115 = .ok (.aload_n 2, 1) := by decide +kernel
theorem dX8_count_116 : decode cX8_count 116 = .ok (.invokevirtual 93, 3) := by decide +kernel
theorem dX8_count_119 : decode cX8_count 119 = .ok (.ireturn, 1) := by decide +kernel
theorem dX8_count_120 : decode cX8_count 120 = .ok (.aload_n 0, 1) := by decide +kernel
theorem dX8_count_121 : decode cX8_count 121 = .ok (.getfield 10, 3) := by decide +kernel
theorem dX8_count_124 : decode cX8_count 124 = .ok (.getfield 48, 3) := by decide +kernel
theorem dX8_count_127 : decode cX8_count 127 = .ok (.getfield 103, 3) := by decide +kernel
theorem dX8_count_130 : decode cX8_count 130 = .ok (.invokestatic 157, 3) := by decide +kernel
theorem dX8_count_133 : decode cX8_count 133 = .ok (.ireturn, 1) := by decide +kernel
theorem dX8_count_134 : decode cX8_count 134 = .ok (.aload_n 2, 1) := by decide +kernel
theorem dX8_count_135 : decode cX8_count 135 = .ok (.getfield 114, 3) := by decide +kernel
theorem dX8_count_138 : decode cX8_count 138 = .ok (.invokestatic 157, 3) := by decide +kernel
theorem dX8_count_141 : decode cX8_count 141 = .ok (.ireturn, 1) := by decide +kernel
theorem dX8_count_142 : decode cX8_count 142 = .ok (.aload_n 2, 1) := by decide +kernel
theorem dX8_count_143 : decode cX8_count 143 = .ok (.getfield 120, 3) := by decide +kernel
theorem dX8_count_146 : decode cX8_count 146 = .ok (.invokestatic 157, 3) := by decide +kernel
theorem dX8_count_149 : decode cX8_count 149 = .ok (.ireturn, 1) := by decide +kernel
theorem dX8_count_150 : decode cX8_count 150 = .ok (.aload_n 2, 1) := by decide +kernel
theorem dX8_count_151 : decode cX8_count 151 = .ok (.invokevirtual 161, 3) := by decide +kernel
theorem dX8_count_154 : decode cX8_count 154 = .ok (.ireturn, 1) := by decide +kernel
theorem dX8_count_155 : decode cX8_count 155 = .ok (.aload_n 2, 1) := by decide +kernel
theorem dX8_count_156 : decode cX8_count 156 = .ok (.getfield 164, 3) := by decide +kernel
theorem dX8_count_159 : decode cX8_count 159 = .ok (.ireturn, 1) := by decide +kernel
theorem dX8_count_160 : decode cX8_count 160 = .ok (.aload_n 0, 1) := by decide +kernel
theorem dX8_count_161 : decode cX8_count 161 = .ok (.getfield 10, 3) := by decide +kernel
theorem dX8_count_164 : decode cX8_count 164 = .ok (.getfield 167, 3) := by decide +kernel
theorem dX8_count_167 : decode cX8_count 167 = .ok (.getfield 171, 3) := by decide +kernel
theorem dX8_count_170 : decode cX8_count 170 = .ok (.ireturn, 1) := by decide +kernel
theorem dX8_count_171 : decode cX8_count 171 = .ok (.aload_n 0, 1) := by decide +kernel
theorem dX8_count_172 : decode cX8_count 172 = .ok (.getfield 10, 3) := by decide +kernel
theorem dX8_count_175 : decode cX8_count 175 = .ok (.getfield 167, 3) := by decide +kernel
theorem dX8_count_178 : decode cX8_count 178 = .ok (.getfield 176, 3) := by decide +kernel
theorem dX8_count_181 : decode cX8_count 181 = .ok (.ireturn, 1) := by decide +kernel
theorem dX8_count_182 : decode cX8_count 182 = .ok (.aload_n 2, 1) := by decide +kernel
theorem dX8_count_183 : decode cX8_count 183 = .ok (.getfield 179, 3) := by decide +kernel
theorem dX8_count_186 : decode cX8_count 186 = .ok (.ireturn, 1) := by decide +kernel
theorem dX8_count_187 : decode cX8_count 187 = .ok (.aload_n 2, 1) := by decide +kernel
theorem dX8_count_188 : decode cX8_count 188 = .ok (.invokevirtual 182, 3) := by decide +kernel
theorem dX8_count_191 : decode cX8_count 191 = .ok (.ireturn, 1) := by decide +kernel
theorem dX8_count_192 : decode cX8_count 192 = .ok (.aload_n 0, 1) := by decide +kernel
theorem dX8_count_193 : decode cX8_count 193 = .ok (.getfield 10, 3) := by decide +kernel
theorem dX8_count_196 : decode cX8_count 196 = .ok (.getfield 48, 3) := by decide +kernel
theorem dX8_count_199 : decode cX8_count 199 = .ok (.invokevirtual 185, 3) := by decide +kernel
theorem dX8_count_202 : decode cX8_count 202 = .ok (.ireturn, 1) := by decide +kernel
theorem dX8_count_203 : decode cX8_count 203 = .ok (.aload_n 0, 1) := by decide +kernel
theorem dX8_count_204 : decode cX8_count 204 = .ok (.getfield 19, 3) := by decide +kernel
theorem dX8_count_207 : decode cX8_count 207 = .ok (.getfield 188, 3) := by decide +kernel
theorem dX8_count_210 : decode cX8_count 210 = .ok (.ireturn, 1) := by decide +kernel
theorem dX8_count_211 : decode cX8_count 211 = .ok (.aload_n 0, 1) := by decide +kernel
theorem dX8_count_212 : decode cX8_count 212 = .ok (.getfield 26, 3) := by decide +kernel
theorem dX8_count_215 : decode cX8_count 215 = .ok (.getfield 191, 3) := by decide +kernel
theorem dX8_count_218 : decode cX8_count 218 = .ok (.ireturn, 1) := by decide +kernel
theorem dX8_count_219 : decode cX8_count 219 = .ok (.iconst (-1), 1) := by decide +kernel
theorem dX8_count_220 : decode cX8_count 220 = .ok (.ireturn, 1) := by decide +kernel
theorem dX8_undo_0 : decode cX8_undo 0 = .ok (.aload_n 0, 1) := by decide +kernel
theorem dX8_undo_1 : decode cX8_undo 1 = .ok (.getfield 19, 3) := by decide +kernel
theorem dX8_undo_4 : decode cX8_undo 4 = .ok (.getfield 188, 3) := by decide +kernel
theorem dX8_undo_7 : decode cX8_undo 7 = .ok (.ifCond .gt 6, 3) := by decide +kernel
theorem dX8_undo_10 : decode cX8_undo 10 = .ok (.bipush (-2), 2) := by decide +kernel
theorem dX8_undo_12 : decode cX8_undo 12 = .ok (.ireturn, 1) := by decide +kernel
theorem dX8_undo_13 : decode cX8_undo 13 = .ok (.aload_n 0, 1) := by decide +kernel
theorem dX8_undo_14 : decode cX8_undo 14 = .ok (.getfield 19, 3) := by decide +kernel
theorem dX8_undo_17 : decode cX8_undo 17 = .ok (.aload_n 0, 1) := by decide +kernel
theorem dX8_undo_18 : decode cX8_undo 18 = .ok (.getfield 10, 3) := by decide +kernel
theorem dX8_undo_21 : decode cX8_undo 21 = .ok (.invokevirtual 192, 3) := by decide +kernel
theorem dX8_undo_24 : decode cX8_undo 24 = .ok (.aload_n 0, 1) := by decide +kernel
theorem dX8_undo_25 : decode cX8_undo 25 = .ok (.getfield 19, 3) := by decide +kernel
theorem dX8_undo_28 : decode cX8_undo 28 = .ok (.getfield 188, 3) := by decide +kernel
theorem dX8_undo_31 : decode cX8_undo 31 = .ok (.ireturn, 1) := by decide +kernel
theorem dX8_refusal_0 : decode cX8_refusal 0 = .ok (.aload_n 0, 1) := by decide +kernel
theorem dX8_refusal_1 : decode cX8_refusal 1 = .ok (.getfield 10, 3) := by decide +kernel
theorem dX8_refusal_4 : decode cX8_refusal 4 = .ok (.iload_n 1, 1) := by decide +kernel
theorem dX8_refusal_5 : decode cX8_refusal 5 = .ok (.iload_n 2, 1) := by decide +kernel
theorem dX8_refusal_6 : decode cX8_refusal 6 = .ok (.invokevirtual 195, 3) := by decide +kernel
theorem dX8_refusal_9 : decode cX8_refusal 9 = .ok (.ifCond .eq 15, 3) := by decide +kernel
theorem dX8_refusal_12 : decode cX8_refusal 12 = .ok (.aload_n 0, 1) := by decide +kernel
theorem dX8_refusal_13 : decode cX8_refusal 13 = .ok (.getfield 10, 3) := by decide +kernel
theorem dX8_refusal_16 : decode cX8_refusal 16 = .ok (.iload_n 1, 1) := by decide +kernel
theorem dX8_refusal_17 : decode cX8_refusal 17 = .ok (.iload_n 2, 1) := by decide +kernel
theorem dX8_refusal_18 : decode cX8_refusal 18 = .ok (.invokevirtual 198, 3) := by decide +kernel
theorem dX8_refusal_21 : decode cX8_refusal 21 = .ok (.goto 4, 3) := by decide +kernel
theorem dX8_refusal_24 : decode cX8_refusal 24 = .ok (.iconst (-1), 1) := by decide +kernel
theorem dX8_refusal_25 : decode cX8_refusal 25 = .ok (.ireturn, 1) := by decide +kernel
theorem dX8_step_0 : decode cX8_step 0 = .ok (.aload_n 0, 1) := by decide +kernel
theorem dX8_step_1 : decode cX8_step 1 = .ok (.getfield 10, 3) := by decide +kernel
theorem dX8_step_4 : decode cX8_step 4 = .ok (.iload_n 1, 1) := by decide +kernel
theorem dX8_step_5 : decode cX8_step 5 = .ok (.iload_n 2, 1) := by decide +kernel
theorem dX8_step_6 : decode cX8_step 6 = .ok (.invokevirtual 195, 3) := by decide +kernel
theorem dX8_step_9 : decode cX8_step 9 = .ok (.ifCond .ne 5, 3) := by decide +kernel
theorem dX8_step_12 : decode cX8_step 12 = .ok (.iconst (-1), 1) := by decide +kernel
theorem dX8_step_13 : decode cX8_step 13 = .ok (.ireturn, 1) := by decide +kernel
theorem dX8_step_14 : decode cX8_step 14 = .ok (.aload_n 0, 1) := by decide +kernel
theorem dX8_step_15 : decode cX8_step 15 = .ok (.getfield 10, 3) := by decide +kernel
theorem dX8_step_18 : decode cX8_step 18 = .ok (.iload_n 1, 1) := by decide +kernel
theorem dX8_step_19 : decode cX8_step 19 = .ok (.iload_n 2, 1) := by decide +kernel
theorem dX8_step_20 : decode cX8_step 20 = .ok (.invokevirtual 198, 3) := by decide +kernel
theorem dX8_step_23 : decode cX8_step 23 = .ok (.ifCond .eq 6, 3) := by decide +kernel
theorem dX8_step_26 : decode cX8_step 26 = .ok (.bipush (-2), 2) := by decide +kernel
theorem dX8_step_28 : decode cX8_step 28 = .ok (.ireturn, 1) := by decide +kernel
theorem dX8_step_29 : decode cX8_step 29 = .ok (.aload_n 0, 1) := by decide +kernel
theorem dX8_step_30 : decode cX8_step 30 = .ok (.getfield 19, 3) := by decide +kernel
theorem dX8_step_33 : decode cX8_step 33 = .ok (.aload_n 0, 1) := by decide +kernel
theorem dX8_step_34 : decode cX8_step 34 = .ok (.getfield 10, 3) := by decide +kernel
theorem dX8_step_37 : decode cX8_step 37 = .ok (.invokevirtual 58, 3) := by decide +kernel
theorem dX8_step_40 : decode cX8_step 40 = .ok (.aload_n 0, 1) := by decide +kernel
theorem dX8_step_41 : decode cX8_step 41 = .ok (.getfield 10, 3) := by decide +kernel
theorem dX8_step_44 : decode cX8_step 44 = .ok (.iload_n 1, 1) := by decide +kernel
theorem dX8_step_45 : decode cX8_step 45 = .ok (.iload_n 2, 1) := by decide +kernel
theorem dX8_step_46 : decode cX8_step 46 = .ok (.invokevirtual 201, 3) := by decide +kernel
theorem dX8_step_49 : decode cX8_step 49 = .ok (.aload_n 0, 1) := by decide +kernel
theorem dX8_step_50 : decode cX8_step 50 = .ok (.getfield 10, 3) := by decide +kernel
theorem dX8_step_53 : decode cX8_step 53 = .ok (.getfield 48, 3) := by decide +kernel
theorem dX8_step_56 : decode cX8_step 56 = .ok (.getfield 103, 3) := by decide +kernel
theorem dX8_step_59 : decode cX8_step 59 = .ok (.invokestatic 157, 3) := by decide +kernel
theorem dX8_step_62 : decode cX8_step 62 = .ok (.ireturn, 1) := by decide +kernel
theorem dX8_log_0 : decode cX8_log 0 = .ok (.iload_n 1, 1) := by decide +kernel
theorem dX8_log_1 : decode cX8_log 1 = .ok (.ifCond .lt 12, 3) := by decide +kernel
theorem dX8_log_4 : decode cX8_log 4 = .ok (.iload_n 2, 1) := by decide +kernel
theorem dX8_log_5 : decode cX8_log 5 = .ok (.iconst 0, 1) := by decide +kernel
theorem dX8_log_6 : decode cX8_log 6 = .ok (.iconst 2, 1) := by decide +kernel
theorem dX8_log_7 : decode cX8_log 7 = .ok (.invokestatic 44, 3) := by decide +kernel
theorem dX8_log_10 : decode cX8_log 10 = .ok (.ifCond .eq 5, 3) := by decide +kernel
theorem dX8_log_13 : decode cX8_log 13 = .ok (.iconst (-1), 1) := by decide +kernel
theorem dX8_log_14 : decode cX8_log 14 = .ok (.ireturn, 1) := by decide +kernel
theorem dX8_log_15 : decode cX8_log 15 = .ok (.aload_n 0, 1) := by decide +kernel
theorem dX8_log_16 : decode cX8_log 16 = .ok (.getfield 10, 3) := by decide +kernel
theorem dX8_log_19 : decode cX8_log 19 = .ok (.getfield 167, 3) := by decide +kernel
theorem dX8_log_22 : decode cX8_log 22 = .ok (.astore_n 3, 1) := by decide +kernel
theorem dX8_log_23 : decode cX8_log 23 = .ok (.iload_n 1, 1) := by decide +kernel
theorem dX8_log_24 : decode cX8_log 24 = .ok (.aload_n 3, 1) := by decide +kernel
theorem dX8_log_25 : decode cX8_log 25 = .ok (.getfield 176, 3) := by decide +kernel
theorem dX8_log_28 : decode cX8_log 28 = .ok (.if_icmp .lt 6, 3) := by decide +kernel
theorem dX8_log_31 : decode cX8_log 31 = .ok (.bipush (-4), 2) := by decide +kernel
theorem dX8_log_33 : decode cX8_log 33 = .ok (.ireturn, 1) := by decide +kernel
theorem dX8_log_34 : decode cX8_log 34 = .ok (.aload_n 3, 1) := by decide +kernel
theorem dX8_log_35 : decode cX8_log 35 = .ok (.getfield 176, 3) := by decide +kernel
theorem dX8_log_38 : decode cX8_log 38 = .ok (.iconst 1, 1) := by decide +kernel
theorem dX8_log_39 : decode cX8_log 39 = .ok (.isub, 1) := by decide +kernel
theorem dX8_log_40 : decode cX8_log 40 = .ok (.iload_n 1, 1) := by decide +kernel
theorem dX8_log_41 : decode cX8_log 41 = .ok (.isub, 1) := by decide +kernel
theorem dX8_log_42 : decode cX8_log 42 = .ok (.istore 4, 2) := by decide +kernel
theorem dX8_log_44 : decode cX8_log 44 = .ok (.iload_n 2, 1) := by decide +kernel
theorem dX8_log_45 : decode cX8_log 45 = .ok (.lookupswitch 43 #[(0, 27), (1, 35)], 27) := by decide +kernel
theorem dX8_log_72 : decode cX8_log 72 = .ok (.aload_n 3, 1) := by decide +kernel
theorem dX8_log_73 : decode cX8_log 73 = .ok (.getfield 205, 3) := by decide +kernel
theorem dX8_log_76 : decode cX8_log 76 = .ok (.iload 4, 2) := by decide +kernel
theorem dX8_log_78 : decode cX8_log 78 = .ok (.iaload, 1) := by decide +kernel
theorem dX8_log_79 : decode cX8_log 79 = .ok (.ireturn, 1) := by decide +kernel
theorem dX8_log_80 : decode cX8_log 80 = .ok (.aload_n 3, 1) := by decide +kernel
theorem dX8_log_81 : decode cX8_log 81 = .ok (.getfield 208, 3) := by decide +kernel
theorem dX8_log_84 : decode cX8_log 84 = .ok (.iload 4, 2) := by decide +kernel
theorem dX8_log_86 : decode cX8_log 86 = .ok (.iaload, 1) := by decide +kernel
theorem dX8_log_87 : decode cX8_log 87 = .ok (.ireturn, 1) := by decide +kernel
theorem dX8_log_88 : decode cX8_log 88 = .ok (.aload_n 3, 1) := by decide +kernel
theorem dX8_log_89 : decode cX8_log 89 = .ok (.getfield 211, 3) := by decide +kernel
theorem dX8_log_92 : decode cX8_log 92 = .ok (.iload 4, 2) := by decide +kernel
theorem dX8_log_94 : decode cX8_log 94 = .ok (.iaload, 1) := by decide +kernel
theorem dX8_log_95 : decode cX8_log 95 = .ok (.ireturn, 1) := by decide +kernel
theorem dX8_plan_0 : decode cX8_plan 0 = .ok (.aload_n 0, 1) := by decide +kernel
theorem dX8_plan_1 : decode cX8_plan 1 = .ok (.getfield 10, 3) := by decide +kernel
theorem dX8_plan_4 : decode cX8_plan 4 = .ok (.iload_n 1, 1) := by decide +kernel
theorem dX8_plan_5 : decode cX8_plan 5 = .ok (.invokevirtual 66, 3) := by decide +kernel
theorem dX8_plan_8 : decode cX8_plan 8 = .ok (.ifCond .eq 7, 3) := by decide +kernel
theorem dX8_plan_11 : decode cX8_plan 11 = .ok (.iload_n 2, 1) := by decide +kernel
theorem dX8_plan_12 : decode cX8_plan 12 = .ok (.ifCond .ge 5, 3) := by decide +kernel
theorem dX8_plan_15 : decode cX8_plan 15 = .ok (.iconst (-1), 1) := by decide +kernel
theorem dX8_plan_16 : decode cX8_plan 16 = .ok (.ireturn, 1) := by decide +kernel
theorem dX8_plan_17 : decode cX8_plan 17 = .ok (.aload_n 0, 1) := by decide +kernel
theorem dX8_plan_18 : decode cX8_plan 18 = .ok (.getfield 33, 3) := by decide +kernel
theorem dX8_plan_21 : decode cX8_plan 21 = .ok (.aload_n 0, 1) := by decide +kernel
theorem dX8_plan_22 : decode cX8_plan 22 = .ok (.getfield 10, 3) := by decide +kernel
theorem dX8_plan_25 : decode cX8_plan 25 = .ok (.iload_n 1, 1) := by decide +kernel
theorem dX8_plan_26 : decode cX8_plan 26 = .ok (.invokevirtual 214, 3) := by decide +kernel
theorem dX8_plan_29 : decode cX8_plan 29 = .ok (.iload_n 2, 1) := by decide +kernel
theorem dX8_plan_30 : decode cX8_plan 30 = .ok (.aload_n 0, 1) := by decide +kernel
theorem dX8_plan_31 : decode cX8_plan 31 = .ok (.getfield 33, 3) := by decide +kernel
theorem dX8_plan_34 : decode cX8_plan 34 = .ok (.getfield 218, 3) := by decide +kernel
theorem dX8_plan_37 : decode cX8_plan 37 = .ok (.if_icmp .lt 6, 3) := by decide +kernel
theorem dX8_plan_40 : decode cX8_plan 40 = .ok (.bipush (-4), 2) := by decide +kernel
theorem dX8_plan_42 : decode cX8_plan 42 = .ok (.ireturn, 1) := by decide +kernel
theorem dX8_plan_43 : decode cX8_plan 43 = .ok (.bipush 100, 2) := by decide +kernel
theorem dX8_plan_45 : decode cX8_plan 45 = .ok (.aload_n 0, 1) := by decide +kernel
theorem dX8_plan_46 : decode cX8_plan 46 = .ok (.getfield 33, 3) := by decide +kernel
theorem dX8_plan_49 : decode cX8_plan 49 = .ok (.getfield 219, 3) := by decide +kernel
theorem dX8_plan_52 : decode cX8_plan 52 = .ok (.iload_n 2, 1) := by decide +kernel
theorem dX8_plan_53 : decode cX8_plan 53 = .ok (.iaload, 1) := by decide +kernel
theorem dX8_plan_54 : decode cX8_plan 54 = .ok (.imul, 1) := by decide +kernel
theorem dX8_plan_55 : decode cX8_plan 55 = .ok (.aload_n 0, 1) := by decide +kernel
theorem dX8_plan_56 : decode cX8_plan 56 = .ok (.getfield 33, 3) := by decide +kernel
theorem dX8_plan_59 : decode cX8_plan 59 = .ok (.getfield 220, 3) := by decide +kernel
theorem dX8_plan_62 : decode cX8_plan 62 = .ok (.iload_n 2, 1) := by decide +kernel
theorem dX8_plan_63 : decode cX8_plan 63 = .ok (.iaload, 1) := by decide +kernel
theorem dX8_plan_64 : decode cX8_plan 64 = .ok (.iadd, 1) := by decide +kernel
theorem dX8_plan_65 : decode cX8_plan 65 = .ok (.ireturn, 1) := by decide +kernel
theorem dX8_canPlan_0 : decode cX8_canPlan 0 = .ok (.aload_n 0, 1) := by decide +kernel
theorem dX8_canPlan_1 : decode cX8_canPlan 1 = .ok (.getfield 10, 3) := by decide +kernel
theorem dX8_canPlan_4 : decode cX8_canPlan 4 = .ok (.iload_n 1, 1) := by decide +kernel
theorem dX8_canPlan_5 : decode cX8_canPlan 5 = .ok (.invokevirtual 66, 3) := by decide +kernel
theorem dX8_canPlan_8 : decode cX8_canPlan 8 = .ok (.ifCond .ne 5, 3) := by decide +kernel
theorem dX8_canPlan_11 : decode cX8_canPlan 11 = .ok (.iconst (-1), 1) := by decide +kernel
theorem dX8_canPlan_12 : decode cX8_canPlan 12 = .ok (.ireturn, 1) := by decide +kernel
theorem dX8_canPlan_13 : decode cX8_canPlan 13 = .ok (.aload_n 0, 1) := by decide +kernel
theorem dX8_canPlan_14 : decode cX8_canPlan 14 = .ok (.getfield 33, 3) := by decide +kernel
theorem dX8_canPlan_17 : decode cX8_canPlan 17 = .ok (.aload_n 0, 1) := by decide +kernel
theorem dX8_canPlan_18 : decode cX8_canPlan 18 = .ok (.getfield 10, 3) := by decide +kernel
theorem dX8_canPlan_21 : decode cX8_canPlan 21 = .ok (.iload_n 1, 1) := by decide +kernel
theorem dX8_canPlan_22 : decode cX8_canPlan 22 = .ok (.invokevirtual 214, 3) := by decide +kernel
theorem dX8_canPlan_25 : decode cX8_canPlan 25 = .ok (.aload_n 0, 1) := by decide +kernel
theorem dX8_canPlan_26 : decode cX8_canPlan 26 = .ok (.getfield 40, 3) := by decide +kernel
theorem dX8_canPlan_29 : decode cX8_canPlan 29 = .ok (.aload_n 0, 1) := by decide +kernel
theorem dX8_canPlan_30 : decode cX8_canPlan 30 = .ok (.getfield 10, 3) := by decide +kernel
theorem dX8_canPlan_33 : decode cX8_canPlan 33 = .ok (.aload_n 0, 1) := by decide +kernel
theorem dX8_canPlan_34 : decode cX8_canPlan 34 = .ok (.getfield 33, 3) := by decide +kernel
theorem dX8_canPlan_37 : decode cX8_canPlan 37 = .ok (.invokevirtual 221, 3) := by decide +kernel
theorem dX8_canPlan_40 : decode cX8_canPlan 40 = .ok (.aload_n 0, 1) := by decide +kernel
theorem dX8_canPlan_41 : decode cX8_canPlan 41 = .ok (.getfield 40, 3) := by decide +kernel
theorem dX8_canPlan_44 : decode cX8_canPlan 44 = .ok (.getfield 225, 3) := by decide +kernel
theorem dX8_canPlan_47 : decode cX8_canPlan 47 = .ok (.ireturn, 1) := by decide +kernel
theorem dX8_enter_0 : decode cX8_enter 0 = .ok (.aload_n 0, 1) := by decide +kernel
theorem dX8_enter_1 : decode cX8_enter 1 = .ok (.getfield 10, 3) := by decide +kernel
theorem dX8_enter_4 : decode cX8_enter 4 = .ok (.iload_n 1, 1) := by decide +kernel
theorem dX8_enter_5 : decode cX8_enter 5 = .ok (.invokevirtual 66, 3) := by decide +kernel
theorem dX8_enter_8 : decode cX8_enter 8 = .ok (.ifCond .eq 32, 3) := by decide +kernel
theorem dX8_enter_11 : decode cX8_enter 11 = .ok (.iload_n 2, 1) := by decide +kernel
theorem dX8_enter_12 : decode cX8_enter 12 = .ok (.iconst 0, 1) := by decide +kernel
theorem dX8_enter_13 : decode cX8_enter 13 = .ok (.bipush 50, 2) := by decide +kernel
theorem dX8_enter_15 : decode cX8_enter 15 = .ok (.invokestatic 44, 3) := by decide +kernel
theorem dX8_enter_18 : decode cX8_enter 18 = .ok (.ifCond .ne 22, 3) := by decide +kernel
theorem dX8_enter_21 : decode cX8_enter 21 = .ok (.iload_n 3, 1) := by decide +kernel
theorem dX8_enter_22 : decode cX8_enter 22 = .ok (.aload_n 0, 1) := by decide +kernel
theorem dX8_enter_23 : decode cX8_enter 23 = .ok (.getfield 10, 3) := by decide +kernel
theorem dX8_enter_26 : decode cX8_enter 26 = .ok (.getfield 80, 3) := by decide +kernel
theorem dX8_enter_29 : decode cX8_enter 29 = .ok (.getfield 164, 3) := by decide +kernel
theorem dX8_enter_32 : decode cX8_enter 32 = .ok (.ldc 228, 2) := by decide +kernel
theorem dX8_enter_34 : decode cX8_enter 34 = .ok (.invokestatic 44, 3) := by decide +kernel
theorem dX8_enter_37 : decode cX8_enter 37 = .ok (.ifCond .eq 5, 3) := by decide +kernel
theorem dX8_enter_40 : decode cX8_enter 40 = .ok (.iconst (-1), 1) := by decide +kernel
theorem dX8_enter_41 : decode cX8_enter 41 = .ok (.ireturn, 1) := by decide +kernel
theorem dX8_enter_42 : decode cX8_enter 42 = .ok (.aload_n 0, 1) := by decide +kernel
theorem dX8_enter_43 : decode cX8_enter 43 = .ok (.getfield 10, 3) := by decide +kernel
theorem dX8_enter_46 : decode cX8_enter 46 = .ok (.getfield 80, 3) := by decide +kernel
theorem dX8_enter_49 : decode cX8_enter 49 = .ok (.getfield 117, 3) := by decide +kernel
theorem dX8_enter_52 : decode cX8_enter 52 = .ok (.iload_n 1, 1) := by decide +kernel
theorem dX8_enter_53 : decode cX8_enter 53 = .ok (.baload, 1) := by decide +kernel
theorem dX8_enter_54 : decode cX8_enter 54 = .ok (.ifCond .eq 18, 3) := by decide +kernel
theorem dX8_enter_57 : decode cX8_enter 57 = .ok (.aload_n 0, 1) := by decide +kernel
theorem dX8_enter_58 : decode cX8_enter 58 = .ok (.getfield 10, 3) := by decide +kernel
theorem dX8_enter_61 : decode cX8_enter 61 = .ok (.getfield 80, 3) := by decide +kernel
theorem dX8_enter_64 : decode cX8_enter 64 = .ok (.getfield 120, 3) := by decide +kernel
theorem dX8_enter_67 : decode cX8_enter 67 = .ok (.iload_n 1, 1) := by decide +kernel
theorem dX8_enter_68 : decode cX8_enter 68 = .ok (.baload, 1) := by decide +kernel
theorem dX8_enter_69 : decode cX8_enter 69 = .ok (.ifCond .eq 6, 3) := by decide +kernel
theorem dX8_enter_72 : decode cX8_enter 72 = .ok (.bipush (-2), 2) := by decide +kernel
theorem dX8_enter_74 : decode cX8_enter 74 = .ok (.ireturn, 1) := by decide +kernel
theorem dX8_enter_75 : decode cX8_enter 75 = .ok (.aload_n 0, 1) := by decide +kernel
theorem dX8_enter_76 : decode cX8_enter 76 = .ok (.getfield 19, 3) := by decide +kernel
theorem dX8_enter_79 : decode cX8_enter 79 = .ok (.aload_n 0, 1) := by decide +kernel
theorem dX8_enter_80 : decode cX8_enter 80 = .ok (.getfield 10, 3) := by decide +kernel
theorem dX8_enter_83 : decode cX8_enter 83 = .ok (.invokevirtual 58, 3) := by decide +kernel
theorem dX8_enter_86 : decode cX8_enter 86 = .ok (.aload_n 0, 1) := by decide +kernel
theorem dX8_enter_87 : decode cX8_enter 87 = .ok (.getfield 10, 3) := by decide +kernel
theorem dX8_enter_90 : decode cX8_enter 90 = .ok (.getfield 80, 3) := by decide +kernel
theorem dX8_enter_93 : decode cX8_enter 93 = .ok (.iload_n 1, 1) := by decide +kernel
theorem dX8_enter_94 : decode cX8_enter 94 = .ok (.iload_n 2, 1) := by decide +kernel
theorem dX8_enter_95 : decode cX8_enter 95 = .ok (.iload_n 3, 1) := by decide +kernel
theorem dX8_enter_96 : decode cX8_enter 96 = .ok (.invokevirtual 229, 3) := by decide +kernel
theorem dX8_enter_99 : decode cX8_enter 99 = .ok (.aload_n 0, 1) := by decide +kernel
theorem dX8_enter_100 : decode cX8_enter 100 = .ok (.getfield 10, 3) := by decide +kernel
theorem dX8_enter_103 : decode cX8_enter 103 = .ok (.getfield 80, 3) := by decide +kernel
theorem dX8_enter_106 : decode cX8_enter 106 = .ok (.getfield 120, 3) := by decide +kernel
theorem dX8_enter_109 : decode cX8_enter 109 = .ok (.invokestatic 157, 3) := by decide +kernel
theorem dX8_enter_112 : decode cX8_enter 112 = .ok (.ireturn, 1) := by decide +kernel
theorem dX8_leave_0 : decode cX8_leave 0 = .ok (.aload_n 0, 1) := by decide +kernel
theorem dX8_leave_1 : decode cX8_leave 1 = .ok (.getfield 10, 3) := by decide +kernel
theorem dX8_leave_4 : decode cX8_leave 4 = .ok (.iload_n 1, 1) := by decide +kernel
theorem dX8_leave_5 : decode cX8_leave 5 = .ok (.invokevirtual 66, 3) := by decide +kernel
theorem dX8_leave_8 : decode cX8_leave 8 = .ok (.ifCond .eq 13, 3) := by decide +kernel
theorem dX8_leave_11 : decode cX8_leave 11 = .ok (.iload_n 2, 1) := by decide +kernel
theorem dX8_leave_12 : decode cX8_leave 12 = .ok (.iconst 0, 1) := by decide +kernel
theorem dX8_leave_13 : decode cX8_leave 13 = .ok (.bipush 50, 2) := by decide +kernel
theorem dX8_leave_15 : decode cX8_leave 15 = .ok (.invokestatic 44, 3) := by decide +kernel
theorem dX8_leave_18 : decode cX8_leave 18 = .ok (.ifCond .eq 5, 3) := by decide +kernel
theorem dX8_leave_21 : decode cX8_leave 21 = .ok (.iconst (-1), 1) := by decide +kernel
theorem dX8_leave_22 : decode cX8_leave 22 = .ok (.ireturn, 1) := by decide +kernel
theorem dX8_leave_23 : decode cX8_leave 23 = .ok (.aload_n 0, 1) := by decide +kernel
theorem dX8_leave_24 : decode cX8_leave 24 = .ok (.getfield 10, 3) := by decide +kernel
theorem dX8_leave_27 : decode cX8_leave 27 = .ok (.getfield 80, 3) := by decide +kernel
theorem dX8_leave_30 : decode cX8_leave 30 = .ok (.getfield 120, 3) := by decide +kernel
theorem dX8_leave_33 : decode cX8_leave 33 = .ok (.iload_n 1, 1) := by decide +kernel
theorem dX8_leave_34 : decode cX8_leave 34 = .ok (.baload, 1) := by decide +kernel
theorem dX8_leave_35 : decode cX8_leave 35 = .ok (.ifCond .eq 19, 3) := by decide +kernel
theorem dX8_leave_38 : decode cX8_leave 38 = .ok (.aload_n 0, 1) := by decide +kernel
theorem dX8_leave_39 : decode cX8_leave 39 = .ok (.getfield 10, 3) := by decide +kernel
theorem dX8_leave_42 : decode cX8_leave 42 = .ok (.getfield 80, 3) := by decide +kernel
theorem dX8_leave_45 : decode cX8_leave 45 = .ok (.getfield 233, 3) := by decide +kernel
theorem dX8_leave_48 : decode cX8_leave 48 = .ok (.iload_n 1, 1) := by decide +kernel
theorem dX8_leave_49 : decode cX8_leave 49 = .ok (.iaload, 1) := by decide +kernel
theorem dX8_leave_50 : decode cX8_leave 50 = .ok (.iload_n 2, 1) := by decide +kernel
theorem dX8_leave_51 : decode cX8_leave 51 = .ok (.if_icmp .ge 6, 3) := by decide +kernel
theorem dX8_leave_54 : decode cX8_leave 54 = .ok (.bipush (-2), 2) := by decide +kernel
theorem dX8_leave_56 : decode cX8_leave 56 = .ok (.ireturn, 1) := by decide +kernel
theorem dX8_leave_57 : decode cX8_leave 57 = .ok (.aload_n 0, 1) := by decide +kernel
theorem dX8_leave_58 : decode cX8_leave 58 = .ok (.getfield 19, 3) := by decide +kernel
theorem dX8_leave_61 : decode cX8_leave 61 = .ok (.aload_n 0, 1) := by decide +kernel
theorem dX8_leave_62 : decode cX8_leave 62 = .ok (.getfield 10, 3) := by decide +kernel
theorem dX8_leave_65 : decode cX8_leave 65 = .ok (.invokevirtual 58, 3) := by decide +kernel
theorem dX8_leave_68 : decode cX8_leave 68 = .ok (.aload_n 0, 1) := by decide +kernel
theorem dX8_leave_69 : decode cX8_leave 69 = .ok (.getfield 10, 3) := by decide +kernel
theorem dX8_leave_72 : decode cX8_leave 72 = .ok (.getfield 80, 3) := by decide +kernel
theorem dX8_leave_75 : decode cX8_leave 75 = .ok (.iload_n 1, 1) := by decide +kernel
theorem dX8_leave_76 : decode cX8_leave 76 = .ok (.iload_n 2, 1) := by decide +kernel
theorem dX8_leave_77 : decode cX8_leave 77 = .ok (.invokevirtual 236, 3) := by decide +kernel
theorem dX8_leave_80 : decode cX8_leave 80 = .ok (.ireturn, 1) := by decide +kernel
theorem dX8_fetch_0 : decode cX8_fetch 0 = .ok (.aload_n 0, 1) := by decide +kernel
theorem dX8_fetch_1 : decode cX8_fetch 1 = .ok (.getfield 10, 3) := by decide +kernel
theorem dX8_fetch_4 : decode cX8_fetch 4 = .ok (.iload_n 1, 1) := by decide +kernel
theorem dX8_fetch_5 : decode cX8_fetch 5 = .ok (.invokevirtual 66, 3) := by decide +kernel
theorem dX8_fetch_8 : decode cX8_fetch 8 = .ok (.ifCond .ne 5, 3) := by decide +kernel
theorem dX8_fetch_11 : decode cX8_fetch 11 = .ok (.iconst (-1), 1) := by decide +kernel
theorem dX8_fetch_12 : decode cX8_fetch 12 = .ok (.ireturn, 1) := by decide +kernel
theorem dX8_fetch_13 : decode cX8_fetch 13 = .ok (.aload_n 0, 1) := by decide +kernel
theorem dX8_fetch_14 : decode cX8_fetch 14 = .ok (.getfield 10, 3) := by decide +kernel
theorem dX8_fetch_17 : decode cX8_fetch 17 = .ok (.getfield 80, 3) := by decide +kernel
theorem dX8_fetch_20 : decode cX8_fetch 20 = .ok (.getfield 123, 3) := by decide +kernel
theorem dX8_fetch_23 : decode cX8_fetch 23 = .ok (.iload_n 1, 1) := by decide +kernel
theorem dX8_fetch_24 : decode cX8_fetch 24 = .ok (.iaload, 1) := by decide +kernel
theorem dX8_fetch_25 : decode cX8_fetch 25 = .ok (.istore_n 2, 1) := by decide +kernel
theorem dX8_fetch_26 : decode cX8_fetch 26 = .ok (.iload_n 2, 1) := by decide +kernel
theorem dX8_fetch_27 : decode cX8_fetch 27 = .ok (.ifCond .eq 33, 3) := by decide +kernel
theorem dX8_fetch_30 : decode cX8_fetch 30 = .ok (.aload_n 0, 1) := by decide +kernel
theorem dX8_fetch_31 : decode cX8_fetch 31 = .ok (.getfield 10, 3) := by decide +kernel
theorem dX8_fetch_34 : decode cX8_fetch 34 = .ok (.getfield 48, 3) := by decide +kernel
theorem dX8_fetch_37 : decode cX8_fetch 37 = .ok (.getfield 103, 3) := by decide +kernel
theorem dX8_fetch_40 : decode cX8_fetch 40 = .ok (.iload_n 1, 1) := by decide +kernel
theorem dX8_fetch_41 : decode cX8_fetch 41 = .ok (.baload, 1) := by decide +kernel
theorem dX8_fetch_42 : decode cX8_fetch 42 = .ok (.ifCond .ne 18, 3) := by decide +kernel
theorem dX8_fetch_45 : decode cX8_fetch 45 = .ok (.aload_n 0, 1) := by decide +kernel
theorem dX8_fetch_46 : decode cX8_fetch 46 = .ok (.getfield 10, 3) := by decide +kernel
theorem dX8_fetch_49 : decode cX8_fetch 49 = .ok (.getfield 80, 3) := by decide +kernel
theorem dX8_fetch_52 : decode cX8_fetch 52 = .ok (.getfield 120, 3) := by decide +kernel
theorem dX8_fetch_55 : decode cX8_fetch 55 = .ok (.iload_n 1, 1) := by decide +kernel
theorem dX8_fetch_56 : decode cX8_fetch 56 = .ok (.baload, 1) := by decide +kernel
theorem dX8_fetch_57 : decode cX8_fetch 57 = .ok (.ifCond .eq 6, 3) := by decide +kernel
theorem dX8_fetch_60 : decode cX8_fetch 60 = .ok (.bipush (-2), 2) := by decide +kernel
theorem dX8_fetch_62 : decode cX8_fetch 62 = .ok (.ireturn, 1) := by decide +kernel
theorem dX8_fetch_63 : decode cX8_fetch 63 = .ok (.aload_n 0, 1) := by decide +kernel
theorem dX8_fetch_64 : decode cX8_fetch 64 = .ok (.getfield 19, 3) := by decide +kernel
theorem dX8_fetch_67 : decode cX8_fetch 67 = .ok (.aload_n 0, 1) := by decide +kernel
theorem dX8_fetch_68 : decode cX8_fetch 68 = .ok (.getfield 10, 3) := by decide +kernel
theorem dX8_fetch_71 : decode cX8_fetch 71 = .ok (.invokevirtual 58, 3) := by decide +kernel
theorem dX8_fetch_74 : decode cX8_fetch 74 = .ok (.aload_n 0, 1) := by decide +kernel
theorem dX8_fetch_75 : decode cX8_fetch 75 = .ok (.getfield 10, 3) := by decide +kernel
theorem dX8_fetch_78 : decode cX8_fetch 78 = .ok (.getfield 80, 3) := by decide +kernel
theorem dX8_fetch_81 : decode cX8_fetch 81 = .ok (.getfield 123, 3) := by decide +kernel
theorem dX8_fetch_84 : decode cX8_fetch 84 = .ok (.iload_n 1, 1) := by decide +kernel
theorem dX8_fetch_85 : decode cX8_fetch 85 = .ok (.iconst 0, 1) := by decide +kernel
theorem dX8_fetch_86 : decode cX8_fetch 86 = .ok (.iastore, 1) := by decide +kernel
theorem dX8_fetch_87 : decode cX8_fetch 87 = .ok (.iload_n 2, 1) := by decide +kernel
theorem dX8_fetch_88 : decode cX8_fetch 88 = .ok (.ireturn, 1) := by decide +kernel
theorem dX8_pass_0 : decode cX8_pass 0 = .ok (.iload_n 1, 1) := by decide +kernel
theorem dX8_pass_1 : decode cX8_pass 1 = .ok (.iconst 1, 1) := by decide +kernel
theorem dX8_pass_2 : decode cX8_pass 2 = .ok (.sipush 10000, 3) := by decide +kernel
theorem dX8_pass_5 : decode cX8_pass 5 = .ok (.invokestatic 44, 3) := by decide +kernel
theorem dX8_pass_8 : decode cX8_pass 8 = .ok (.ifCond .eq 5, 3) := by decide +kernel
theorem dX8_pass_11 : decode cX8_pass 11 = .ok (.iconst (-1), 1) := by decide +kernel
theorem dX8_pass_12 : decode cX8_pass 12 = .ok (.ireturn, 1) := by decide +kernel
theorem dX8_pass_13 : decode cX8_pass 13 = .ok (.aload_n 0, 1) := by decide +kernel
theorem dX8_pass_14 : decode cX8_pass 14 = .ok (.getfield 10, 3) := by decide +kernel
theorem dX8_pass_17 : decode cX8_pass 17 = .ok (.getfield 80, 3) := by decide +kernel
theorem dX8_pass_20 : decode cX8_pass 20 = .ok (.getfield 164, 3) := by decide +kernel
theorem dX8_pass_23 : decode cX8_pass 23 = .ok (.iload_n 1, 1) := by decide +kernel
theorem dX8_pass_24 : decode cX8_pass 24 = .ok (.iadd, 1) := by decide +kernel
theorem dX8_pass_25 : decode cX8_pass 25 = .ok (.ldc 228, 2) := by decide +kernel
theorem dX8_pass_27 : decode cX8_pass 27 = .ok (.if_icmp .le 6, 3) := by decide +kernel
theorem dX8_pass_30 : decode cX8_pass 30 = .ok (.bipush (-3), 2) := by decide +kernel
theorem dX8_pass_32 : decode cX8_pass 32 = .ok (.ireturn, 1) := by decide +kernel
theorem dX8_pass_33 : decode cX8_pass 33 = .ok (.aload_n 0, 1) := by decide +kernel
theorem dX8_pass_34 : decode cX8_pass 34 = .ok (.getfield 19, 3) := by decide +kernel
theorem dX8_pass_37 : decode cX8_pass 37 = .ok (.aload_n 0, 1) := by decide +kernel
theorem dX8_pass_38 : decode cX8_pass 38 = .ok (.getfield 10, 3) := by decide +kernel
theorem dX8_pass_41 : decode cX8_pass 41 = .ok (.invokevirtual 58, 3) := by decide +kernel
theorem dX8_pass_44 : decode cX8_pass 44 = .ok (.aload_n 0, 1) := by decide +kernel
theorem dX8_pass_45 : decode cX8_pass 45 = .ok (.getfield 10, 3) := by decide +kernel
theorem dX8_pass_48 : decode cX8_pass 48 = .ok (.getfield 80, 3) := by decide +kernel
theorem dX8_pass_51 : decode cX8_pass 51 = .ok (.dup, 1) := by decide +kernel
theorem dX8_pass_52 : decode cX8_pass 52 = .ok (.getfield 164, 3) := by decide +kernel
theorem dX8_pass_55 : decode cX8_pass 55 = .ok (.iload_n 1, 1) := by decide +kernel
theorem dX8_pass_56 : decode cX8_pass 56 = .ok (.iadd, 1) := by decide +kernel
theorem dX8_pass_57 : decode cX8_pass 57 = .ok (.putfield 164, 3) := by decide +kernel
theorem dX8_pass_60 : decode cX8_pass 60 = .ok (.aload_n 0, 1) := by decide +kernel
theorem dX8_pass_61 : decode cX8_pass 61 = .ok (.getfield 10, 3) := by decide +kernel
theorem dX8_pass_64 : decode cX8_pass 64 = .ok (.getfield 80, 3) := by decide +kernel
theorem dX8_pass_67 : decode cX8_pass 67 = .ok (.getfield 164, 3) := by decide +kernel
theorem dX8_pass_70 : decode cX8_pass 70 = .ok (.ireturn, 1) := by decide +kernel
theorem dX8_type_0 : decode cX8_type 0 = .ok (.iload_n 1, 1) := by decide +kernel
theorem dX8_type_1 : decode cX8_type 1 = .ok (.bipush 32, 2) := by decide +kernel
theorem dX8_type_3 : decode cX8_type 3 = .ok (.bipush 126, 2) := by decide +kernel
theorem dX8_type_5 : decode cX8_type 5 = .ok (.invokestatic 44, 3) := by decide +kernel
theorem dX8_type_8 : decode cX8_type 8 = .ok (.ifCond .eq 5, 3) := by decide +kernel
theorem dX8_type_11 : decode cX8_type 11 = .ok (.iconst (-1), 1) := by decide +kernel
theorem dX8_type_12 : decode cX8_type 12 = .ok (.ireturn, 1) := by decide +kernel
theorem dX8_type_13 : decode cX8_type 13 = .ok (.aload_n 0, 1) := by decide +kernel
theorem dX8_type_14 : decode cX8_type 14 = .ok (.getfield 26, 3) := by decide +kernel
theorem dX8_type_17 : decode cX8_type 17 = .ok (.getfield 191, 3) := by decide +kernel
theorem dX8_type_20 : decode cX8_type 20 = .ok (.bipush 60, 2) := by decide +kernel
theorem dX8_type_22 : decode cX8_type 22 = .ok (.if_icmp .lt 6, 3) := by decide +kernel
theorem dX8_type_25 : decode cX8_type 25 = .ok (.bipush (-3), 2) := by decide +kernel
theorem dX8_type_27 : decode cX8_type 27 = .ok (.ireturn, 1) := by decide +kernel
theorem dX8_type_28 : decode cX8_type 28 = .ok (.aload_n 0, 1) := by decide +kernel
theorem dX8_type_29 : decode cX8_type 29 = .ok (.getfield 26, 3) := by decide +kernel
theorem dX8_type_32 : decode cX8_type 32 = .ok (.getfield 239, 3) := by decide +kernel
theorem dX8_type_35 : decode cX8_type 35 = .ok (.aload_n 0, 1) := by decide +kernel
theorem dX8_type_36 : decode cX8_type 36 = .ok (.getfield 26, 3) := by decide +kernel
theorem dX8_type_39 : decode cX8_type 39 = .ok (.getfield 191, 3) := by decide +kernel
theorem dX8_type_42 : decode cX8_type 42 = .ok (.iload_n 1, 1) := by decide +kernel
theorem dX8_type_43 : decode cX8_type 43 = .ok (.iastore, 1) := by decide +kernel
theorem dX8_type_44 : decode cX8_type 44 = .ok (.aload_n 0, 1) := by decide +kernel
theorem dX8_type_45 : decode cX8_type 45 = .ok (.getfield 26, 3) := by decide +kernel
theorem dX8_type_48 : decode cX8_type 48 = .ok (.dup, 1) := by decide +kernel
theorem dX8_type_49 : decode cX8_type 49 = .ok (.getfield 191, 3) := by decide +kernel
theorem dX8_type_52 : decode cX8_type 52 = .ok (.iconst 1, 1) := by decide +kernel
theorem dX8_type_53 : decode cX8_type 53 = .ok (.iadd, 1) := by decide +kernel
theorem dX8_type_54 : decode cX8_type 54 = .ok (.putfield 191, 3) := by decide +kernel
theorem dX8_type_57 : decode cX8_type 57 = .ok (.aload_n 0, 1) := by decide +kernel
theorem dX8_type_58 : decode cX8_type 58 = .ok (.getfield 26, 3) := by decide +kernel
theorem dX8_type_61 : decode cX8_type 61 = .ok (.getfield 191, 3) := by decide +kernel
theorem dX8_type_64 : decode cX8_type 64 = .ok (.ireturn, 1) := by decide +kernel
theorem dX8_clearText_0 : decode cX8_clearText 0 = .ok (.aload_n 0, 1) := by decide +kernel
theorem dX8_clearText_1 : decode cX8_clearText 1 = .ok (.getfield 26, 3) := by decide +kernel
theorem dX8_clearText_4 : decode cX8_clearText 4 = .ok (.getfield 191, 3) := by decide +kernel
theorem dX8_clearText_7 : decode cX8_clearText 7 = .ok (.istore_n 1, 1) := by decide +kernel
theorem dX8_clearText_8 : decode cX8_clearText 8 = .ok (.aload_n 0, 1) := by decide +kernel
theorem dX8_clearText_9 : decode cX8_clearText 9 = .ok (.getfield 26, 3) := by decide +kernel
theorem dX8_clearText_12 : decode cX8_clearText 12 = .ok (.iconst 0, 1) := by decide +kernel
theorem dX8_clearText_13 : decode cX8_clearText 13 = .ok (.putfield 191, 3) := by decide +kernel
theorem dX8_clearText_16 : decode cX8_clearText 16 = .ok (.iload_n 1, 1) := by decide +kernel
theorem dX8_clearText_17 : decode cX8_clearText 17 = .ok (.ireturn, 1) := by decide +kernel
theorem dX8_fault_0 : decode cX8_fault 0 = .ok (.iload_n 1, 1) := by decide +kernel
theorem dX8_fault_1 : decode cX8_fault 1 = .ok (.iconst 0, 1) := by decide +kernel
theorem dX8_fault_2 : decode cX8_fault 2 = .ok (.iconst 1, 1) := by decide +kernel
theorem dX8_fault_3 : decode cX8_fault 3 = .ok (.invokestatic 44, 3) := by decide +kernel
theorem dX8_fault_6 : decode cX8_fault 6 = .ok (.ifCond .eq 5, 3) := by decide +kernel
theorem dX8_fault_9 : decode cX8_fault 9 = .ok (.iconst (-1), 1) := by decide +kernel
theorem dX8_fault_10 : decode cX8_fault 10 = .ok (.ireturn, 1) := by decide +kernel
theorem dX8_fault_11 : decode cX8_fault 11 = .ok (.aload_n 0, 1) := by decide +kernel
theorem dX8_fault_12 : decode cX8_fault 12 = .ok (.getfield 40, 3) := by decide +kernel
theorem dX8_fault_15 : decode cX8_fault 15 = .ok (.aload_n 0, 1) := by decide +kernel
theorem dX8_fault_16 : decode cX8_fault 16 = .ok (.getfield 10, 3) := by decide +kernel
theorem dX8_fault_19 : decode cX8_fault 19 = .ok (.aload_n 0, 1) := by decide +kernel
theorem dX8_fault_20 : decode cX8_fault 20 = .ok (.getfield 26, 3) := by decide +kernel
theorem dX8_fault_23 : decode cX8_fault 23 = .ok (.invokevirtual 242, 3) := by decide +kernel
theorem dX8_fault_26 : decode cX8_fault 26 = .ok (.aload_n 0, 1) := by decide +kernel
theorem dX8_fault_27 : decode cX8_fault 27 = .ok (.getfield 40, 3) := by decide +kernel
theorem dX8_fault_30 : decode cX8_fault 30 = .ok (.getfield 246, 3) := by decide +kernel
theorem dX8_fault_33 : decode cX8_fault 33 = .ok (.ifCond .ne 6, 3) := by decide +kernel
theorem dX8_fault_36 : decode cX8_fault 36 = .ok (.bipush (-4), 2) := by decide +kernel
theorem dX8_fault_38 : decode cX8_fault 38 = .ok (.ireturn, 1) := by decide +kernel
theorem dX8_fault_39 : decode cX8_fault 39 = .ok (.iload_n 1, 1) := by decide +kernel
theorem dX8_fault_40 : decode cX8_fault 40 = .ok (.ifCond .ne 13, 3) := by decide +kernel
theorem dX8_fault_43 : decode cX8_fault 43 = .ok (.aload_n 0, 1) := by decide +kernel
theorem dX8_fault_44 : decode cX8_fault 44 = .ok (.getfield 40, 3) := by decide +kernel
theorem dX8_fault_47 : decode cX8_fault 47 = .ok (.getfield 249, 3) := by decide +kernel
theorem dX8_fault_50 : decode cX8_fault 50 = .ok (.goto 10, 3) := by decide +kernel
theorem dX8_fault_53 : decode cX8_fault 53 = .ok (.aload_n 0, 1) := by decide +kernel
theorem dX8_fault_54 : decode cX8_fault 54 = .ok (.getfield 40, 3) := by decide +kernel
theorem dX8_fault_57 : decode cX8_fault 57 = .ok (.getfield 246, 3) := by decide +kernel
theorem dX8_fault_60 : decode cX8_fault 60 = .ok (.ireturn, 1) := by decide +kernel
theorem dX8_play_0 : decode cX8_play 0 = .ok (.aload_n 0, 1) := by decide +kernel
theorem dX8_play_1 : decode cX8_play 1 = .ok (.getfield 40, 3) := by decide +kernel
theorem dX8_play_4 : decode cX8_play 4 = .ok (.aload_n 0, 1) := by decide +kernel
theorem dX8_play_5 : decode cX8_play 5 = .ok (.getfield 10, 3) := by decide +kernel
theorem dX8_play_8 : decode cX8_play 8 = .ok (.aload_n 0, 1) := by decide +kernel
theorem dX8_play_9 : decode cX8_play 9 = .ok (.getfield 26, 3) := by decide +kernel
theorem dX8_play_12 : decode cX8_play 12 = .ok (.invokevirtual 242, 3) := by decide +kernel
theorem dX8_play_15 : decode cX8_play 15 = .ok (.aload_n 0, 1) := by decide +kernel
theorem dX8_play_16 : decode cX8_play 16 = .ok (.getfield 40, 3) := by decide +kernel
theorem dX8_play_19 : decode cX8_play 19 = .ok (.getfield 246, 3) := by decide +kernel
theorem dX8_play_22 : decode cX8_play 22 = .ok (.ifCond .eq 6, 3) := by decide +kernel
theorem dX8_play_25 : decode cX8_play 25 = .ok (.bipush (-2), 2) := by decide +kernel
theorem dX8_play_27 : decode cX8_play 27 = .ok (.ireturn, 1) := by decide +kernel
theorem dX8_play_28 : decode cX8_play 28 = .ok (.aload_n 0, 1) := by decide +kernel
theorem dX8_play_29 : decode cX8_play 29 = .ok (.getfield 19, 3) := by decide +kernel
theorem dX8_play_32 : decode cX8_play 32 = .ok (.aload_n 0, 1) := by decide +kernel
theorem dX8_play_33 : decode cX8_play 33 = .ok (.getfield 10, 3) := by decide +kernel
theorem dX8_play_36 : decode cX8_play 36 = .ok (.invokevirtual 58, 3) := by decide +kernel
theorem dX8_play_39 : decode cX8_play 39 = .ok (.aload_n 0, 1) := by decide +kernel
theorem dX8_play_40 : decode cX8_play 40 = .ok (.getfield 10, 3) := by decide +kernel
theorem dX8_play_43 : decode cX8_play 43 = .ok (.aload_n 0, 1) := by decide +kernel
theorem dX8_play_44 : decode cX8_play 44 = .ok (.getfield 40, 3) := by decide +kernel
theorem dX8_play_47 : decode cX8_play 47 = .ok (.getfield 252, 3) := by decide +kernel
theorem dX8_play_50 : decode cX8_play 50 = .ok (.invokevirtual 255, 3) := by decide +kernel
theorem dX8_play_53 : decode cX8_play 53 = .ok (.aload_n 0, 1) := by decide +kernel
theorem dX8_play_54 : decode cX8_play 54 = .ok (.getfield 40, 3) := by decide +kernel
theorem dX8_play_57 : decode cX8_play 57 = .ok (.getfield 225, 3) := by decide +kernel
theorem dX8_play_60 : decode cX8_play 60 = .ok (.ireturn, 1) := by decide +kernel
