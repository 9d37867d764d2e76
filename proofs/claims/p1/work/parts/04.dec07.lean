theorem dMD_greater_9 : decode cMD_greater 9 = .ok (.iload_n 1, 1) := by decide +kernel
theorem dMD_greater_10 : decode cMD_greater 10 = .ok (.ireturn, 1) := by decide +kernel
theorem dMD_group_0 : decode cMD_group 0 = .ok (.aload_n 0, 1) := by decide +kernel
theorem dMD_group_1 : decode cMD_group 1 = .ok (.getfield 7, 3) := by decide +kernel
theorem dMD_group_4 : decode cMD_group 4 = .ok (.bipush 8, 2) := by decide +kernel
theorem dMD_group_6 : decode cMD_group 6 = .ok (.if_icmp .ne 5, 3) := by decide +kernel
theorem dMD_group_11 : decode cMD_group 11 = .ok (.aload_n 0, 1) := by decide +kernel
theorem dMD_group_12 : decode cMD_group 12 = .ok (.getfield 13, 3) := by decide +kernel
theorem dMD_group_15 : decode cMD_group 15 = .ok (.aload_n 0, 1) := by decide +kernel
theorem dMD_group_16 : decode cMD_group 16 = .ok (.getfield 7, 3) := by decide +kernel
theorem dMD_group_19 : decode cMD_group 19 = .ok (.aload_n 0, 1) := by decide +kernel
theorem dMD_group_20 : decode cMD_group 20 = .ok (.aload_n 0, 1) := by decide +kernel
theorem dMD_group_21 : decode cMD_group 21 = .ok (.getfield 7, 3) := by decide +kernel
theorem dMD_group_24 : decode cMD_group 24 = .ok (.iconst 1, 1) := by decide +kernel
theorem dMD_group_25 : decode cMD_group 25 = .ok (.isub, 1) := by decide +kernel
theorem dMD_group_26 : decode cMD_group 26 = .ok (.invokevirtual 75, 3) := by decide +kernel
theorem dMD_group_29 : decode cMD_group 29 = .ok (.iastore, 1) := by decide +kernel
theorem dMD_group_30 : decode cMD_group 30 = .ok (.aload_n 0, 1) := by decide +kernel
theorem dMD_group_31 : decode cMD_group 31 = .ok (.getfield 17, 3) := by decide +kernel
theorem dMD_group_34 : decode cMD_group 34 = .ok (.aload_n 0, 1) := by decide +kernel
theorem dMD_group_35 : decode cMD_group 35 = .ok (.getfield 7, 3) := by decide +kernel
theorem dMD_group_38 : decode cMD_group 38 = .ok (.iconst 0, 1) := by decide +kernel
theorem dMD_group_39 : decode cMD_group 39 = .ok (.iastore, 1) := by decide +kernel
theorem dMD_group_40 : decode cMD_group 40 = .ok (.aload_n 0, 1) := by decide +kernel
theorem dMD_group_41 : decode cMD_group 41 = .ok (.aload_n 0, 1) := by decide +kernel
theorem dMD_group_42 : decode cMD_group 42 = .ok (.getfield 7, 3) := by decide +kernel
theorem dMD_group_45 : decode cMD_group 45 = .ok (.iconst 1, 1) := by decide +kernel
theorem dMD_group_46 : decode cMD_group 46 = .ok (.iadd, 1) := by decide +kernel
theorem dMD_group_47 : decode cMD_group 47 = .ok (.putfield 7, 3) := by decide +kernel
theorem dMD_group_50 : decode cMD_group 50 = .ok (.aload_n 0, 1) := by decide +kernel
theorem dMD_group_51 : decode cMD_group 51 = .ok (.getfield 7, 3) := by decide +kernel
theorem dMD_group_54 : decode cMD_group 54 = .ok (.ireturn, 1) := by decide +kernel
theorem dMD_high_0 : decode cMD_high 0 = .ok (.iload_n 1, 1) := by decide +kernel
theorem dMD_high_1 : decode cMD_high 1 = .ok (.ifCond .lt 11, 3) := by decide +kernel
theorem dMD_high_4 : decode cMD_high 4 = .ok (.iload_n 1, 1) := by decide +kernel
theorem dMD_high_5 : decode cMD_high 5 = .ok (.aload_n 0, 1) := by decide +kernel
theorem dMD_high_6 : decode cMD_high 6 = .ok (.invokevirtual 117, 3) := by decide +kernel
theorem dMD_high_9 : decode cMD_high 9 = .ok (.if_icmp .lt 5, 3) := by decide +kernel
theorem dMD_high_12 : decode cMD_high 12 = .ok (.iconst (-1), 1) := by decide +kernel
theorem dMD_high_13 : decode cMD_high 13 = .ok (.ireturn, 1) := by decide +kernel
theorem dMD_howMany_0 : decode cMD_howMany 0 = .ok (.iconst 0, 1) := by decide +kernel
theorem dMD_howMany_1 : decode cMD_howMany 1 = .ok (.istore_n 3, 1) := by decide +kernel
theorem dMD_howMany_2 : decode cMD_howMany 2 = .ok (.iconst 0, 1) := by decide +kernel
theorem dMD_howMany_3 : decode cMD_howMany 3 = .ok (.istore 4, 2) := by decide +kernel
theorem dMD_howMany_5 : decode cMD_howMany 5 = .ok (.iload 4, 2) := by decide +kernel
theorem dMD_howMany_7 : decode cMD_howMany 7 = .ok (.aload_n 0, 1) := by decide +kernel
theorem dMD_howMany_8 : decode cMD_howMany 8 = .ok (.getfield 72, 3) := by decide +kernel
theorem dMD_howMany_11 : decode cMD_howMany 11 = .ok (.if_icmp .ge 28, 3) := by decide +kernel
theorem dMD_howMany_39 : decode cMD_howMany 39 = .ok (.iload_n 3, 1) := by decide +kernel
theorem dMD_howMany_40 : decode cMD_howMany 40 = .ok (.ireturn, 1) := by decide +kernel
theorem dMD_init_0 : decode cMD_init 0 = .ok (.aload_n 0, 1) := by decide +kernel
theorem dMD_init_1 : decode cMD_init 1 = .ok (.invokespecial 1, 3) := by decide +kernel
theorem dMD_init_4 : decode cMD_init 4 = .ok (.aload_n 0, 1) := by decide +kernel
theorem dMD_init_5 : decode cMD_init 5 = .ok (.iconst 1, 1) := by decide +kernel
theorem dMD_init_6 : decode cMD_init 6 = .ok (.putfield 7, 3) := by decide +kernel
theorem dMD_init_9 : decode cMD_init 9 = .ok (.aload_n 0, 1) := by decide +kernel
theorem dMD_init_10 : decode cMD_init 10 = .ok (.bipush 8, 2) := by decide +kernel
theorem dMD_init_12 : decode cMD_init 12 = .ok (.newarray .int, 2) := by decide +kernel
theorem dMD_init_14 : decode cMD_init 14 = .ok (.putfield 13, 3) := by decide +kernel
theorem dMD_init_17 : decode cMD_init 17 = .ok (.aload_n 0, 1) := by decide +kernel
theorem dMD_init_18 : decode cMD_init 18 = .ok (.bipush 8, 2) := by decide +kernel
theorem dMD_init_20 : decode cMD_init 20 = .ok (.newarray .int, 2) := by decide +kernel
theorem dMD_init_22 : decode cMD_init 22 = .ok (.putfield 17, 3) := by decide +kernel
theorem dMD_init_25 : decode cMD_init 25 = .ok (.aload_n 0, 1) := by decide +kernel
theorem dMD_init_26 : decode cMD_init 26 = .ok (.bipush 40, 2) := by decide +kernel
theorem dMD_init_28 : decode cMD_init 28 = .ok (.newarray .int, 2) := by decide +kernel
theorem dMD_init_30 : decode cMD_init 30 = .ok (.putfield 20, 3) := by decide +kernel
theorem dMD_init_33 : decode cMD_init 33 = .ok (.aload_n 0, 1) := by decide +kernel
theorem dMD_init_34 : decode cMD_init 34 = .ok (.bipush 40, 2) := by decide +kernel
theorem dMD_init_36 : decode cMD_init 36 = .ok (.newarray .int, 2) := by decide +kernel
theorem dMD_init_38 : decode cMD_init 38 = .ok (.putfield 23, 3) := by decide +kernel
theorem dMD_init_41 : decode cMD_init 41 = .ok (.aload_n 0, 1) := by decide +kernel
theorem dMD_init_42 : decode cMD_init 42 = .ok (.bipush 40, 2) := by decide +kernel
theorem dMD_init_44 : decode cMD_init 44 = .ok (.newarray .int, 2) := by decide +kernel
theorem dMD_init_46 : decode cMD_init 46 = .ok (.putfield 26, 3) := by decide +kernel
theorem dMD_init_49 : decode cMD_init 49 = .ok (.aload_n 0, 1) := by decide +kernel
theorem dMD_init_50 : decode cMD_init 50 = .ok (.bipush 40, 2) := by decide +kernel
theorem dMD_init_52 : decode cMD_init 52 = .ok (.newarray .int, 2) := by decide +kernel
theorem dMD_init_54 : decode cMD_init 54 = .ok (.putfield 29, 3) := by decide +kernel
theorem dMD_init_57 : decode cMD_init 57 = .ok (.aload_n 0, 1) := by decide +kernel
theorem dMD_init_58 : decode cMD_init 58 = .ok (.bipush 40, 2) := by decide +kernel
theorem dMD_init_60 : decode cMD_init 60 = .ok (.newarray .int, 2) := by decide +kernel
theorem dMD_init_62 : decode cMD_init 62 = .ok (.putfield 32, 3) := by decide +kernel
theorem dMD_init_65 : decode cMD_init 65 = .ok (.aload_n 0, 1) := by decide +kernel
theorem dMD_init_66 : decode cMD_init 66 = .ok (.bipush 40, 2) := by decide +kernel
theorem dMD_init_68 : decode cMD_init 68 = .ok (.newarray .int, 2) := by decide +kernel
theorem dMD_init_70 : decode cMD_init 70 = .ok (.putfield 35, 3) := by decide +kernel
theorem dMD_init_73 : decode cMD_init 73 = .ok (.aload_n 0, 1) := by decide +kernel
theorem dMD_init_74 : decode cMD_init 74 = .ok (.bipush 40, 2) := by decide +kernel
theorem dMD_init_76 : decode cMD_init 76 = .ok (.newarray .int, 2) := by decide +kernel
theorem dMD_init_78 : decode cMD_init 78 = .ok (.putfield 38, 3) := by decide +kernel
theorem dMD_init_81 : decode cMD_init 81 = .ok (.aload_n 0, 1) := by decide +kernel
theorem dMD_init_82 : decode cMD_init 82 = .ok (.bipush 40, 2) := by decide +kernel
theorem dMD_init_84 : decode cMD_init 84 = .ok (.newarray .int, 2) := by decide +kernel
theorem dMD_init_86 : decode cMD_init 86 = .ok (.putfield 41, 3) := by decide +kernel
theorem dMD_init_89 : decode cMD_init 89 = .ok (.aload_n 0, 1) := by decide +kernel
theorem dMD_init_90 : decode cMD_init 90 = .ok (.bipush 40, 2) := by decide +kernel
theorem dMD_init_92 : decode cMD_init 92 = .ok (.newarray .int, 2) := by decide +kernel
theorem dMD_init_94 : decode cMD_init 94 = .ok (.putfield 44, 3) := by decide +kernel
theorem dMD_init_97 : decode cMD_init 97 = .ok (.aload_n 0, 1) := by decide +kernel
theorem dMD_init_98 : decode cMD_init 98 = .ok (.bipush 40, 2) := by decide +kernel
theorem dMD_init_100 : decode cMD_init 100 = .ok (.newarray .int, 2) := by decide +kernel
theorem dMD_init_102 : decode cMD_init 102 = .ok (.putfield 47, 3) := by decide +kernel
theorem dMD_init_105 : decode cMD_init 105 = .ok (.aload_n 0, 1) := by decide +kernel
theorem dMD_init_106 : decode cMD_init 106 = .ok (.iconst (-1), 1) := by decide +kernel
theorem dMD_init_107 : decode cMD_init 107 = .ok (.putfield 50, 3) := by decide +kernel
theorem dMD_init_110 : decode cMD_init 110 = .ok (.aload_n 0, 1) := by decide +kernel
theorem dMD_init_111 : decode cMD_init 111 = .ok (.bipush 12, 2) := by decide +kernel
theorem dMD_init_113 : decode cMD_init 113 = .ok (.newarray .int, 2) := by decide +kernel
theorem dMD_init_115 : decode cMD_init 115 = .ok (.putfield 53, 3) := by decide +kernel
theorem dMD_init_118 : decode cMD_init 118 = .ok (.aload_n 0, 1) := by decide +kernel
theorem dMD_init_119 : decode cMD_init 119 = .ok (.bipush 12, 2) := by decide +kernel
theorem dMD_init_121 : decode cMD_init 121 = .ok (.newarray .int, 2) := by decide +kernel
theorem dMD_init_123 : decode cMD_init 123 = .ok (.putfield 56, 3) := by decide +kernel
theorem dMD_init_126 : decode cMD_init 126 = .ok (.aload_n 0, 1) := by decide +kernel
theorem dMD_init_127 : decode cMD_init 127 = .ok (.bipush 12, 2) := by decide +kernel
theorem dMD_init_129 : decode cMD_init 129 = .ok (.newarray .int, 2) := by decide +kernel
theorem dMD_init_131 : decode cMD_init 131 = .ok (.putfield 59, 3) := by decide +kernel
theorem dMD_init_134 : decode cMD_init 134 = .ok (.aload_n 0, 1) := by decide +kernel
theorem dMD_init_135 : decode cMD_init 135 = .ok (.bipush 12, 2) := by decide +kernel
