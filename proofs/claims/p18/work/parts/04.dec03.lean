theorem dMD_edge_67 : decode cMD_edge 67 = .ok (.goto 11, 3) := by decide +kernel
theorem dMD_edge_70 : decode cMD_edge 70 = .ok (.aload_n 0, 1) := by decide +kernel
theorem dMD_edge_71 : decode cMD_edge 71 = .ok (.iload 4, 2) := by decide +kernel
theorem dMD_edge_73 : decode cMD_edge 73 = .ok (.iload 5, 2) := by decide +kernel
theorem dMD_edge_75 : decode cMD_edge 75 = .ok (.invokevirtual 158, 3) := by decide +kernel
theorem dMD_edge_78 : decode cMD_edge 78 = .ok (.ireturn, 1) := by decide +kernel
theorem dMD_empties_0 : decode cMD_empties 0 = .ok (.iconst 0, 1) := by decide +kernel
theorem dMD_empties_1 : decode cMD_empties 1 = .ok (.istore_n 1, 1) := by decide +kernel
theorem dMD_empties_2 : decode cMD_empties 2 = .ok (.iconst 0, 1) := by decide +kernel
theorem dMD_empties_3 : decode cMD_empties 3 = .ok (.istore_n 2, 1) := by decide +kernel
theorem dMD_empties_4 : decode cMD_empties 4 = .ok (.iload_n 2, 1) := by decide +kernel
theorem dMD_empties_5 : decode cMD_empties 5 = .ok (.bipush 12, 2) := by decide +kernel
theorem dMD_empties_7 : decode cMD_empties 7 = .ok (.if_icmp .ge 124, 3) := by decide +kernel
theorem dMD_empties_10 : decode cMD_empties 10 = .ok (.iload_n 2, 1) := by decide +kernel
theorem dMD_empties_11 : decode cMD_empties 11 = .ok (.aload_n 0, 1) := by decide +kernel
theorem dMD_empties_12 : decode cMD_empties 12 = .ok (.invokevirtual 113, 3) := by decide +kernel
theorem dMD_empties_15 : decode cMD_empties 15 = .ok (.if_icmp .ge 7, 3) := by decide +kernel
theorem dMD_empties_18 : decode cMD_empties 18 = .ok (.iconst 1, 1) := by decide +kernel
theorem dMD_empties_19 : decode cMD_empties 19 = .ok (.goto 4, 3) := by decide +kernel
theorem dMD_empties_22 : decode cMD_empties 22 = .ok (.iconst 0, 1) := by decide +kernel
theorem dMD_empties_23 : decode cMD_empties 23 = .ok (.istore_n 3, 1) := by decide +kernel
theorem dMD_empties_24 : decode cMD_empties 24 = .ok (.iload_n 2, 1) := by decide +kernel
theorem dMD_empties_25 : decode cMD_empties 25 = .ok (.aload_n 0, 1) := by decide +kernel
theorem dMD_empties_26 : decode cMD_empties 26 = .ok (.invokevirtual 117, 3) := by decide +kernel
theorem dMD_empties_29 : decode cMD_empties 29 = .ok (.if_icmp .ge 7, 3) := by decide +kernel
theorem dMD_empties_32 : decode cMD_empties 32 = .ok (.iconst 1, 1) := by decide +kernel
theorem dMD_empties_33 : decode cMD_empties 33 = .ok (.goto 4, 3) := by decide +kernel
theorem dMD_empties_36 : decode cMD_empties 36 = .ok (.iconst 0, 1) := by decide +kernel
theorem dMD_empties_37 : decode cMD_empties 37 = .ok (.istore 4, 2) := by decide +kernel
theorem dMD_empties_39 : decode cMD_empties 39 = .ok (.iconst 0, 1) := by decide +kernel
theorem dMD_empties_40 : decode cMD_empties 40 = .ok (.istore 5, 2) := by decide +kernel
theorem dMD_empties_42 : decode cMD_empties 42 = .ok (.iload 5, 2) := by decide +kernel
theorem dMD_empties_44 : decode cMD_empties 44 = .ok (.aload_n 0, 1) := by decide +kernel
theorem dMD_empties_45 : decode cMD_empties 45 = .ok (.getfield 72, 3) := by decide +kernel
theorem dMD_empties_48 : decode cMD_empties 48 = .ok (.if_icmp .ge 53, 3) := by decide +kernel
theorem dMD_empties_51 : decode cMD_empties 51 = .ok (.iload_n 3, 1) := by decide +kernel
theorem dMD_empties_52 : decode cMD_empties 52 = .ok (.ifCond .eq 18, 3) := by decide +kernel
theorem dMD_empties_55 : decode cMD_empties 55 = .ok (.aload_n 0, 1) := by decide +kernel
theorem dMD_empties_56 : decode cMD_empties 56 = .ok (.getfield 20, 3) := by decide +kernel
theorem dMD_empties_59 : decode cMD_empties 59 = .ok (.iload 5, 2) := by decide +kernel
theorem dMD_empties_61 : decode cMD_empties 61 = .ok (.iaload, 1) := by decide +kernel
theorem dMD_empties_62 : decode cMD_empties 62 = .ok (.iload_n 2, 1) := by decide +kernel
theorem dMD_empties_63 : decode cMD_empties 63 = .ok (.if_icmp .eq 7, 3) := by decide +kernel
theorem dMD_empties_66 : decode cMD_empties 66 = .ok (.iconst 1, 1) := by decide +kernel
theorem dMD_empties_67 : decode cMD_empties 67 = .ok (.goto 4, 3) := by decide +kernel
theorem dMD_empties_70 : decode cMD_empties 70 = .ok (.iconst 0, 1) := by decide +kernel
theorem dMD_empties_71 : decode cMD_empties 71 = .ok (.istore_n 3, 1) := by decide +kernel
theorem dMD_empties_72 : decode cMD_empties 72 = .ok (.iload 4, 2) := by decide +kernel
theorem dMD_empties_74 : decode cMD_empties 74 = .ok (.ifCond .eq 18, 3) := by decide +kernel
theorem dMD_empties_77 : decode cMD_empties 77 = .ok (.aload_n 0, 1) := by decide +kernel
theorem dMD_empties_78 : decode cMD_empties 78 = .ok (.getfield 23, 3) := by decide +kernel
theorem dMD_empties_81 : decode cMD_empties 81 = .ok (.iload 5, 2) := by decide +kernel
theorem dMD_empties_83 : decode cMD_empties 83 = .ok (.iaload, 1) := by decide +kernel
theorem dMD_empties_84 : decode cMD_empties 84 = .ok (.iload_n 2, 1) := by decide +kernel
theorem dMD_empties_85 : decode cMD_empties 85 = .ok (.if_icmp .eq 7, 3) := by decide +kernel
theorem dMD_empties_88 : decode cMD_empties 88 = .ok (.iconst 1, 1) := by decide +kernel
theorem dMD_empties_89 : decode cMD_empties 89 = .ok (.goto 4, 3) := by decide +kernel
theorem dMD_empties_92 : decode cMD_empties 92 = .ok (.iconst 0, 1) := by decide +kernel
theorem dMD_empties_93 : decode cMD_empties 93 = .ok (.istore 4, 2) := by decide +kernel
theorem dMD_empties_95 : decode cMD_empties 95 = .ok (.iinc 5 1, 3) := by decide +kernel
theorem dMD_empties_98 : decode cMD_empties 98 = .ok (.goto (-56), 3) := by decide +kernel
theorem dMD_empties_101 : decode cMD_empties 101 = .ok (.iload_n 1, 1) := by decide +kernel
theorem dMD_empties_102 : decode cMD_empties 102 = .ok (.iload_n 3, 1) := by decide +kernel
theorem dMD_empties_103 : decode cMD_empties 103 = .ok (.ifCond .eq 7, 3) := by decide +kernel
theorem dMD_empties_106 : decode cMD_empties 106 = .ok (.iconst 1, 1) := by decide +kernel
theorem dMD_empties_107 : decode cMD_empties 107 = .ok (.goto 4, 3) := by decide +kernel
theorem dMD_empties_110 : decode cMD_empties 110 = .ok (.iconst 0, 1) := by decide +kernel
theorem dMD_empties_111 : decode cMD_empties 111 = .ok (.iadd, 1) := by decide +kernel
theorem dMD_empties_112 : decode cMD_empties 112 = .ok (.iload 4, 2) := by decide +kernel
theorem dMD_empties_114 : decode cMD_empties 114 = .ok (.ifCond .eq 8, 3) := by decide +kernel
theorem dMD_empties_117 : decode cMD_empties 117 = .ok (.bipush 100, 2) := by decide +kernel
theorem dMD_empties_119 : decode cMD_empties 119 = .ok (.goto 4, 3) := by decide +kernel
theorem dMD_empties_122 : decode cMD_empties 122 = .ok (.iconst 0, 1) := by decide +kernel
theorem dMD_empties_123 : decode cMD_empties 123 = .ok (.iadd, 1) := by decide +kernel
theorem dMD_empties_124 : decode cMD_empties 124 = .ok (.istore_n 1, 1) := by decide +kernel
theorem dMD_empties_125 : decode cMD_empties 125 = .ok (.iinc 2 1, 3) := by decide +kernel
theorem dMD_empties_128 : decode cMD_empties 128 = .ok (.goto (-124), 3) := by decide +kernel
theorem dMD_empties_131 : decode cMD_empties 131 = .ok (.iload_n 1, 1) := by decide +kernel
theorem dMD_empties_132 : decode cMD_empties 132 = .ok (.ireturn, 1) := by decide +kernel
theorem dMD_endOf_0 : decode cMD_endOf 0 = .ok (.aload_n 0, 1) := by decide +kernel
theorem dMD_endOf_1 : decode cMD_endOf 1 = .ok (.getfield 13, 3) := by decide +kernel
theorem dMD_endOf_4 : decode cMD_endOf 4 = .ok (.iload_n 1, 1) := by decide +kernel
theorem dMD_endOf_5 : decode cMD_endOf 5 = .ok (.iaload, 1) := by decide +kernel
theorem dMD_endOf_6 : decode cMD_endOf 6 = .ok (.aload_n 0, 1) := by decide +kernel
theorem dMD_endOf_7 : decode cMD_endOf 7 = .ok (.getfield 17, 3) := by decide +kernel
theorem dMD_endOf_10 : decode cMD_endOf 10 = .ok (.iload_n 1, 1) := by decide +kernel
theorem dMD_endOf_11 : decode cMD_endOf 11 = .ok (.iaload, 1) := by decide +kernel
theorem dMD_endOf_12 : decode cMD_endOf 12 = .ok (.iadd, 1) := by decide +kernel
theorem dMD_endOf_13 : decode cMD_endOf 13 = .ok (.istore_n 2, 1) := by decide +kernel
theorem dMD_endOf_14 : decode cMD_endOf 14 = .ok (.iconst 0, 1) := by decide +kernel
theorem dMD_endOf_15 : decode cMD_endOf 15 = .ok (.istore_n 3, 1) := by decide +kernel
theorem dMD_endOf_16 : decode cMD_endOf 16 = .ok (.iload_n 3, 1) := by decide +kernel
theorem dMD_endOf_17 : decode cMD_endOf 17 = .ok (.aload_n 0, 1) := by decide +kernel
theorem dMD_endOf_18 : decode cMD_endOf 18 = .ok (.getfield 72, 3) := by decide +kernel
theorem dMD_endOf_21 : decode cMD_endOf 21 = .ok (.if_icmp .ge 60, 3) := by decide +kernel
theorem dMD_endOf_24 : decode cMD_endOf 24 = .ok (.aload_n 0, 1) := by decide +kernel
theorem dMD_endOf_25 : decode cMD_endOf 25 = .ok (.getfield 23, 3) := by decide +kernel
theorem dMD_endOf_28 : decode cMD_endOf 28 = .ok (.iload_n 3, 1) := by decide +kernel
theorem dMD_endOf_29 : decode cMD_endOf 29 = .ok (.iaload, 1) := by decide +kernel
theorem dMD_endOf_30 : decode cMD_endOf 30 = .ok (.aload_n 0, 1) := by decide +kernel
theorem dMD_endOf_31 : decode cMD_endOf 31 = .ok (.getfield 29, 3) := by decide +kernel
theorem dMD_endOf_34 : decode cMD_endOf 34 = .ok (.iload_n 3, 1) := by decide +kernel
theorem dMD_endOf_35 : decode cMD_endOf 35 = .ok (.iaload, 1) := by decide +kernel
theorem dMD_endOf_36 : decode cMD_endOf 36 = .ok (.ifCond .le 12, 3) := by decide +kernel
theorem dMD_endOf_39 : decode cMD_endOf 39 = .ok (.aload_n 0, 1) := by decide +kernel
theorem dMD_endOf_40 : decode cMD_endOf 40 = .ok (.getfield 29, 3) := by decide +kernel
theorem dMD_endOf_43 : decode cMD_endOf 43 = .ok (.iload_n 3, 1) := by decide +kernel
theorem dMD_endOf_44 : decode cMD_endOf 44 = .ok (.iaload, 1) := by decide +kernel
theorem dMD_endOf_45 : decode cMD_endOf 45 = .ok (.goto 4, 3) := by decide +kernel
theorem dMD_endOf_48 : decode cMD_endOf 48 = .ok (.iconst 1, 1) := by decide +kernel
theorem dMD_endOf_49 : decode cMD_endOf 49 = .ok (.iadd, 1) := by decide +kernel
theorem dMD_endOf_50 : decode cMD_endOf 50 = .ok (.istore 4, 2) := by decide +kernel
theorem dMD_endOf_52 : decode cMD_endOf 52 = .ok (.aload_n 0, 1) := by decide +kernel
theorem dMD_endOf_53 : decode cMD_endOf 53 = .ok (.getfield 32, 3) := by decide +kernel
theorem dMD_endOf_56 : decode cMD_endOf 56 = .ok (.iload_n 3, 1) := by decide +kernel
theorem dMD_endOf_57 : decode cMD_endOf 57 = .ok (.iaload, 1) := by decide +kernel
theorem dMD_endOf_58 : decode cMD_endOf 58 = .ok (.iload_n 1, 1) := by decide +kernel
theorem dMD_endOf_59 : decode cMD_endOf 59 = .ok (.if_icmp .ne 14, 3) := by decide +kernel
theorem dMD_endOf_62 : decode cMD_endOf 62 = .ok (.iload 4, 2) := by decide +kernel
theorem dMD_endOf_64 : decode cMD_endOf 64 = .ok (.iload_n 2, 1) := by decide +kernel
theorem dMD_endOf_65 : decode cMD_endOf 65 = .ok (.if_icmp .le 8, 3) := by decide +kernel
theorem dMD_endOf_68 : decode cMD_endOf 68 = .ok (.iload 4, 2) := by decide +kernel
theorem dMD_endOf_70 : decode cMD_endOf 70 = .ok (.goto 4, 3) := by decide +kernel
theorem dMD_endOf_73 : decode cMD_endOf 73 = .ok (.iload_n 2, 1) := by decide +kernel
theorem dMD_endOf_74 : decode cMD_endOf 74 = .ok (.istore_n 2, 1) := by decide +kernel
theorem dMD_endOf_75 : decode cMD_endOf 75 = .ok (.iinc 3 1, 3) := by decide +kernel
theorem dMD_endOf_78 : decode cMD_endOf 78 = .ok (.goto (-62), 3) := by decide +kernel
theorem dMD_endOf_81 : decode cMD_endOf 81 = .ok (.iload_n 2, 1) := by decide +kernel
theorem dMD_endOf_82 : decode cMD_endOf 82 = .ok (.ireturn, 1) := by decide +kernel
theorem dMD_findHeights_0 : decode cMD_findHeights 0 = .ok (.iconst 0, 1) := by decide +kernel
theorem dMD_findHeights_1 : decode cMD_findHeights 1 = .ok (.istore_n 1, 1) := by decide +kernel
theorem dMD_findHeights_2 : decode cMD_findHeights 2 = .ok (.iload_n 1, 1) := by decide +kernel
theorem dMD_findHeights_3 : decode cMD_findHeights 3 = .ok (.bipush 12, 2) := by decide +kernel
theorem dMD_findHeights_5 : decode cMD_findHeights 5 = .ok (.if_icmp .ge 16, 3) := by decide +kernel
theorem dMD_findHeights_8 : decode cMD_findHeights 8 = .ok (.aload_n 0, 1) := by decide +kernel
theorem dMD_findHeights_9 : decode cMD_findHeights 9 = .ok (.getfield 62, 3) := by decide +kernel
theorem dMD_findHeights_12 : decode cMD_findHeights 12 = .ok (.iload_n 1, 1) := by decide +kernel
theorem dMD_findHeights_13 : decode cMD_findHeights 13 = .ok (.iconst 0, 1) := by decide +kernel
theorem dMD_findHeights_14 : decode cMD_findHeights 14 = .ok (.iastore, 1) := by decide +kernel
theorem dMD_findHeights_15 : decode cMD_findHeights 15 = .ok (.iinc 1 1, 3) := by decide +kernel
theorem dMD_findHeights_18 : decode cMD_findHeights 18 = .ok (.goto (-16), 3) := by decide +kernel
theorem dMD_findHeights_21 : decode cMD_findHeights 21 = .ok (.iconst 1, 1) := by decide +kernel
theorem dMD_findHeights_22 : decode cMD_findHeights 22 = .ok (.istore_n 1, 1) := by decide +kernel
theorem dMD_findHeights_23 : decode cMD_findHeights 23 = .ok (.iload_n 1, 1) := by decide +kernel
theorem dMD_findHeights_24 : decode cMD_findHeights 24 = .ok (.bipush 13, 2) := by decide +kernel
theorem dMD_findHeights_26 : decode cMD_findHeights 26 = .ok (.if_icmp .ge 134, 3) := by decide +kernel
theorem dMD_findHeights_29 : decode cMD_findHeights 29 = .ok (.iconst 0, 1) := by decide +kernel
theorem dMD_findHeights_30 : decode cMD_findHeights 30 = .ok (.istore_n 2, 1) := by decide +kernel
theorem dMD_findHeights_31 : decode cMD_findHeights 31 = .ok (.iload_n 2, 1) := by decide +kernel
theorem dMD_findHeights_32 : decode cMD_findHeights 32 = .ok (.aload_n 0, 1) := by decide +kernel
theorem dMD_findHeights_33 : decode cMD_findHeights 33 = .ok (.getfield 72, 3) := by decide +kernel
theorem dMD_findHeights_36 : decode cMD_findHeights 36 = .ok (.if_icmp .ge 118, 3) := by decide +kernel
theorem dMD_findHeights_39 : decode cMD_findHeights 39 = .ok (.aload_n 0, 1) := by decide +kernel
theorem dMD_findHeights_40 : decode cMD_findHeights 40 = .ok (.getfield 23, 3) := by decide +kernel
theorem dMD_findHeights_43 : decode cMD_findHeights 43 = .ok (.iload_n 2, 1) := by decide +kernel
theorem dMD_findHeights_44 : decode cMD_findHeights 44 = .ok (.iaload, 1) := by decide +kernel
theorem dMD_findHeights_45 : decode cMD_findHeights 45 = .ok (.istore_n 3, 1) := by decide +kernel
theorem dMD_findHeights_46 : decode cMD_findHeights 46 = .ok (.iload_n 1, 1) := by decide +kernel
theorem dMD_findHeights_47 : decode cMD_findHeights 47 = .ok (.iconst 1, 1) := by decide +kernel
theorem dMD_findHeights_48 : decode cMD_findHeights 48 = .ok (.if_icmp .ne 36, 3) := by decide +kernel
theorem dMD_findHeights_51 : decode cMD_findHeights 51 = .ok (.aload_n 0, 1) := by decide +kernel
theorem dMD_findHeights_52 : decode cMD_findHeights 52 = .ok (.iload_n 2, 1) := by decide +kernel
theorem dMD_findHeights_53 : decode cMD_findHeights 53 = .ok (.invokevirtual 102, 3) := by decide +kernel
theorem dMD_findHeights_56 : decode cMD_findHeights 56 = .ok (.iconst 1, 1) := by decide +kernel
theorem dMD_findHeights_57 : decode cMD_findHeights 57 = .ok (.if_icmp .ne 27, 3) := by decide +kernel
theorem dMD_findHeights_60 : decode cMD_findHeights 60 = .ok (.aload_n 0, 1) := by decide +kernel
theorem dMD_findHeights_61 : decode cMD_findHeights 61 = .ok (.getfield 62, 3) := by decide +kernel
theorem dMD_findHeights_64 : decode cMD_findHeights 64 = .ok (.iload_n 3, 1) := by decide +kernel
theorem dMD_findHeights_65 : decode cMD_findHeights 65 = .ok (.aload_n 0, 1) := by decide +kernel
theorem dMD_findHeights_66 : decode cMD_findHeights 66 = .ok (.getfield 62, 3) := by decide +kernel
theorem dMD_findHeights_69 : decode cMD_findHeights 69 = .ok (.iload_n 3, 1) := by decide +kernel
theorem dMD_findHeights_70 : decode cMD_findHeights 70 = .ok (.iaload, 1) := by decide +kernel
theorem dMD_findHeights_71 : decode cMD_findHeights 71 = .ok (.aload_n 0, 1) := by decide +kernel
theorem dMD_findHeights_72 : decode cMD_findHeights 72 = .ok (.getfield 41, 3) := by decide +kernel
theorem dMD_findHeights_75 : decode cMD_findHeights 75 = .ok (.iload_n 2, 1) := by decide +kernel
theorem dMD_findHeights_76 : decode cMD_findHeights 76 = .ok (.iaload, 1) := by decide +kernel
theorem dMD_findHeights_77 : decode cMD_findHeights 77 = .ok (.invokestatic 121, 3) := by decide +kernel
theorem dMD_findHeights_80 : decode cMD_findHeights 80 = .ok (.iastore, 1) := by decide +kernel
theorem dMD_findHeights_81 : decode cMD_findHeights 81 = .ok (.goto 67, 3) := by decide +kernel
theorem dMD_findHeights_84 : decode cMD_findHeights 84 = .ok (.aload_n 0, 1) := by decide +kernel
theorem dMD_findHeights_85 : decode cMD_findHeights 85 = .ok (.iload_n 2, 1) := by decide +kernel
theorem dMD_findHeights_86 : decode cMD_findHeights 86 = .ok (.invokevirtual 102, 3) := by decide +kernel
theorem dMD_findHeights_89 : decode cMD_findHeights 89 = .ok (.iload_n 1, 1) := by decide +kernel
theorem dMD_findHeights_90 : decode cMD_findHeights 90 = .ok (.if_icmp .ne 58, 3) := by decide +kernel
theorem dMD_findHeights_93 : decode cMD_findHeights 93 = .ok (.aload_n 0, 1) := by decide +kernel
theorem dMD_findHeights_94 : decode cMD_findHeights 94 = .ok (.getfield 41, 3) := by decide +kernel
theorem dMD_findHeights_97 : decode cMD_findHeights 97 = .ok (.iload_n 2, 1) := by decide +kernel
theorem dMD_findHeights_98 : decode cMD_findHeights 98 = .ok (.iaload, 1) := by decide +kernel
theorem dMD_findHeights_99 : decode cMD_findHeights 99 = .ok (.aload_n 0, 1) := by decide +kernel
theorem dMD_findHeights_100 : decode cMD_findHeights 100 = .ok (.getfield 62, 3) := by decide +kernel
theorem dMD_findHeights_103 : decode cMD_findHeights 103 = .ok (.iload_n 3, 1) := by decide +kernel
theorem dMD_findHeights_104 : decode cMD_findHeights 104 = .ok (.iload_n 3, 1) := by decide +kernel
theorem dMD_findHeights_105 : decode cMD_findHeights 105 = .ok (.iload_n 1, 1) := by decide +kernel
theorem dMD_findHeights_106 : decode cMD_findHeights 106 = .ok (.iadd, 1) := by decide +kernel
theorem dMD_findHeights_107 : decode cMD_findHeights 107 = .ok (.invokestatic 128, 3) := by decide +kernel
theorem dMD_findHeights_110 : decode cMD_findHeights 110 = .ok (.isub, 1) := by decide +kernel
theorem dMD_findHeights_111 : decode cMD_findHeights 111 = .ok (.aload_n 0, 1) := by decide +kernel
theorem dMD_findHeights_112 : decode cMD_findHeights 112 = .ok (.getfield 95, 3) := by decide +kernel
theorem dMD_findHeights_115 : decode cMD_findHeights 115 = .ok (.iload_n 1, 1) := by decide +kernel
theorem dMD_findHeights_116 : decode cMD_findHeights 116 = .ok (.iconst 1, 1) := by decide +kernel
theorem dMD_findHeights_117 : decode cMD_findHeights 117 = .ok (.isub, 1) := by decide +kernel
theorem dMD_findHeights_118 : decode cMD_findHeights 118 = .ok (.imul, 1) := by decide +kernel
theorem dMD_findHeights_119 : decode cMD_findHeights 119 = .ok (.isub, 1) := by decide +kernel
theorem dMD_findHeights_120 : decode cMD_findHeights 120 = .ok (.istore 4, 2) := by decide +kernel
theorem dMD_findHeights_122 : decode cMD_findHeights 122 = .ok (.aload_n 0, 1) := by decide +kernel
theorem dMD_findHeights_123 : decode cMD_findHeights 123 = .ok (.aload_n 0, 1) := by decide +kernel
theorem dMD_findHeights_124 : decode cMD_findHeights 124 = .ok (.getfield 62, 3) := by decide +kernel
theorem dMD_findHeights_127 : decode cMD_findHeights 127 = .ok (.invokevirtual 124, 3) := by decide +kernel
theorem dMD_findHeights_130 : decode cMD_findHeights 130 = .ok (.aload_n 0, 1) := by decide +kernel
theorem dMD_findHeights_131 : decode cMD_findHeights 131 = .ok (.iconst 0, 1) := by decide +kernel
theorem dMD_findHeights_132 : decode cMD_findHeights 132 = .ok (.iload 4, 2) := by decide +kernel
theorem dMD_findHeights_134 : decode cMD_findHeights 134 = .ok (.invokestatic 121, 3) := by decide +kernel
theorem dMD_findHeights_137 : decode cMD_findHeights 137 = .ok (.aload_n 0, 1) := by decide +kernel
theorem dMD_findHeights_138 : decode cMD_findHeights 138 = .ok (.getfield 62, 3) := by decide +kernel
theorem dMD_findHeights_141 : decode cMD_findHeights 141 = .ok (.iload_n 3, 1) := by decide +kernel
theorem dMD_findHeights_142 : decode cMD_findHeights 142 = .ok (.iload_n 3, 1) := by decide +kernel
theorem dMD_findHeights_143 : decode cMD_findHeights 143 = .ok (.iload_n 1, 1) := by decide +kernel
theorem dMD_findHeights_144 : decode cMD_findHeights 144 = .ok (.iadd, 1) := by decide +kernel
theorem dMD_findHeights_145 : decode cMD_findHeights 145 = .ok (.invokevirtual 132, 3) := by decide +kernel
theorem dMD_findHeights_148 : decode cMD_findHeights 148 = .ok (.iinc 2 1, 3) := by decide +kernel
theorem dMD_findHeights_151 : decode cMD_findHeights 151 = .ok (.goto (-120), 3) := by decide +kernel
theorem dMD_findHeights_154 : decode cMD_findHeights 154 = .ok (.iinc 1 1, 3) := by decide +kernel
theorem dMD_findHeights_157 : decode cMD_findHeights 157 = .ok (.goto (-134), 3) := by decide +kernel
theorem dMD_findHeights_160 : decode cMD_findHeights 160 = .ok (.return_, 1) := by decide +kernel
theorem dMD_findWidths_0 : decode cMD_findWidths 0 = .ok (.aload_n 0, 1) := by decide +kernel
theorem dMD_findWidths_1 : decode cMD_findWidths 1 = .ok (.invokevirtual 143, 3) := by decide +kernel
theorem dMD_findWidths_4 : decode cMD_findWidths 4 = .ok (.aload_n 0, 1) := by decide +kernel
theorem dMD_findWidths_5 : decode cMD_findWidths 5 = .ok (.getfield 98, 3) := by decide +kernel
theorem dMD_findWidths_8 : decode cMD_findWidths 8 = .ok (.ifCond .eq 8, 3) := by decide +kernel
theorem dMD_findWidths_11 : decode cMD_findWidths 11 = .ok (.aload_n 0, 1) := by decide +kernel
theorem dMD_findWidths_12 : decode cMD_findWidths 12 = .ok (.invokevirtual 146, 3) := by decide +kernel
theorem dMD_findWidths_15 : decode cMD_findWidths 15 = .ok (.return_, 1) := by decide +kernel
theorem dMD_findWidths_16 : decode cMD_findWidths 16 = .ok (.aload_n 0, 1) := by decide +kernel
theorem dMD_findWidths_17 : decode cMD_findWidths 17 = .ok (.invokevirtual 113, 3) := by decide +kernel
theorem dMD_findWidths_20 : decode cMD_findWidths 20 = .ok (.istore_n 1, 1) := by decide +kernel
theorem dMD_findWidths_21 : decode cMD_findWidths 21 = .ok (.aload_n 0, 1) := by decide +kernel
theorem dMD_findWidths_22 : decode cMD_findWidths 22 = .ok (.getfield 53, 3) := by decide +kernel
theorem dMD_findWidths_25 : decode cMD_findWidths 25 = .ok (.iconst 0, 1) := by decide +kernel
theorem dMD_findWidths_26 : decode cMD_findWidths 26 = .ok (.iload_n 1, 1) := by decide +kernel
theorem dMD_findWidths_27 : decode cMD_findWidths 27 = .ok (.invokestatic 128, 3) := by decide +kernel
theorem dMD_findWidths_30 : decode cMD_findWidths 30 = .ok (.istore_n 2, 1) := by decide +kernel
theorem dMD_findWidths_31 : decode cMD_findWidths 31 = .ok (.aload_n 0, 1) := by decide +kernel
theorem dMD_findWidths_32 : decode cMD_findWidths 32 = .ok (.getfield 56, 3) := by decide +kernel
theorem dMD_findWidths_35 : decode cMD_findWidths 35 = .ok (.iconst 0, 1) := by decide +kernel
theorem dMD_findWidths_36 : decode cMD_findWidths 36 = .ok (.iload_n 1, 1) := by decide +kernel
theorem dMD_findWidths_37 : decode cMD_findWidths 37 = .ok (.invokestatic 128, 3) := by decide +kernel
theorem dMD_findWidths_40 : decode cMD_findWidths 40 = .ok (.istore_n 3, 1) := by decide +kernel
theorem dMD_findWidths_41 : decode cMD_findWidths 41 = .ok (.aload_n 0, 1) := by decide +kernel
theorem dMD_findWidths_42 : decode cMD_findWidths 42 = .ok (.invokevirtual 140, 3) := by decide +kernel
theorem dMD_findWidths_45 : decode cMD_findWidths 45 = .ok (.iload_n 3, 1) := by decide +kernel
theorem dMD_findWidths_46 : decode cMD_findWidths 46 = .ok (.if_icmp .le 7, 3) := by decide +kernel
theorem dMD_findWidths_49 : decode cMD_findWidths 49 = .ok (.iconst 1, 1) := by decide +kernel
theorem dMD_findWidths_50 : decode cMD_findWidths 50 = .ok (.goto 4, 3) := by decide +kernel
theorem dMD_findWidths_53 : decode cMD_findWidths 53 = .ok (.iconst 0, 1) := by decide +kernel
theorem dMD_findWidths_54 : decode cMD_findWidths 54 = .ok (.istore 4, 2) := by decide +kernel
theorem dMD_findWidths_56 : decode cMD_findWidths 56 = .ok (.iconst 0, 1) := by decide +kernel
theorem dMD_findWidths_57 : decode cMD_findWidths 57 = .ok (.istore 5, 2) := by decide +kernel
theorem dMD_findWidths_59 : decode cMD_findWidths 59 = .ok (.iload 5, 2) := by decide +kernel
theorem dMD_findWidths_61 : decode cMD_findWidths 61 = .ok (.bipush 12, 2) := by decide +kernel
theorem dMD_findWidths_63 : decode cMD_findWidths 63 = .ok (.if_icmp .ge 75, 3) := by decide +kernel
theorem dMD_findWidths_66 : decode cMD_findWidths 66 = .ok (.aload_n 0, 1) := by decide +kernel
theorem dMD_findWidths_67 : decode cMD_findWidths 67 = .ok (.getfield 59, 3) := by decide +kernel
theorem dMD_findWidths_70 : decode cMD_findWidths 70 = .ok (.iload 5, 2) := by decide +kernel
theorem dMD_findWidths_72 : decode cMD_findWidths 72 = .ok (.iload 4, 2) := by decide +kernel
theorem dMD_findWidths_74 : decode cMD_findWidths 74 = .ok (.ifCond .eq 13, 3) := by decide +kernel
theorem dMD_findWidths_77 : decode cMD_findWidths 77 = .ok (.aload_n 0, 1) := by decide +kernel
theorem dMD_findWidths_78 : decode cMD_findWidths 78 = .ok (.getfield 56, 3) := by decide +kernel
theorem dMD_findWidths_81 : decode cMD_findWidths 81 = .ok (.iload 5, 2) := by decide +kernel
theorem dMD_findWidths_83 : decode cMD_findWidths 83 = .ok (.iaload, 1) := by decide +kernel
theorem dMD_findWidths_84 : decode cMD_findWidths 84 = .ok (.goto 10, 3) := by decide +kernel
theorem dMD_findWidths_87 : decode cMD_findWidths 87 = .ok (.aload_n 0, 1) := by decide +kernel
theorem dMD_findWidths_88 : decode cMD_findWidths 88 = .ok (.getfield 53, 3) := by decide +kernel
theorem dMD_findWidths_91 : decode cMD_findWidths 91 = .ok (.iload 5, 2) := by decide +kernel
theorem dMD_findWidths_93 : decode cMD_findWidths 93 = .ok (.iaload, 1) := by decide +kernel
theorem dMD_findWidths_94 : decode cMD_findWidths 94 = .ok (.iastore, 1) := by decide +kernel
theorem dMD_findWidths_95 : decode cMD_findWidths 95 = .ok (.aload_n 0, 1) := by decide +kernel
theorem dMD_findWidths_96 : decode cMD_findWidths 96 = .ok (.getfield 69, 3) := by decide +kernel
theorem dMD_findWidths_99 : decode cMD_findWidths 99 = .ok (.iload 5, 2) := by decide +kernel
theorem dMD_findWidths_101 : decode cMD_findWidths 101 = .ok (.iload 4, 2) := by decide +kernel
theorem dMD_findWidths_103 : decode cMD_findWidths 103 = .ok (.ifCond .eq 13, 3) := by decide +kernel
theorem dMD_findWidths_106 : decode cMD_findWidths 106 = .ok (.aload_n 0, 1) := by decide +kernel
theorem dMD_findWidths_107 : decode cMD_findWidths 107 = .ok (.getfield 56, 3) := by decide +kernel
theorem dMD_findWidths_110 : decode cMD_findWidths 110 = .ok (.iload 5, 2) := by decide +kernel
theorem dMD_findWidths_112 : decode cMD_findWidths 112 = .ok (.iaload, 1) := by decide +kernel
theorem dMD_findWidths_113 : decode cMD_findWidths 113 = .ok (.goto 18, 3) := by decide +kernel
theorem dMD_findWidths_116 : decode cMD_findWidths 116 = .ok (.aload_n 0, 1) := by decide +kernel
theorem dMD_findWidths_117 : decode cMD_findWidths 117 = .ok (.getfield 56, 3) := by decide +kernel
theorem dMD_findWidths_120 : decode cMD_findWidths 120 = .ok (.iload 5, 2) := by decide +kernel
theorem dMD_findWidths_122 : decode cMD_findWidths 122 = .ok (.iaload, 1) := by decide +kernel
theorem dMD_findWidths_123 : decode cMD_findWidths 123 = .ok (.aload_n 0, 1) := by decide +kernel
theorem dMD_findWidths_124 : decode cMD_findWidths 124 = .ok (.getfield 53, 3) := by decide +kernel
theorem dMD_findWidths_127 : decode cMD_findWidths 127 = .ok (.iload 5, 2) := by decide +kernel
theorem dMD_findWidths_129 : decode cMD_findWidths 129 = .ok (.iaload, 1) := by decide +kernel
theorem dMD_findWidths_130 : decode cMD_findWidths 130 = .ok (.isub, 1) := by decide +kernel
theorem dMD_findWidths_131 : decode cMD_findWidths 131 = .ok (.iastore, 1) := by decide +kernel
theorem dMD_findWidths_132 : decode cMD_findWidths 132 = .ok (.iinc 5 1, 3) := by decide +kernel
theorem dMD_findWidths_135 : decode cMD_findWidths 135 = .ok (.goto (-76), 3) := by decide +kernel
theorem dMD_findWidths_138 : decode cMD_findWidths 138 = .ok (.aload_n 0, 1) := by decide +kernel
theorem dMD_findWidths_139 : decode cMD_findWidths 139 = .ok (.invokevirtual 140, 3) := by decide +kernel
theorem dMD_findWidths_142 : decode cMD_findWidths 142 = .ok (.iload_n 2, 1) := by decide +kernel
theorem dMD_findWidths_143 : decode cMD_findWidths 143 = .ok (.if_icmp .le 28, 3) := by decide +kernel
theorem dMD_findWidths_146 : decode cMD_findWidths 146 = .ok (.aload_n 0, 1) := by decide +kernel
theorem dMD_findWidths_147 : decode cMD_findWidths 147 = .ok (.aload_n 0, 1) := by decide +kernel
theorem dMD_findWidths_148 : decode cMD_findWidths 148 = .ok (.invokevirtual 140, 3) := by decide +kernel
theorem dMD_findWidths_151 : decode cMD_findWidths 151 = .ok (.iload 4, 2) := by decide +kernel
theorem dMD_findWidths_153 : decode cMD_findWidths 153 = .ok (.ifCond .eq 7, 3) := by decide +kernel
theorem dMD_findWidths_156 : decode cMD_findWidths 156 = .ok (.iload_n 3, 1) := by decide +kernel
theorem dMD_findWidths_157 : decode cMD_findWidths 157 = .ok (.goto 4, 3) := by decide +kernel
theorem dMD_findWidths_160 : decode cMD_findWidths 160 = .ok (.iload_n 2, 1) := by decide +kernel
theorem dMD_findWidths_161 : decode cMD_findWidths 161 = .ok (.isub, 1) := by decide +kernel
theorem dMD_findWidths_162 : decode cMD_findWidths 162 = .ok (.aload_n 0, 1) := by decide +kernel
theorem dMD_findWidths_163 : decode cMD_findWidths 163 = .ok (.getfield 59, 3) := by decide +kernel
theorem dMD_findWidths_166 : decode cMD_findWidths 166 = .ok (.iconst 0, 1) := by decide +kernel
theorem dMD_findWidths_167 : decode cMD_findWidths 167 = .ok (.iload_n 1, 1) := by decide +kernel
theorem dMD_findWidths_168 : decode cMD_findWidths 168 = .ok (.invokevirtual 132, 3) := by decide +kernel
theorem dMD_findWidths_171 : decode cMD_findWidths 171 = .ok (.return_, 1) := by decide +kernel
theorem dMD_fixWidths_0 : decode cMD_fixWidths 0 = .ok (.aload_n 0, 1) := by decide +kernel
theorem dMD_fixWidths_1 : decode cMD_fixWidths 1 = .ok (.invokevirtual 113, 3) := by decide +kernel
theorem dMD_fixWidths_4 : decode cMD_fixWidths 4 = .ok (.istore_n 1, 1) := by decide +kernel
theorem dMD_fixWidths_5 : decode cMD_fixWidths 5 = .ok (.iconst 0, 1) := by decide +kernel
theorem dMD_fixWidths_6 : decode cMD_fixWidths 6 = .ok (.istore_n 2, 1) := by decide +kernel
theorem dMD_fixWidths_7 : decode cMD_fixWidths 7 = .ok (.iload_n 2, 1) := by decide +kernel
theorem dMD_fixWidths_8 : decode cMD_fixWidths 8 = .ok (.bipush 12, 2) := by decide +kernel
theorem dMD_fixWidths_10 : decode cMD_fixWidths 10 = .ok (.if_icmp .ge 23, 3) := by decide +kernel
theorem dMD_fixWidths_13 : decode cMD_fixWidths 13 = .ok (.aload_n 0, 1) := by decide +kernel
theorem dMD_fixWidths_14 : decode cMD_fixWidths 14 = .ok (.getfield 59, 3) := by decide +kernel
theorem dMD_fixWidths_17 : decode cMD_fixWidths 17 = .ok (.iload_n 2, 1) := by decide +kernel
theorem dMD_fixWidths_18 : decode cMD_fixWidths 18 = .ok (.iconst 0, 1) := by decide +kernel
theorem dMD_fixWidths_19 : decode cMD_fixWidths 19 = .ok (.iastore, 1) := by decide +kernel
theorem dMD_fixWidths_20 : decode cMD_fixWidths 20 = .ok (.aload_n 0, 1) := by decide +kernel
theorem dMD_fixWidths_21 : decode cMD_fixWidths 21 = .ok (.getfield 65, 3) := by decide +kernel
theorem dMD_fixWidths_24 : decode cMD_fixWidths 24 = .ok (.iload_n 2, 1) := by decide +kernel
theorem dMD_fixWidths_25 : decode cMD_fixWidths 25 = .ok (.iconst 0, 1) := by decide +kernel
theorem dMD_fixWidths_26 : decode cMD_fixWidths 26 = .ok (.bastore, 1) := by decide +kernel
theorem dMD_fixWidths_27 : decode cMD_fixWidths 27 = .ok (.iinc 2 1, 3) := by decide +kernel
theorem dMD_fixWidths_30 : decode cMD_fixWidths 30 = .ok (.goto (-23), 3) := by decide +kernel
theorem dMD_fixWidths_33 : decode cMD_fixWidths 33 = .ok (.iconst 0, 1) := by decide +kernel
theorem dMD_fixWidths_34 : decode cMD_fixWidths 34 = .ok (.istore_n 2, 1) := by decide +kernel
theorem dMD_fixWidths_35 : decode cMD_fixWidths 35 = .ok (.iload_n 2, 1) := by decide +kernel
theorem dMD_fixWidths_36 : decode cMD_fixWidths 36 = .ok (.aload_n 0, 1) := by decide +kernel
theorem dMD_fixWidths_37 : decode cMD_fixWidths 37 = .ok (.getfield 72, 3) := by decide +kernel
theorem dMD_fixWidths_40 : decode cMD_fixWidths 40 = .ok (.if_icmp .ge 140, 3) := by decide +kernel
theorem dMD_fixWidths_43 : decode cMD_fixWidths 43 = .ok (.iconst 0, 1) := by decide +kernel
theorem dMD_fixWidths_44 : decode cMD_fixWidths 44 = .ok (.aload_n 0, 1) := by decide +kernel
theorem dMD_fixWidths_45 : decode cMD_fixWidths 45 = .ok (.getfield 35, 3) := by decide +kernel
theorem dMD_fixWidths_48 : decode cMD_fixWidths 48 = .ok (.iload_n 2, 1) := by decide +kernel
theorem dMD_fixWidths_49 : decode cMD_fixWidths 49 = .ok (.iaload, 1) := by decide +kernel
theorem dMD_fixWidths_50 : decode cMD_fixWidths 50 = .ok (.aload_n 0, 1) := by decide +kernel
theorem dMD_fixWidths_51 : decode cMD_fixWidths 51 = .ok (.getfield 95, 3) := by decide +kernel
theorem dMD_fixWidths_54 : decode cMD_fixWidths 54 = .ok (.aload_n 0, 1) := by decide +kernel
theorem dMD_fixWidths_55 : decode cMD_fixWidths 55 = .ok (.getfield 26, 3) := by decide +kernel
theorem dMD_fixWidths_58 : decode cMD_fixWidths 58 = .ok (.iload_n 2, 1) := by decide +kernel
theorem dMD_fixWidths_59 : decode cMD_fixWidths 59 = .ok (.iaload, 1) := by decide +kernel
theorem dMD_fixWidths_60 : decode cMD_fixWidths 60 = .ok (.iconst 1, 1) := by decide +kernel
theorem dMD_fixWidths_61 : decode cMD_fixWidths 61 = .ok (.isub, 1) := by decide +kernel
theorem dMD_fixWidths_62 : decode cMD_fixWidths 62 = .ok (.imul, 1) := by decide +kernel
theorem dMD_fixWidths_63 : decode cMD_fixWidths 63 = .ok (.isub, 1) := by decide +kernel
theorem dMD_fixWidths_64 : decode cMD_fixWidths 64 = .ok (.invokestatic 121, 3) := by decide +kernel
theorem dMD_fixWidths_67 : decode cMD_fixWidths 67 = .ok (.istore_n 3, 1) := by decide +kernel
theorem dMD_fixWidths_68 : decode cMD_fixWidths 68 = .ok (.iconst 0, 1) := by decide +kernel
theorem dMD_fixWidths_69 : decode cMD_fixWidths 69 = .ok (.istore 4, 2) := by decide +kernel
theorem dMD_fixWidths_71 : decode cMD_fixWidths 71 = .ok (.iload 4, 2) := by decide +kernel
theorem dMD_fixWidths_73 : decode cMD_fixWidths 73 = .ok (.aload_n 0, 1) := by decide +kernel
theorem dMD_fixWidths_74 : decode cMD_fixWidths 74 = .ok (.getfield 26, 3) := by decide +kernel
theorem dMD_fixWidths_77 : decode cMD_fixWidths 77 = .ok (.iload_n 2, 1) := by decide +kernel
theorem dMD_fixWidths_78 : decode cMD_fixWidths 78 = .ok (.iaload, 1) := by decide +kernel
theorem dMD_fixWidths_79 : decode cMD_fixWidths 79 = .ok (.if_icmp .ge 95, 3) := by decide +kernel
theorem dMD_fixWidths_82 : decode cMD_fixWidths 82 = .ok (.aload_n 0, 1) := by decide +kernel
theorem dMD_fixWidths_83 : decode cMD_fixWidths 83 = .ok (.getfield 23, 3) := by decide +kernel
theorem dMD_fixWidths_86 : decode cMD_fixWidths 86 = .ok (.iload_n 2, 1) := by decide +kernel
theorem dMD_fixWidths_87 : decode cMD_fixWidths 87 = .ok (.iaload, 1) := by decide +kernel
theorem dMD_fixWidths_88 : decode cMD_fixWidths 88 = .ok (.ifCond .ne 86, 3) := by decide +kernel
theorem dMD_fixWidths_91 : decode cMD_fixWidths 91 = .ok (.aload_n 0, 1) := by decide +kernel
theorem dMD_fixWidths_92 : decode cMD_fixWidths 92 = .ok (.getfield 20, 3) := by decide +kernel
theorem dMD_fixWidths_95 : decode cMD_fixWidths 95 = .ok (.iload_n 2, 1) := by decide +kernel
theorem dMD_fixWidths_96 : decode cMD_fixWidths 96 = .ok (.iaload, 1) := by decide +kernel
theorem dMD_fixWidths_97 : decode cMD_fixWidths 97 = .ok (.iload 4, 2) := by decide +kernel
theorem dMD_fixWidths_99 : decode cMD_fixWidths 99 = .ok (.iadd, 1) := by decide +kernel
theorem dMD_fixWidths_100 : decode cMD_fixWidths 100 = .ok (.istore 5, 2) := by decide +kernel
theorem dMD_fixWidths_102 : decode cMD_fixWidths 102 = .ok (.iload_n 3, 1) := by decide +kernel
theorem dMD_fixWidths_103 : decode cMD_fixWidths 103 = .ok (.aload_n 0, 1) := by decide +kernel
theorem dMD_fixWidths_104 : decode cMD_fixWidths 104 = .ok (.getfield 26, 3) := by decide +kernel
theorem dMD_fixWidths_107 : decode cMD_fixWidths 107 = .ok (.iload_n 2, 1) := by decide +kernel
theorem dMD_fixWidths_108 : decode cMD_fixWidths 108 = .ok (.iaload, 1) := by decide +kernel
theorem dMD_fixWidths_109 : decode cMD_fixWidths 109 = .ok (.idiv, 1) := by decide +kernel
theorem dMD_fixWidths_110 : decode cMD_fixWidths 110 = .ok (.iload 4, 2) := by decide +kernel
theorem dMD_fixWidths_112 : decode cMD_fixWidths 112 = .ok (.iload_n 3, 1) := by decide +kernel
theorem dMD_fixWidths_113 : decode cMD_fixWidths 113 = .ok (.aload_n 0, 1) := by decide +kernel
theorem dMD_fixWidths_114 : decode cMD_fixWidths 114 = .ok (.getfield 26, 3) := by decide +kernel
theorem dMD_fixWidths_117 : decode cMD_fixWidths 117 = .ok (.iload_n 2, 1) := by decide +kernel
theorem dMD_fixWidths_118 : decode cMD_fixWidths 118 = .ok (.iaload, 1) := by decide +kernel
theorem dMD_fixWidths_119 : decode cMD_fixWidths 119 = .ok (.irem, 1) := by decide +kernel
theorem dMD_fixWidths_120 : decode cMD_fixWidths 120 = .ok (.if_icmp .ge 7, 3) := by decide +kernel
theorem dMD_fixWidths_123 : decode cMD_fixWidths 123 = .ok (.iconst 1, 1) := by decide +kernel
theorem dMD_fixWidths_124 : decode cMD_fixWidths 124 = .ok (.goto 4, 3) := by decide +kernel
theorem dMD_fixWidths_127 : decode cMD_fixWidths 127 = .ok (.iconst 0, 1) := by decide +kernel
theorem dMD_fixWidths_128 : decode cMD_fixWidths 128 = .ok (.iadd, 1) := by decide +kernel
theorem dMD_fixWidths_129 : decode cMD_fixWidths 129 = .ok (.istore 6, 2) := by decide +kernel
theorem dMD_fixWidths_131 : decode cMD_fixWidths 131 = .ok (.aload_n 0, 1) := by decide +kernel
theorem dMD_fixWidths_132 : decode cMD_fixWidths 132 = .ok (.getfield 59, 3) := by decide +kernel
theorem dMD_fixWidths_135 : decode cMD_fixWidths 135 = .ok (.iload 5, 2) := by decide +kernel
theorem dMD_fixWidths_137 : decode cMD_fixWidths 137 = .ok (.aload_n 0, 1) := by decide +kernel
theorem dMD_fixWidths_138 : decode cMD_fixWidths 138 = .ok (.getfield 65, 3) := by decide +kernel
theorem dMD_fixWidths_141 : decode cMD_fixWidths 141 = .ok (.iload 5, 2) := by decide +kernel
theorem dMD_fixWidths_143 : decode cMD_fixWidths 143 = .ok (.baload, 1) := by decide +kernel
theorem dMD_fixWidths_144 : decode cMD_fixWidths 144 = .ok (.ifCond .eq 13, 3) := by decide +kernel
theorem dMD_fixWidths_147 : decode cMD_fixWidths 147 = .ok (.aload_n 0, 1) := by decide +kernel
theorem dMD_fixWidths_148 : decode cMD_fixWidths 148 = .ok (.getfield 59, 3) := by decide +kernel
theorem dMD_fixWidths_151 : decode cMD_fixWidths 151 = .ok (.iload 5, 2) := by decide +kernel
theorem dMD_fixWidths_153 : decode cMD_fixWidths 153 = .ok (.iaload, 1) := by decide +kernel
theorem dMD_fixWidths_154 : decode cMD_fixWidths 154 = .ok (.goto 5, 3) := by decide +kernel
theorem dMD_fixWidths_157 : decode cMD_fixWidths 157 = .ok (.iload 6, 2) := by decide +kernel
theorem dMD_fixWidths_159 : decode cMD_fixWidths 159 = .ok (.iastore, 1) := by decide +kernel
theorem dMD_fixWidths_160 : decode cMD_fixWidths 160 = .ok (.aload_n 0, 1) := by decide +kernel
theorem dMD_fixWidths_161 : decode cMD_fixWidths 161 = .ok (.getfield 65, 3) := by decide +kernel
theorem dMD_fixWidths_164 : decode cMD_fixWidths 164 = .ok (.iload 5, 2) := by decide +kernel
theorem dMD_fixWidths_166 : decode cMD_fixWidths 166 = .ok (.iconst 1, 1) := by decide +kernel
theorem dMD_fixWidths_167 : decode cMD_fixWidths 167 = .ok (.bastore, 1) := by decide +kernel
theorem dMD_fixWidths_168 : decode cMD_fixWidths 168 = .ok (.iinc 4 1, 3) := by decide +kernel
theorem dMD_fixWidths_171 : decode cMD_fixWidths 171 = .ok (.goto (-100), 3) := by decide +kernel
theorem dMD_fixWidths_174 : decode cMD_fixWidths 174 = .ok (.iinc 2 1, 3) := by decide +kernel
theorem dMD_fixWidths_177 : decode cMD_fixWidths 177 = .ok (.goto (-142), 3) := by decide +kernel
theorem dMD_fixWidths_180 : decode cMD_fixWidths 180 = .ok (.iconst 0, 1) := by decide +kernel
theorem dMD_fixWidths_181 : decode cMD_fixWidths 181 = .ok (.istore_n 2, 1) := by decide +kernel
theorem dMD_fixWidths_182 : decode cMD_fixWidths 182 = .ok (.iconst 0, 1) := by decide +kernel
theorem dMD_fixWidths_183 : decode cMD_fixWidths 183 = .ok (.istore_n 3, 1) := by decide +kernel
theorem dMD_fixWidths_184 : decode cMD_fixWidths 184 = .ok (.iload_n 3, 1) := by decide +kernel
theorem dMD_fixWidths_185 : decode cMD_fixWidths 185 = .ok (.iload_n 1, 1) := by decide +kernel
theorem dMD_fixWidths_186 : decode cMD_fixWidths 186 = .ok (.if_icmp .ge 26, 3) := by decide +kernel
theorem dMD_fixWidths_189 : decode cMD_fixWidths 189 = .ok (.aload_n 0, 1) := by decide +kernel
