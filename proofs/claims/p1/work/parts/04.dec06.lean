theorem dMD_empties_111 : decode cMD_empties 111 = .ok (.iadd, 1) := by decide +kernel
theorem dMD_empties_112 : decode cMD_empties 112 = .ok (.iload 4, 2) := by decide +kernel
theorem dMD_empties_114 : decode cMD_empties 114 = .ok (.ifCond .eq 8, 3) := by decide +kernel
theorem dMD_empties_122 : decode cMD_empties 122 = .ok (.iconst 0, 1) := by decide +kernel
theorem dMD_empties_123 : decode cMD_empties 123 = .ok (.iadd, 1) := by decide +kernel
theorem dMD_empties_124 : decode cMD_empties 124 = .ok (.istore_n 1, 1) := by decide +kernel
theorem dMD_empties_125 : decode cMD_empties 125 = .ok (.iinc 2 1, 3) := by decide +kernel
theorem dMD_empties_128 : decode cMD_empties 128 = .ok (.goto (-124), 3) := by decide +kernel
theorem dMD_empties_131 : decode cMD_empties 131 = .ok (.iload_n 1, 1) := by decide +kernel
theorem dMD_empties_132 : decode cMD_empties 132 = .ok (.ireturn, 1) := by decide +kernel
theorem dMD_endOf_0 : decode cMD_endOf 0 = .ok (.aload_n 0, 1) := by decide +kernel
theorem dMD_endOf_1 : decode cMD_endOf 1 = .ok (.getfield 13, 3) := by decide +kernel
theorem dMD_endOf_4 : decode cMD_endOf 4 = .ok (.iload_n 1, 1) := by decide +kernel
theorem dMD_endOf_5 : decode cMD_endOf 5 = .ok (.iaload, 1) := by decide +kernel
theorem dMD_endOf_6 : decode cMD_endOf 6 = .ok (.aload_n 0, 1) := by decide +kernel
theorem dMD_endOf_7 : decode cMD_endOf 7 = .ok (.getfield 17, 3) := by decide +kernel
theorem dMD_endOf_10 : decode cMD_endOf 10 = .ok (.iload_n 1, 1) := by decide +kernel
theorem dMD_endOf_11 : decode cMD_endOf 11 = .ok (.iaload, 1) := by decide +kernel
theorem dMD_endOf_12 : decode cMD_endOf 12 = .ok (.iadd, 1) := by decide +kernel
theorem dMD_endOf_13 : decode cMD_endOf 13 = .ok (.istore_n 2, 1) := by decide +kernel
theorem dMD_endOf_14 : decode cMD_endOf 14 = .ok (.iconst 0, 1) := by decide +kernel
theorem dMD_endOf_15 : decode cMD_endOf 15 = .ok (.istore_n 3, 1) := by decide +kernel
theorem dMD_endOf_16 : decode cMD_endOf 16 = .ok (.iload_n 3, 1) := by decide +kernel
theorem dMD_endOf_17 : decode cMD_endOf 17 = .ok (.aload_n 0, 1) := by decide +kernel
theorem dMD_endOf_18 : decode cMD_endOf 18 = .ok (.getfield 72, 3) := by decide +kernel
theorem dMD_endOf_21 : decode cMD_endOf 21 = .ok (.if_icmp .ge 60, 3) := by decide +kernel
theorem dMD_endOf_81 : decode cMD_endOf 81 = .ok (.iload_n 2, 1) := by decide +kernel
theorem dMD_endOf_82 : decode cMD_endOf 82 = .ok (.ireturn, 1) := by decide +kernel
theorem dMD_findHeights_0 : decode cMD_findHeights 0 = .ok (.iconst 0, 1) := by decide +kernel
theorem dMD_findHeights_1 : decode cMD_findHeights 1 = .ok (.istore_n 1, 1) := by decide +kernel
theorem dMD_findHeights_2 : decode cMD_findHeights 2 = .ok (.iload_n 1, 1) := by decide +kernel
theorem dMD_findHeights_3 : decode cMD_findHeights 3 = .ok (.bipush 12, 2) := by decide +kernel
theorem dMD_findHeights_5 : decode cMD_findHeights 5 = .ok (.if_icmp .ge 16, 3) := by decide +kernel
theorem dMD_findHeights_8 : decode cMD_findHeights 8 = .ok (.aload_n 0, 1) := by decide +kernel
theorem dMD_findHeights_9 : decode cMD_findHeights 9 = .ok (.getfield 62, 3) := by decide +kernel
theorem dMD_findHeights_12 : decode cMD_findHeights 12 = .ok (.iload_n 1, 1) := by decide +kernel
theorem dMD_findHeights_13 : decode cMD_findHeights 13 = .ok (.iconst 0, 1) := by decide +kernel
theorem dMD_findHeights_14 : decode cMD_findHeights 14 = .ok (.iastore, 1) := by decide +kernel
theorem dMD_findHeights_15 : decode cMD_findHeights 15 = .ok (.iinc 1 1, 3) := by decide +kernel
theorem dMD_findHeights_18 : decode cMD_findHeights 18 = .ok (.goto (-16), 3) := by decide +kernel
theorem dMD_findHeights_21 : decode cMD_findHeights 21 = .ok (.iconst 1, 1) := by decide +kernel
theorem dMD_findHeights_22 : decode cMD_findHeights 22 = .ok (.istore_n 1, 1) := by decide +kernel
theorem dMD_findHeights_23 : decode cMD_findHeights 23 = .ok (.iload_n 1, 1) := by decide +kernel
theorem dMD_findHeights_24 : decode cMD_findHeights 24 = .ok (.bipush 13, 2) := by decide +kernel
theorem dMD_findHeights_26 : decode cMD_findHeights 26 = .ok (.if_icmp .ge 134, 3) := by decide +kernel
theorem dMD_findHeights_29 : decode cMD_findHeights 29 = .ok (.iconst 0, 1) := by decide +kernel
theorem dMD_findHeights_30 : decode cMD_findHeights 30 = .ok (.istore_n 2, 1) := by decide +kernel
theorem dMD_findHeights_31 : decode cMD_findHeights 31 = .ok (.iload_n 2, 1) := by decide +kernel
theorem dMD_findHeights_32 : decode cMD_findHeights 32 = .ok (.aload_n 0, 1) := by decide +kernel
theorem dMD_findHeights_33 : decode cMD_findHeights 33 = .ok (.getfield 72, 3) := by decide +kernel
theorem dMD_findHeights_36 : decode cMD_findHeights 36 = .ok (.if_icmp .ge 118, 3) := by decide +kernel
theorem dMD_findHeights_154 : decode cMD_findHeights 154 = .ok (.iinc 1 1, 3) := by decide +kernel
theorem dMD_findHeights_157 : decode cMD_findHeights 157 = .ok (.goto (-134), 3) := by decide +kernel
theorem dMD_findHeights_160 : decode cMD_findHeights 160 = .ok (.return_, 1) := by decide +kernel
theorem dMD_findWidths_0 : decode cMD_findWidths 0 = .ok (.aload_n 0, 1) := by decide +kernel
theorem dMD_findWidths_1 : decode cMD_findWidths 1 = .ok (.invokevirtual 143, 3) := by decide +kernel
theorem dMD_findWidths_4 : decode cMD_findWidths 4 = .ok (.aload_n 0, 1) := by decide +kernel
theorem dMD_findWidths_5 : decode cMD_findWidths 5 = .ok (.getfield 98, 3) := by decide +kernel
theorem dMD_findWidths_8 : decode cMD_findWidths 8 = .ok (.ifCond .eq 8, 3) := by decide +kernel
theorem dMD_findWidths_16 : decode cMD_findWidths 16 = .ok (.aload_n 0, 1) := by decide +kernel
theorem dMD_findWidths_17 : decode cMD_findWidths 17 = .ok (.invokevirtual 113, 3) := by decide +kernel
theorem dMD_findWidths_20 : decode cMD_findWidths 20 = .ok (.istore_n 1, 1) := by decide +kernel
theorem dMD_findWidths_21 : decode cMD_findWidths 21 = .ok (.aload_n 0, 1) := by decide +kernel
theorem dMD_findWidths_22 : decode cMD_findWidths 22 = .ok (.getfield 53, 3) := by decide +kernel
theorem dMD_findWidths_25 : decode cMD_findWidths 25 = .ok (.iconst 0, 1) := by decide +kernel
theorem dMD_findWidths_26 : decode cMD_findWidths 26 = .ok (.iload_n 1, 1) := by decide +kernel
theorem dMD_findWidths_27 : decode cMD_findWidths 27 = .ok (.invokestatic 128, 3) := by decide +kernel
theorem dMD_findWidths_30 : decode cMD_findWidths 30 = .ok (.istore_n 2, 1) := by decide +kernel
theorem dMD_findWidths_31 : decode cMD_findWidths 31 = .ok (.aload_n 0, 1) := by decide +kernel
theorem dMD_findWidths_32 : decode cMD_findWidths 32 = .ok (.getfield 56, 3) := by decide +kernel
theorem dMD_findWidths_35 : decode cMD_findWidths 35 = .ok (.iconst 0, 1) := by decide +kernel
theorem dMD_findWidths_36 : decode cMD_findWidths 36 = .ok (.iload_n 1, 1) := by decide +kernel
theorem dMD_findWidths_37 : decode cMD_findWidths 37 = .ok (.invokestatic 128, 3) := by decide +kernel
theorem dMD_findWidths_40 : decode cMD_findWidths 40 = .ok (.istore_n 3, 1) := by decide +kernel
theorem dMD_findWidths_41 : decode cMD_findWidths 41 = .ok (.aload_n 0, 1) := by decide +kernel
theorem dMD_findWidths_42 : decode cMD_findWidths 42 = .ok (.invokevirtual 140, 3) := by decide +kernel
theorem dMD_findWidths_45 : decode cMD_findWidths 45 = .ok (.iload_n 3, 1) := by decide +kernel
theorem dMD_findWidths_46 : decode cMD_findWidths 46 = .ok (.if_icmp .le 7, 3) := by decide +kernel
theorem dMD_findWidths_53 : decode cMD_findWidths 53 = .ok (.iconst 0, 1) := by decide +kernel
theorem dMD_findWidths_54 : decode cMD_findWidths 54 = .ok (.istore 4, 2) := by decide +kernel
theorem dMD_findWidths_56 : decode cMD_findWidths 56 = .ok (.iconst 0, 1) := by decide +kernel
theorem dMD_findWidths_57 : decode cMD_findWidths 57 = .ok (.istore 5, 2) := by decide +kernel
theorem dMD_findWidths_59 : decode cMD_findWidths 59 = .ok (.iload 5, 2) := by decide +kernel
theorem dMD_findWidths_61 : decode cMD_findWidths 61 = .ok (.bipush 12, 2) := by decide +kernel
theorem dMD_findWidths_63 : decode cMD_findWidths 63 = .ok (.if_icmp .ge 75, 3) := by decide +kernel
theorem dMD_findWidths_66 : decode cMD_findWidths 66 = .ok (.aload_n 0, 1) := by decide +kernel
theorem dMD_findWidths_67 : decode cMD_findWidths 67 = .ok (.getfield 59, 3) := by decide +kernel
theorem dMD_findWidths_70 : decode cMD_findWidths 70 = .ok (.iload 5, 2) := by decide +kernel
theorem dMD_findWidths_72 : decode cMD_findWidths 72 = .ok (.iload 4, 2) := by decide +kernel
theorem dMD_findWidths_74 : decode cMD_findWidths 74 = .ok (.ifCond .eq 13, 3) := by decide +kernel
theorem dMD_findWidths_87 : decode cMD_findWidths 87 = .ok (.aload_n 0, 1) := by decide +kernel
theorem dMD_findWidths_88 : decode cMD_findWidths 88 = .ok (.getfield 53, 3) := by decide +kernel
theorem dMD_findWidths_91 : decode cMD_findWidths 91 = .ok (.iload 5, 2) := by decide +kernel
theorem dMD_findWidths_93 : decode cMD_findWidths 93 = .ok (.iaload, 1) := by decide +kernel
theorem dMD_findWidths_94 : decode cMD_findWidths 94 = .ok (.iastore, 1) := by decide +kernel
theorem dMD_findWidths_95 : decode cMD_findWidths 95 = .ok (.aload_n 0, 1) := by decide +kernel
theorem dMD_findWidths_96 : decode cMD_findWidths 96 = .ok (.getfield 69, 3) := by decide +kernel
theorem dMD_findWidths_99 : decode cMD_findWidths 99 = .ok (.iload 5, 2) := by decide +kernel
theorem dMD_findWidths_101 : decode cMD_findWidths 101 = .ok (.iload 4, 2) := by decide +kernel
theorem dMD_findWidths_103 : decode cMD_findWidths 103 = .ok (.ifCond .eq 13, 3) := by decide +kernel
theorem dMD_findWidths_116 : decode cMD_findWidths 116 = .ok (.aload_n 0, 1) := by decide +kernel
theorem dMD_findWidths_117 : decode cMD_findWidths 117 = .ok (.getfield 56, 3) := by decide +kernel
theorem dMD_findWidths_120 : decode cMD_findWidths 120 = .ok (.iload 5, 2) := by decide +kernel
theorem dMD_findWidths_122 : decode cMD_findWidths 122 = .ok (.iaload, 1) := by decide +kernel
theorem dMD_findWidths_123 : decode cMD_findWidths 123 = .ok (.aload_n 0, 1) := by decide +kernel
theorem dMD_findWidths_124 : decode cMD_findWidths 124 = .ok (.getfield 53, 3) := by decide +kernel
theorem dMD_findWidths_127 : decode cMD_findWidths 127 = .ok (.iload 5, 2) := by decide +kernel
theorem dMD_findWidths_129 : decode cMD_findWidths 129 = .ok (.iaload, 1) := by decide +kernel
theorem dMD_findWidths_130 : decode cMD_findWidths 130 = .ok (.isub, 1) := by decide +kernel
theorem dMD_findWidths_131 : decode cMD_findWidths 131 = .ok (.iastore, 1) := by decide +kernel
theorem dMD_findWidths_132 : decode cMD_findWidths 132 = .ok (.iinc 5 1, 3) := by decide +kernel
theorem dMD_findWidths_135 : decode cMD_findWidths 135 = .ok (.goto (-76), 3) := by decide +kernel
theorem dMD_findWidths_138 : decode cMD_findWidths 138 = .ok (.aload_n 0, 1) := by decide +kernel
theorem dMD_findWidths_139 : decode cMD_findWidths 139 = .ok (.invokevirtual 140, 3) := by decide +kernel
theorem dMD_findWidths_142 : decode cMD_findWidths 142 = .ok (.iload_n 2, 1) := by decide +kernel
theorem dMD_findWidths_143 : decode cMD_findWidths 143 = .ok (.if_icmp .le 28, 3) := by decide +kernel
theorem dMD_findWidths_171 : decode cMD_findWidths 171 = .ok (.return_, 1) := by decide +kernel
theorem dMD_greater_0 : decode cMD_greater 0 = .ok (.iload_n 0, 1) := by decide +kernel
theorem dMD_greater_1 : decode cMD_greater 1 = .ok (.iload_n 1, 1) := by decide +kernel
theorem dMD_greater_2 : decode cMD_greater 2 = .ok (.if_icmp .le 7, 3) := by decide +kernel
