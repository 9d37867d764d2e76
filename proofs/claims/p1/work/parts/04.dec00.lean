theorem dAL_size_0 : decode cAL_size 0 = .ok (.aload_n 0, 1) := by decide +kernel
theorem dAL_size_1 : decode cAL_size 1 = .ok (.getfield 48, 3) := by decide +kernel
theorem dAL_size_4 : decode cAL_size 4 = .ok (.ireturn, 1) := by decide +kernel
theorem dGR_cellCount_0 : decode cGR_cellCount 0 = .ok (.aload_n 0, 1) := by decide +kernel
theorem dGR_cellCount_1 : decode cGR_cellCount 1 = .ok (.getfield 12, 3) := by decide +kernel
theorem dGR_cellCount_4 : decode cGR_cellCount 4 = .ok (.invokevirtual 41, 3) := by decide +kernel
theorem dGR_cellCount_7 : decode cGR_cellCount 7 = .ok (.ireturn, 1) := by decide +kernel
theorem dGR_columnCount_0 : decode cGR_columnCount 0 = .ok (.aload_n 0, 1) := by decide +kernel
theorem dGR_columnCount_1 : decode cGR_columnCount 1 = .ok (.getfield 31, 3) := by decide +kernel
theorem dGR_columnCount_4 : decode cGR_columnCount 4 = .ok (.ireturn, 1) := by decide +kernel
theorem dGR_hasCell_0 : decode cGR_hasCell 0 = .ok (.iconst 0, 1) := by decide +kernel
theorem dGR_hasCell_1 : decode cGR_hasCell 1 = .ok (.iload_n 1, 1) := by decide +kernel
theorem dGR_hasCell_2 : decode cGR_hasCell 2 = .ok (.if_icmp .gt 18, 3) := by decide +kernel
theorem dGR_hasCell_5 : decode cGR_hasCell 5 = .ok (.iload_n 1, 1) := by decide +kernel
theorem dGR_hasCell_6 : decode cGR_hasCell 6 = .ok (.aload_n 0, 1) := by decide +kernel
theorem dGR_hasCell_7 : decode cGR_hasCell 7 = .ok (.getfield 12, 3) := by decide +kernel
theorem dGR_hasCell_10 : decode cGR_hasCell 10 = .ok (.invokevirtual 41, 3) := by decide +kernel
theorem dGR_hasCell_13 : decode cGR_hasCell 13 = .ok (.if_icmp .ge 7, 3) := by decide +kernel
theorem dGR_hasCell_20 : decode cGR_hasCell 20 = .ok (.iconst 0, 1) := by decide +kernel
theorem dGR_hasCell_21 : decode cGR_hasCell 21 = .ok (.ireturn, 1) := by decide +kernel
theorem dGR_rowCount_0 : decode cGR_rowCount 0 = .ok (.aload_n 0, 1) := by decide +kernel
theorem dGR_rowCount_1 : decode cGR_rowCount 1 = .ok (.getfield 28, 3) := by decide +kernel
theorem dGR_rowCount_4 : decode cGR_rowCount 4 = .ok (.ireturn, 1) := by decide +kernel
theorem dSC_within_0 : decode cSC_within 0 = .ok (.iload_n 1, 1) := by decide +kernel
theorem dSC_within_1 : decode cSC_within 1 = .ok (.iload_n 0, 1) := by decide +kernel
theorem dSC_within_2 : decode cSC_within 2 = .ok (.if_icmp .gt 12, 3) := by decide +kernel
theorem dSC_within_5 : decode cSC_within 5 = .ok (.iload_n 0, 1) := by decide +kernel
theorem dSC_within_6 : decode cSC_within 6 = .ok (.iload_n 2, 1) := by decide +kernel
theorem dSC_within_7 : decode cSC_within 7 = .ok (.if_icmp .gt 7, 3) := by decide +kernel
theorem dSC_within_10 : decode cSC_within 10 = .ok (.iconst 1, 1) := by decide +kernel
theorem dSC_within_11 : decode cSC_within 11 = .ok (.goto 4, 3) := by decide +kernel
theorem dSC_within_14 : decode cSC_within 14 = .ok (.iconst 0, 1) := by decide +kernel
theorem dSC_within_15 : decode cSC_within 15 = .ok (.ireturn, 1) := by decide +kernel
