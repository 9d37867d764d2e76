theorem dAB_init_0 : decode cAB_init 0 = .ok (.aload_n 0, 1) := by decide +kernel
theorem dAB_init_1 : decode cAB_init 1 = .ok (.invokespecial 1, 3) := by decide +kernel
theorem dAB_init_4 : decode cAB_init 4 = .ok (.aload_n 0, 1) := by decide +kernel
theorem dAB_init_5 : decode cAB_init 5 = .ok (.iconst 0, 1) := by decide +kernel
theorem dAB_init_6 : decode cAB_init 6 = .ok (.putfield 7, 3) := by decide +kernel
theorem dAB_init_9 : decode cAB_init 9 = .ok (.return_, 1) := by decide +kernel
theorem dAC_init_0 : decode cAC_init 0 = .ok (.aload_n 0, 1) := by decide +kernel
theorem dAC_init_1 : decode cAC_init 1 = .ok (.invokespecial 1, 3) := by decide +kernel
theorem dAC_init_4 : decode cAC_init 4 = .ok (.return_, 1) := by decide +kernel
theorem dAL_clear_0 : decode cAL_clear 0 = .ok (.aload_n 0, 1) := by decide +kernel
theorem dAL_clear_1 : decode cAL_clear 1 = .ok (.dup, 1) := by decide +kernel
theorem dAL_clear_2 : decode cAL_clear 2 = .ok (.getfield 63, 3) := by decide +kernel
theorem dAL_clear_5 : decode cAL_clear 5 = .ok (.iconst 1, 1) := by decide +kernel
theorem dAL_clear_6 : decode cAL_clear 6 = .ok (.iadd, 1) := by decide +kernel
theorem dAL_clear_7 : decode cAL_clear 7 = .ok (.putfield 63, 3) := by decide +kernel
theorem dAL_clear_10 : decode cAL_clear 10 = .ok (.aload_n 0, 1) := by decide +kernel
theorem dAL_clear_11 : decode cAL_clear 11 = .ok (.getfield 9, 3) := by decide +kernel
theorem dAL_clear_14 : decode cAL_clear 14 = .ok (.astore_n 1, 1) := by decide +kernel
theorem dAL_clear_15 : decode cAL_clear 15 = .ok (.aload_n 0, 1) := by decide +kernel
theorem dAL_clear_16 : decode cAL_clear 16 = .ok (.getfield 48, 3) := by decide +kernel
theorem dAL_clear_19 : decode cAL_clear 19 = .ok (.istore_n 2, 1) := by decide +kernel
theorem dAL_clear_20 : decode cAL_clear 20 = .ok (.aload_n 0, 1) := by decide +kernel
theorem dAL_clear_21 : decode cAL_clear 21 = .ok (.iconst 0, 1) := by decide +kernel
theorem dAL_clear_22 : decode cAL_clear 22 = .ok (.dup_x1, 1) := by decide +kernel
theorem dAL_clear_23 : decode cAL_clear 23 = .ok (.putfield 48, 3) := by decide +kernel
theorem dAL_clear_26 : decode cAL_clear 26 = .ok (.istore_n 3, 1) := by decide +kernel
theorem dAL_clear_27 : decode cAL_clear 27 = .ok (.iload_n 3, 1) := by decide +kernel
theorem dAL_clear_28 : decode cAL_clear 28 = .ok (.iload_n 2, 1) := by decide +kernel
theorem dAL_clear_29 : decode cAL_clear 29 = .ok (.if_icmp .ge 13, 3) := by decide +kernel
theorem dAL_clear_42 : decode cAL_clear 42 = .ok (.return_, 1) := by decide +kernel
theorem dAL_init_0 : decode cAL_init 0 = .ok (.aload_n 0, 1) := by decide +kernel
theorem dAL_init_1 : decode cAL_init 1 = .ok (.invokespecial 1, 3) := by decide +kernel
theorem dAL_init_4 : decode cAL_init 4 = .ok (.aload_n 0, 1) := by decide +kernel
theorem dAL_init_5 : decode cAL_init 5 = .ok (.getstatic 39, 3) := by decide +kernel
theorem dAL_init_8 : decode cAL_init 8 = .ok (.putfield 9, 3) := by decide +kernel
theorem dAL_init_11 : decode cAL_init 11 = .ok (.return_, 1) := by decide +kernel
theorem dAL_size_0 : decode cAL_size 0 = .ok (.aload_n 0, 1) := by decide +kernel
theorem dAL_size_1 : decode cAL_size 1 = .ok (.getfield 48, 3) := by decide +kernel
theorem dAL_size_4 : decode cAL_size 4 = .ok (.ireturn, 1) := by decide +kernel
theorem dGR_beginGroup_0 : decode cGR_beginGroup 0 = .ok (.aload_n 0, 1) := by decide +kernel
theorem dGR_beginGroup_1 : decode cGR_beginGroup 1 = .ok (.getfield 18, 3) := by decide +kernel
theorem dGR_beginGroup_4 : decode cGR_beginGroup 4 = .ok (.bipush 8, 2) := by decide +kernel
theorem dGR_beginGroup_6 : decode cGR_beginGroup 6 = .ok (.if_icmp .ne 5, 3) := by decide +kernel
theorem dGR_beginGroup_11 : decode cGR_beginGroup 11 = .ok (.aload_n 0, 1) := by decide +kernel
theorem dGR_beginGroup_12 : decode cGR_beginGroup 12 = .ok (.dup, 1) := by decide +kernel
theorem dGR_beginGroup_13 : decode cGR_beginGroup 13 = .ok (.getfield 18, 3) := by decide +kernel
theorem dGR_beginGroup_16 : decode cGR_beginGroup 16 = .ok (.iconst 1, 1) := by decide +kernel
theorem dGR_beginGroup_17 : decode cGR_beginGroup 17 = .ok (.iadd, 1) := by decide +kernel
theorem dGR_beginGroup_18 : decode cGR_beginGroup 18 = .ok (.putfield 18, 3) := by decide +kernel
theorem dGR_beginGroup_21 : decode cGR_beginGroup 21 = .ok (.aload_n 0, 1) := by decide +kernel
theorem dGR_beginGroup_22 : decode cGR_beginGroup 22 = .ok (.aload_n 0, 1) := by decide +kernel
theorem dGR_beginGroup_23 : decode cGR_beginGroup 23 = .ok (.getfield 28, 3) := by decide +kernel
theorem dGR_beginGroup_26 : decode cGR_beginGroup 26 = .ok (.putfield 22, 3) := by decide +kernel
theorem dGR_beginGroup_29 : decode cGR_beginGroup 29 = .ok (.aload_n 0, 1) := by decide +kernel
theorem dGR_beginGroup_30 : decode cGR_beginGroup 30 = .ok (.iconst 0, 1) := by decide +kernel
theorem dGR_beginGroup_31 : decode cGR_beginGroup 31 = .ok (.putfield 25, 3) := by decide +kernel
theorem dGR_beginGroup_34 : decode cGR_beginGroup 34 = .ok (.aload_n 0, 1) := by decide +kernel
theorem dGR_beginGroup_35 : decode cGR_beginGroup 35 = .ok (.getfield 18, 3) := by decide +kernel
theorem dGR_beginGroup_38 : decode cGR_beginGroup 38 = .ok (.ireturn, 1) := by decide +kernel
theorem dGR_beginRow_0 : decode cGR_beginRow 0 = .ok (.aload_n 0, 1) := by decide +kernel
theorem dGR_beginRow_1 : decode cGR_beginRow 1 = .ok (.getfield 22, 3) := by decide +kernel
theorem dGR_beginRow_4 : decode cGR_beginRow 4 = .ok (.aload_n 0, 1) := by decide +kernel
theorem dGR_beginRow_5 : decode cGR_beginRow 5 = .ok (.getfield 25, 3) := by decide +kernel
theorem dGR_beginRow_8 : decode cGR_beginRow 8 = .ok (.iadd, 1) := by decide +kernel
theorem dGR_beginRow_9 : decode cGR_beginRow 9 = .ok (.istore_n 1, 1) := by decide +kernel
theorem dGR_beginRow_10 : decode cGR_beginRow 10 = .ok (.iload_n 1, 1) := by decide +kernel
theorem dGR_beginRow_11 : decode cGR_beginRow 11 = .ok (.bipush 12, 2) := by decide +kernel
theorem dGR_beginRow_13 : decode cGR_beginRow 13 = .ok (.if_icmp .lt 5, 3) := by decide +kernel
theorem dGR_beginRow_18 : decode cGR_beginRow 18 = .ok (.aload_n 0, 1) := by decide +kernel
theorem dGR_beginRow_19 : decode cGR_beginRow 19 = .ok (.dup, 1) := by decide +kernel
theorem dGR_beginRow_20 : decode cGR_beginRow 20 = .ok (.getfield 25, 3) := by decide +kernel
theorem dGR_beginRow_23 : decode cGR_beginRow 23 = .ok (.iconst 1, 1) := by decide +kernel
theorem dGR_beginRow_24 : decode cGR_beginRow 24 = .ok (.iadd, 1) := by decide +kernel
theorem dGR_beginRow_25 : decode cGR_beginRow 25 = .ok (.putfield 25, 3) := by decide +kernel
theorem dGR_beginRow_28 : decode cGR_beginRow 28 = .ok (.aload_n 0, 1) := by decide +kernel
theorem dGR_beginRow_29 : decode cGR_beginRow 29 = .ok (.iload_n 1, 1) := by decide +kernel
theorem dGR_beginRow_30 : decode cGR_beginRow 30 = .ok (.iconst 1, 1) := by decide +kernel
theorem dGR_beginRow_31 : decode cGR_beginRow 31 = .ok (.iadd, 1) := by decide +kernel
theorem dGR_beginRow_32 : decode cGR_beginRow 32 = .ok (.invokevirtual 37, 3) := by decide +kernel
theorem dGR_beginRow_35 : decode cGR_beginRow 35 = .ok (.iload_n 1, 1) := by decide +kernel
theorem dGR_beginRow_36 : decode cGR_beginRow 36 = .ok (.ireturn, 1) := by decide +kernel
theorem dGR_cellCount_0 : decode cGR_cellCount 0 = .ok (.aload_n 0, 1) := by decide +kernel
theorem dGR_cellCount_1 : decode cGR_cellCount 1 = .ok (.getfield 12, 3) := by decide +kernel
theorem dGR_cellCount_4 : decode cGR_cellCount 4 = .ok (.invokevirtual 41, 3) := by decide +kernel
theorem dGR_cellCount_7 : decode cGR_cellCount 7 = .ok (.ireturn, 1) := by decide +kernel
theorem dGR_columnCount_0 : decode cGR_columnCount 0 = .ok (.aload_n 0, 1) := by decide +kernel
theorem dGR_columnCount_1 : decode cGR_columnCount 1 = .ok (.getfield 31, 3) := by decide +kernel
theorem dGR_columnCount_4 : decode cGR_columnCount 4 = .ok (.ireturn, 1) := by decide +kernel
theorem dGR_countEmptyColumns_0 : decode cGR_countEmptyColumns 0 = .ok (.iconst 0, 1) := by decide +kernel
theorem dGR_countEmptyColumns_1 : decode cGR_countEmptyColumns 1 = .ok (.istore_n 1, 1) := by decide +kernel
theorem dGR_countEmptyColumns_2 : decode cGR_countEmptyColumns 2 = .ok (.iconst 0, 1) := by decide +kernel
theorem dGR_countEmptyColumns_3 : decode cGR_countEmptyColumns 3 = .ok (.istore_n 2, 1) := by decide +kernel
theorem dGR_countEmptyColumns_4 : decode cGR_countEmptyColumns 4 = .ok (.iload_n 2, 1) := by decide +kernel
theorem dGR_countEmptyColumns_5 : decode cGR_countEmptyColumns 5 = .ok (.aload_n 0, 1) := by decide +kernel
theorem dGR_countEmptyColumns_6 : decode cGR_countEmptyColumns 6 = .ok (.getfield 31, 3) := by decide +kernel
theorem dGR_countEmptyColumns_9 : decode cGR_countEmptyColumns 9 = .ok (.if_icmp .ge 25, 3) := by decide +kernel
theorem dGR_countEmptyColumns_34 : decode cGR_countEmptyColumns 34 = .ok (.iload_n 1, 1) := by decide +kernel
theorem dGR_countEmptyColumns_35 : decode cGR_countEmptyColumns 35 = .ok (.ireturn, 1) := by decide +kernel
theorem dGR_countEmptyRows_0 : decode cGR_countEmptyRows 0 = .ok (.iconst 0, 1) := by decide +kernel
theorem dGR_countEmptyRows_1 : decode cGR_countEmptyRows 1 = .ok (.istore_n 1, 1) := by decide +kernel
theorem dGR_countEmptyRows_2 : decode cGR_countEmptyRows 2 = .ok (.iconst 0, 1) := by decide +kernel
theorem dGR_countEmptyRows_3 : decode cGR_countEmptyRows 3 = .ok (.istore_n 2, 1) := by decide +kernel
theorem dGR_countEmptyRows_4 : decode cGR_countEmptyRows 4 = .ok (.iload_n 2, 1) := by decide +kernel
theorem dGR_countEmptyRows_5 : decode cGR_countEmptyRows 5 = .ok (.aload_n 0, 1) := by decide +kernel
theorem dGR_countEmptyRows_6 : decode cGR_countEmptyRows 6 = .ok (.getfield 28, 3) := by decide +kernel
theorem dGR_countEmptyRows_9 : decode cGR_countEmptyRows 9 = .ok (.if_icmp .ge 25, 3) := by decide +kernel
theorem dGR_countEmptyRows_34 : decode cGR_countEmptyRows 34 = .ok (.iload_n 1, 1) := by decide +kernel
theorem dGR_countEmptyRows_35 : decode cGR_countEmptyRows 35 = .ok (.ireturn, 1) := by decide +kernel
theorem dGR_countOverlaps_0 : decode cGR_countOverlaps 0 = .ok (.iconst 0, 1) := by decide +kernel
theorem dGR_countOverlaps_1 : decode cGR_countOverlaps 1 = .ok (.istore_n 1, 1) := by decide +kernel
theorem dGR_countOverlaps_2 : decode cGR_countOverlaps 2 = .ok (.iconst 0, 1) := by decide +kernel
theorem dGR_countOverlaps_3 : decode cGR_countOverlaps 3 = .ok (.istore_n 2, 1) := by decide +kernel
theorem dGR_countOverlaps_4 : decode cGR_countOverlaps 4 = .ok (.iload_n 2, 1) := by decide +kernel
theorem dGR_countOverlaps_5 : decode cGR_countOverlaps 5 = .ok (.aload_n 0, 1) := by decide +kernel
theorem dGR_countOverlaps_6 : decode cGR_countOverlaps 6 = .ok (.getfield 12, 3) := by decide +kernel
theorem dGR_countOverlaps_9 : decode cGR_countOverlaps 9 = .ok (.invokevirtual 41, 3) := by decide +kernel
theorem dGR_countOverlaps_12 : decode cGR_countOverlaps 12 = .ok (.if_icmp .ge 41, 3) := by decide +kernel
theorem dGR_countOverlaps_53 : decode cGR_countOverlaps 53 = .ok (.iload_n 1, 1) := by decide +kernel
theorem dGR_countOverlaps_54 : decode cGR_countOverlaps 54 = .ok (.aload_n 0, 1) := by decide +kernel
theorem dGR_countOverlaps_55 : decode cGR_countOverlaps 55 = .ok (.invokevirtual 91, 3) := by decide +kernel
