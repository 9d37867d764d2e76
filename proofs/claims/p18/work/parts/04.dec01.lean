theorem dGR_countEmptyColumns_21 : decode cGR_countEmptyColumns 21 = .ok (.iconst 0, 1) := by decide +kernel
theorem dGR_countEmptyColumns_22 : decode cGR_countEmptyColumns 22 = .ok (.goto 4, 3) := by decide +kernel
theorem dGR_countEmptyColumns_25 : decode cGR_countEmptyColumns 25 = .ok (.iconst 1, 1) := by decide +kernel
theorem dGR_countEmptyColumns_26 : decode cGR_countEmptyColumns 26 = .ok (.iadd, 1) := by decide +kernel
theorem dGR_countEmptyColumns_27 : decode cGR_countEmptyColumns 27 = .ok (.istore_n 1, 1) := by decide +kernel
theorem dGR_countEmptyColumns_28 : decode cGR_countEmptyColumns 28 = .ok (.iinc 2 1, 3) := by decide +kernel
theorem dGR_countEmptyColumns_31 : decode cGR_countEmptyColumns 31 = .ok (.goto (-27), 3) := by decide +kernel
theorem dGR_countEmptyColumns_34 : decode cGR_countEmptyColumns 34 = .ok (.iload_n 1, 1) := by decide +kernel
theorem dGR_countEmptyColumns_35 : decode cGR_countEmptyColumns 35 = .ok (.ireturn, 1) := by decide +kernel
theorem dGR_countEmptyRows_0 : decode cGR_countEmptyRows 0 = .ok (.iconst 0, 1) := by decide +kernel
theorem dGR_countEmptyRows_1 : decode cGR_countEmptyRows 1 = .ok (.istore_n 1, 1) := by decide +kernel
theorem dGR_countEmptyRows_2 : decode cGR_countEmptyRows 2 = .ok (.iconst 0, 1) := by decide +kernel
theorem dGR_countEmptyRows_3 : decode cGR_countEmptyRows 3 = .ok (.istore_n 2, 1) := by decide +kernel
theorem dGR_countEmptyRows_4 : decode cGR_countEmptyRows 4 = .ok (.iload_n 2, 1) := by decide +kernel
theorem dGR_countEmptyRows_5 : decode cGR_countEmptyRows 5 = .ok (.aload_n 0, 1) := by decide +kernel
theorem dGR_countEmptyRows_6 : decode cGR_countEmptyRows 6 = .ok (.getfield 28, 3) := by decide +kernel
theorem dGR_countEmptyRows_9 : decode cGR_countEmptyRows 9 = .ok (.if_icmp .ge 25, 3) := by decide +kernel
theorem dGR_countEmptyRows_12 : decode cGR_countEmptyRows 12 = .ok (.iload_n 1, 1) := by decide +kernel
theorem dGR_countEmptyRows_13 : decode cGR_countEmptyRows 13 = .ok (.aload_n 0, 1) := by decide +kernel
theorem dGR_countEmptyRows_14 : decode cGR_countEmptyRows 14 = .ok (.iload_n 2, 1) := by decide +kernel
theorem dGR_countEmptyRows_15 : decode cGR_countEmptyRows 15 = .ok (.invokevirtual 98, 3) := by decide +kernel
theorem dGR_countEmptyRows_18 : decode cGR_countEmptyRows 18 = .ok (.ifCond .eq 7, 3) := by decide +kernel
theorem dGR_countEmptyRows_21 : decode cGR_countEmptyRows 21 = .ok (.iconst 0, 1) := by decide +kernel
theorem dGR_countEmptyRows_22 : decode cGR_countEmptyRows 22 = .ok (.goto 4, 3) := by decide +kernel
theorem dGR_countEmptyRows_25 : decode cGR_countEmptyRows 25 = .ok (.iconst 1, 1) := by decide +kernel
theorem dGR_countEmptyRows_26 : decode cGR_countEmptyRows 26 = .ok (.iadd, 1) := by decide +kernel
theorem dGR_countEmptyRows_27 : decode cGR_countEmptyRows 27 = .ok (.istore_n 1, 1) := by decide +kernel
theorem dGR_countEmptyRows_28 : decode cGR_countEmptyRows 28 = .ok (.iinc 2 1, 3) := by decide +kernel
theorem dGR_countEmptyRows_31 : decode cGR_countEmptyRows 31 = .ok (.goto (-27), 3) := by decide +kernel
theorem dGR_countEmptyRows_34 : decode cGR_countEmptyRows 34 = .ok (.iload_n 1, 1) := by decide +kernel
theorem dGR_countEmptyRows_35 : decode cGR_countEmptyRows 35 = .ok (.ireturn, 1) := by decide +kernel
theorem dGR_countOverlaps_0 : decode cGR_countOverlaps 0 = .ok (.iconst 0, 1) := by decide +kernel
theorem dGR_countOverlaps_1 : decode cGR_countOverlaps 1 = .ok (.istore_n 1, 1) := by decide +kernel
theorem dGR_countOverlaps_2 : decode cGR_countOverlaps 2 = .ok (.iconst 0, 1) := by decide +kernel
theorem dGR_countOverlaps_3 : decode cGR_countOverlaps 3 = .ok (.istore_n 2, 1) := by decide +kernel
theorem dGR_countOverlaps_4 : decode cGR_countOverlaps 4 = .ok (.iload_n 2, 1) := by decide +kernel
theorem dGR_countOverlaps_5 : decode cGR_countOverlaps 5 = .ok (.aload_n 0, 1) := by decide +kernel
theorem dGR_countOverlaps_6 : decode cGR_countOverlaps 6 = .ok (.getfield 12, 3) := by decide +kernel
theorem dGR_countOverlaps_9 : decode cGR_countOverlaps 9 = .ok (.invokevirtual 41, 3) := by decide +kernel
theorem dGR_countOverlaps_12 : decode cGR_countOverlaps 12 = .ok (.if_icmp .ge 41, 3) := by decide +kernel
theorem dGR_countOverlaps_15 : decode cGR_countOverlaps 15 = .ok (.iload_n 1, 1) := by decide +kernel
theorem dGR_countOverlaps_16 : decode cGR_countOverlaps 16 = .ok (.aload_n 0, 1) := by decide +kernel
theorem dGR_countOverlaps_17 : decode cGR_countOverlaps 17 = .ok (.getfield 12, 3) := by decide +kernel
theorem dGR_countOverlaps_20 : decode cGR_countOverlaps 20 = .ok (.iload_n 2, 1) := by decide +kernel
theorem dGR_countOverlaps_21 : decode cGR_countOverlaps 21 = .ok (.invokevirtual 67, 3) := by decide +kernel
theorem dGR_countOverlaps_24 : decode cGR_countOverlaps 24 = .ok (.checkcast 49, 3) := by decide +kernel
theorem dGR_countOverlaps_27 : decode cGR_countOverlaps 27 = .ok (.getfield 85, 3) := by decide +kernel
theorem dGR_countOverlaps_30 : decode cGR_countOverlaps 30 = .ok (.aload_n 0, 1) := by decide +kernel
theorem dGR_countOverlaps_31 : decode cGR_countOverlaps 31 = .ok (.getfield 12, 3) := by decide +kernel
theorem dGR_countOverlaps_34 : decode cGR_countOverlaps 34 = .ok (.iload_n 2, 1) := by decide +kernel
theorem dGR_countOverlaps_35 : decode cGR_countOverlaps 35 = .ok (.invokevirtual 67, 3) := by decide +kernel
theorem dGR_countOverlaps_38 : decode cGR_countOverlaps 38 = .ok (.checkcast 49, 3) := by decide +kernel
theorem dGR_countOverlaps_41 : decode cGR_countOverlaps 41 = .ok (.getfield 88, 3) := by decide +kernel
theorem dGR_countOverlaps_44 : decode cGR_countOverlaps 44 = .ok (.imul, 1) := by decide +kernel
theorem dGR_countOverlaps_45 : decode cGR_countOverlaps 45 = .ok (.iadd, 1) := by decide +kernel
theorem dGR_countOverlaps_46 : decode cGR_countOverlaps 46 = .ok (.istore_n 1, 1) := by decide +kernel
theorem dGR_countOverlaps_47 : decode cGR_countOverlaps 47 = .ok (.iinc 2 1, 3) := by decide +kernel
theorem dGR_countOverlaps_50 : decode cGR_countOverlaps 50 = .ok (.goto (-46), 3) := by decide +kernel
theorem dGR_countOverlaps_53 : decode cGR_countOverlaps 53 = .ok (.iload_n 1, 1) := by decide +kernel
theorem dGR_countOverlaps_54 : decode cGR_countOverlaps 54 = .ok (.aload_n 0, 1) := by decide +kernel
theorem dGR_countOverlaps_55 : decode cGR_countOverlaps 55 = .ok (.invokevirtual 91, 3) := by decide +kernel
theorem dGR_countOverlaps_58 : decode cGR_countOverlaps 58 = .ok (.isub, 1) := by decide +kernel
theorem dGR_countOverlaps_59 : decode cGR_countOverlaps 59 = .ok (.ireturn, 1) := by decide +kernel
theorem dGR_countOwnedSlots_0 : decode cGR_countOwnedSlots 0 = .ok (.iconst 0, 1) := by decide +kernel
theorem dGR_countOwnedSlots_1 : decode cGR_countOwnedSlots 1 = .ok (.istore_n 1, 1) := by decide +kernel
theorem dGR_countOwnedSlots_2 : decode cGR_countOwnedSlots 2 = .ok (.iconst 0, 1) := by decide +kernel
theorem dGR_countOwnedSlots_3 : decode cGR_countOwnedSlots 3 = .ok (.istore_n 2, 1) := by decide +kernel
theorem dGR_countOwnedSlots_4 : decode cGR_countOwnedSlots 4 = .ok (.iload_n 2, 1) := by decide +kernel
theorem dGR_countOwnedSlots_5 : decode cGR_countOwnedSlots 5 = .ok (.aload_n 0, 1) := by decide +kernel
theorem dGR_countOwnedSlots_6 : decode cGR_countOwnedSlots 6 = .ok (.getfield 28, 3) := by decide +kernel
theorem dGR_countOwnedSlots_9 : decode cGR_countOwnedSlots 9 = .ok (.if_icmp .ge 43, 3) := by decide +kernel
theorem dGR_countOwnedSlots_12 : decode cGR_countOwnedSlots 12 = .ok (.iconst 0, 1) := by decide +kernel
theorem dGR_countOwnedSlots_13 : decode cGR_countOwnedSlots 13 = .ok (.istore_n 3, 1) := by decide +kernel
theorem dGR_countOwnedSlots_14 : decode cGR_countOwnedSlots 14 = .ok (.iload_n 3, 1) := by decide +kernel
theorem dGR_countOwnedSlots_15 : decode cGR_countOwnedSlots 15 = .ok (.aload_n 0, 1) := by decide +kernel
theorem dGR_countOwnedSlots_16 : decode cGR_countOwnedSlots 16 = .ok (.getfield 31, 3) := by decide +kernel
theorem dGR_countOwnedSlots_19 : decode cGR_countOwnedSlots 19 = .ok (.if_icmp .ge 27, 3) := by decide +kernel
theorem dGR_countOwnedSlots_22 : decode cGR_countOwnedSlots 22 = .ok (.iload_n 1, 1) := by decide +kernel
theorem dGR_countOwnedSlots_23 : decode cGR_countOwnedSlots 23 = .ok (.aload_n 0, 1) := by decide +kernel
theorem dGR_countOwnedSlots_24 : decode cGR_countOwnedSlots 24 = .ok (.iload_n 3, 1) := by decide +kernel
theorem dGR_countOwnedSlots_25 : decode cGR_countOwnedSlots 25 = .ok (.iload_n 2, 1) := by decide +kernel
theorem dGR_countOwnedSlots_26 : decode cGR_countOwnedSlots 26 = .ok (.invokevirtual 64, 3) := by decide +kernel
theorem dGR_countOwnedSlots_29 : decode cGR_countOwnedSlots 29 = .ok (.iconst (-1), 1) := by decide +kernel
theorem dGR_countOwnedSlots_30 : decode cGR_countOwnedSlots 30 = .ok (.if_icmp .ne 7, 3) := by decide +kernel
theorem dGR_countOwnedSlots_33 : decode cGR_countOwnedSlots 33 = .ok (.iconst 0, 1) := by decide +kernel
theorem dGR_countOwnedSlots_34 : decode cGR_countOwnedSlots 34 = .ok (.goto 4, 3) := by decide +kernel
theorem dGR_countOwnedSlots_37 : decode cGR_countOwnedSlots 37 = .ok (.iconst 1, 1) := by decide +kernel
theorem dGR_countOwnedSlots_38 : decode cGR_countOwnedSlots 38 = .ok (.iadd, 1) := by decide +kernel
theorem dGR_countOwnedSlots_39 : decode cGR_countOwnedSlots 39 = .ok (.istore_n 1, 1) := by decide +kernel
theorem dGR_countOwnedSlots_40 : decode cGR_countOwnedSlots 40 = .ok (.iinc 3 1, 3) := by decide +kernel
theorem dGR_countOwnedSlots_43 : decode cGR_countOwnedSlots 43 = .ok (.goto (-29), 3) := by decide +kernel
theorem dGR_countOwnedSlots_46 : decode cGR_countOwnedSlots 46 = .ok (.iinc 2 1, 3) := by decide +kernel
theorem dGR_countOwnedSlots_49 : decode cGR_countOwnedSlots 49 = .ok (.goto (-45), 3) := by decide +kernel
theorem dGR_countOwnedSlots_52 : decode cGR_countOwnedSlots 52 = .ok (.iload_n 1, 1) := by decide +kernel
theorem dGR_countOwnedSlots_53 : decode cGR_countOwnedSlots 53 = .ok (.ireturn, 1) := by decide +kernel
theorem dGR_drawnBetween_0 : decode cGR_drawnBetween 0 = .ok (.iload_n 1, 1) := by decide +kernel
theorem dGR_drawnBetween_1 : decode cGR_drawnBetween 1 = .ok (.iload_n 2, 1) := by decide +kernel
theorem dGR_drawnBetween_2 : decode cGR_drawnBetween 2 = .ok (.if_icmp .ne 5, 3) := by decide +kernel
theorem dGR_drawnBetween_5 : decode cGR_drawnBetween 5 = .ok (.iconst (-1), 1) := by decide +kernel
theorem dGR_drawnBetween_6 : decode cGR_drawnBetween 6 = .ok (.ireturn, 1) := by decide +kernel
theorem dGR_drawnBetween_7 : decode cGR_drawnBetween 7 = .ok (.aload_n 0, 1) := by decide +kernel
theorem dGR_drawnBetween_8 : decode cGR_drawnBetween 8 = .ok (.iload_n 1, 1) := by decide +kernel
theorem dGR_drawnBetween_9 : decode cGR_drawnBetween 9 = .ok (.invokevirtual 104, 3) := by decide +kernel
theorem dGR_drawnBetween_12 : decode cGR_drawnBetween 12 = .ok (.ifCond .ne 5, 3) := by decide +kernel
theorem dGR_drawnBetween_15 : decode cGR_drawnBetween 15 = .ok (.iload_n 2, 1) := by decide +kernel
theorem dGR_drawnBetween_16 : decode cGR_drawnBetween 16 = .ok (.ireturn, 1) := by decide +kernel
theorem dGR_drawnBetween_17 : decode cGR_drawnBetween 17 = .ok (.aload_n 0, 1) := by decide +kernel
theorem dGR_drawnBetween_18 : decode cGR_drawnBetween 18 = .ok (.iload_n 2, 1) := by decide +kernel
theorem dGR_drawnBetween_19 : decode cGR_drawnBetween 19 = .ok (.invokevirtual 104, 3) := by decide +kernel
theorem dGR_drawnBetween_22 : decode cGR_drawnBetween 22 = .ok (.ifCond .ne 5, 3) := by decide +kernel
theorem dGR_drawnBetween_25 : decode cGR_drawnBetween 25 = .ok (.iload_n 1, 1) := by decide +kernel
theorem dGR_drawnBetween_26 : decode cGR_drawnBetween 26 = .ok (.ireturn, 1) := by decide +kernel
theorem dGR_drawnBetween_27 : decode cGR_drawnBetween 27 = .ok (.aload_n 0, 1) := by decide +kernel
theorem dGR_drawnBetween_28 : decode cGR_drawnBetween 28 = .ok (.iload_n 2, 1) := by decide +kernel
theorem dGR_drawnBetween_29 : decode cGR_drawnBetween 29 = .ok (.invokevirtual 107, 3) := by decide +kernel
theorem dGR_drawnBetween_32 : decode cGR_drawnBetween 32 = .ok (.aload_n 0, 1) := by decide +kernel
theorem dGR_drawnBetween_33 : decode cGR_drawnBetween 33 = .ok (.iload_n 1, 1) := by decide +kernel
theorem dGR_drawnBetween_34 : decode cGR_drawnBetween 34 = .ok (.invokevirtual 107, 3) := by decide +kernel
theorem dGR_drawnBetween_37 : decode cGR_drawnBetween 37 = .ok (.invokevirtual 111, 3) := by decide +kernel
theorem dGR_drawnBetween_40 : decode cGR_drawnBetween 40 = .ok (.ifCond .eq 7, 3) := by decide +kernel
theorem dGR_drawnBetween_43 : decode cGR_drawnBetween 43 = .ok (.iload_n 2, 1) := by decide +kernel
theorem dGR_drawnBetween_44 : decode cGR_drawnBetween 44 = .ok (.goto 4, 3) := by decide +kernel
theorem dGR_drawnBetween_47 : decode cGR_drawnBetween 47 = .ok (.iload_n 1, 1) := by decide +kernel
theorem dGR_drawnBetween_48 : decode cGR_drawnBetween 48 = .ok (.ireturn, 1) := by decide +kernel
theorem dGR_empty_0 : decode cGR_empty 0 = .ok (.aload_n 0, 1) := by decide +kernel
theorem dGR_empty_1 : decode cGR_empty 1 = .ok (.getfield 12, 3) := by decide +kernel
theorem dGR_empty_4 : decode cGR_empty 4 = .ok (.invokevirtual 34, 3) := by decide +kernel
theorem dGR_empty_7 : decode cGR_empty 7 = .ok (.aload_n 0, 1) := by decide +kernel
theorem dGR_empty_8 : decode cGR_empty 8 = .ok (.iconst 1, 1) := by decide +kernel
theorem dGR_empty_9 : decode cGR_empty 9 = .ok (.putfield 18, 3) := by decide +kernel
theorem dGR_empty_12 : decode cGR_empty 12 = .ok (.aload_n 0, 1) := by decide +kernel
theorem dGR_empty_13 : decode cGR_empty 13 = .ok (.iconst 0, 1) := by decide +kernel
theorem dGR_empty_14 : decode cGR_empty 14 = .ok (.putfield 22, 3) := by decide +kernel
theorem dGR_empty_17 : decode cGR_empty 17 = .ok (.aload_n 0, 1) := by decide +kernel
theorem dGR_empty_18 : decode cGR_empty 18 = .ok (.iconst 0, 1) := by decide +kernel
theorem dGR_empty_19 : decode cGR_empty 19 = .ok (.putfield 25, 3) := by decide +kernel
theorem dGR_empty_22 : decode cGR_empty 22 = .ok (.aload_n 0, 1) := by decide +kernel
theorem dGR_empty_23 : decode cGR_empty 23 = .ok (.iconst 0, 1) := by decide +kernel
theorem dGR_empty_24 : decode cGR_empty 24 = .ok (.putfield 28, 3) := by decide +kernel
theorem dGR_empty_27 : decode cGR_empty 27 = .ok (.aload_n 0, 1) := by decide +kernel
theorem dGR_empty_28 : decode cGR_empty 28 = .ok (.iconst 0, 1) := by decide +kernel
theorem dGR_empty_29 : decode cGR_empty 29 = .ok (.putfield 31, 3) := by decide +kernel
theorem dGR_empty_32 : decode cGR_empty 32 = .ok (.return_, 1) := by decide +kernel
theorem dGR_extendGroupTo_0 : decode cGR_extendGroupTo 0 = .ok (.aload_n 0, 1) := by decide +kernel
theorem dGR_extendGroupTo_1 : decode cGR_extendGroupTo 1 = .ok (.aload_n 0, 1) := by decide +kernel
theorem dGR_extendGroupTo_2 : decode cGR_extendGroupTo 2 = .ok (.getfield 28, 3) := by decide +kernel
theorem dGR_extendGroupTo_5 : decode cGR_extendGroupTo 5 = .ok (.iload_n 1, 1) := by decide +kernel
theorem dGR_extendGroupTo_6 : decode cGR_extendGroupTo 6 = .ok (.invokestatic 58, 3) := by decide +kernel
theorem dGR_extendGroupTo_9 : decode cGR_extendGroupTo 9 = .ok (.putfield 28, 3) := by decide +kernel
theorem dGR_extendGroupTo_12 : decode cGR_extendGroupTo 12 = .ok (.iconst 0, 1) := by decide +kernel
theorem dGR_extendGroupTo_13 : decode cGR_extendGroupTo 13 = .ok (.istore_n 2, 1) := by decide +kernel
theorem dGR_extendGroupTo_14 : decode cGR_extendGroupTo 14 = .ok (.iload_n 2, 1) := by decide +kernel
theorem dGR_extendGroupTo_15 : decode cGR_extendGroupTo 15 = .ok (.aload_n 0, 1) := by decide +kernel
theorem dGR_extendGroupTo_16 : decode cGR_extendGroupTo 16 = .ok (.getfield 12, 3) := by decide +kernel
theorem dGR_extendGroupTo_19 : decode cGR_extendGroupTo 19 = .ok (.invokevirtual 41, 3) := by decide +kernel
theorem dGR_extendGroupTo_22 : decode cGR_extendGroupTo 22 = .ok (.if_icmp .ge 40, 3) := by decide +kernel
theorem dGR_extendGroupTo_25 : decode cGR_extendGroupTo 25 = .ok (.aload_n 0, 1) := by decide +kernel
theorem dGR_extendGroupTo_26 : decode cGR_extendGroupTo 26 = .ok (.getfield 12, 3) := by decide +kernel
theorem dGR_extendGroupTo_29 : decode cGR_extendGroupTo 29 = .ok (.iload_n 2, 1) := by decide +kernel
theorem dGR_extendGroupTo_30 : decode cGR_extendGroupTo 30 = .ok (.invokevirtual 67, 3) := by decide +kernel
theorem dGR_extendGroupTo_33 : decode cGR_extendGroupTo 33 = .ok (.checkcast 49, 3) := by decide +kernel
theorem dGR_extendGroupTo_36 : decode cGR_extendGroupTo 36 = .ok (.astore_n 3, 1) := by decide +kernel
theorem dGR_extendGroupTo_37 : decode cGR_extendGroupTo 37 = .ok (.aload_n 3, 1) := by decide +kernel
theorem dGR_extendGroupTo_38 : decode cGR_extendGroupTo 38 = .ok (.getfield 71, 3) := by decide +kernel
theorem dGR_extendGroupTo_41 : decode cGR_extendGroupTo 41 = .ok (.aload_n 0, 1) := by decide +kernel
theorem dGR_extendGroupTo_42 : decode cGR_extendGroupTo 42 = .ok (.getfield 22, 3) := by decide +kernel
theorem dGR_extendGroupTo_45 : decode cGR_extendGroupTo 45 = .ok (.if_icmp .lt 11, 3) := by decide +kernel
theorem dGR_extendGroupTo_48 : decode cGR_extendGroupTo 48 = .ok (.aload_n 3, 1) := by decide +kernel
theorem dGR_extendGroupTo_49 : decode cGR_extendGroupTo 49 = .ok (.aload_n 0, 1) := by decide +kernel
theorem dGR_extendGroupTo_50 : decode cGR_extendGroupTo 50 = .ok (.getfield 28, 3) := by decide +kernel
theorem dGR_extendGroupTo_53 : decode cGR_extendGroupTo 53 = .ok (.invokevirtual 74, 3) := by decide +kernel
theorem dGR_extendGroupTo_56 : decode cGR_extendGroupTo 56 = .ok (.iinc 2 1, 3) := by decide +kernel
theorem dGR_extendGroupTo_59 : decode cGR_extendGroupTo 59 = .ok (.goto (-45), 3) := by decide +kernel
theorem dGR_extendGroupTo_62 : decode cGR_extendGroupTo 62 = .ok (.return_, 1) := by decide +kernel
theorem dGR_firstFreeColumn_0 : decode cGR_firstFreeColumn 0 = .ok (.iconst 0, 1) := by decide +kernel
theorem dGR_firstFreeColumn_1 : decode cGR_firstFreeColumn 1 = .ok (.istore_n 2, 1) := by decide +kernel
theorem dGR_firstFreeColumn_2 : decode cGR_firstFreeColumn 2 = .ok (.iload_n 2, 1) := by decide +kernel
theorem dGR_firstFreeColumn_3 : decode cGR_firstFreeColumn 3 = .ok (.bipush 12, 2) := by decide +kernel
theorem dGR_firstFreeColumn_5 : decode cGR_firstFreeColumn 5 = .ok (.if_icmp .ge 21, 3) := by decide +kernel
theorem dGR_firstFreeColumn_8 : decode cGR_firstFreeColumn 8 = .ok (.aload_n 0, 1) := by decide +kernel
theorem dGR_firstFreeColumn_9 : decode cGR_firstFreeColumn 9 = .ok (.iload_n 2, 1) := by decide +kernel
theorem dGR_firstFreeColumn_10 : decode cGR_firstFreeColumn 10 = .ok (.iload_n 1, 1) := by decide +kernel
theorem dGR_firstFreeColumn_11 : decode cGR_firstFreeColumn 11 = .ok (.invokevirtual 64, 3) := by decide +kernel
theorem dGR_firstFreeColumn_14 : decode cGR_firstFreeColumn 14 = .ok (.iconst (-1), 1) := by decide +kernel
theorem dGR_firstFreeColumn_15 : decode cGR_firstFreeColumn 15 = .ok (.if_icmp .ne 5, 3) := by decide +kernel
theorem dGR_firstFreeColumn_18 : decode cGR_firstFreeColumn 18 = .ok (.iload_n 2, 1) := by decide +kernel
theorem dGR_firstFreeColumn_19 : decode cGR_firstFreeColumn 19 = .ok (.ireturn, 1) := by decide +kernel
theorem dGR_firstFreeColumn_20 : decode cGR_firstFreeColumn 20 = .ok (.iinc 2 1, 3) := by decide +kernel
theorem dGR_firstFreeColumn_23 : decode cGR_firstFreeColumn 23 = .ok (.goto (-21), 3) := by decide +kernel
theorem dGR_firstFreeColumn_26 : decode cGR_firstFreeColumn 26 = .ok (.bipush 12, 2) := by decide +kernel
theorem dGR_firstFreeColumn_28 : decode cGR_firstFreeColumn 28 = .ok (.ireturn, 1) := by decide +kernel
theorem dGR_hasCell_0 : decode cGR_hasCell 0 = .ok (.iconst 0, 1) := by decide +kernel
theorem dGR_hasCell_1 : decode cGR_hasCell 1 = .ok (.iload_n 1, 1) := by decide +kernel
theorem dGR_hasCell_2 : decode cGR_hasCell 2 = .ok (.if_icmp .gt 18, 3) := by decide +kernel
theorem dGR_hasCell_5 : decode cGR_hasCell 5 = .ok (.iload_n 1, 1) := by decide +kernel
theorem dGR_hasCell_6 : decode cGR_hasCell 6 = .ok (.aload_n 0, 1) := by decide +kernel
theorem dGR_hasCell_7 : decode cGR_hasCell 7 = .ok (.getfield 12, 3) := by decide +kernel
theorem dGR_hasCell_10 : decode cGR_hasCell 10 = .ok (.invokevirtual 41, 3) := by decide +kernel
theorem dGR_hasCell_13 : decode cGR_hasCell 13 = .ok (.if_icmp .ge 7, 3) := by decide +kernel
theorem dGR_hasCell_16 : decode cGR_hasCell 16 = .ok (.iconst 1, 1) := by decide +kernel
theorem dGR_hasCell_17 : decode cGR_hasCell 17 = .ok (.goto 4, 3) := by decide +kernel
theorem dGR_hasCell_20 : decode cGR_hasCell 20 = .ok (.iconst 0, 1) := by decide +kernel
theorem dGR_hasCell_21 : decode cGR_hasCell 21 = .ok (.ireturn, 1) := by decide +kernel
theorem dGR_hasSlot_0 : decode cGR_hasSlot 0 = .ok (.iload_n 1, 1) := by decide +kernel
theorem dGR_hasSlot_1 : decode cGR_hasSlot 1 = .ok (.iconst 0, 1) := by decide +kernel
theorem dGR_hasSlot_2 : decode cGR_hasSlot 2 = .ok (.aload_n 0, 1) := by decide +kernel
theorem dGR_hasSlot_3 : decode cGR_hasSlot 3 = .ok (.getfield 31, 3) := by decide +kernel
theorem dGR_hasSlot_6 : decode cGR_hasSlot 6 = .ok (.iconst 1, 1) := by decide +kernel
theorem dGR_hasSlot_7 : decode cGR_hasSlot 7 = .ok (.isub, 1) := by decide +kernel
theorem dGR_hasSlot_8 : decode cGR_hasSlot 8 = .ok (.invokestatic 77, 3) := by decide +kernel
theorem dGR_hasSlot_11 : decode cGR_hasSlot 11 = .ok (.ifCond .eq 21, 3) := by decide +kernel
theorem dGR_hasSlot_14 : decode cGR_hasSlot 14 = .ok (.iload_n 2, 1) := by decide +kernel
theorem dGR_hasSlot_15 : decode cGR_hasSlot 15 = .ok (.iconst 0, 1) := by decide +kernel
theorem dGR_hasSlot_16 : decode cGR_hasSlot 16 = .ok (.aload_n 0, 1) := by decide +kernel
theorem dGR_hasSlot_17 : decode cGR_hasSlot 17 = .ok (.getfield 28, 3) := by decide +kernel
theorem dGR_hasSlot_20 : decode cGR_hasSlot 20 = .ok (.iconst 1, 1) := by decide +kernel
theorem dGR_hasSlot_21 : decode cGR_hasSlot 21 = .ok (.isub, 1) := by decide +kernel
theorem dGR_hasSlot_22 : decode cGR_hasSlot 22 = .ok (.invokestatic 77, 3) := by decide +kernel
theorem dGR_hasSlot_25 : decode cGR_hasSlot 25 = .ok (.ifCond .eq 7, 3) := by decide +kernel
theorem dGR_hasSlot_28 : decode cGR_hasSlot 28 = .ok (.iconst 1, 1) := by decide +kernel
theorem dGR_hasSlot_29 : decode cGR_hasSlot 29 = .ok (.goto 4, 3) := by decide +kernel
theorem dGR_hasSlot_32 : decode cGR_hasSlot 32 = .ok (.iconst 0, 1) := by decide +kernel
theorem dGR_hasSlot_33 : decode cGR_hasSlot 33 = .ok (.ireturn, 1) := by decide +kernel
theorem dGR_init_0 : decode cGR_init 0 = .ok (.aload_n 0, 1) := by decide +kernel
theorem dGR_init_1 : decode cGR_init 1 = .ok (.invokespecial 3, 3) := by decide +kernel
theorem dGR_init_4 : decode cGR_init 4 = .ok (.aload_n 0, 1) := by decide +kernel
theorem dGR_init_5 : decode cGR_init 5 = .ok (.new 9, 3) := by decide +kernel
theorem dGR_init_8 : decode cGR_init 8 = .ok (.dup, 1) := by decide +kernel
theorem dGR_init_9 : decode cGR_init 9 = .ok (.invokespecial 11, 3) := by decide +kernel
theorem dGR_init_12 : decode cGR_init 12 = .ok (.putfield 12, 3) := by decide +kernel
theorem dGR_init_15 : decode cGR_init 15 = .ok (.aload_n 0, 1) := by decide +kernel
theorem dGR_init_16 : decode cGR_init 16 = .ok (.iconst 1, 1) := by decide +kernel
theorem dGR_init_17 : decode cGR_init 17 = .ok (.putfield 18, 3) := by decide +kernel
theorem dGR_init_20 : decode cGR_init 20 = .ok (.aload_n 0, 1) := by decide +kernel
theorem dGR_init_21 : decode cGR_init 21 = .ok (.iconst 0, 1) := by decide +kernel
theorem dGR_init_22 : decode cGR_init 22 = .ok (.putfield 22, 3) := by decide +kernel
theorem dGR_init_25 : decode cGR_init 25 = .ok (.aload_n 0, 1) := by decide +kernel
theorem dGR_init_26 : decode cGR_init 26 = .ok (.iconst 0, 1) := by decide +kernel
theorem dGR_init_27 : decode cGR_init 27 = .ok (.putfield 25, 3) := by decide +kernel
theorem dGR_init_30 : decode cGR_init 30 = .ok (.aload_n 0, 1) := by decide +kernel
theorem dGR_init_31 : decode cGR_init 31 = .ok (.iconst 0, 1) := by decide +kernel
theorem dGR_init_32 : decode cGR_init 32 = .ok (.putfield 28, 3) := by decide +kernel
theorem dGR_init_35 : decode cGR_init 35 = .ok (.aload_n 0, 1) := by decide +kernel
theorem dGR_init_36 : decode cGR_init 36 = .ok (.iconst 0, 1) := by decide +kernel
theorem dGR_init_37 : decode cGR_init 37 = .ok (.putfield 31, 3) := by decide +kernel
theorem dGR_init_40 : decode cGR_init 40 = .ok (.return_, 1) := by decide +kernel
theorem dGR_ownerOf_0 : decode cGR_ownerOf 0 = .ok (.iconst 0, 1) := by decide +kernel
theorem dGR_ownerOf_1 : decode cGR_ownerOf 1 = .ok (.istore_n 3, 1) := by decide +kernel
theorem dGR_ownerOf_2 : decode cGR_ownerOf 2 = .ok (.iload_n 3, 1) := by decide +kernel
theorem dGR_ownerOf_3 : decode cGR_ownerOf 3 = .ok (.aload_n 0, 1) := by decide +kernel
theorem dGR_ownerOf_4 : decode cGR_ownerOf 4 = .ok (.getfield 12, 3) := by decide +kernel
theorem dGR_ownerOf_7 : decode cGR_ownerOf 7 = .ok (.invokevirtual 41, 3) := by decide +kernel
theorem dGR_ownerOf_10 : decode cGR_ownerOf 10 = .ok (.if_icmp .ge 30, 3) := by decide +kernel
theorem dGR_ownerOf_13 : decode cGR_ownerOf 13 = .ok (.aload_n 0, 1) := by decide +kernel
theorem dGR_ownerOf_14 : decode cGR_ownerOf 14 = .ok (.getfield 12, 3) := by decide +kernel
theorem dGR_ownerOf_17 : decode cGR_ownerOf 17 = .ok (.iload_n 3, 1) := by decide +kernel
theorem dGR_ownerOf_18 : decode cGR_ownerOf 18 = .ok (.invokevirtual 67, 3) := by decide +kernel
theorem dGR_ownerOf_21 : decode cGR_ownerOf 21 = .ok (.checkcast 49, 3) := by decide +kernel
theorem dGR_ownerOf_24 : decode cGR_ownerOf 24 = .ok (.iload_n 1, 1) := by decide +kernel
theorem dGR_ownerOf_25 : decode cGR_ownerOf 25 = .ok (.iload_n 2, 1) := by decide +kernel
theorem dGR_ownerOf_26 : decode cGR_ownerOf 26 = .ok (.invokevirtual 81, 3) := by decide +kernel
theorem dGR_ownerOf_29 : decode cGR_ownerOf 29 = .ok (.ifCond .eq 5, 3) := by decide +kernel
theorem dGR_ownerOf_32 : decode cGR_ownerOf 32 = .ok (.iload_n 3, 1) := by decide +kernel
theorem dGR_ownerOf_33 : decode cGR_ownerOf 33 = .ok (.ireturn, 1) := by decide +kernel
theorem dGR_ownerOf_34 : decode cGR_ownerOf 34 = .ok (.iinc 3 1, 3) := by decide +kernel
theorem dGR_ownerOf_37 : decode cGR_ownerOf 37 = .ok (.goto (-35), 3) := by decide +kernel
theorem dGR_ownerOf_40 : decode cGR_ownerOf 40 = .ok (.iconst (-1), 1) := by decide +kernel
theorem dGR_ownerOf_41 : decode cGR_ownerOf 41 = .ok (.ireturn, 1) := by decide +kernel
theorem dGR_putCell_0 : decode cGR_putCell 0 = .ok (.aload_n 0, 1) := by decide +kernel
theorem dGR_putCell_1 : decode cGR_putCell 1 = .ok (.getfield 25, 3) := by decide +kernel
theorem dGR_putCell_4 : decode cGR_putCell 4 = .ok (.ifCond .eq 15, 3) := by decide +kernel
theorem dGR_putCell_7 : decode cGR_putCell 7 = .ok (.aload_n 0, 1) := by decide +kernel
theorem dGR_putCell_8 : decode cGR_putCell 8 = .ok (.getfield 12, 3) := by decide +kernel
theorem dGR_putCell_11 : decode cGR_putCell 11 = .ok (.invokevirtual 41, 3) := by decide +kernel
theorem dGR_putCell_14 : decode cGR_putCell 14 = .ok (.bipush 40, 2) := by decide +kernel
theorem dGR_putCell_16 : decode cGR_putCell 16 = .ok (.if_icmp .lt 5, 3) := by decide +kernel
theorem dGR_putCell_19 : decode cGR_putCell 19 = .ok (.iconst (-1), 1) := by decide +kernel
theorem dGR_putCell_20 : decode cGR_putCell 20 = .ok (.ireturn, 1) := by decide +kernel
theorem dGR_putCell_21 : decode cGR_putCell 21 = .ok (.aload_n 0, 1) := by decide +kernel
theorem dGR_putCell_22 : decode cGR_putCell 22 = .ok (.getfield 22, 3) := by decide +kernel
theorem dGR_putCell_25 : decode cGR_putCell 25 = .ok (.aload_n 0, 1) := by decide +kernel
theorem dGR_putCell_26 : decode cGR_putCell 26 = .ok (.getfield 25, 3) := by decide +kernel
theorem dGR_putCell_29 : decode cGR_putCell 29 = .ok (.iadd, 1) := by decide +kernel
theorem dGR_putCell_30 : decode cGR_putCell 30 = .ok (.iconst 1, 1) := by decide +kernel
theorem dGR_putCell_31 : decode cGR_putCell 31 = .ok (.isub, 1) := by decide +kernel
theorem dGR_putCell_32 : decode cGR_putCell 32 = .ok (.istore 6, 2) := by decide +kernel
theorem dGR_putCell_34 : decode cGR_putCell 34 = .ok (.aload_n 0, 1) := by decide +kernel
theorem dGR_putCell_35 : decode cGR_putCell 35 = .ok (.iload 6, 2) := by decide +kernel
theorem dGR_putCell_37 : decode cGR_putCell 37 = .ok (.invokevirtual 45, 3) := by decide +kernel
theorem dGR_putCell_40 : decode cGR_putCell 40 = .ok (.istore 7, 2) := by decide +kernel
theorem dGR_putCell_42 : decode cGR_putCell 42 = .ok (.iload 7, 2) := by decide +kernel
theorem dGR_putCell_44 : decode cGR_putCell 44 = .ok (.iload_n 1, 1) := by decide +kernel
theorem dGR_putCell_45 : decode cGR_putCell 45 = .ok (.iadd, 1) := by decide +kernel
theorem dGR_putCell_46 : decode cGR_putCell 46 = .ok (.bipush 12, 2) := by decide +kernel
theorem dGR_putCell_48 : decode cGR_putCell 48 = .ok (.if_icmp .gt 12, 3) := by decide +kernel
theorem dGR_putCell_51 : decode cGR_putCell 51 = .ok (.iload 6, 2) := by decide +kernel
theorem dGR_putCell_53 : decode cGR_putCell 53 = .ok (.iload_n 2, 1) := by decide +kernel
theorem dGR_putCell_54 : decode cGR_putCell 54 = .ok (.iadd, 1) := by decide +kernel
theorem dGR_putCell_55 : decode cGR_putCell 55 = .ok (.bipush 12, 2) := by decide +kernel
theorem dGR_putCell_57 : decode cGR_putCell 57 = .ok (.if_icmp .le 5, 3) := by decide +kernel
theorem dGR_putCell_60 : decode cGR_putCell 60 = .ok (.iconst (-1), 1) := by decide +kernel
theorem dGR_putCell_61 : decode cGR_putCell 61 = .ok (.ireturn, 1) := by decide +kernel
theorem dGR_putCell_62 : decode cGR_putCell 62 = .ok (.aload_n 0, 1) := by decide +kernel
theorem dGR_putCell_63 : decode cGR_putCell 63 = .ok (.getfield 12, 3) := by decide +kernel
theorem dGR_putCell_66 : decode cGR_putCell 66 = .ok (.new 49, 3) := by decide +kernel
theorem dGR_putCell_69 : decode cGR_putCell 69 = .ok (.dup, 1) := by decide +kernel
theorem dGR_putCell_70 : decode cGR_putCell 70 = .ok (.iload 7, 2) := by decide +kernel
theorem dGR_putCell_72 : decode cGR_putCell 72 = .ok (.iload 6, 2) := by decide +kernel
theorem dGR_putCell_74 : decode cGR_putCell 74 = .ok (.iload_n 1, 1) := by decide +kernel
theorem dGR_putCell_75 : decode cGR_putCell 75 = .ok (.iload_n 2, 1) := by decide +kernel
theorem dGR_putCell_76 : decode cGR_putCell 76 = .ok (.iload_n 3, 1) := by decide +kernel
theorem dGR_putCell_77 : decode cGR_putCell 77 = .ok (.iload 4, 2) := by decide +kernel
theorem dGR_putCell_79 : decode cGR_putCell 79 = .ok (.iload 5, 2) := by decide +kernel
theorem dGR_putCell_81 : decode cGR_putCell 81 = .ok (.invokespecial 51, 3) := by decide +kernel
theorem dGR_putCell_84 : decode cGR_putCell 84 = .ok (.invokevirtual 54, 3) := by decide +kernel
theorem dGR_putCell_87 : decode cGR_putCell 87 = .ok (.pop, 1) := by decide +kernel
theorem dGR_putCell_88 : decode cGR_putCell 88 = .ok (.aload_n 0, 1) := by decide +kernel
theorem dGR_putCell_89 : decode cGR_putCell 89 = .ok (.aload_n 0, 1) := by decide +kernel
theorem dGR_putCell_90 : decode cGR_putCell 90 = .ok (.getfield 31, 3) := by decide +kernel
theorem dGR_putCell_93 : decode cGR_putCell 93 = .ok (.iload 7, 2) := by decide +kernel
theorem dGR_putCell_95 : decode cGR_putCell 95 = .ok (.iload_n 1, 1) := by decide +kernel
theorem dGR_putCell_96 : decode cGR_putCell 96 = .ok (.iadd, 1) := by decide +kernel
theorem dGR_putCell_97 : decode cGR_putCell 97 = .ok (.invokestatic 58, 3) := by decide +kernel
theorem dGR_putCell_100 : decode cGR_putCell 100 = .ok (.putfield 31, 3) := by decide +kernel
theorem dGR_putCell_103 : decode cGR_putCell 103 = .ok (.aload_n 0, 1) := by decide +kernel
theorem dGR_putCell_104 : decode cGR_putCell 104 = .ok (.iload 6, 2) := by decide +kernel
theorem dGR_putCell_106 : decode cGR_putCell 106 = .ok (.iload_n 2, 1) := by decide +kernel
theorem dGR_putCell_107 : decode cGR_putCell 107 = .ok (.iadd, 1) := by decide +kernel
theorem dGR_putCell_108 : decode cGR_putCell 108 = .ok (.invokevirtual 37, 3) := by decide +kernel
theorem dGR_putCell_111 : decode cGR_putCell 111 = .ok (.aload_n 0, 1) := by decide +kernel
theorem dGR_putCell_112 : decode cGR_putCell 112 = .ok (.getfield 12, 3) := by decide +kernel
theorem dGR_putCell_115 : decode cGR_putCell 115 = .ok (.invokevirtual 41, 3) := by decide +kernel
theorem dGR_putCell_118 : decode cGR_putCell 118 = .ok (.iconst 1, 1) := by decide +kernel
theorem dGR_putCell_119 : decode cGR_putCell 119 = .ok (.isub, 1) := by decide +kernel
theorem dGR_putCell_120 : decode cGR_putCell 120 = .ok (.ireturn, 1) := by decide +kernel
theorem dGR_rowCount_0 : decode cGR_rowCount 0 = .ok (.aload_n 0, 1) := by decide +kernel
theorem dGR_rowCount_1 : decode cGR_rowCount 1 = .ok (.getfield 28, 3) := by decide +kernel
theorem dGR_rowCount_4 : decode cGR_rowCount 4 = .ok (.ireturn, 1) := by decide +kernel
theorem dHE_init_0 : decode cHE_init 0 = .ok (.aload_n 0, 1) := by decide +kernel
theorem dHE_init_1 : decode cHE_init 1 = .ok (.invokespecial 3, 3) := by decide +kernel
theorem dHE_init_4 : decode cHE_init 4 = .ok (.aload_n 0, 1) := by decide +kernel
theorem dHE_init_5 : decode cHE_init 5 = .ok (.new 9, 3) := by decide +kernel
theorem dHE_init_8 : decode cHE_init 8 = .ok (.dup, 1) := by decide +kernel
theorem dHE_init_9 : decode cHE_init 9 = .ok (.invokespecial 11, 3) := by decide +kernel
theorem dHE_init_12 : decode cHE_init 12 = .ok (.putfield 12, 3) := by decide +kernel
theorem dHE_init_15 : decode cHE_init 15 = .ok (.return_, 1) := by decide +kernel
theorem dHE_measure_0 : decode cHE_measure 0 = .ok (.aload_n 0, 1) := by decide +kernel
theorem dHE_measure_1 : decode cHE_measure 1 = .ok (.getfield 12, 3) := by decide +kernel
theorem dHE_measure_4 : decode cHE_measure 4 = .ok (.invokevirtual 18, 3) := by decide +kernel
theorem dHE_measure_7 : decode cHE_measure 7 = .ok (.iconst 1, 1) := by decide +kernel
theorem dHE_measure_8 : decode cHE_measure 8 = .ok (.istore_n 3, 1) := by decide +kernel
theorem dHE_measure_9 : decode cHE_measure 9 = .ok (.iload_n 3, 1) := by decide +kernel
theorem dHE_measure_10 : decode cHE_measure 10 = .ok (.bipush 12, 2) := by decide +kernel
theorem dHE_measure_12 : decode cHE_measure 12 = .ok (.if_icmp .gt 71, 3) := by decide +kernel
theorem dHE_measure_15 : decode cHE_measure 15 = .ok (.iconst 0, 1) := by decide +kernel
theorem dHE_measure_16 : decode cHE_measure 16 = .ok (.istore 4, 2) := by decide +kernel
theorem dHE_measure_18 : decode cHE_measure 18 = .ok (.iload 4, 2) := by decide +kernel
theorem dHE_measure_20 : decode cHE_measure 20 = .ok (.aload_n 1, 1) := by decide +kernel
theorem dHE_measure_21 : decode cHE_measure 21 = .ok (.invokevirtual 21, 3) := by decide +kernel
theorem dHE_measure_24 : decode cHE_measure 24 = .ok (.if_icmp .ge 53, 3) := by decide +kernel
theorem dHE_measure_27 : decode cHE_measure 27 = .ok (.aload_n 1, 1) := by decide +kernel
theorem dHE_measure_28 : decode cHE_measure 28 = .ok (.iload 4, 2) := by decide +kernel
theorem dHE_measure_30 : decode cHE_measure 30 = .ok (.invokevirtual 27, 3) := by decide +kernel
theorem dHE_measure_33 : decode cHE_measure 33 = .ok (.astore 5, 2) := by decide +kernel
theorem dHE_measure_35 : decode cHE_measure 35 = .ok (.aload 5, 2) := by decide +kernel
theorem dHE_measure_37 : decode cHE_measure 37 = .ok (.getfield 31, 3) := by decide +kernel
theorem dHE_measure_40 : decode cHE_measure 40 = .ok (.iload_n 3, 1) := by decide +kernel
theorem dHE_measure_41 : decode cHE_measure 41 = .ok (.if_icmp .ne 30, 3) := by decide +kernel
theorem dHE_measure_44 : decode cHE_measure 44 = .ok (.aload_n 0, 1) := by decide +kernel
theorem dHE_measure_45 : decode cHE_measure 45 = .ok (.getfield 12, 3) := by decide +kernel
theorem dHE_measure_48 : decode cHE_measure 48 = .ok (.aload 5, 2) := by decide +kernel
theorem dHE_measure_50 : decode cHE_measure 50 = .ok (.getfield 37, 3) := by decide +kernel
theorem dHE_measure_53 : decode cHE_measure 53 = .ok (.iload_n 2, 1) := by decide +kernel
theorem dHE_measure_54 : decode cHE_measure 54 = .ok (.aload_n 0, 1) := by decide +kernel
theorem dHE_measure_55 : decode cHE_measure 55 = .ok (.getfield 12, 3) := by decide +kernel
theorem dHE_measure_58 : decode cHE_measure 58 = .ok (.aload 5, 2) := by decide +kernel
theorem dHE_measure_60 : decode cHE_measure 60 = .ok (.getfield 40, 3) := by decide +kernel
theorem dHE_measure_63 : decode cHE_measure 63 = .ok (.aload 5, 2) := by decide +kernel
theorem dHE_measure_65 : decode cHE_measure 65 = .ok (.invokevirtual 43, 3) := by decide +kernel
theorem dHE_measure_68 : decode cHE_measure 68 = .ok (.invokevirtual 46, 3) := by decide +kernel
theorem dHE_measure_71 : decode cHE_measure 71 = .ok (.iinc 4 1, 3) := by decide +kernel
theorem dHE_measure_74 : decode cHE_measure 74 = .ok (.goto (-56), 3) := by decide +kernel
theorem dHE_measure_77 : decode cHE_measure 77 = .ok (.iinc 3 1, 3) := by decide +kernel
theorem dHE_measure_80 : decode cHE_measure 80 = .ok (.goto (-71), 3) := by decide +kernel
theorem dHE_measure_83 : decode cHE_measure 83 = .ok (.return_, 1) := by decide +kernel
theorem dLI_copyOf_0 : decode cLI_copyOf 0 = .ok (.aload_n 1, 1) := by decide +kernel
theorem dLI_copyOf_1 : decode cLI_copyOf 1 = .ok (.getfield 9, 3) := by decide +kernel
theorem dLI_copyOf_4 : decode cLI_copyOf 4 = .ok (.iconst 0, 1) := by decide +kernel
theorem dLI_copyOf_5 : decode cLI_copyOf 5 = .ok (.aload_n 0, 1) := by decide +kernel
theorem dLI_copyOf_6 : decode cLI_copyOf 6 = .ok (.getfield 9, 3) := by decide +kernel
theorem dLI_copyOf_9 : decode cLI_copyOf 9 = .ok (.iconst 0, 1) := by decide +kernel
theorem dLI_copyOf_10 : decode cLI_copyOf 10 = .ok (.bipush 12, 2) := by decide +kernel
theorem dLI_copyOf_12 : decode cLI_copyOf 12 = .ok (.invokestatic 27, 3) := by decide +kernel
theorem dLI_copyOf_15 : decode cLI_copyOf 15 = .ok (.return_, 1) := by decide +kernel
theorem dLI_init_0 : decode cLI_init 0 = .ok (.aload_n 0, 1) := by decide +kernel
theorem dLI_init_1 : decode cLI_init 1 = .ok (.invokespecial 3, 3) := by decide +kernel
theorem dLI_init_4 : decode cLI_init 4 = .ok (.aload_n 0, 1) := by decide +kernel
theorem dLI_init_5 : decode cLI_init 5 = .ok (.bipush 12, 2) := by decide +kernel
theorem dLI_init_7 : decode cLI_init 7 = .ok (.newarray .int, 2) := by decide +kernel
theorem dLI_init_9 : decode cLI_init 9 = .ok (.putfield 9, 3) := by decide +kernel
theorem dLI_init_12 : decode cLI_init 12 = .ok (.return_, 1) := by decide +kernel
theorem dLI_raiseTo_0 : decode cLI_raiseTo 0 = .ok (.iload_n 2, 1) := by decide +kernel
theorem dLI_raiseTo_1 : decode cLI_raiseTo 1 = .ok (.istore 4, 2) := by decide +kernel
theorem dLI_raiseTo_3 : decode cLI_raiseTo 3 = .ok (.iload 4, 2) := by decide +kernel
theorem dLI_raiseTo_5 : decode cLI_raiseTo 5 = .ok (.iload_n 3, 1) := by decide +kernel
theorem dLI_raiseTo_6 : decode cLI_raiseTo 6 = .ok (.if_icmp .ge 33, 3) := by decide +kernel
theorem dLI_raiseTo_9 : decode cLI_raiseTo 9 = .ok (.aload_n 0, 1) := by decide +kernel
theorem dLI_raiseTo_10 : decode cLI_raiseTo 10 = .ok (.getfield 9, 3) := by decide +kernel
theorem dLI_raiseTo_13 : decode cLI_raiseTo 13 = .ok (.iload 4, 2) := by decide +kernel
theorem dLI_raiseTo_15 : decode cLI_raiseTo 15 = .ok (.aload_n 0, 1) := by decide +kernel
theorem dLI_raiseTo_16 : decode cLI_raiseTo 16 = .ok (.getfield 9, 3) := by decide +kernel
theorem dLI_raiseTo_19 : decode cLI_raiseTo 19 = .ok (.iload 4, 2) := by decide +kernel
theorem dLI_raiseTo_21 : decode cLI_raiseTo 21 = .ok (.iaload, 1) := by decide +kernel
theorem dLI_raiseTo_22 : decode cLI_raiseTo 22 = .ok (.aload_n 1, 1) := by decide +kernel
theorem dLI_raiseTo_23 : decode cLI_raiseTo 23 = .ok (.getfield 9, 3) := by decide +kernel
theorem dLI_raiseTo_26 : decode cLI_raiseTo 26 = .ok (.iload 4, 2) := by decide +kernel
theorem dLI_raiseTo_28 : decode cLI_raiseTo 28 = .ok (.iaload, 1) := by decide +kernel
theorem dLI_raiseTo_29 : decode cLI_raiseTo 29 = .ok (.invokestatic 21, 3) := by decide +kernel
theorem dLI_raiseTo_32 : decode cLI_raiseTo 32 = .ok (.iastore, 1) := by decide +kernel
theorem dLI_raiseTo_33 : decode cLI_raiseTo 33 = .ok (.iinc 4 1, 3) := by decide +kernel
theorem dLI_raiseTo_36 : decode cLI_raiseTo 36 = .ok (.goto (-33), 3) := by decide +kernel
theorem dLI_raiseTo_39 : decode cLI_raiseTo 39 = .ok (.return_, 1) := by decide +kernel
theorem dLI_reach_0 : decode cLI_reach 0 = .ok (.aload_n 0, 1) := by decide +kernel
theorem dLI_reach_1 : decode cLI_reach 1 = .ok (.iload_n 1, 1) := by decide +kernel
theorem dLI_reach_2 : decode cLI_reach 2 = .ok (.iload_n 2, 1) := by decide +kernel
theorem dLI_reach_3 : decode cLI_reach 3 = .ok (.invokevirtual 33, 3) := by decide +kernel
theorem dLI_reach_6 : decode cLI_reach 6 = .ok (.iload_n 3, 1) := by decide +kernel
theorem dLI_reach_7 : decode cLI_reach 7 = .ok (.iload_n 2, 1) := by decide +kernel
theorem dLI_reach_8 : decode cLI_reach 8 = .ok (.iload_n 1, 1) := by decide +kernel
theorem dLI_reach_9 : decode cLI_reach 9 = .ok (.isub, 1) := by decide +kernel
