theorem dGR_countOverlaps_58 : decode cGR_countOverlaps 58 = .ok (.isub, 1) := by decide +kernel
theorem dGR_countOverlaps_59 : decode cGR_countOverlaps 59 = .ok (.ireturn, 1) := by decide +kernel
theorem dGR_countOwnedSlots_0 : decode cGR_countOwnedSlots 0 = .ok (.iconst 0, 1) := by decide +kernel
theorem dGR_countOwnedSlots_1 : decode cGR_countOwnedSlots 1 = .ok (.istore_n 1, 1) := by decide +kernel
theorem dGR_countOwnedSlots_2 : decode cGR_countOwnedSlots 2 = .ok (.iconst 0, 1) := by decide +kernel
theorem dGR_countOwnedSlots_3 : decode cGR_countOwnedSlots 3 = .ok (.istore_n 2, 1) := by decide +kernel
theorem dGR_countOwnedSlots_4 : decode cGR_countOwnedSlots 4 = .ok (.iload_n 2, 1) := by decide +kernel
theorem dGR_countOwnedSlots_5 : decode cGR_countOwnedSlots 5 = .ok (.aload_n 0, 1) := by decide +kernel
theorem dGR_countOwnedSlots_6 : decode cGR_countOwnedSlots 6 = .ok (.getfield 28, 3) := by decide +kernel
theorem dGR_countOwnedSlots_9 : decode cGR_countOwnedSlots 9 = .ok (.if_icmp .ge 43, 3) := by decide +kernel
theorem dGR_countOwnedSlots_52 : decode cGR_countOwnedSlots 52 = .ok (.iload_n 1, 1) := by decide +kernel
theorem dGR_countOwnedSlots_53 : decode cGR_countOwnedSlots 53 = .ok (.ireturn, 1) := by decide +kernel
theorem dGR_empty_0 : decode cGR_empty 0 = .ok (.aload_n 0, 1) := by decide +kernel
theorem dGR_empty_1 : decode cGR_empty 1 = .ok (.getfield 12, 3) := by decide +kernel
theorem dGR_empty_4 : decode cGR_empty 4 = .ok (.invokevirtual 34, 3) := by decide +kernel
theorem dGR_empty_7 : decode cGR_empty 7 = .ok (.aload_n 0, 1) := by decide +kernel
theorem dGR_empty_8 : decode cGR_empty 8 = .ok (.iconst 1, 1) := by decide +kernel
theorem dGR_empty_9 : decode cGR_empty 9 = .ok (.putfield 18, 3) := by decide +kernel
theorem dGR_empty_12 : decode cGR_empty 12 = .ok (.aload_n 0, 1) := by decide +kernel
theorem dGR_empty_13 : decode cGR_empty 13 = .ok (.iconst 0, 1) := by decide +kernel
theorem dGR_empty_14 : decode cGR_empty 14 = .ok (.putfield 22, 3) := by decide +kernel
theorem dGR_empty_17 : decode cGR_empty 17 = .ok (.aload_n 0, 1) := by decide +kernel
theorem dGR_empty_18 : decode cGR_empty 18 = .ok (.iconst 0, 1) := by decide +kernel
theorem dGR_empty_19 : decode cGR_empty 19 = .ok (.putfield 25, 3) := by decide +kernel
theorem dGR_empty_22 : decode cGR_empty 22 = .ok (.aload_n 0, 1) := by decide +kernel
theorem dGR_empty_23 : decode cGR_empty 23 = .ok (.iconst 0, 1) := by decide +kernel
theorem dGR_empty_24 : decode cGR_empty 24 = .ok (.putfield 28, 3) := by decide +kernel
theorem dGR_empty_27 : decode cGR_empty 27 = .ok (.aload_n 0, 1) := by decide +kernel
theorem dGR_empty_28 : decode cGR_empty 28 = .ok (.iconst 0, 1) := by decide +kernel
theorem dGR_empty_29 : decode cGR_empty 29 = .ok (.putfield 31, 3) := by decide +kernel
theorem dGR_empty_32 : decode cGR_empty 32 = .ok (.return_, 1) := by decide +kernel
theorem dGR_extendGroupTo_0 : decode cGR_extendGroupTo 0 = .ok (.aload_n 0, 1) := by decide +kernel
theorem dGR_extendGroupTo_1 : decode cGR_extendGroupTo 1 = .ok (.aload_n 0, 1) := by decide +kernel
theorem dGR_extendGroupTo_2 : decode cGR_extendGroupTo 2 = .ok (.getfield 28, 3) := by decide +kernel
theorem dGR_extendGroupTo_5 : decode cGR_extendGroupTo 5 = .ok (.iload_n 1, 1) := by decide +kernel
theorem dGR_extendGroupTo_6 : decode cGR_extendGroupTo 6 = .ok (.invokestatic 58, 3) := by decide +kernel
theorem dGR_extendGroupTo_9 : decode cGR_extendGroupTo 9 = .ok (.putfield 28, 3) := by decide +kernel
theorem dGR_extendGroupTo_12 : decode cGR_extendGroupTo 12 = .ok (.iconst 0, 1) := by decide +kernel
theorem dGR_extendGroupTo_13 : decode cGR_extendGroupTo 13 = .ok (.istore_n 2, 1) := by decide +kernel
theorem dGR_extendGroupTo_14 : decode cGR_extendGroupTo 14 = .ok (.iload_n 2, 1) := by decide +kernel
theorem dGR_extendGroupTo_15 : decode cGR_extendGroupTo 15 = .ok (.aload_n 0, 1) := by decide +kernel
theorem dGR_extendGroupTo_16 : decode cGR_extendGroupTo 16 = .ok (.getfield 12, 3) := by decide +kernel
theorem dGR_extendGroupTo_19 : decode cGR_extendGroupTo 19 = .ok (.invokevirtual 41, 3) := by decide +kernel
theorem dGR_extendGroupTo_22 : decode cGR_extendGroupTo 22 = .ok (.if_icmp .ge 40, 3) := by decide +kernel
theorem dGR_extendGroupTo_62 : decode cGR_extendGroupTo 62 = .ok (.return_, 1) := by decide +kernel
theorem dGR_hasCell_0 : decode cGR_hasCell 0 = .ok (.iconst 0, 1) := by decide +kernel
theorem dGR_hasCell_1 : decode cGR_hasCell 1 = .ok (.iload_n 1, 1) := by decide +kernel
theorem dGR_hasCell_2 : decode cGR_hasCell 2 = .ok (.if_icmp .gt 18, 3) := by decide +kernel
theorem dGR_hasCell_5 : decode cGR_hasCell 5 = .ok (.iload_n 1, 1) := by decide +kernel
theorem dGR_hasCell_6 : decode cGR_hasCell 6 = .ok (.aload_n 0, 1) := by decide +kernel
theorem dGR_hasCell_7 : decode cGR_hasCell 7 = .ok (.getfield 12, 3) := by decide +kernel
theorem dGR_hasCell_10 : decode cGR_hasCell 10 = .ok (.invokevirtual 41, 3) := by decide +kernel
theorem dGR_hasCell_13 : decode cGR_hasCell 13 = .ok (.if_icmp .ge 7, 3) := by decide +kernel
theorem dGR_hasCell_20 : decode cGR_hasCell 20 = .ok (.iconst 0, 1) := by decide +kernel
theorem dGR_hasCell_21 : decode cGR_hasCell 21 = .ok (.ireturn, 1) := by decide +kernel
theorem dGR_hasSlot_0 : decode cGR_hasSlot 0 = .ok (.iload_n 1, 1) := by decide +kernel
theorem dGR_hasSlot_1 : decode cGR_hasSlot 1 = .ok (.iconst 0, 1) := by decide +kernel
theorem dGR_hasSlot_2 : decode cGR_hasSlot 2 = .ok (.aload_n 0, 1) := by decide +kernel
theorem dGR_hasSlot_3 : decode cGR_hasSlot 3 = .ok (.getfield 31, 3) := by decide +kernel
theorem dGR_hasSlot_6 : decode cGR_hasSlot 6 = .ok (.iconst 1, 1) := by decide +kernel
theorem dGR_hasSlot_7 : decode cGR_hasSlot 7 = .ok (.isub, 1) := by decide +kernel
theorem dGR_hasSlot_8 : decode cGR_hasSlot 8 = .ok (.invokestatic 77, 3) := by decide +kernel
theorem dGR_hasSlot_11 : decode cGR_hasSlot 11 = .ok (.ifCond .eq 21, 3) := by decide +kernel
theorem dGR_hasSlot_32 : decode cGR_hasSlot 32 = .ok (.iconst 0, 1) := by decide +kernel
theorem dGR_hasSlot_33 : decode cGR_hasSlot 33 = .ok (.ireturn, 1) := by decide +kernel
theorem dGR_init_0 : decode cGR_init 0 = .ok (.aload_n 0, 1) := by decide +kernel
theorem dGR_init_1 : decode cGR_init 1 = .ok (.invokespecial 3, 3) := by decide +kernel
theorem dGR_init_4 : decode cGR_init 4 = .ok (.aload_n 0, 1) := by decide +kernel
theorem dGR_init_5 : decode cGR_init 5 = .ok (.new 9, 3) := by decide +kernel
theorem dGR_init_8 : decode cGR_init 8 = .ok (.dup, 1) := by decide +kernel
theorem dGR_init_9 : decode cGR_init 9 = .ok (.invokespecial 11, 3) := by decide +kernel
theorem dGR_init_12 : decode cGR_init 12 = .ok (.putfield 12, 3) := by decide +kernel
theorem dGR_init_15 : decode cGR_init 15 = .ok (.aload_n 0, 1) := by decide +kernel
theorem dGR_init_16 : decode cGR_init 16 = .ok (.iconst 1, 1) := by decide +kernel
theorem dGR_init_17 : decode cGR_init 17 = .ok (.putfield 18, 3) := by decide +kernel
theorem dGR_init_20 : decode cGR_init 20 = .ok (.aload_n 0, 1) := by decide +kernel
theorem dGR_init_21 : decode cGR_init 21 = .ok (.iconst 0, 1) := by decide +kernel
theorem dGR_init_22 : decode cGR_init 22 = .ok (.putfield 22, 3) := by decide +kernel
theorem dGR_init_25 : decode cGR_init 25 = .ok (.aload_n 0, 1) := by decide +kernel
theorem dGR_init_26 : decode cGR_init 26 = .ok (.iconst 0, 1) := by decide +kernel
theorem dGR_init_27 : decode cGR_init 27 = .ok (.putfield 25, 3) := by decide +kernel
theorem dGR_init_30 : decode cGR_init 30 = .ok (.aload_n 0, 1) := by decide +kernel
theorem dGR_init_31 : decode cGR_init 31 = .ok (.iconst 0, 1) := by decide +kernel
theorem dGR_init_32 : decode cGR_init 32 = .ok (.putfield 28, 3) := by decide +kernel
theorem dGR_init_35 : decode cGR_init 35 = .ok (.aload_n 0, 1) := by decide +kernel
theorem dGR_init_36 : decode cGR_init 36 = .ok (.iconst 0, 1) := by decide +kernel
theorem dGR_init_37 : decode cGR_init 37 = .ok (.putfield 31, 3) := by decide +kernel
theorem dGR_init_40 : decode cGR_init 40 = .ok (.return_, 1) := by decide +kernel
theorem dGR_ownerOf_0 : decode cGR_ownerOf 0 = .ok (.iconst 0, 1) := by decide +kernel
theorem dGR_ownerOf_1 : decode cGR_ownerOf 1 = .ok (.istore_n 3, 1) := by decide +kernel
theorem dGR_ownerOf_2 : decode cGR_ownerOf 2 = .ok (.iload_n 3, 1) := by decide +kernel
theorem dGR_ownerOf_3 : decode cGR_ownerOf 3 = .ok (.aload_n 0, 1) := by decide +kernel
theorem dGR_ownerOf_4 : decode cGR_ownerOf 4 = .ok (.getfield 12, 3) := by decide +kernel
theorem dGR_ownerOf_7 : decode cGR_ownerOf 7 = .ok (.invokevirtual 41, 3) := by decide +kernel
theorem dGR_ownerOf_10 : decode cGR_ownerOf 10 = .ok (.if_icmp .ge 30, 3) := by decide +kernel
theorem dGR_ownerOf_40 : decode cGR_ownerOf 40 = .ok (.iconst (-1), 1) := by decide +kernel
theorem dGR_ownerOf_41 : decode cGR_ownerOf 41 = .ok (.ireturn, 1) := by decide +kernel
theorem dGR_putCell_0 : decode cGR_putCell 0 = .ok (.aload_n 0, 1) := by decide +kernel
theorem dGR_putCell_1 : decode cGR_putCell 1 = .ok (.getfield 25, 3) := by decide +kernel
theorem dGR_putCell_4 : decode cGR_putCell 4 = .ok (.ifCond .eq 15, 3) := by decide +kernel
theorem dGR_putCell_19 : decode cGR_putCell 19 = .ok (.iconst (-1), 1) := by decide +kernel
theorem dGR_putCell_20 : decode cGR_putCell 20 = .ok (.ireturn, 1) := by decide +kernel
theorem dGR_rowCount_0 : decode cGR_rowCount 0 = .ok (.aload_n 0, 1) := by decide +kernel
theorem dGR_rowCount_1 : decode cGR_rowCount 1 = .ok (.getfield 28, 3) := by decide +kernel
theorem dGR_rowCount_4 : decode cGR_rowCount 4 = .ok (.ireturn, 1) := by decide +kernel
theorem dHE_init_0 : decode cHE_init 0 = .ok (.aload_n 0, 1) := by decide +kernel
theorem dHE_init_1 : decode cHE_init 1 = .ok (.invokespecial 3, 3) := by decide +kernel
theorem dHE_init_4 : decode cHE_init 4 = .ok (.aload_n 0, 1) := by decide +kernel
theorem dHE_init_5 : decode cHE_init 5 = .ok (.new 9, 3) := by decide +kernel
theorem dHE_init_8 : decode cHE_init 8 = .ok (.dup, 1) := by decide +kernel
theorem dHE_init_9 : decode cHE_init 9 = .ok (.invokespecial 11, 3) := by decide +kernel
theorem dHE_init_12 : decode cHE_init 12 = .ok (.putfield 12, 3) := by decide +kernel
theorem dHE_init_15 : decode cHE_init 15 = .ok (.return_, 1) := by decide +kernel
theorem dLI_init_0 : decode cLI_init 0 = .ok (.aload_n 0, 1) := by decide +kernel
theorem dLI_init_1 : decode cLI_init 1 = .ok (.invokespecial 3, 3) := by decide +kernel
theorem dLI_init_4 : decode cLI_init 4 = .ok (.aload_n 0, 1) := by decide +kernel
theorem dLI_init_5 : decode cLI_init 5 = .ok (.bipush 12, 2) := by decide +kernel
theorem dLI_init_7 : decode cLI_init 7 = .ok (.newarray .int, 2) := by decide +kernel
theorem dLI_init_9 : decode cLI_init 9 = .ok (.putfield 9, 3) := by decide +kernel
theorem dLI_init_12 : decode cLI_init 12 = .ok (.return_, 1) := by decide +kernel
