theorem dSC_cell_39 : decode cSC_cell 39 = .ok (.iload_n 3, 1) := by decide +kernel
theorem dSC_cell_40 : decode cSC_cell 40 = .ok (.iconst 0, 1) := by decide +kernel
theorem dSC_cell_41 : decode cSC_cell 41 = .ok (.iload 4, 2) := by decide +kernel
theorem dSC_cell_43 : decode cSC_cell 43 = .ok (.invokestatic 48, 3) := by decide +kernel
theorem dSC_cell_46 : decode cSC_cell 46 = .ok (.ifCond .eq 7, 3) := by decide +kernel
theorem dSC_cell_49 : decode cSC_cell 49 = .ok (.iconst 1, 1) := by decide +kernel
theorem dSC_cell_50 : decode cSC_cell 50 = .ok (.goto 4, 3) := by decide +kernel
theorem dSC_cell_53 : decode cSC_cell 53 = .ok (.iconst 0, 1) := by decide +kernel
theorem dSC_cell_54 : decode cSC_cell 54 = .ok (.istore 7, 2) := by decide +kernel
theorem dSC_cell_56 : decode cSC_cell 56 = .ok (.iload 5, 2) := by decide +kernel
theorem dSC_cell_58 : decode cSC_cell 58 = .ok (.iconst 0, 1) := by decide +kernel
theorem dSC_cell_59 : decode cSC_cell 59 = .ok (.sipush 1000, 3) := by decide +kernel
theorem dSC_cell_62 : decode cSC_cell 62 = .ok (.invokestatic 48, 3) := by decide +kernel
theorem dSC_cell_65 : decode cSC_cell 65 = .ok (.istore 8, 2) := by decide +kernel
theorem dSC_cell_67 : decode cSC_cell 67 = .ok (.iload 6, 2) := by decide +kernel
theorem dSC_cell_69 : decode cSC_cell 69 = .ok (.ifCond .eq 13, 3) := by decide +kernel
theorem dSC_cell_72 : decode cSC_cell 72 = .ok (.iload 7, 2) := by decide +kernel
theorem dSC_cell_74 : decode cSC_cell 74 = .ok (.ifCond .eq 8, 3) := by decide +kernel
theorem dSC_cell_77 : decode cSC_cell 77 = .ok (.iload 8, 2) := by decide +kernel
theorem dSC_cell_79 : decode cSC_cell 79 = .ok (.ifCond .ne 5, 3) := by decide +kernel
theorem dSC_cell_82 : decode cSC_cell 82 = .ok (.iconst (-1), 1) := by decide +kernel
theorem dSC_cell_83 : decode cSC_cell 83 = .ok (.ireturn, 1) := by decide +kernel
theorem dSC_cell_84 : decode cSC_cell 84 = .ok (.aload_n 0, 1) := by decide +kernel
theorem dSC_cell_85 : decode cSC_cell 85 = .ok (.getfield 10, 3) := by decide +kernel
theorem dSC_cell_88 : decode cSC_cell 88 = .ok (.iload_n 1, 1) := by decide +kernel
theorem dSC_cell_89 : decode cSC_cell 89 = .ok (.iload_n 2, 1) := by decide +kernel
theorem dSC_cell_90 : decode cSC_cell 90 = .ok (.iload_n 3, 1) := by decide +kernel
theorem dSC_cell_91 : decode cSC_cell 91 = .ok (.iload 4, 2) := by decide +kernel
theorem dSC_cell_93 : decode cSC_cell 93 = .ok (.iload 5, 2) := by decide +kernel
theorem dSC_cell_95 : decode cSC_cell 95 = .ok (.invokevirtual 52, 3) := by decide +kernel
theorem dSC_cell_98 : decode cSC_cell 98 = .ok (.ireturn, 1) := by decide +kernel
theorem dSC_clear_0 : decode cSC_clear 0 = .ok (.aload_n 0, 1) := by decide +kernel
theorem dSC_clear_1 : decode cSC_clear 1 = .ok (.getfield 10, 3) := by decide +kernel
theorem dSC_clear_4 : decode cSC_clear 4 = .ok (.invokevirtual 70, 3) := by decide +kernel
theorem dSC_clear_7 : decode cSC_clear 7 = .ok (.istore_n 1, 1) := by decide +kernel
theorem dSC_clear_8 : decode cSC_clear 8 = .ok (.aload_n 0, 1) := by decide +kernel
theorem dSC_clear_9 : decode cSC_clear 9 = .ok (.getfield 10, 3) := by decide +kernel
theorem dSC_clear_12 : decode cSC_clear 12 = .ok (.invokevirtual 73, 3) := by decide +kernel
theorem dSC_clear_15 : decode cSC_clear 15 = .ok (.iload_n 1, 1) := by decide +kernel
theorem dSC_clear_16 : decode cSC_clear 16 = .ok (.ireturn, 1) := by decide +kernel
theorem dSC_columns_0 : decode cSC_columns 0 = .ok (.aload_n 0, 1) := by decide +kernel
theorem dSC_columns_1 : decode cSC_columns 1 = .ok (.getfield 10, 3) := by decide +kernel
theorem dSC_columns_4 : decode cSC_columns 4 = .ok (.invokevirtual 76, 3) := by decide +kernel
theorem dSC_columns_7 : decode cSC_columns 7 = .ok (.ireturn, 1) := by decide +kernel
theorem dSC_edge_0 : decode cSC_edge 0 = .ok (.aload_n 0, 1) := by decide +kernel
theorem dSC_edge_1 : decode cSC_edge 1 = .ok (.getfield 10, 3) := by decide +kernel
theorem dSC_edge_4 : decode cSC_edge 4 = .ok (.iload_n 1, 1) := by decide +kernel
theorem dSC_edge_5 : decode cSC_edge 5 = .ok (.iload_n 2, 1) := by decide +kernel
theorem dSC_edge_6 : decode cSC_edge 6 = .ok (.invokevirtual 145, 3) := by decide +kernel
theorem dSC_edge_9 : decode cSC_edge 9 = .ok (.ifCond .ne 5, 3) := by decide +kernel
theorem dSC_edge_12 : decode cSC_edge 12 = .ok (.iconst (-1), 1) := by decide +kernel
theorem dSC_edge_13 : decode cSC_edge 13 = .ok (.ireturn, 1) := by decide +kernel
theorem dSC_empties_0 : decode cSC_empties 0 = .ok (.aload_n 0, 1) := by decide +kernel
theorem dSC_empties_1 : decode cSC_empties 1 = .ok (.getfield 10, 3) := by decide +kernel
theorem dSC_empties_4 : decode cSC_empties 4 = .ok (.invokevirtual 89, 3) := by decide +kernel
theorem dSC_empties_7 : decode cSC_empties 7 = .ok (.bipush 100, 2) := by decide +kernel
theorem dSC_empties_9 : decode cSC_empties 9 = .ok (.aload_n 0, 1) := by decide +kernel
theorem dSC_empties_10 : decode cSC_empties 10 = .ok (.getfield 10, 3) := by decide +kernel
theorem dSC_empties_13 : decode cSC_empties 13 = .ok (.invokevirtual 92, 3) := by decide +kernel
theorem dSC_empties_16 : decode cSC_empties 16 = .ok (.imul, 1) := by decide +kernel
theorem dSC_empties_17 : decode cSC_empties 17 = .ok (.iadd, 1) := by decide +kernel
theorem dSC_empties_18 : decode cSC_empties 18 = .ok (.ireturn, 1) := by decide +kernel
theorem dSC_group_0 : decode cSC_group 0 = .ok (.aload_n 0, 1) := by decide +kernel
theorem dSC_group_1 : decode cSC_group 1 = .ok (.getfield 10, 3) := by decide +kernel
theorem dSC_group_4 : decode cSC_group 4 = .ok (.invokevirtual 41, 3) := by decide +kernel
theorem dSC_group_7 : decode cSC_group 7 = .ok (.ireturn, 1) := by decide +kernel
theorem dSC_high_0 : decode cSC_high 0 = .ok (.iload_n 1, 1) := by decide +kernel
theorem dSC_high_1 : decode cSC_high 1 = .ok (.iconst 0, 1) := by decide +kernel
theorem dSC_high_2 : decode cSC_high 2 = .ok (.aload_n 0, 1) := by decide +kernel
theorem dSC_high_3 : decode cSC_high 3 = .ok (.getfield 10, 3) := by decide +kernel
theorem dSC_high_6 : decode cSC_high 6 = .ok (.invokevirtual 79, 3) := by decide +kernel
theorem dSC_high_9 : decode cSC_high 9 = .ok (.iconst 1, 1) := by decide +kernel
theorem dSC_high_10 : decode cSC_high 10 = .ok (.isub, 1) := by decide +kernel
theorem dSC_high_11 : decode cSC_high 11 = .ok (.invokestatic 48, 3) := by decide +kernel
theorem dSC_high_14 : decode cSC_high 14 = .ok (.ifCond .ne 5, 3) := by decide +kernel
theorem dSC_high_17 : decode cSC_high 17 = .ok (.iconst (-1), 1) := by decide +kernel
theorem dSC_high_18 : decode cSC_high 18 = .ok (.ireturn, 1) := by decide +kernel
theorem dSC_init_0 : decode cSC_init 0 = .ok (.aload_n 0, 1) := by decide +kernel
theorem dSC_init_1 : decode cSC_init 1 = .ok (.invokespecial 1, 3) := by decide +kernel
theorem dSC_init_4 : decode cSC_init 4 = .ok (.aload_n 0, 1) := by decide +kernel
theorem dSC_init_5 : decode cSC_init 5 = .ok (.new 7, 3) := by decide +kernel
theorem dSC_init_8 : decode cSC_init 8 = .ok (.dup, 1) := by decide +kernel
theorem dSC_init_9 : decode cSC_init 9 = .ok (.invokespecial 9, 3) := by decide +kernel
theorem dSC_init_12 : decode cSC_init 12 = .ok (.putfield 10, 3) := by decide +kernel
theorem dSC_init_15 : decode cSC_init 15 = .ok (.aload_n 0, 1) := by decide +kernel
theorem dSC_init_16 : decode cSC_init 16 = .ok (.new 16, 3) := by decide +kernel
theorem dSC_init_19 : decode cSC_init 19 = .ok (.dup, 1) := by decide +kernel
theorem dSC_init_20 : decode cSC_init 20 = .ok (.invokespecial 18, 3) := by decide +kernel
theorem dSC_init_23 : decode cSC_init 23 = .ok (.putfield 19, 3) := by decide +kernel
theorem dSC_init_26 : decode cSC_init 26 = .ok (.aload_n 0, 1) := by decide +kernel
theorem dSC_init_27 : decode cSC_init 27 = .ok (.new 23, 3) := by decide +kernel
theorem dSC_init_30 : decode cSC_init 30 = .ok (.dup, 1) := by decide +kernel
theorem dSC_init_31 : decode cSC_init 31 = .ok (.invokespecial 25, 3) := by decide +kernel
theorem dSC_init_34 : decode cSC_init 34 = .ok (.putfield 26, 3) := by decide +kernel
theorem dSC_init_37 : decode cSC_init 37 = .ok (.aload_n 0, 1) := by decide +kernel
theorem dSC_init_38 : decode cSC_init 38 = .ok (.iconst 0, 1) := by decide +kernel
theorem dSC_init_39 : decode cSC_init 39 = .ok (.putfield 30, 3) := by decide +kernel
theorem dSC_init_42 : decode cSC_init 42 = .ok (.aload_n 0, 1) := by decide +kernel
theorem dSC_init_43 : decode cSC_init 43 = .ok (.iconst 0, 1) := by decide +kernel
theorem dSC_init_44 : decode cSC_init 44 = .ok (.putfield 34, 3) := by decide +kernel
theorem dSC_init_47 : decode cSC_init 47 = .ok (.aload_n 0, 1) := by decide +kernel
theorem dSC_init_48 : decode cSC_init 48 = .ok (.iconst 0, 1) := by decide +kernel
theorem dSC_init_49 : decode cSC_init 49 = .ok (.putfield 37, 3) := by decide +kernel
theorem dSC_init_52 : decode cSC_init 52 = .ok (.return_, 1) := by decide +kernel
theorem dSC_layout_0 : decode cSC_layout 0 = .ok (.iload_n 1, 1) := by decide +kernel
theorem dSC_layout_1 : decode cSC_layout 1 = .ok (.iconst 0, 1) := by decide +kernel
theorem dSC_layout_2 : decode cSC_layout 2 = .ok (.sipush 10000, 3) := by decide +kernel
theorem dSC_layout_5 : decode cSC_layout 5 = .ok (.invokestatic 48, 3) := by decide +kernel
theorem dSC_layout_8 : decode cSC_layout 8 = .ok (.ifCond .eq 13, 3) := by decide +kernel
theorem dSC_layout_11 : decode cSC_layout 11 = .ok (.iload_n 2, 1) := by decide +kernel
theorem dSC_layout_12 : decode cSC_layout 12 = .ok (.iconst 0, 1) := by decide +kernel
theorem dSC_layout_13 : decode cSC_layout 13 = .ok (.bipush 20, 2) := by decide +kernel
theorem dSC_layout_15 : decode cSC_layout 15 = .ok (.invokestatic 48, 3) := by decide +kernel
theorem dSC_layout_18 : decode cSC_layout 18 = .ok (.ifCond .ne 5, 3) := by decide +kernel
theorem dSC_layout_21 : decode cSC_layout 21 = .ok (.iconst 0, 1) := by decide +kernel
theorem dSC_layout_22 : decode cSC_layout 22 = .ok (.ireturn, 1) := by decide +kernel
theorem dSC_layout_23 : decode cSC_layout 23 = .ok (.aload_n 0, 1) := by decide +kernel
theorem dSC_layout_24 : decode cSC_layout 24 = .ok (.iload_n 1, 1) := by decide +kernel
theorem dSC_layout_25 : decode cSC_layout 25 = .ok (.putfield 30, 3) := by decide +kernel
theorem dSC_layout_28 : decode cSC_layout 28 = .ok (.aload_n 0, 1) := by decide +kernel
