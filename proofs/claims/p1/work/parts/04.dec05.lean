theorem dLW_law_610 : decode cLW_law 610 = .ok (.if_icmp .eq 5, 3) := by decide +kernel
theorem dLW_law_615 : decode cLW_law 615 = .ok (.iinc 3 6, 3) := by decide +kernel
theorem dLW_law_618 : decode cLW_law 618 = .ok (.goto (-600), 3) := by decide +kernel
theorem dLW_law_621 : decode cLW_law 621 = .ok (.iconst 1, 1) := by decide +kernel
theorem dLW_law_622 : decode cLW_law 622 = .ok (.ireturn, 1) := by decide +kernel
theorem dMD_border_0 : decode cMD_border 0 = .ok (.aload_n 0, 1) := by decide +kernel
theorem dMD_border_1 : decode cMD_border 1 = .ok (.iload_n 1, 1) := by decide +kernel
theorem dMD_border_2 : decode cMD_border 2 = .ok (.invokevirtual 89, 3) := by decide +kernel
theorem dMD_border_5 : decode cMD_border 5 = .ok (.ifCond .eq 22, 3) := by decide +kernel
theorem dMD_border_27 : decode cMD_border 27 = .ok (.iconst 0, 1) := by decide +kernel
theorem dMD_border_28 : decode cMD_border 28 = .ok (.ireturn, 1) := by decide +kernel
theorem dMD_cell_0 : decode cMD_cell 0 = .ok (.iload_n 1, 1) := by decide +kernel
theorem dMD_cell_1 : decode cMD_cell 1 = .ok (.ifCond .le 54, 3) := by decide +kernel
theorem dMD_cell_4 : decode cMD_cell 4 = .ok (.iload_n 1, 1) := by decide +kernel
theorem dMD_cell_5 : decode cMD_cell 5 = .ok (.bipush 7, 2) := by decide +kernel
theorem dMD_cell_7 : decode cMD_cell 7 = .ok (.if_icmp .ge 48, 3) := by decide +kernel
theorem dMD_cell_10 : decode cMD_cell 10 = .ok (.iload_n 2, 1) := by decide +kernel
theorem dMD_cell_11 : decode cMD_cell 11 = .ok (.ifCond .lt 44, 3) := by decide +kernel
theorem dMD_cell_14 : decode cMD_cell 14 = .ok (.iload_n 2, 1) := by decide +kernel
theorem dMD_cell_15 : decode cMD_cell 15 = .ok (.bipush 7, 2) := by decide +kernel
theorem dMD_cell_17 : decode cMD_cell 17 = .ok (.if_icmp .ge 38, 3) := by decide +kernel
theorem dMD_cell_20 : decode cMD_cell 20 = .ok (.iload_n 3, 1) := by decide +kernel
theorem dMD_cell_21 : decode cMD_cell 21 = .ok (.ifCond .lt 34, 3) := by decide +kernel
theorem dMD_cell_24 : decode cMD_cell 24 = .ok (.iload_n 3, 1) := by decide +kernel
theorem dMD_cell_25 : decode cMD_cell 25 = .ok (.iload 4, 2) := by decide +kernel
theorem dMD_cell_27 : decode cMD_cell 27 = .ok (.if_icmp .gt 28, 3) := by decide +kernel
theorem dMD_cell_30 : decode cMD_cell 30 = .ok (.iload 4, 2) := by decide +kernel
theorem dMD_cell_32 : decode cMD_cell 32 = .ok (.sipush 1000, 3) := by decide +kernel
theorem dMD_cell_35 : decode cMD_cell 35 = .ok (.if_icmp .gt 20, 3) := by decide +kernel
theorem dMD_cell_38 : decode cMD_cell 38 = .ok (.iload 5, 2) := by decide +kernel
theorem dMD_cell_40 : decode cMD_cell 40 = .ok (.ifCond .lt 15, 3) := by decide +kernel
theorem dMD_cell_43 : decode cMD_cell 43 = .ok (.iload 5, 2) := by decide +kernel
theorem dMD_cell_45 : decode cMD_cell 45 = .ok (.sipush 1000, 3) := by decide +kernel
theorem dMD_cell_48 : decode cMD_cell 48 = .ok (.if_icmp .gt 7, 3) := by decide +kernel
theorem dMD_cell_51 : decode cMD_cell 51 = .ok (.iconst 1, 1) := by decide +kernel
theorem dMD_cell_52 : decode cMD_cell 52 = .ok (.goto 4, 3) := by decide +kernel
theorem dMD_cell_55 : decode cMD_cell 55 = .ok (.iconst 0, 1) := by decide +kernel
theorem dMD_cell_56 : decode cMD_cell 56 = .ok (.istore 6, 2) := by decide +kernel
theorem dMD_cell_58 : decode cMD_cell 58 = .ok (.iload 6, 2) := by decide +kernel
theorem dMD_cell_60 : decode cMD_cell 60 = .ok (.ifCond .eq 25, 3) := by decide +kernel
theorem dMD_cell_63 : decode cMD_cell 63 = .ok (.aload_n 0, 1) := by decide +kernel
theorem dMD_cell_64 : decode cMD_cell 64 = .ok (.getfield 50, 3) := by decide +kernel
theorem dMD_cell_67 : decode cMD_cell 67 = .ok (.aload_n 0, 1) := by decide +kernel
theorem dMD_cell_68 : decode cMD_cell 68 = .ok (.getfield 7, 3) := by decide +kernel
theorem dMD_cell_71 : decode cMD_cell 71 = .ok (.iconst 1, 1) := by decide +kernel
theorem dMD_cell_72 : decode cMD_cell 72 = .ok (.isub, 1) := by decide +kernel
theorem dMD_cell_73 : decode cMD_cell 73 = .ok (.if_icmp .ne 12, 3) := by decide +kernel
theorem dMD_cell_85 : decode cMD_cell 85 = .ok (.iconst (-1), 1) := by decide +kernel
theorem dMD_cell_86 : decode cMD_cell 86 = .ok (.ireturn, 1) := by decide +kernel
theorem dMD_clear_0 : decode cMD_clear 0 = .ok (.aload_n 0, 1) := by decide +kernel
theorem dMD_clear_1 : decode cMD_clear 1 = .ok (.getfield 72, 3) := by decide +kernel
theorem dMD_clear_4 : decode cMD_clear 4 = .ok (.istore_n 1, 1) := by decide +kernel
theorem dMD_clear_5 : decode cMD_clear 5 = .ok (.aload_n 0, 1) := by decide +kernel
theorem dMD_clear_6 : decode cMD_clear 6 = .ok (.iconst 0, 1) := by decide +kernel
theorem dMD_clear_7 : decode cMD_clear 7 = .ok (.putfield 72, 3) := by decide +kernel
theorem dMD_clear_10 : decode cMD_clear 10 = .ok (.aload_n 0, 1) := by decide +kernel
theorem dMD_clear_11 : decode cMD_clear 11 = .ok (.iconst 1, 1) := by decide +kernel
theorem dMD_clear_12 : decode cMD_clear 12 = .ok (.putfield 7, 3) := by decide +kernel
theorem dMD_clear_15 : decode cMD_clear 15 = .ok (.aload_n 0, 1) := by decide +kernel
theorem dMD_clear_16 : decode cMD_clear 16 = .ok (.getfield 13, 3) := by decide +kernel
theorem dMD_clear_19 : decode cMD_clear 19 = .ok (.iconst 0, 1) := by decide +kernel
theorem dMD_clear_20 : decode cMD_clear 20 = .ok (.iconst 0, 1) := by decide +kernel
theorem dMD_clear_21 : decode cMD_clear 21 = .ok (.iastore, 1) := by decide +kernel
theorem dMD_clear_22 : decode cMD_clear 22 = .ok (.aload_n 0, 1) := by decide +kernel
theorem dMD_clear_23 : decode cMD_clear 23 = .ok (.getfield 17, 3) := by decide +kernel
theorem dMD_clear_26 : decode cMD_clear 26 = .ok (.iconst 0, 1) := by decide +kernel
theorem dMD_clear_27 : decode cMD_clear 27 = .ok (.iconst 0, 1) := by decide +kernel
theorem dMD_clear_28 : decode cMD_clear 28 = .ok (.iastore, 1) := by decide +kernel
theorem dMD_clear_29 : decode cMD_clear 29 = .ok (.aload_n 0, 1) := by decide +kernel
theorem dMD_clear_30 : decode cMD_clear 30 = .ok (.iconst (-1), 1) := by decide +kernel
theorem dMD_clear_31 : decode cMD_clear 31 = .ok (.putfield 50, 3) := by decide +kernel
theorem dMD_clear_34 : decode cMD_clear 34 = .ok (.iload_n 1, 1) := by decide +kernel
theorem dMD_clear_35 : decode cMD_clear 35 = .ok (.ireturn, 1) := by decide +kernel
theorem dMD_columns_0 : decode cMD_columns 0 = .ok (.iconst 0, 1) := by decide +kernel
theorem dMD_columns_1 : decode cMD_columns 1 = .ok (.istore_n 1, 1) := by decide +kernel
theorem dMD_columns_2 : decode cMD_columns 2 = .ok (.iconst 0, 1) := by decide +kernel
theorem dMD_columns_3 : decode cMD_columns 3 = .ok (.istore_n 2, 1) := by decide +kernel
theorem dMD_columns_4 : decode cMD_columns 4 = .ok (.iload_n 2, 1) := by decide +kernel
theorem dMD_columns_5 : decode cMD_columns 5 = .ok (.aload_n 0, 1) := by decide +kernel
theorem dMD_columns_6 : decode cMD_columns 6 = .ok (.getfield 72, 3) := by decide +kernel
theorem dMD_columns_9 : decode cMD_columns 9 = .ok (.if_icmp .ge 44, 3) := by decide +kernel
theorem dMD_columns_53 : decode cMD_columns 53 = .ok (.iload_n 1, 1) := by decide +kernel
theorem dMD_columns_54 : decode cMD_columns 54 = .ok (.ireturn, 1) := by decide +kernel
theorem dMD_edge_0 : decode cMD_edge 0 = .ok (.iload_n 1, 1) := by decide +kernel
theorem dMD_edge_1 : decode cMD_edge 1 = .ok (.ifCond .lt 23, 3) := by decide +kernel
theorem dMD_edge_4 : decode cMD_edge 4 = .ok (.iload_n 1, 1) := by decide +kernel
theorem dMD_edge_5 : decode cMD_edge 5 = .ok (.aload_n 0, 1) := by decide +kernel
theorem dMD_edge_6 : decode cMD_edge 6 = .ok (.invokevirtual 113, 3) := by decide +kernel
theorem dMD_edge_9 : decode cMD_edge 9 = .ok (.if_icmp .ge 15, 3) := by decide +kernel
theorem dMD_edge_24 : decode cMD_edge 24 = .ok (.iconst (-1), 1) := by decide +kernel
theorem dMD_edge_25 : decode cMD_edge 25 = .ok (.ireturn, 1) := by decide +kernel
theorem dMD_empties_0 : decode cMD_empties 0 = .ok (.iconst 0, 1) := by decide +kernel
theorem dMD_empties_1 : decode cMD_empties 1 = .ok (.istore_n 1, 1) := by decide +kernel
theorem dMD_empties_2 : decode cMD_empties 2 = .ok (.iconst 0, 1) := by decide +kernel
theorem dMD_empties_3 : decode cMD_empties 3 = .ok (.istore_n 2, 1) := by decide +kernel
theorem dMD_empties_4 : decode cMD_empties 4 = .ok (.iload_n 2, 1) := by decide +kernel
theorem dMD_empties_5 : decode cMD_empties 5 = .ok (.bipush 12, 2) := by decide +kernel
theorem dMD_empties_7 : decode cMD_empties 7 = .ok (.if_icmp .ge 124, 3) := by decide +kernel
theorem dMD_empties_10 : decode cMD_empties 10 = .ok (.iload_n 2, 1) := by decide +kernel
theorem dMD_empties_11 : decode cMD_empties 11 = .ok (.aload_n 0, 1) := by decide +kernel
theorem dMD_empties_12 : decode cMD_empties 12 = .ok (.invokevirtual 113, 3) := by decide +kernel
theorem dMD_empties_15 : decode cMD_empties 15 = .ok (.if_icmp .ge 7, 3) := by decide +kernel
theorem dMD_empties_22 : decode cMD_empties 22 = .ok (.iconst 0, 1) := by decide +kernel
theorem dMD_empties_23 : decode cMD_empties 23 = .ok (.istore_n 3, 1) := by decide +kernel
theorem dMD_empties_24 : decode cMD_empties 24 = .ok (.iload_n 2, 1) := by decide +kernel
theorem dMD_empties_25 : decode cMD_empties 25 = .ok (.aload_n 0, 1) := by decide +kernel
theorem dMD_empties_26 : decode cMD_empties 26 = .ok (.invokevirtual 117, 3) := by decide +kernel
theorem dMD_empties_29 : decode cMD_empties 29 = .ok (.if_icmp .ge 7, 3) := by decide +kernel
theorem dMD_empties_36 : decode cMD_empties 36 = .ok (.iconst 0, 1) := by decide +kernel
theorem dMD_empties_37 : decode cMD_empties 37 = .ok (.istore 4, 2) := by decide +kernel
theorem dMD_empties_39 : decode cMD_empties 39 = .ok (.iconst 0, 1) := by decide +kernel
theorem dMD_empties_40 : decode cMD_empties 40 = .ok (.istore 5, 2) := by decide +kernel
theorem dMD_empties_42 : decode cMD_empties 42 = .ok (.iload 5, 2) := by decide +kernel
theorem dMD_empties_44 : decode cMD_empties 44 = .ok (.aload_n 0, 1) := by decide +kernel
theorem dMD_empties_45 : decode cMD_empties 45 = .ok (.getfield 72, 3) := by decide +kernel
theorem dMD_empties_48 : decode cMD_empties 48 = .ok (.if_icmp .ge 53, 3) := by decide +kernel
theorem dMD_empties_101 : decode cMD_empties 101 = .ok (.iload_n 1, 1) := by decide +kernel
theorem dMD_empties_102 : decode cMD_empties 102 = .ok (.iload_n 3, 1) := by decide +kernel
theorem dMD_empties_103 : decode cMD_empties 103 = .ok (.ifCond .eq 7, 3) := by decide +kernel
theorem dMD_empties_110 : decode cMD_empties 110 = .ok (.iconst 0, 1) := by decide +kernel
