theorem dLI_reach_10 : decode cLI_reach 10 = .ok (.iconst 1, 1) := by decide +kernel
theorem dLI_reach_11 : decode cLI_reach 11 = .ok (.isub, 1) := by decide +kernel
theorem dLI_reach_12 : decode cLI_reach 12 = .ok (.imul, 1) := by decide +kernel
theorem dLI_reach_13 : decode cLI_reach 13 = .ok (.iadd, 1) := by decide +kernel
theorem dLI_reach_14 : decode cLI_reach 14 = .ok (.ireturn, 1) := by decide +kernel
theorem dLI_reset_0 : decode cLI_reset 0 = .ok (.aload_n 0, 1) := by decide +kernel
theorem dLI_reset_1 : decode cLI_reset 1 = .ok (.getfield 9, 3) := by decide +kernel
theorem dLI_reset_4 : decode cLI_reset 4 = .ok (.iconst 0, 1) := by decide +kernel
theorem dLI_reset_5 : decode cLI_reset 5 = .ok (.invokestatic 15, 3) := by decide +kernel
theorem dLI_reset_8 : decode cLI_reset 8 = .ok (.return_, 1) := by decide +kernel
theorem dLI_set_0 : decode cLI_set 0 = .ok (.aload_n 0, 1) := by decide +kernel
theorem dLI_set_1 : decode cLI_set 1 = .ok (.getfield 9, 3) := by decide +kernel
theorem dLI_set_4 : decode cLI_set 4 = .ok (.iload_n 1, 1) := by decide +kernel
theorem dLI_set_5 : decode cLI_set 5 = .ok (.iload_n 2, 1) := by decide +kernel
theorem dLI_set_6 : decode cLI_set 6 = .ok (.iastore, 1) := by decide +kernel
theorem dLI_set_7 : decode cLI_set 7 = .ok (.return_, 1) := by decide +kernel
theorem dLI_shareOut_0 : decode cLI_shareOut 0 = .ok (.aload_n 2, 1) := by decide +kernel
theorem dLI_shareOut_1 : decode cLI_shareOut 1 = .ok (.iload_n 3, 1) := by decide +kernel
theorem dLI_shareOut_2 : decode cLI_shareOut 2 = .ok (.iload 4, 2) := by decide +kernel
theorem dLI_shareOut_4 : decode cLI_shareOut 4 = .ok (.invokevirtual 33, 3) := by decide +kernel
theorem dLI_shareOut_7 : decode cLI_shareOut 7 = .ok (.istore 5, 2) := by decide +kernel
theorem dLI_shareOut_9 : decode cLI_shareOut 9 = .ok (.iload 5, 2) := by decide +kernel
theorem dLI_shareOut_11 : decode cLI_shareOut 11 = .ok (.ifCond .ne 7, 3) := by decide +kernel
theorem dLI_shareOut_14 : decode cLI_shareOut 14 = .ok (.iconst 1, 1) := by decide +kernel
theorem dLI_shareOut_15 : decode cLI_shareOut 15 = .ok (.goto 4, 3) := by decide +kernel
theorem dLI_shareOut_18 : decode cLI_shareOut 18 = .ok (.iconst 0, 1) := by decide +kernel
theorem dLI_shareOut_19 : decode cLI_shareOut 19 = .ok (.istore 6, 2) := by decide +kernel
theorem dLI_shareOut_21 : decode cLI_shareOut 21 = .ok (.iload 6, 2) := by decide +kernel
theorem dLI_shareOut_23 : decode cLI_shareOut 23 = .ok (.ifCond .eq 10, 3) := by decide +kernel
theorem dLI_shareOut_26 : decode cLI_shareOut 26 = .ok (.iload 4, 2) := by decide +kernel
theorem dLI_shareOut_28 : decode cLI_shareOut 28 = .ok (.iload_n 3, 1) := by decide +kernel
theorem dLI_shareOut_29 : decode cLI_shareOut 29 = .ok (.isub, 1) := by decide +kernel
theorem dLI_shareOut_30 : decode cLI_shareOut 30 = .ok (.goto 5, 3) := by decide +kernel
theorem dLI_shareOut_33 : decode cLI_shareOut 33 = .ok (.iload 5, 2) := by decide +kernel
theorem dLI_shareOut_35 : decode cLI_shareOut 35 = .ok (.istore 7, 2) := by decide +kernel
theorem dLI_shareOut_37 : decode cLI_shareOut 37 = .ok (.iload 7, 2) := by decide +kernel
theorem dLI_shareOut_39 : decode cLI_shareOut 39 = .ok (.ifCond .gt 4, 3) := by decide +kernel
theorem dLI_shareOut_42 : decode cLI_shareOut 42 = .ok (.return_, 1) := by decide +kernel
theorem dLI_shareOut_43 : decode cLI_shareOut 43 = .ok (.iload_n 1, 1) := by decide +kernel
theorem dLI_shareOut_44 : decode cLI_shareOut 44 = .ok (.istore 8, 2) := by decide +kernel
theorem dLI_shareOut_46 : decode cLI_shareOut 46 = .ok (.iload_n 3, 1) := by decide +kernel
theorem dLI_shareOut_47 : decode cLI_shareOut 47 = .ok (.istore 9, 2) := by decide +kernel
theorem dLI_shareOut_49 : decode cLI_shareOut 49 = .ok (.iload 9, 2) := by decide +kernel
theorem dLI_shareOut_51 : decode cLI_shareOut 51 = .ok (.iload 4, 2) := by decide +kernel
theorem dLI_shareOut_53 : decode cLI_shareOut 53 = .ok (.if_icmp .ge 55, 3) := by decide +kernel
theorem dLI_shareOut_56 : decode cLI_shareOut 56 = .ok (.iload 6, 2) := by decide +kernel
theorem dLI_shareOut_58 : decode cLI_shareOut 58 = .ok (.ifCond .eq 7, 3) := by decide +kernel
theorem dLI_shareOut_61 : decode cLI_shareOut 61 = .ok (.iconst 1, 1) := by decide +kernel
theorem dLI_shareOut_62 : decode cLI_shareOut 62 = .ok (.goto 10, 3) := by decide +kernel
theorem dLI_shareOut_65 : decode cLI_shareOut 65 = .ok (.aload_n 2, 1) := by decide +kernel
theorem dLI_shareOut_66 : decode cLI_shareOut 66 = .ok (.getfield 9, 3) := by decide +kernel
theorem dLI_shareOut_69 : decode cLI_shareOut 69 = .ok (.iload 9, 2) := by decide +kernel
theorem dLI_shareOut_71 : decode cLI_shareOut 71 = .ok (.iaload, 1) := by decide +kernel
theorem dLI_shareOut_72 : decode cLI_shareOut 72 = .ok (.istore 10, 2) := by decide +kernel
theorem dLI_shareOut_74 : decode cLI_shareOut 74 = .ok (.iload_n 1, 1) := by decide +kernel
theorem dLI_shareOut_75 : decode cLI_shareOut 75 = .ok (.iload 10, 2) := by decide +kernel
theorem dLI_shareOut_77 : decode cLI_shareOut 77 = .ok (.imul, 1) := by decide +kernel
theorem dLI_shareOut_78 : decode cLI_shareOut 78 = .ok (.iload 7, 2) := by decide +kernel
theorem dLI_shareOut_80 : decode cLI_shareOut 80 = .ok (.idiv, 1) := by decide +kernel
theorem dLI_shareOut_81 : decode cLI_shareOut 81 = .ok (.istore 11, 2) := by decide +kernel
theorem dLI_shareOut_83 : decode cLI_shareOut 83 = .ok (.aload_n 0, 1) := by decide +kernel
theorem dLI_shareOut_84 : decode cLI_shareOut 84 = .ok (.getfield 9, 3) := by decide +kernel
theorem dLI_shareOut_87 : decode cLI_shareOut 87 = .ok (.iload 9, 2) := by decide +kernel
theorem dLI_shareOut_89 : decode cLI_shareOut 89 = .ok (.dup2, 1) := by decide +kernel
theorem dLI_shareOut_90 : decode cLI_shareOut 90 = .ok (.iaload, 1) := by decide +kernel
theorem dLI_shareOut_91 : decode cLI_shareOut 91 = .ok (.iload 11, 2) := by decide +kernel
theorem dLI_shareOut_93 : decode cLI_shareOut 93 = .ok (.iadd, 1) := by decide +kernel
theorem dLI_shareOut_94 : decode cLI_shareOut 94 = .ok (.iastore, 1) := by decide +kernel
theorem dLI_shareOut_95 : decode cLI_shareOut 95 = .ok (.iload 8, 2) := by decide +kernel
theorem dLI_shareOut_97 : decode cLI_shareOut 97 = .ok (.iload 11, 2) := by decide +kernel
theorem dLI_shareOut_99 : decode cLI_shareOut 99 = .ok (.isub, 1) := by decide +kernel
theorem dLI_shareOut_100 : decode cLI_shareOut 100 = .ok (.istore 8, 2) := by decide +kernel
theorem dLI_shareOut_102 : decode cLI_shareOut 102 = .ok (.iinc 9 1, 3) := by decide +kernel
theorem dLI_shareOut_105 : decode cLI_shareOut 105 = .ok (.goto (-56), 3) := by decide +kernel
theorem dLI_shareOut_108 : decode cLI_shareOut 108 = .ok (.iload_n 3, 1) := by decide +kernel
theorem dLI_shareOut_109 : decode cLI_shareOut 109 = .ok (.istore 9, 2) := by decide +kernel
theorem dLI_shareOut_111 : decode cLI_shareOut 111 = .ok (.iload 9, 2) := by decide +kernel
theorem dLI_shareOut_113 : decode cLI_shareOut 113 = .ok (.iload 4, 2) := by decide +kernel
theorem dLI_shareOut_115 : decode cLI_shareOut 115 = .ok (.if_icmp .ge 28, 3) := by decide +kernel
theorem dLI_shareOut_118 : decode cLI_shareOut 118 = .ok (.iload 8, 2) := by decide +kernel
theorem dLI_shareOut_120 : decode cLI_shareOut 120 = .ok (.ifCond .le 23, 3) := by decide +kernel
theorem dLI_shareOut_123 : decode cLI_shareOut 123 = .ok (.aload_n 0, 1) := by decide +kernel
theorem dLI_shareOut_124 : decode cLI_shareOut 124 = .ok (.getfield 9, 3) := by decide +kernel
theorem dLI_shareOut_127 : decode cLI_shareOut 127 = .ok (.iload 9, 2) := by decide +kernel
theorem dLI_shareOut_129 : decode cLI_shareOut 129 = .ok (.dup2, 1) := by decide +kernel
theorem dLI_shareOut_130 : decode cLI_shareOut 130 = .ok (.iaload, 1) := by decide +kernel
theorem dLI_shareOut_131 : decode cLI_shareOut 131 = .ok (.iconst 1, 1) := by decide +kernel
theorem dLI_shareOut_132 : decode cLI_shareOut 132 = .ok (.iadd, 1) := by decide +kernel
theorem dLI_shareOut_133 : decode cLI_shareOut 133 = .ok (.iastore, 1) := by decide +kernel
theorem dLI_shareOut_134 : decode cLI_shareOut 134 = .ok (.iinc 8 (-1), 3) := by decide +kernel
theorem dLI_shareOut_137 : decode cLI_shareOut 137 = .ok (.iinc 9 1, 3) := by decide +kernel
theorem dLI_shareOut_140 : decode cLI_shareOut 140 = .ok (.goto (-29), 3) := by decide +kernel
theorem dLI_shareOut_143 : decode cLI_shareOut 143 = .ok (.return_, 1) := by decide +kernel
theorem dLI_sizeOf_0 : decode cLI_sizeOf 0 = .ok (.aload_n 0, 1) := by decide +kernel
theorem dLI_sizeOf_1 : decode cLI_sizeOf 1 = .ok (.getfield 9, 3) := by decide +kernel
theorem dLI_sizeOf_4 : decode cLI_sizeOf 4 = .ok (.iload_n 1, 1) := by decide +kernel
theorem dLI_sizeOf_5 : decode cLI_sizeOf 5 = .ok (.iaload, 1) := by decide +kernel
theorem dLI_sizeOf_6 : decode cLI_sizeOf 6 = .ok (.ireturn, 1) := by decide +kernel
theorem dLI_startOf_0 : decode cLI_startOf 0 = .ok (.aload_n 0, 1) := by decide +kernel
theorem dLI_startOf_1 : decode cLI_startOf 1 = .ok (.iconst 0, 1) := by decide +kernel
theorem dLI_startOf_2 : decode cLI_startOf 2 = .ok (.iload_n 1, 1) := by decide +kernel
theorem dLI_startOf_3 : decode cLI_startOf 3 = .ok (.invokevirtual 33, 3) := by decide +kernel
theorem dLI_startOf_6 : decode cLI_startOf 6 = .ok (.iload_n 2, 1) := by decide +kernel
theorem dLI_startOf_7 : decode cLI_startOf 7 = .ok (.iload_n 1, 1) := by decide +kernel
theorem dLI_startOf_8 : decode cLI_startOf 8 = .ok (.iconst 1, 1) := by decide +kernel
theorem dLI_startOf_9 : decode cLI_startOf 9 = .ok (.iadd, 1) := by decide +kernel
theorem dLI_startOf_10 : decode cLI_startOf 10 = .ok (.imul, 1) := by decide +kernel
theorem dLI_startOf_11 : decode cLI_startOf 11 = .ok (.iadd, 1) := by decide +kernel
theorem dLI_startOf_12 : decode cLI_startOf 12 = .ok (.ireturn, 1) := by decide +kernel
theorem dLI_stretch_0 : decode cLI_stretch 0 = .ok (.iload_n 1, 1) := by decide +kernel
theorem dLI_stretch_1 : decode cLI_stretch 1 = .ok (.aload_n 0, 1) := by decide +kernel
theorem dLI_stretch_2 : decode cLI_stretch 2 = .ok (.iload 4, 2) := by decide +kernel
theorem dLI_stretch_4 : decode cLI_stretch 4 = .ok (.iload 5, 2) := by decide +kernel
theorem dLI_stretch_6 : decode cLI_stretch 6 = .ok (.iload_n 2, 1) := by decide +kernel
theorem dLI_stretch_7 : decode cLI_stretch 7 = .ok (.invokevirtual 36, 3) := by decide +kernel
theorem dLI_stretch_10 : decode cLI_stretch 10 = .ok (.isub, 1) := by decide +kernel
theorem dLI_stretch_11 : decode cLI_stretch 11 = .ok (.istore 6, 2) := by decide +kernel
theorem dLI_stretch_13 : decode cLI_stretch 13 = .ok (.iload 6, 2) := by decide +kernel
theorem dLI_stretch_15 : decode cLI_stretch 15 = .ok (.ifCond .le 14, 3) := by decide +kernel
theorem dLI_stretch_18 : decode cLI_stretch 18 = .ok (.aload_n 0, 1) := by decide +kernel
theorem dLI_stretch_19 : decode cLI_stretch 19 = .ok (.iload 6, 2) := by decide +kernel
theorem dLI_stretch_21 : decode cLI_stretch 21 = .ok (.aload_n 3, 1) := by decide +kernel
theorem dLI_stretch_22 : decode cLI_stretch 22 = .ok (.iload 4, 2) := by decide +kernel
theorem dLI_stretch_24 : decode cLI_stretch 24 = .ok (.iload 5, 2) := by decide +kernel
theorem dLI_stretch_26 : decode cLI_stretch 26 = .ok (.invokevirtual 40, 3) := by decide +kernel
theorem dLI_stretch_29 : decode cLI_stretch 29 = .ok (.return_, 1) := by decide +kernel
theorem dLI_sum_0 : decode cLI_sum 0 = .ok (.iconst 0, 1) := by decide +kernel
theorem dLI_sum_1 : decode cLI_sum 1 = .ok (.istore_n 3, 1) := by decide +kernel
theorem dLI_sum_2 : decode cLI_sum 2 = .ok (.iload_n 1, 1) := by decide +kernel
theorem dLI_sum_3 : decode cLI_sum 3 = .ok (.istore 4, 2) := by decide +kernel
theorem dLI_sum_5 : decode cLI_sum 5 = .ok (.iload 4, 2) := by decide +kernel
theorem dLI_sum_7 : decode cLI_sum 7 = .ok (.iload_n 2, 1) := by decide +kernel
theorem dLI_sum_8 : decode cLI_sum 8 = .ok (.if_icmp .ge 19, 3) := by decide +kernel
theorem dLI_sum_11 : decode cLI_sum 11 = .ok (.iload_n 3, 1) := by decide +kernel
theorem dLI_sum_12 : decode cLI_sum 12 = .ok (.aload_n 0, 1) := by decide +kernel
theorem dLI_sum_13 : decode cLI_sum 13 = .ok (.getfield 9, 3) := by decide +kernel
theorem dLI_sum_16 : decode cLI_sum 16 = .ok (.iload 4, 2) := by decide +kernel
theorem dLI_sum_18 : decode cLI_sum 18 = .ok (.iaload, 1) := by decide +kernel
theorem dLI_sum_19 : decode cLI_sum 19 = .ok (.iadd, 1) := by decide +kernel
theorem dLI_sum_20 : decode cLI_sum 20 = .ok (.istore_n 3, 1) := by decide +kernel
theorem dLI_sum_21 : decode cLI_sum 21 = .ok (.iinc 4 1, 3) := by decide +kernel
theorem dLI_sum_24 : decode cLI_sum 24 = .ok (.goto (-19), 3) := by decide +kernel
theorem dLI_sum_27 : decode cLI_sum 27 = .ok (.iload_n 3, 1) := by decide +kernel
theorem dLI_sum_28 : decode cLI_sum 28 = .ok (.ireturn, 1) := by decide +kernel
theorem dMD_border_0 : decode cMD_border 0 = .ok (.aload_n 0, 1) := by decide +kernel
theorem dMD_border_1 : decode cMD_border 1 = .ok (.iload_n 1, 1) := by decide +kernel
theorem dMD_border_2 : decode cMD_border 2 = .ok (.invokevirtual 89, 3) := by decide +kernel
theorem dMD_border_5 : decode cMD_border 5 = .ok (.ifCond .eq 22, 3) := by decide +kernel
theorem dMD_border_8 : decode cMD_border 8 = .ok (.iload_n 2, 1) := by decide +kernel
theorem dMD_border_9 : decode cMD_border 9 = .ok (.ifCond .lt 18, 3) := by decide +kernel
theorem dMD_border_12 : decode cMD_border 12 = .ok (.iload_n 2, 1) := by decide +kernel
theorem dMD_border_13 : decode cMD_border 13 = .ok (.bipush 9, 2) := by decide +kernel
theorem dMD_border_15 : decode cMD_border 15 = .ok (.if_icmp .gt 12, 3) := by decide +kernel
theorem dMD_border_18 : decode cMD_border 18 = .ok (.iload_n 3, 1) := by decide +kernel
theorem dMD_border_19 : decode cMD_border 19 = .ok (.ifCond .lt 8, 3) := by decide +kernel
theorem dMD_border_22 : decode cMD_border 22 = .ok (.iload_n 3, 1) := by decide +kernel
theorem dMD_border_23 : decode cMD_border 23 = .ok (.iconst 4, 1) := by decide +kernel
theorem dMD_border_24 : decode cMD_border 24 = .ok (.if_icmp .le 5, 3) := by decide +kernel
theorem dMD_border_27 : decode cMD_border 27 = .ok (.iconst 0, 1) := by decide +kernel
theorem dMD_border_28 : decode cMD_border 28 = .ok (.ireturn, 1) := by decide +kernel
theorem dMD_border_29 : decode cMD_border 29 = .ok (.aload_n 0, 1) := by decide +kernel
theorem dMD_border_30 : decode cMD_border 30 = .ok (.getfield 44, 3) := by decide +kernel
theorem dMD_border_33 : decode cMD_border 33 = .ok (.iload_n 1, 1) := by decide +kernel
theorem dMD_border_34 : decode cMD_border 34 = .ok (.iload_n 2, 1) := by decide +kernel
theorem dMD_border_35 : decode cMD_border 35 = .ok (.iastore, 1) := by decide +kernel
theorem dMD_border_36 : decode cMD_border 36 = .ok (.aload_n 0, 1) := by decide +kernel
theorem dMD_border_37 : decode cMD_border 37 = .ok (.getfield 47, 3) := by decide +kernel
theorem dMD_border_40 : decode cMD_border 40 = .ok (.iload_n 1, 1) := by decide +kernel
theorem dMD_border_41 : decode cMD_border 41 = .ok (.iload_n 3, 1) := by decide +kernel
theorem dMD_border_42 : decode cMD_border 42 = .ok (.iastore, 1) := by decide +kernel
theorem dMD_border_43 : decode cMD_border 43 = .ok (.iconst 1, 1) := by decide +kernel
theorem dMD_border_44 : decode cMD_border 44 = .ok (.ireturn, 1) := by decide +kernel
theorem dMD_cell_0 : decode cMD_cell 0 = .ok (.iload_n 1, 1) := by decide +kernel
theorem dMD_cell_1 : decode cMD_cell 1 = .ok (.ifCond .le 54, 3) := by decide +kernel
theorem dMD_cell_4 : decode cMD_cell 4 = .ok (.iload_n 1, 1) := by decide +kernel
theorem dMD_cell_5 : decode cMD_cell 5 = .ok (.bipush 7, 2) := by decide +kernel
theorem dMD_cell_7 : decode cMD_cell 7 = .ok (.if_icmp .ge 48, 3) := by decide +kernel
theorem dMD_cell_10 : decode cMD_cell 10 = .ok (.iload_n 2, 1) := by decide +kernel
theorem dMD_cell_11 : decode cMD_cell 11 = .ok (.ifCond .lt 44, 3) := by decide +kernel
theorem dMD_cell_14 : decode cMD_cell 14 = .ok (.iload_n 2, 1) := by decide +kernel
theorem dMD_cell_15 : decode cMD_cell 15 = .ok (.bipush 7, 2) := by decide +kernel
theorem dMD_cell_17 : decode cMD_cell 17 = .ok (.if_icmp .ge 38, 3) := by decide +kernel
theorem dMD_cell_20 : decode cMD_cell 20 = .ok (.iload_n 3, 1) := by decide +kernel
theorem dMD_cell_21 : decode cMD_cell 21 = .ok (.ifCond .lt 34, 3) := by decide +kernel
theorem dMD_cell_24 : decode cMD_cell 24 = .ok (.iload_n 3, 1) := by decide +kernel
theorem dMD_cell_25 : decode cMD_cell 25 = .ok (.iload 4, 2) := by decide +kernel
theorem dMD_cell_27 : decode cMD_cell 27 = .ok (.if_icmp .gt 28, 3) := by decide +kernel
theorem dMD_cell_30 : decode cMD_cell 30 = .ok (.iload 4, 2) := by decide +kernel
theorem dMD_cell_32 : decode cMD_cell 32 = .ok (.sipush 1000, 3) := by decide +kernel
theorem dMD_cell_35 : decode cMD_cell 35 = .ok (.if_icmp .gt 20, 3) := by decide +kernel
theorem dMD_cell_38 : decode cMD_cell 38 = .ok (.iload 5, 2) := by decide +kernel
theorem dMD_cell_40 : decode cMD_cell 40 = .ok (.ifCond .lt 15, 3) := by decide +kernel
theorem dMD_cell_43 : decode cMD_cell 43 = .ok (.iload 5, 2) := by decide +kernel
theorem dMD_cell_45 : decode cMD_cell 45 = .ok (.sipush 1000, 3) := by decide +kernel
theorem dMD_cell_48 : decode cMD_cell 48 = .ok (.if_icmp .gt 7, 3) := by decide +kernel
theorem dMD_cell_51 : decode cMD_cell 51 = .ok (.iconst 1, 1) := by decide +kernel
theorem dMD_cell_52 : decode cMD_cell 52 = .ok (.goto 4, 3) := by decide +kernel
theorem dMD_cell_55 : decode cMD_cell 55 = .ok (.iconst 0, 1) := by decide +kernel
theorem dMD_cell_56 : decode cMD_cell 56 = .ok (.istore 6, 2) := by decide +kernel
theorem dMD_cell_58 : decode cMD_cell 58 = .ok (.iload 6, 2) := by decide +kernel
theorem dMD_cell_60 : decode cMD_cell 60 = .ok (.ifCond .eq 25, 3) := by decide +kernel
theorem dMD_cell_63 : decode cMD_cell 63 = .ok (.aload_n 0, 1) := by decide +kernel
theorem dMD_cell_64 : decode cMD_cell 64 = .ok (.getfield 50, 3) := by decide +kernel
theorem dMD_cell_67 : decode cMD_cell 67 = .ok (.aload_n 0, 1) := by decide +kernel
theorem dMD_cell_68 : decode cMD_cell 68 = .ok (.getfield 7, 3) := by decide +kernel
theorem dMD_cell_71 : decode cMD_cell 71 = .ok (.iconst 1, 1) := by decide +kernel
theorem dMD_cell_72 : decode cMD_cell 72 = .ok (.isub, 1) := by decide +kernel
theorem dMD_cell_73 : decode cMD_cell 73 = .ok (.if_icmp .ne 12, 3) := by decide +kernel
theorem dMD_cell_76 : decode cMD_cell 76 = .ok (.aload_n 0, 1) := by decide +kernel
theorem dMD_cell_77 : decode cMD_cell 77 = .ok (.getfield 72, 3) := by decide +kernel
theorem dMD_cell_80 : decode cMD_cell 80 = .ok (.bipush 40, 2) := by decide +kernel
theorem dMD_cell_82 : decode cMD_cell 82 = .ok (.if_icmp .ne 5, 3) := by decide +kernel
theorem dMD_cell_85 : decode cMD_cell 85 = .ok (.iconst (-1), 1) := by decide +kernel
theorem dMD_cell_86 : decode cMD_cell 86 = .ok (.ireturn, 1) := by decide +kernel
theorem dMD_cell_87 : decode cMD_cell 87 = .ok (.aload_n 0, 1) := by decide +kernel
theorem dMD_cell_88 : decode cMD_cell 88 = .ok (.getfield 82, 3) := by decide +kernel
theorem dMD_cell_91 : decode cMD_cell 91 = .ok (.istore 7, 2) := by decide +kernel
theorem dMD_cell_93 : decode cMD_cell 93 = .ok (.iload 7, 2) := by decide +kernel
theorem dMD_cell_95 : decode cMD_cell 95 = .ok (.bipush 12, 2) := by decide +kernel
theorem dMD_cell_97 : decode cMD_cell 97 = .ok (.if_icmp .ge 21, 3) := by decide +kernel
theorem dMD_cell_100 : decode cMD_cell 100 = .ok (.aload_n 0, 1) := by decide +kernel
theorem dMD_cell_101 : decode cMD_cell 101 = .ok (.iload 7, 2) := by decide +kernel
theorem dMD_cell_103 : decode cMD_cell 103 = .ok (.invokevirtual 85, 3) := by decide +kernel
theorem dMD_cell_106 : decode cMD_cell 106 = .ok (.ifCond .eq 12, 3) := by decide +kernel
theorem dMD_cell_109 : decode cMD_cell 109 = .ok (.iload 7, 2) := by decide +kernel
theorem dMD_cell_111 : decode cMD_cell 111 = .ok (.iconst 1, 1) := by decide +kernel
theorem dMD_cell_112 : decode cMD_cell 112 = .ok (.iadd, 1) := by decide +kernel
theorem dMD_cell_113 : decode cMD_cell 113 = .ok (.istore 7, 2) := by decide +kernel
theorem dMD_cell_115 : decode cMD_cell 115 = .ok (.goto (-22), 3) := by decide +kernel
theorem dMD_cell_118 : decode cMD_cell 118 = .ok (.iload 7, 2) := by decide +kernel
theorem dMD_cell_120 : decode cMD_cell 120 = .ok (.iload_n 1, 1) := by decide +kernel
theorem dMD_cell_121 : decode cMD_cell 121 = .ok (.iadd, 1) := by decide +kernel
theorem dMD_cell_122 : decode cMD_cell 122 = .ok (.bipush 12, 2) := by decide +kernel
theorem dMD_cell_124 : decode cMD_cell 124 = .ok (.if_icmp .gt 14, 3) := by decide +kernel
theorem dMD_cell_127 : decode cMD_cell 127 = .ok (.aload_n 0, 1) := by decide +kernel
theorem dMD_cell_128 : decode cMD_cell 128 = .ok (.getfield 79, 3) := by decide +kernel
theorem dMD_cell_131 : decode cMD_cell 131 = .ok (.iload_n 2, 1) := by decide +kernel
theorem dMD_cell_132 : decode cMD_cell 132 = .ok (.iadd, 1) := by decide +kernel
theorem dMD_cell_133 : decode cMD_cell 133 = .ok (.bipush 12, 2) := by decide +kernel
theorem dMD_cell_135 : decode cMD_cell 135 = .ok (.if_icmp .le 5, 3) := by decide +kernel
theorem dMD_cell_138 : decode cMD_cell 138 = .ok (.iconst (-1), 1) := by decide +kernel
theorem dMD_cell_139 : decode cMD_cell 139 = .ok (.ireturn, 1) := by decide +kernel
theorem dMD_cell_140 : decode cMD_cell 140 = .ok (.aload_n 0, 1) := by decide +kernel
theorem dMD_cell_141 : decode cMD_cell 141 = .ok (.getfield 72, 3) := by decide +kernel
theorem dMD_cell_144 : decode cMD_cell 144 = .ok (.istore 8, 2) := by decide +kernel
theorem dMD_cell_146 : decode cMD_cell 146 = .ok (.aload_n 0, 1) := by decide +kernel
theorem dMD_cell_147 : decode cMD_cell 147 = .ok (.getfield 20, 3) := by decide +kernel
theorem dMD_cell_150 : decode cMD_cell 150 = .ok (.iload 8, 2) := by decide +kernel
theorem dMD_cell_152 : decode cMD_cell 152 = .ok (.iload 7, 2) := by decide +kernel
theorem dMD_cell_154 : decode cMD_cell 154 = .ok (.iastore, 1) := by decide +kernel
theorem dMD_cell_155 : decode cMD_cell 155 = .ok (.aload_n 0, 1) := by decide +kernel
theorem dMD_cell_156 : decode cMD_cell 156 = .ok (.getfield 23, 3) := by decide +kernel
theorem dMD_cell_159 : decode cMD_cell 159 = .ok (.iload 8, 2) := by decide +kernel
theorem dMD_cell_161 : decode cMD_cell 161 = .ok (.aload_n 0, 1) := by decide +kernel
theorem dMD_cell_162 : decode cMD_cell 162 = .ok (.getfield 79, 3) := by decide +kernel
theorem dMD_cell_165 : decode cMD_cell 165 = .ok (.iastore, 1) := by decide +kernel
theorem dMD_cell_166 : decode cMD_cell 166 = .ok (.aload_n 0, 1) := by decide +kernel
theorem dMD_cell_167 : decode cMD_cell 167 = .ok (.getfield 26, 3) := by decide +kernel
theorem dMD_cell_170 : decode cMD_cell 170 = .ok (.iload 8, 2) := by decide +kernel
theorem dMD_cell_172 : decode cMD_cell 172 = .ok (.iload_n 1, 1) := by decide +kernel
theorem dMD_cell_173 : decode cMD_cell 173 = .ok (.iastore, 1) := by decide +kernel
theorem dMD_cell_174 : decode cMD_cell 174 = .ok (.aload_n 0, 1) := by decide +kernel
theorem dMD_cell_175 : decode cMD_cell 175 = .ok (.getfield 29, 3) := by decide +kernel
theorem dMD_cell_178 : decode cMD_cell 178 = .ok (.iload 8, 2) := by decide +kernel
theorem dMD_cell_180 : decode cMD_cell 180 = .ok (.iload_n 2, 1) := by decide +kernel
theorem dMD_cell_181 : decode cMD_cell 181 = .ok (.iastore, 1) := by decide +kernel
theorem dMD_cell_182 : decode cMD_cell 182 = .ok (.aload_n 0, 1) := by decide +kernel
theorem dMD_cell_183 : decode cMD_cell 183 = .ok (.getfield 32, 3) := by decide +kernel
theorem dMD_cell_186 : decode cMD_cell 186 = .ok (.iload 8, 2) := by decide +kernel
theorem dMD_cell_188 : decode cMD_cell 188 = .ok (.aload_n 0, 1) := by decide +kernel
theorem dMD_cell_189 : decode cMD_cell 189 = .ok (.getfield 50, 3) := by decide +kernel
theorem dMD_cell_192 : decode cMD_cell 192 = .ok (.iastore, 1) := by decide +kernel
theorem dMD_cell_193 : decode cMD_cell 193 = .ok (.aload_n 0, 1) := by decide +kernel
theorem dMD_cell_194 : decode cMD_cell 194 = .ok (.getfield 35, 3) := by decide +kernel
theorem dMD_cell_197 : decode cMD_cell 197 = .ok (.iload 8, 2) := by decide +kernel
theorem dMD_cell_199 : decode cMD_cell 199 = .ok (.iload_n 3, 1) := by decide +kernel
theorem dMD_cell_200 : decode cMD_cell 200 = .ok (.iastore, 1) := by decide +kernel
theorem dMD_cell_201 : decode cMD_cell 201 = .ok (.aload_n 0, 1) := by decide +kernel
theorem dMD_cell_202 : decode cMD_cell 202 = .ok (.getfield 38, 3) := by decide +kernel
theorem dMD_cell_205 : decode cMD_cell 205 = .ok (.iload 8, 2) := by decide +kernel
theorem dMD_cell_207 : decode cMD_cell 207 = .ok (.iload 4, 2) := by decide +kernel
theorem dMD_cell_209 : decode cMD_cell 209 = .ok (.iastore, 1) := by decide +kernel
theorem dMD_cell_210 : decode cMD_cell 210 = .ok (.aload_n 0, 1) := by decide +kernel
theorem dMD_cell_211 : decode cMD_cell 211 = .ok (.getfield 41, 3) := by decide +kernel
theorem dMD_cell_214 : decode cMD_cell 214 = .ok (.iload 8, 2) := by decide +kernel
theorem dMD_cell_216 : decode cMD_cell 216 = .ok (.iload 5, 2) := by decide +kernel
theorem dMD_cell_218 : decode cMD_cell 218 = .ok (.iastore, 1) := by decide +kernel
theorem dMD_cell_219 : decode cMD_cell 219 = .ok (.aload_n 0, 1) := by decide +kernel
theorem dMD_cell_220 : decode cMD_cell 220 = .ok (.getfield 44, 3) := by decide +kernel
theorem dMD_cell_223 : decode cMD_cell 223 = .ok (.iload 8, 2) := by decide +kernel
theorem dMD_cell_225 : decode cMD_cell 225 = .ok (.iconst 0, 1) := by decide +kernel
theorem dMD_cell_226 : decode cMD_cell 226 = .ok (.iastore, 1) := by decide +kernel
theorem dMD_cell_227 : decode cMD_cell 227 = .ok (.aload_n 0, 1) := by decide +kernel
theorem dMD_cell_228 : decode cMD_cell 228 = .ok (.getfield 47, 3) := by decide +kernel
theorem dMD_cell_231 : decode cMD_cell 231 = .ok (.iload 8, 2) := by decide +kernel
theorem dMD_cell_233 : decode cMD_cell 233 = .ok (.iconst 0, 1) := by decide +kernel
theorem dMD_cell_234 : decode cMD_cell 234 = .ok (.iastore, 1) := by decide +kernel
theorem dMD_cell_235 : decode cMD_cell 235 = .ok (.aload_n 0, 1) := by decide +kernel
theorem dMD_cell_236 : decode cMD_cell 236 = .ok (.iload 7, 2) := by decide +kernel
theorem dMD_cell_238 : decode cMD_cell 238 = .ok (.iload_n 1, 1) := by decide +kernel
theorem dMD_cell_239 : decode cMD_cell 239 = .ok (.iadd, 1) := by decide +kernel
theorem dMD_cell_240 : decode cMD_cell 240 = .ok (.putfield 82, 3) := by decide +kernel
theorem dMD_cell_243 : decode cMD_cell 243 = .ok (.aload_n 0, 1) := by decide +kernel
theorem dMD_cell_244 : decode cMD_cell 244 = .ok (.aload_n 0, 1) := by decide +kernel
theorem dMD_cell_245 : decode cMD_cell 245 = .ok (.getfield 72, 3) := by decide +kernel
theorem dMD_cell_248 : decode cMD_cell 248 = .ok (.iconst 1, 1) := by decide +kernel
theorem dMD_cell_249 : decode cMD_cell 249 = .ok (.iadd, 1) := by decide +kernel
theorem dMD_cell_250 : decode cMD_cell 250 = .ok (.putfield 72, 3) := by decide +kernel
theorem dMD_cell_253 : decode cMD_cell 253 = .ok (.iload 8, 2) := by decide +kernel
theorem dMD_cell_255 : decode cMD_cell 255 = .ok (.ireturn, 1) := by decide +kernel
theorem dMD_clear_0 : decode cMD_clear 0 = .ok (.aload_n 0, 1) := by decide +kernel
theorem dMD_clear_1 : decode cMD_clear 1 = .ok (.getfield 72, 3) := by decide +kernel
theorem dMD_clear_4 : decode cMD_clear 4 = .ok (.istore_n 1, 1) := by decide +kernel
theorem dMD_clear_5 : decode cMD_clear 5 = .ok (.aload_n 0, 1) := by decide +kernel
theorem dMD_clear_6 : decode cMD_clear 6 = .ok (.iconst 0, 1) := by decide +kernel
theorem dMD_clear_7 : decode cMD_clear 7 = .ok (.putfield 72, 3) := by decide +kernel
theorem dMD_clear_10 : decode cMD_clear 10 = .ok (.aload_n 0, 1) := by decide +kernel
theorem dMD_clear_11 : decode cMD_clear 11 = .ok (.iconst 1, 1) := by decide +kernel
theorem dMD_clear_12 : decode cMD_clear 12 = .ok (.putfield 7, 3) := by decide +kernel
theorem dMD_clear_15 : decode cMD_clear 15 = .ok (.aload_n 0, 1) := by decide +kernel
theorem dMD_clear_16 : decode cMD_clear 16 = .ok (.getfield 13, 3) := by decide +kernel
theorem dMD_clear_19 : decode cMD_clear 19 = .ok (.iconst 0, 1) := by decide +kernel
theorem dMD_clear_20 : decode cMD_clear 20 = .ok (.iconst 0, 1) := by decide +kernel
theorem dMD_clear_21 : decode cMD_clear 21 = .ok (.iastore, 1) := by decide +kernel
theorem dMD_clear_22 : decode cMD_clear 22 = .ok (.aload_n 0, 1) := by decide +kernel
theorem dMD_clear_23 : decode cMD_clear 23 = .ok (.getfield 17, 3) := by decide +kernel
theorem dMD_clear_26 : decode cMD_clear 26 = .ok (.iconst 0, 1) := by decide +kernel
theorem dMD_clear_27 : decode cMD_clear 27 = .ok (.iconst 0, 1) := by decide +kernel
theorem dMD_clear_28 : decode cMD_clear 28 = .ok (.iastore, 1) := by decide +kernel
theorem dMD_clear_29 : decode cMD_clear 29 = .ok (.aload_n 0, 1) := by decide +kernel
theorem dMD_clear_30 : decode cMD_clear 30 = .ok (.iconst (-1), 1) := by decide +kernel
theorem dMD_clear_31 : decode cMD_clear 31 = .ok (.putfield 50, 3) := by decide +kernel
theorem dMD_clear_34 : decode cMD_clear 34 = .ok (.iload_n 1, 1) := by decide +kernel
theorem dMD_clear_35 : decode cMD_clear 35 = .ok (.ireturn, 1) := by decide +kernel
theorem dMD_columns_0 : decode cMD_columns 0 = .ok (.iconst 0, 1) := by decide +kernel
theorem dMD_columns_1 : decode cMD_columns 1 = .ok (.istore_n 1, 1) := by decide +kernel
theorem dMD_columns_2 : decode cMD_columns 2 = .ok (.iconst 0, 1) := by decide +kernel
theorem dMD_columns_3 : decode cMD_columns 3 = .ok (.istore_n 2, 1) := by decide +kernel
theorem dMD_columns_4 : decode cMD_columns 4 = .ok (.iload_n 2, 1) := by decide +kernel
theorem dMD_columns_5 : decode cMD_columns 5 = .ok (.aload_n 0, 1) := by decide +kernel
theorem dMD_columns_6 : decode cMD_columns 6 = .ok (.getfield 72, 3) := by decide +kernel
theorem dMD_columns_9 : decode cMD_columns 9 = .ok (.if_icmp .ge 44, 3) := by decide +kernel
theorem dMD_columns_12 : decode cMD_columns 12 = .ok (.aload_n 0, 1) := by decide +kernel
theorem dMD_columns_13 : decode cMD_columns 13 = .ok (.getfield 20, 3) := by decide +kernel
theorem dMD_columns_16 : decode cMD_columns 16 = .ok (.iload_n 2, 1) := by decide +kernel
theorem dMD_columns_17 : decode cMD_columns 17 = .ok (.iaload, 1) := by decide +kernel
theorem dMD_columns_18 : decode cMD_columns 18 = .ok (.aload_n 0, 1) := by decide +kernel
theorem dMD_columns_19 : decode cMD_columns 19 = .ok (.getfield 26, 3) := by decide +kernel
theorem dMD_columns_22 : decode cMD_columns 22 = .ok (.iload_n 2, 1) := by decide +kernel
theorem dMD_columns_23 : decode cMD_columns 23 = .ok (.iaload, 1) := by decide +kernel
theorem dMD_columns_24 : decode cMD_columns 24 = .ok (.iadd, 1) := by decide +kernel
theorem dMD_columns_25 : decode cMD_columns 25 = .ok (.iload_n 1, 1) := by decide +kernel
theorem dMD_columns_26 : decode cMD_columns 26 = .ok (.if_icmp .le 19, 3) := by decide +kernel
theorem dMD_columns_29 : decode cMD_columns 29 = .ok (.aload_n 0, 1) := by decide +kernel
theorem dMD_columns_30 : decode cMD_columns 30 = .ok (.getfield 20, 3) := by decide +kernel
theorem dMD_columns_33 : decode cMD_columns 33 = .ok (.iload_n 2, 1) := by decide +kernel
theorem dMD_columns_34 : decode cMD_columns 34 = .ok (.iaload, 1) := by decide +kernel
theorem dMD_columns_35 : decode cMD_columns 35 = .ok (.aload_n 0, 1) := by decide +kernel
theorem dMD_columns_36 : decode cMD_columns 36 = .ok (.getfield 26, 3) := by decide +kernel
theorem dMD_columns_39 : decode cMD_columns 39 = .ok (.iload_n 2, 1) := by decide +kernel
theorem dMD_columns_40 : decode cMD_columns 40 = .ok (.iaload, 1) := by decide +kernel
theorem dMD_columns_41 : decode cMD_columns 41 = .ok (.iadd, 1) := by decide +kernel
theorem dMD_columns_42 : decode cMD_columns 42 = .ok (.goto 4, 3) := by decide +kernel
theorem dMD_columns_45 : decode cMD_columns 45 = .ok (.iload_n 1, 1) := by decide +kernel
theorem dMD_columns_46 : decode cMD_columns 46 = .ok (.istore_n 1, 1) := by decide +kernel
theorem dMD_columns_47 : decode cMD_columns 47 = .ok (.iinc 2 1, 3) := by decide +kernel
theorem dMD_columns_50 : decode cMD_columns 50 = .ok (.goto (-46), 3) := by decide +kernel
theorem dMD_columns_53 : decode cMD_columns 53 = .ok (.iload_n 1, 1) := by decide +kernel
theorem dMD_columns_54 : decode cMD_columns 54 = .ok (.ireturn, 1) := by decide +kernel
theorem dMD_down_0 : decode cMD_down 0 = .ok (.aload_n 0, 1) := by decide +kernel
theorem dMD_down_1 : decode cMD_down 1 = .ok (.getfield 29, 3) := by decide +kernel
theorem dMD_down_4 : decode cMD_down 4 = .ok (.iload_n 1, 1) := by decide +kernel
theorem dMD_down_5 : decode cMD_down 5 = .ok (.iaload, 1) := by decide +kernel
theorem dMD_down_6 : decode cMD_down 6 = .ok (.ifCond .le 12, 3) := by decide +kernel
theorem dMD_down_9 : decode cMD_down 9 = .ok (.aload_n 0, 1) := by decide +kernel
theorem dMD_down_10 : decode cMD_down 10 = .ok (.getfield 29, 3) := by decide +kernel
theorem dMD_down_13 : decode cMD_down 13 = .ok (.iload_n 1, 1) := by decide +kernel
theorem dMD_down_14 : decode cMD_down 14 = .ok (.iaload, 1) := by decide +kernel
theorem dMD_down_15 : decode cMD_down 15 = .ok (.goto 20, 3) := by decide +kernel
theorem dMD_down_18 : decode cMD_down 18 = .ok (.aload_n 0, 1) := by decide +kernel
theorem dMD_down_19 : decode cMD_down 19 = .ok (.aload_n 0, 1) := by decide +kernel
theorem dMD_down_20 : decode cMD_down 20 = .ok (.getfield 32, 3) := by decide +kernel
theorem dMD_down_23 : decode cMD_down 23 = .ok (.iload_n 1, 1) := by decide +kernel
theorem dMD_down_24 : decode cMD_down 24 = .ok (.iaload, 1) := by decide +kernel
theorem dMD_down_25 : decode cMD_down 25 = .ok (.invokevirtual 75, 3) := by decide +kernel
theorem dMD_down_28 : decode cMD_down 28 = .ok (.aload_n 0, 1) := by decide +kernel
theorem dMD_down_29 : decode cMD_down 29 = .ok (.getfield 23, 3) := by decide +kernel
theorem dMD_down_32 : decode cMD_down 32 = .ok (.iload_n 1, 1) := by decide +kernel
theorem dMD_down_33 : decode cMD_down 33 = .ok (.iaload, 1) := by decide +kernel
theorem dMD_down_34 : decode cMD_down 34 = .ok (.isub, 1) := by decide +kernel
theorem dMD_down_35 : decode cMD_down 35 = .ok (.ireturn, 1) := by decide +kernel
theorem dMD_edge_0 : decode cMD_edge 0 = .ok (.iload_n 1, 1) := by decide +kernel
theorem dMD_edge_1 : decode cMD_edge 1 = .ok (.ifCond .lt 23, 3) := by decide +kernel
theorem dMD_edge_4 : decode cMD_edge 4 = .ok (.iload_n 1, 1) := by decide +kernel
theorem dMD_edge_5 : decode cMD_edge 5 = .ok (.aload_n 0, 1) := by decide +kernel
theorem dMD_edge_6 : decode cMD_edge 6 = .ok (.invokevirtual 113, 3) := by decide +kernel
theorem dMD_edge_9 : decode cMD_edge 9 = .ok (.if_icmp .ge 15, 3) := by decide +kernel
theorem dMD_edge_12 : decode cMD_edge 12 = .ok (.iload_n 2, 1) := by decide +kernel
theorem dMD_edge_13 : decode cMD_edge 13 = .ok (.ifCond .lt 11, 3) := by decide +kernel
theorem dMD_edge_16 : decode cMD_edge 16 = .ok (.iload_n 2, 1) := by decide +kernel
theorem dMD_edge_17 : decode cMD_edge 17 = .ok (.aload_n 0, 1) := by decide +kernel
theorem dMD_edge_18 : decode cMD_edge 18 = .ok (.invokevirtual 117, 3) := by decide +kernel
theorem dMD_edge_21 : decode cMD_edge 21 = .ok (.if_icmp .lt 5, 3) := by decide +kernel
theorem dMD_edge_24 : decode cMD_edge 24 = .ok (.iconst (-1), 1) := by decide +kernel
theorem dMD_edge_25 : decode cMD_edge 25 = .ok (.ireturn, 1) := by decide +kernel
theorem dMD_edge_26 : decode cMD_edge 26 = .ok (.aload_n 0, 1) := by decide +kernel
theorem dMD_edge_27 : decode cMD_edge 27 = .ok (.iload_n 1, 1) := by decide +kernel
theorem dMD_edge_28 : decode cMD_edge 28 = .ok (.iload_n 2, 1) := by decide +kernel
theorem dMD_edge_29 : decode cMD_edge 29 = .ok (.invokevirtual 155, 3) := by decide +kernel
theorem dMD_edge_32 : decode cMD_edge 32 = .ok (.istore 4, 2) := by decide +kernel
theorem dMD_edge_34 : decode cMD_edge 34 = .ok (.iload_n 3, 1) := by decide +kernel
theorem dMD_edge_35 : decode cMD_edge 35 = .ok (.ifCond .eq 14, 3) := by decide +kernel
theorem dMD_edge_38 : decode cMD_edge 38 = .ok (.aload_n 0, 1) := by decide +kernel
theorem dMD_edge_39 : decode cMD_edge 39 = .ok (.iload_n 1, 1) := by decide +kernel
theorem dMD_edge_40 : decode cMD_edge 40 = .ok (.iload_n 2, 1) := by decide +kernel
theorem dMD_edge_41 : decode cMD_edge 41 = .ok (.iconst 1, 1) := by decide +kernel
theorem dMD_edge_42 : decode cMD_edge 42 = .ok (.iadd, 1) := by decide +kernel
theorem dMD_edge_43 : decode cMD_edge 43 = .ok (.invokevirtual 155, 3) := by decide +kernel
theorem dMD_edge_46 : decode cMD_edge 46 = .ok (.goto 11, 3) := by decide +kernel
theorem dMD_edge_49 : decode cMD_edge 49 = .ok (.aload_n 0, 1) := by decide +kernel
theorem dMD_edge_50 : decode cMD_edge 50 = .ok (.iload_n 1, 1) := by decide +kernel
theorem dMD_edge_51 : decode cMD_edge 51 = .ok (.iconst 1, 1) := by decide +kernel
theorem dMD_edge_52 : decode cMD_edge 52 = .ok (.iadd, 1) := by decide +kernel
theorem dMD_edge_53 : decode cMD_edge 53 = .ok (.iload_n 2, 1) := by decide +kernel
theorem dMD_edge_54 : decode cMD_edge 54 = .ok (.invokevirtual 155, 3) := by decide +kernel
theorem dMD_edge_57 : decode cMD_edge 57 = .ok (.istore 5, 2) := by decide +kernel
theorem dMD_edge_59 : decode cMD_edge 59 = .ok (.iload 4, 2) := by decide +kernel
theorem dMD_edge_61 : decode cMD_edge 61 = .ok (.iload 5, 2) := by decide +kernel
theorem dMD_edge_63 : decode cMD_edge 63 = .ok (.if_icmp .ne 7, 3) := by decide +kernel
theorem dMD_edge_66 : decode cMD_edge 66 = .ok (.iconst (-1), 1) := by decide +kernel
