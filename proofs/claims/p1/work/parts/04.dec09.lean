theorem dMD_row_5 : decode cMD_row 5 = .ok (.isub, 1) := by decide +kernel
theorem dMD_row_6 : decode cMD_row 6 = .ok (.istore_n 1, 1) := by decide +kernel
theorem dMD_row_7 : decode cMD_row 7 = .ok (.aload_n 0, 1) := by decide +kernel
theorem dMD_row_8 : decode cMD_row 8 = .ok (.getfield 13, 3) := by decide +kernel
theorem dMD_row_11 : decode cMD_row 11 = .ok (.iload_n 1, 1) := by decide +kernel
theorem dMD_row_12 : decode cMD_row 12 = .ok (.iaload, 1) := by decide +kernel
theorem dMD_row_13 : decode cMD_row 13 = .ok (.aload_n 0, 1) := by decide +kernel
theorem dMD_row_14 : decode cMD_row 14 = .ok (.getfield 17, 3) := by decide +kernel
theorem dMD_row_17 : decode cMD_row 17 = .ok (.iload_n 1, 1) := by decide +kernel
theorem dMD_row_18 : decode cMD_row 18 = .ok (.iaload, 1) := by decide +kernel
theorem dMD_row_19 : decode cMD_row 19 = .ok (.iadd, 1) := by decide +kernel
theorem dMD_row_20 : decode cMD_row 20 = .ok (.istore_n 2, 1) := by decide +kernel
theorem dMD_row_21 : decode cMD_row 21 = .ok (.iload_n 2, 1) := by decide +kernel
theorem dMD_row_22 : decode cMD_row 22 = .ok (.bipush 11, 2) := by decide +kernel
theorem dMD_row_24 : decode cMD_row 24 = .ok (.if_icmp .le 5, 3) := by decide +kernel
theorem dMD_row_29 : decode cMD_row 29 = .ok (.aload_n 0, 1) := by decide +kernel
theorem dMD_row_30 : decode cMD_row 30 = .ok (.getfield 17, 3) := by decide +kernel
theorem dMD_row_33 : decode cMD_row 33 = .ok (.iload_n 1, 1) := by decide +kernel
theorem dMD_row_34 : decode cMD_row 34 = .ok (.aload_n 0, 1) := by decide +kernel
theorem dMD_row_35 : decode cMD_row 35 = .ok (.getfield 17, 3) := by decide +kernel
theorem dMD_row_38 : decode cMD_row 38 = .ok (.iload_n 1, 1) := by decide +kernel
theorem dMD_row_39 : decode cMD_row 39 = .ok (.iaload, 1) := by decide +kernel
theorem dMD_row_40 : decode cMD_row 40 = .ok (.iconst 1, 1) := by decide +kernel
theorem dMD_row_41 : decode cMD_row 41 = .ok (.iadd, 1) := by decide +kernel
theorem dMD_row_42 : decode cMD_row 42 = .ok (.iastore, 1) := by decide +kernel
theorem dMD_row_43 : decode cMD_row 43 = .ok (.aload_n 0, 1) := by decide +kernel
theorem dMD_row_44 : decode cMD_row 44 = .ok (.iload_n 1, 1) := by decide +kernel
theorem dMD_row_45 : decode cMD_row 45 = .ok (.putfield 50, 3) := by decide +kernel
theorem dMD_row_48 : decode cMD_row 48 = .ok (.aload_n 0, 1) := by decide +kernel
theorem dMD_row_49 : decode cMD_row 49 = .ok (.iload_n 2, 1) := by decide +kernel
theorem dMD_row_50 : decode cMD_row 50 = .ok (.putfield 79, 3) := by decide +kernel
theorem dMD_row_53 : decode cMD_row 53 = .ok (.aload_n 0, 1) := by decide +kernel
theorem dMD_row_54 : decode cMD_row 54 = .ok (.iconst 0, 1) := by decide +kernel
theorem dMD_row_55 : decode cMD_row 55 = .ok (.putfield 82, 3) := by decide +kernel
theorem dMD_row_58 : decode cMD_row 58 = .ok (.iload_n 2, 1) := by decide +kernel
theorem dMD_row_59 : decode cMD_row 59 = .ok (.ireturn, 1) := by decide +kernel
theorem dMD_rows_0 : decode cMD_rows 0 = .ok (.aload_n 0, 1) := by decide +kernel
theorem dMD_rows_1 : decode cMD_rows 1 = .ok (.aload_n 0, 1) := by decide +kernel
theorem dMD_rows_2 : decode cMD_rows 2 = .ok (.getfield 7, 3) := by decide +kernel
theorem dMD_rows_5 : decode cMD_rows 5 = .ok (.iconst 1, 1) := by decide +kernel
theorem dMD_rows_6 : decode cMD_rows 6 = .ok (.isub, 1) := by decide +kernel
theorem dMD_rows_7 : decode cMD_rows 7 = .ok (.invokevirtual 75, 3) := by decide +kernel
theorem dMD_rows_10 : decode cMD_rows 10 = .ok (.ireturn, 1) := by decide +kernel
theorem dMD_size_0 : decode cMD_size 0 = .ok (.iload_n 1, 1) := by decide +kernel
theorem dMD_size_1 : decode cMD_size 1 = .ok (.ifCond .eq 10, 3) := by decide +kernel
theorem dMD_size_4 : decode cMD_size 4 = .ok (.aload_n 0, 1) := by decide +kernel
theorem dMD_size_5 : decode cMD_size 5 = .ok (.invokevirtual 117, 3) := by decide +kernel
theorem dMD_size_8 : decode cMD_size 8 = .ok (.goto 7, 3) := by decide +kernel
theorem dMD_size_11 : decode cMD_size 11 = .ok (.aload_n 0, 1) := by decide +kernel
theorem dMD_size_12 : decode cMD_size 12 = .ok (.invokevirtual 113, 3) := by decide +kernel
theorem dMD_size_15 : decode cMD_size 15 = .ok (.istore_n 2, 1) := by decide +kernel
theorem dMD_size_16 : decode cMD_size 16 = .ok (.aload_n 0, 1) := by decide +kernel
theorem dMD_size_17 : decode cMD_size 17 = .ok (.invokevirtual 149, 3) := by decide +kernel
theorem dMD_size_20 : decode cMD_size 20 = .ok (.aload_n 0, 1) := by decide +kernel
theorem dMD_size_21 : decode cMD_size 21 = .ok (.invokevirtual 152, 3) := by decide +kernel
theorem dMD_size_24 : decode cMD_size 24 = .ok (.iload_n 2, 1) := by decide +kernel
theorem dMD_size_25 : decode cMD_size 25 = .ok (.ifCond .ne 7, 3) := by decide +kernel
theorem dMD_size_28 : decode cMD_size 28 = .ok (.iconst 0, 1) := by decide +kernel
theorem dMD_size_29 : decode cMD_size 29 = .ok (.goto 37, 3) := by decide +kernel
theorem dMD_size_66 : decode cMD_size 66 = .ok (.ireturn, 1) := by decide +kernel
theorem dMD_slot_0 : decode cMD_slot 0 = .ok (.iconst (-1), 1) := by decide +kernel
theorem dMD_slot_1 : decode cMD_slot 1 = .ok (.istore_n 3, 1) := by decide +kernel
theorem dMD_slot_2 : decode cMD_slot 2 = .ok (.aload_n 0, 1) := by decide +kernel
theorem dMD_slot_3 : decode cMD_slot 3 = .ok (.getfield 72, 3) := by decide +kernel
theorem dMD_slot_6 : decode cMD_slot 6 = .ok (.iconst 1, 1) := by decide +kernel
theorem dMD_slot_7 : decode cMD_slot 7 = .ok (.isub, 1) := by decide +kernel
theorem dMD_slot_8 : decode cMD_slot 8 = .ok (.istore 4, 2) := by decide +kernel
theorem dMD_slot_10 : decode cMD_slot 10 = .ok (.iload 4, 2) := by decide +kernel
theorem dMD_slot_12 : decode cMD_slot 12 = .ok (.ifCond .lt 27, 3) := by decide +kernel
theorem dMD_slot_39 : decode cMD_slot 39 = .ok (.iload_n 3, 1) := by decide +kernel
theorem dMD_slot_40 : decode cMD_slot 40 = .ok (.ireturn, 1) := by decide +kernel
theorem dMD_span_0 : decode cMD_span 0 = .ok (.aload_n 0, 1) := by decide +kernel
theorem dMD_span_1 : decode cMD_span 1 = .ok (.iload_n 1, 1) := by decide +kernel
theorem dMD_span_2 : decode cMD_span 2 = .ok (.invokevirtual 89, 3) := by decide +kernel
theorem dMD_span_5 : decode cMD_span 5 = .ok (.ifCond .eq 42, 3) := by decide +kernel
theorem dMD_span_47 : decode cMD_span 47 = .ok (.iconst (-1), 1) := by decide +kernel
theorem dMD_span_48 : decode cMD_span 48 = .ok (.ireturn, 1) := by decide +kernel
theorem dMD_sumOf_0 : decode cMD_sumOf 0 = .ok (.iconst 0, 1) := by decide +kernel
theorem dMD_sumOf_1 : decode cMD_sumOf 1 = .ok (.istore_n 3, 1) := by decide +kernel
theorem dMD_sumOf_2 : decode cMD_sumOf 2 = .ok (.iload_n 1, 1) := by decide +kernel
theorem dMD_sumOf_3 : decode cMD_sumOf 3 = .ok (.istore 4, 2) := by decide +kernel
theorem dMD_sumOf_5 : decode cMD_sumOf 5 = .ok (.iload 4, 2) := by decide +kernel
theorem dMD_sumOf_7 : decode cMD_sumOf 7 = .ok (.iload_n 2, 1) := by decide +kernel
theorem dMD_sumOf_8 : decode cMD_sumOf 8 = .ok (.if_icmp .ge 16, 3) := by decide +kernel
theorem dMD_sumOf_24 : decode cMD_sumOf 24 = .ok (.iload_n 3, 1) := by decide +kernel
theorem dMD_sumOf_25 : decode cMD_sumOf 25 = .ok (.ireturn, 1) := by decide +kernel
theorem dMD_wide_0 : decode cMD_wide 0 = .ok (.iload_n 1, 1) := by decide +kernel
theorem dMD_wide_1 : decode cMD_wide 1 = .ok (.ifCond .lt 11, 3) := by decide +kernel
theorem dMD_wide_4 : decode cMD_wide 4 = .ok (.iload_n 1, 1) := by decide +kernel
theorem dMD_wide_5 : decode cMD_wide 5 = .ok (.aload_n 0, 1) := by decide +kernel
theorem dMD_wide_6 : decode cMD_wide 6 = .ok (.invokevirtual 113, 3) := by decide +kernel
theorem dMD_wide_9 : decode cMD_wide 9 = .ok (.if_icmp .lt 5, 3) := by decide +kernel
theorem dMD_wide_12 : decode cMD_wide 12 = .ok (.iconst (-1), 1) := by decide +kernel
theorem dMD_wide_13 : decode cMD_wide 13 = .ok (.ireturn, 1) := by decide +kernel
theorem dSC_border_0 : decode cSC_border 0 = .ok (.aload_n 0, 1) := by decide +kernel
theorem dSC_border_1 : decode cSC_border 1 = .ok (.getfield 10, 3) := by decide +kernel
theorem dSC_border_4 : decode cSC_border 4 = .ok (.iload_n 1, 1) := by decide +kernel
theorem dSC_border_5 : decode cSC_border 5 = .ok (.invokevirtual 56, 3) := by decide +kernel
theorem dSC_border_8 : decode cSC_border 8 = .ok (.ifCond .eq 22, 3) := by decide +kernel
theorem dSC_border_30 : decode cSC_border 30 = .ok (.iconst 0, 1) := by decide +kernel
theorem dSC_border_31 : decode cSC_border 31 = .ok (.ireturn, 1) := by decide +kernel
theorem dSC_cell_0 : decode cSC_cell 0 = .ok (.iload_n 1, 1) := by decide +kernel
theorem dSC_cell_1 : decode cSC_cell 1 = .ok (.iconst 1, 1) := by decide +kernel
theorem dSC_cell_2 : decode cSC_cell 2 = .ok (.bipush 6, 2) := by decide +kernel
theorem dSC_cell_4 : decode cSC_cell 4 = .ok (.invokestatic 48, 3) := by decide +kernel
theorem dSC_cell_7 : decode cSC_cell 7 = .ok (.ifCond .eq 17, 3) := by decide +kernel
theorem dSC_cell_10 : decode cSC_cell 10 = .ok (.iload_n 2, 1) := by decide +kernel
theorem dSC_cell_11 : decode cSC_cell 11 = .ok (.iconst 0, 1) := by decide +kernel
theorem dSC_cell_12 : decode cSC_cell 12 = .ok (.bipush 6, 2) := by decide +kernel
theorem dSC_cell_14 : decode cSC_cell 14 = .ok (.invokestatic 48, 3) := by decide +kernel
theorem dSC_cell_17 : decode cSC_cell 17 = .ok (.ifCond .eq 7, 3) := by decide +kernel
theorem dSC_cell_20 : decode cSC_cell 20 = .ok (.iconst 1, 1) := by decide +kernel
theorem dSC_cell_21 : decode cSC_cell 21 = .ok (.goto 4, 3) := by decide +kernel
theorem dSC_cell_24 : decode cSC_cell 24 = .ok (.iconst 0, 1) := by decide +kernel
theorem dSC_cell_25 : decode cSC_cell 25 = .ok (.istore 6, 2) := by decide +kernel
theorem dSC_cell_27 : decode cSC_cell 27 = .ok (.iload 4, 2) := by decide +kernel
theorem dSC_cell_29 : decode cSC_cell 29 = .ok (.iconst 0, 1) := by decide +kernel
theorem dSC_cell_30 : decode cSC_cell 30 = .ok (.sipush 1000, 3) := by decide +kernel
theorem dSC_cell_33 : decode cSC_cell 33 = .ok (.invokestatic 48, 3) := by decide +kernel
theorem dSC_cell_36 : decode cSC_cell 36 = .ok (.ifCond .eq 17, 3) := by decide +kernel
