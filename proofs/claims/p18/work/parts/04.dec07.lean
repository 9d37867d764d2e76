theorem dSC_measuredWidths_1 : decode cSC_measuredWidths 1 = .ok (.getfield 19, 3) := by decide +kernel
theorem dSC_measuredWidths_4 : decode cSC_measuredWidths 4 = .ok (.aload_n 0, 1) := by decide +kernel
theorem dSC_measuredWidths_5 : decode cSC_measuredWidths 5 = .ok (.getfield 10, 3) := by decide +kernel
theorem dSC_measuredWidths_8 : decode cSC_measuredWidths 8 = .ok (.aload_n 0, 1) := by decide +kernel
theorem dSC_measuredWidths_9 : decode cSC_measuredWidths 9 = .ok (.getfield 34, 3) := by decide +kernel
theorem dSC_measuredWidths_12 : decode cSC_measuredWidths 12 = .ok (.invokevirtual 152, 3) := by decide +kernel
theorem dSC_measuredWidths_15 : decode cSC_measuredWidths 15 = .ok (.aload_n 0, 1) := by decide +kernel
theorem dSC_measuredWidths_16 : decode cSC_measuredWidths 16 = .ok (.getfield 19, 3) := by decide +kernel
theorem dSC_measuredWidths_19 : decode cSC_measuredWidths 19 = .ok (.areturn, 1) := by decide +kernel
theorem dSC_overlaps_0 : decode cSC_overlaps 0 = .ok (.aload_n 0, 1) := by decide +kernel
theorem dSC_overlaps_1 : decode cSC_overlaps 1 = .ok (.getfield 10, 3) := by decide +kernel
theorem dSC_overlaps_4 : decode cSC_overlaps 4 = .ok (.invokevirtual 86, 3) := by decide +kernel
theorem dSC_overlaps_7 : decode cSC_overlaps 7 = .ok (.ireturn, 1) := by decide +kernel
theorem dSC_place_0 : decode cSC_place 0 = .ok (.aload_n 0, 1) := by decide +kernel
theorem dSC_place_1 : decode cSC_place 1 = .ok (.getfield 10, 3) := by decide +kernel
theorem dSC_place_4 : decode cSC_place 4 = .ok (.iload_n 1, 1) := by decide +kernel
theorem dSC_place_5 : decode cSC_place 5 = .ok (.invokevirtual 56, 3) := by decide +kernel
theorem dSC_place_8 : decode cSC_place 8 = .ok (.ifCond .ne 5, 3) := by decide +kernel
theorem dSC_place_11 : decode cSC_place 11 = .ok (.iconst (-1), 1) := by decide +kernel
theorem dSC_place_12 : decode cSC_place 12 = .ok (.ireturn, 1) := by decide +kernel
theorem dSC_place_13 : decode cSC_place 13 = .ok (.aload_n 0, 1) := by decide +kernel
theorem dSC_place_14 : decode cSC_place 14 = .ok (.getfield 10, 3) := by decide +kernel
theorem dSC_place_17 : decode cSC_place 17 = .ok (.iload_n 1, 1) := by decide +kernel
theorem dSC_place_18 : decode cSC_place 18 = .ok (.invokevirtual 60, 3) := by decide +kernel
theorem dSC_place_21 : decode cSC_place 21 = .ok (.astore_n 3, 1) := by decide +kernel
theorem dSC_place_22 : decode cSC_place 22 = .ok (.iload_n 2, 1) := by decide +kernel
theorem dSC_place_23 : decode cSC_place 23 = .ok (.tableswitch 101 0 3 #[29, 45, 61, 81], 29) := by decide +kernel
theorem dSC_place_52 : decode cSC_place 52 = .ok (.aload_n 0, 1) := by decide +kernel
theorem dSC_place_53 : decode cSC_place 53 = .ok (.invokevirtual 125, 3) := by decide +kernel
theorem dSC_place_56 : decode cSC_place 56 = .ok (.aload_n 3, 1) := by decide +kernel
theorem dSC_place_57 : decode cSC_place 57 = .ok (.getfield 95, 3) := by decide +kernel
theorem dSC_place_60 : decode cSC_place 60 = .ok (.aload_n 0, 1) := by decide +kernel
theorem dSC_place_61 : decode cSC_place 61 = .ok (.getfield 34, 3) := by decide +kernel
theorem dSC_place_64 : decode cSC_place 64 = .ok (.invokevirtual 132, 3) := by decide +kernel
theorem dSC_place_67 : decode cSC_place 67 = .ok (.ireturn, 1) := by decide +kernel
theorem dSC_place_68 : decode cSC_place 68 = .ok (.aload_n 0, 1) := by decide +kernel
theorem dSC_place_69 : decode cSC_place 69 = .ok (.invokevirtual 129, 3) := by decide +kernel
theorem dSC_place_72 : decode cSC_place 72 = .ok (.aload_n 3, 1) := by decide +kernel
theorem dSC_place_73 : decode cSC_place 73 = .ok (.getfield 98, 3) := by decide +kernel
theorem dSC_place_76 : decode cSC_place 76 = .ok (.aload_n 0, 1) := by decide +kernel
theorem dSC_place_77 : decode cSC_place 77 = .ok (.getfield 34, 3) := by decide +kernel
theorem dSC_place_80 : decode cSC_place 80 = .ok (.invokevirtual 132, 3) := by decide +kernel
theorem dSC_place_83 : decode cSC_place 83 = .ok (.ireturn, 1) := by decide +kernel
theorem dSC_place_84 : decode cSC_place 84 = .ok (.aload_n 0, 1) := by decide +kernel
theorem dSC_place_85 : decode cSC_place 85 = .ok (.invokevirtual 125, 3) := by decide +kernel
theorem dSC_place_88 : decode cSC_place 88 = .ok (.aload_n 3, 1) := by decide +kernel
theorem dSC_place_89 : decode cSC_place 89 = .ok (.getfield 95, 3) := by decide +kernel
theorem dSC_place_92 : decode cSC_place 92 = .ok (.aload_n 3, 1) := by decide +kernel
theorem dSC_place_93 : decode cSC_place 93 = .ok (.invokevirtual 135, 3) := by decide +kernel
theorem dSC_place_96 : decode cSC_place 96 = .ok (.aload_n 0, 1) := by decide +kernel
theorem dSC_place_97 : decode cSC_place 97 = .ok (.getfield 34, 3) := by decide +kernel
theorem dSC_place_100 : decode cSC_place 100 = .ok (.invokevirtual 138, 3) := by decide +kernel
theorem dSC_place_103 : decode cSC_place 103 = .ok (.ireturn, 1) := by decide +kernel
theorem dSC_place_104 : decode cSC_place 104 = .ok (.aload_n 0, 1) := by decide +kernel
theorem dSC_place_105 : decode cSC_place 105 = .ok (.invokevirtual 129, 3) := by decide +kernel
theorem dSC_place_108 : decode cSC_place 108 = .ok (.aload_n 3, 1) := by decide +kernel
theorem dSC_place_109 : decode cSC_place 109 = .ok (.getfield 98, 3) := by decide +kernel
theorem dSC_place_112 : decode cSC_place 112 = .ok (.aload_n 3, 1) := by decide +kernel
theorem dSC_place_113 : decode cSC_place 113 = .ok (.invokevirtual 142, 3) := by decide +kernel
theorem dSC_place_116 : decode cSC_place 116 = .ok (.aload_n 0, 1) := by decide +kernel
theorem dSC_place_117 : decode cSC_place 117 = .ok (.getfield 34, 3) := by decide +kernel
theorem dSC_place_120 : decode cSC_place 120 = .ok (.invokevirtual 138, 3) := by decide +kernel
theorem dSC_place_123 : decode cSC_place 123 = .ok (.ireturn, 1) := by decide +kernel
theorem dSC_place_124 : decode cSC_place 124 = .ok (.iconst (-1), 1) := by decide +kernel
theorem dSC_place_125 : decode cSC_place 125 = .ok (.ireturn, 1) := by decide +kernel
theorem dSC_row_0 : decode cSC_row 0 = .ok (.aload_n 0, 1) := by decide +kernel
theorem dSC_row_1 : decode cSC_row 1 = .ok (.getfield 10, 3) := by decide +kernel
theorem dSC_row_4 : decode cSC_row 4 = .ok (.invokevirtual 45, 3) := by decide +kernel
theorem dSC_row_7 : decode cSC_row 7 = .ok (.ireturn, 1) := by decide +kernel
theorem dSC_rows_0 : decode cSC_rows 0 = .ok (.aload_n 0, 1) := by decide +kernel
theorem dSC_rows_1 : decode cSC_rows 1 = .ok (.getfield 10, 3) := by decide +kernel
theorem dSC_rows_4 : decode cSC_rows 4 = .ok (.invokevirtual 79, 3) := by decide +kernel
theorem dSC_rows_7 : decode cSC_rows 7 = .ok (.ireturn, 1) := by decide +kernel
theorem dSC_size_0 : decode cSC_size 0 = .ok (.aload_n 0, 1) := by decide +kernel
theorem dSC_size_1 : decode cSC_size 1 = .ok (.getfield 10, 3) := by decide +kernel
theorem dSC_size_4 : decode cSC_size 4 = .ok (.invokevirtual 76, 3) := by decide +kernel
theorem dSC_size_7 : decode cSC_size 7 = .ok (.ifCond .eq 13, 3) := by decide +kernel
theorem dSC_size_10 : decode cSC_size 10 = .ok (.aload_n 0, 1) := by decide +kernel
theorem dSC_size_11 : decode cSC_size 11 = .ok (.getfield 10, 3) := by decide +kernel
theorem dSC_size_14 : decode cSC_size 14 = .ok (.invokevirtual 79, 3) := by decide +kernel
theorem dSC_size_17 : decode cSC_size 17 = .ok (.ifCond .ne 5, 3) := by decide +kernel
theorem dSC_size_20 : decode cSC_size 20 = .ok (.iconst 0, 1) := by decide +kernel
theorem dSC_size_21 : decode cSC_size 21 = .ok (.ireturn, 1) := by decide +kernel
theorem dSC_size_22 : decode cSC_size 22 = .ok (.iload_n 1, 1) := by decide +kernel
theorem dSC_size_23 : decode cSC_size 23 = .ok (.ifCond .eq 24, 3) := by decide +kernel
theorem dSC_size_26 : decode cSC_size 26 = .ok (.aload_n 0, 1) := by decide +kernel
theorem dSC_size_27 : decode cSC_size 27 = .ok (.invokevirtual 129, 3) := by decide +kernel
theorem dSC_size_30 : decode cSC_size 30 = .ok (.aload_n 0, 1) := by decide +kernel
theorem dSC_size_31 : decode cSC_size 31 = .ok (.getfield 10, 3) := by decide +kernel
theorem dSC_size_34 : decode cSC_size 34 = .ok (.invokevirtual 79, 3) := by decide +kernel
theorem dSC_size_37 : decode cSC_size 37 = .ok (.aload_n 0, 1) := by decide +kernel
theorem dSC_size_38 : decode cSC_size 38 = .ok (.getfield 34, 3) := by decide +kernel
theorem dSC_size_41 : decode cSC_size 41 = .ok (.invokevirtual 132, 3) := by decide +kernel
theorem dSC_size_44 : decode cSC_size 44 = .ok (.goto 21, 3) := by decide +kernel
theorem dSC_size_47 : decode cSC_size 47 = .ok (.aload_n 0, 1) := by decide +kernel
theorem dSC_size_48 : decode cSC_size 48 = .ok (.invokevirtual 125, 3) := by decide +kernel
theorem dSC_size_51 : decode cSC_size 51 = .ok (.aload_n 0, 1) := by decide +kernel
theorem dSC_size_52 : decode cSC_size 52 = .ok (.getfield 10, 3) := by decide +kernel
theorem dSC_size_55 : decode cSC_size 55 = .ok (.invokevirtual 76, 3) := by decide +kernel
theorem dSC_size_58 : decode cSC_size 58 = .ok (.aload_n 0, 1) := by decide +kernel
theorem dSC_size_59 : decode cSC_size 59 = .ok (.getfield 34, 3) := by decide +kernel
theorem dSC_size_62 : decode cSC_size 62 = .ok (.invokevirtual 132, 3) := by decide +kernel
theorem dSC_size_65 : decode cSC_size 65 = .ok (.ireturn, 1) := by decide +kernel
theorem dSC_slot_0 : decode cSC_slot 0 = .ok (.aload_n 0, 1) := by decide +kernel
theorem dSC_slot_1 : decode cSC_slot 1 = .ok (.getfield 10, 3) := by decide +kernel
theorem dSC_slot_4 : decode cSC_slot 4 = .ok (.iload_n 1, 1) := by decide +kernel
theorem dSC_slot_5 : decode cSC_slot 5 = .ok (.iload_n 2, 1) := by decide +kernel
theorem dSC_slot_6 : decode cSC_slot 6 = .ok (.invokevirtual 82, 3) := by decide +kernel
theorem dSC_slot_9 : decode cSC_slot 9 = .ok (.ireturn, 1) := by decide +kernel
theorem dSC_span_0 : decode cSC_span 0 = .ok (.aload_n 0, 1) := by decide +kernel
theorem dSC_span_1 : decode cSC_span 1 = .ok (.getfield 10, 3) := by decide +kernel
theorem dSC_span_4 : decode cSC_span 4 = .ok (.iload_n 1, 1) := by decide +kernel
theorem dSC_span_5 : decode cSC_span 5 = .ok (.invokevirtual 56, 3) := by decide +kernel
theorem dSC_span_8 : decode cSC_span 8 = .ok (.ifCond .ne 5, 3) := by decide +kernel
theorem dSC_span_11 : decode cSC_span 11 = .ok (.iconst (-1), 1) := by decide +kernel
theorem dSC_span_12 : decode cSC_span 12 = .ok (.ireturn, 1) := by decide +kernel
theorem dSC_span_13 : decode cSC_span 13 = .ok (.aload_n 0, 1) := by decide +kernel
theorem dSC_span_14 : decode cSC_span 14 = .ok (.getfield 10, 3) := by decide +kernel
theorem dSC_span_17 : decode cSC_span 17 = .ok (.iload_n 1, 1) := by decide +kernel
theorem dSC_span_18 : decode cSC_span 18 = .ok (.invokevirtual 60, 3) := by decide +kernel
theorem dSC_span_21 : decode cSC_span 21 = .ok (.astore_n 2, 1) := by decide +kernel
theorem dSC_span_22 : decode cSC_span 22 = .ok (.aload_n 2, 1) := by decide +kernel
theorem dSC_span_23 : decode cSC_span 23 = .ok (.getfield 95, 3) := by decide +kernel
theorem dSC_span_26 : decode cSC_span 26 = .ok (.bipush 100, 2) := by decide +kernel
theorem dSC_span_28 : decode cSC_span 28 = .ok (.aload_n 2, 1) := by decide +kernel
theorem dSC_span_29 : decode cSC_span 29 = .ok (.getfield 98, 3) := by decide +kernel
theorem dSC_span_32 : decode cSC_span 32 = .ok (.imul, 1) := by decide +kernel
theorem dSC_span_33 : decode cSC_span 33 = .ok (.iadd, 1) := by decide +kernel
theorem dSC_span_34 : decode cSC_span 34 = .ok (.sipush 10000, 3) := by decide +kernel
theorem dSC_span_37 : decode cSC_span 37 = .ok (.aload_n 2, 1) := by decide +kernel
theorem dSC_span_38 : decode cSC_span 38 = .ok (.getfield 101, 3) := by decide +kernel
theorem dSC_span_41 : decode cSC_span 41 = .ok (.imul, 1) := by decide +kernel
theorem dSC_span_42 : decode cSC_span 42 = .ok (.iadd, 1) := by decide +kernel
theorem dSC_span_43 : decode cSC_span 43 = .ok (.ldc 104, 2) := by decide +kernel
theorem dSC_span_45 : decode cSC_span 45 = .ok (.aload_n 2, 1) := by decide +kernel
theorem dSC_span_46 : decode cSC_span 46 = .ok (.getfield 105, 3) := by decide +kernel
theorem dSC_span_49 : decode cSC_span 49 = .ok (.imul, 1) := by decide +kernel
theorem dSC_span_50 : decode cSC_span 50 = .ok (.iadd, 1) := by decide +kernel
theorem dSC_span_51 : decode cSC_span 51 = .ok (.ireturn, 1) := by decide +kernel
theorem dSC_wide_0 : decode cSC_wide 0 = .ok (.iload_n 1, 1) := by decide +kernel
theorem dSC_wide_1 : decode cSC_wide 1 = .ok (.iconst 0, 1) := by decide +kernel
theorem dSC_wide_2 : decode cSC_wide 2 = .ok (.aload_n 0, 1) := by decide +kernel
theorem dSC_wide_3 : decode cSC_wide 3 = .ok (.getfield 10, 3) := by decide +kernel
theorem dSC_wide_6 : decode cSC_wide 6 = .ok (.invokevirtual 76, 3) := by decide +kernel
theorem dSC_wide_9 : decode cSC_wide 9 = .ok (.iconst 1, 1) := by decide +kernel
theorem dSC_wide_10 : decode cSC_wide 10 = .ok (.isub, 1) := by decide +kernel
theorem dSC_wide_11 : decode cSC_wide 11 = .ok (.invokestatic 48, 3) := by decide +kernel
theorem dSC_wide_14 : decode cSC_wide 14 = .ok (.ifCond .ne 5, 3) := by decide +kernel
theorem dSC_wide_17 : decode cSC_wide 17 = .ok (.iconst (-1), 1) := by decide +kernel
theorem dSC_wide_18 : decode cSC_wide 18 = .ok (.ireturn, 1) := by decide +kernel
theorem dSC_wide_19 : decode cSC_wide 19 = .ok (.iload_n 2, 1) := by decide +kernel
theorem dSC_wide_20 : decode cSC_wide 20 = .ok (.ifCond .ne 15, 3) := by decide +kernel
theorem dSC_wide_23 : decode cSC_wide 23 = .ok (.aload_n 0, 1) := by decide +kernel
theorem dSC_wide_24 : decode cSC_wide 24 = .ok (.invokevirtual 108, 3) := by decide +kernel
theorem dSC_wide_27 : decode cSC_wide 27 = .ok (.getfield 112, 3) := by decide +kernel
theorem dSC_wide_30 : decode cSC_wide 30 = .ok (.iload_n 1, 1) := by decide +kernel
theorem dSC_wide_31 : decode cSC_wide 31 = .ok (.invokevirtual 116, 3) := by decide +kernel
theorem dSC_wide_34 : decode cSC_wide 34 = .ok (.ireturn, 1) := by decide +kernel
theorem dSC_wide_35 : decode cSC_wide 35 = .ok (.iload_n 2, 1) := by decide +kernel
theorem dSC_wide_36 : decode cSC_wide 36 = .ok (.iconst 1, 1) := by decide +kernel
theorem dSC_wide_37 : decode cSC_wide 37 = .ok (.if_icmp .ne 15, 3) := by decide +kernel
theorem dSC_wide_40 : decode cSC_wide 40 = .ok (.aload_n 0, 1) := by decide +kernel
theorem dSC_wide_41 : decode cSC_wide 41 = .ok (.invokevirtual 108, 3) := by decide +kernel
theorem dSC_wide_44 : decode cSC_wide 44 = .ok (.getfield 122, 3) := by decide +kernel
theorem dSC_wide_47 : decode cSC_wide 47 = .ok (.iload_n 1, 1) := by decide +kernel
theorem dSC_wide_48 : decode cSC_wide 48 = .ok (.invokevirtual 116, 3) := by decide +kernel
theorem dSC_wide_51 : decode cSC_wide 51 = .ok (.ireturn, 1) := by decide +kernel
theorem dSC_wide_52 : decode cSC_wide 52 = .ok (.aload_n 0, 1) := by decide +kernel
theorem dSC_wide_53 : decode cSC_wide 53 = .ok (.invokevirtual 125, 3) := by decide +kernel
theorem dSC_wide_56 : decode cSC_wide 56 = .ok (.iload_n 1, 1) := by decide +kernel
theorem dSC_wide_57 : decode cSC_wide 57 = .ok (.invokevirtual 116, 3) := by decide +kernel
theorem dSC_wide_60 : decode cSC_wide 60 = .ok (.ireturn, 1) := by decide +kernel
theorem dSC_within_0 : decode cSC_within 0 = .ok (.iload_n 1, 1) := by decide +kernel
theorem dSC_within_1 : decode cSC_within 1 = .ok (.iload_n 0, 1) := by decide +kernel
theorem dSC_within_2 : decode cSC_within 2 = .ok (.if_icmp .gt 12, 3) := by decide +kernel
theorem dSC_within_5 : decode cSC_within 5 = .ok (.iload_n 0, 1) := by decide +kernel
theorem dSC_within_6 : decode cSC_within 6 = .ok (.iload_n 2, 1) := by decide +kernel
theorem dSC_within_7 : decode cSC_within 7 = .ok (.if_icmp .gt 7, 3) := by decide +kernel
theorem dSC_within_10 : decode cSC_within 10 = .ok (.iconst 1, 1) := by decide +kernel
theorem dSC_within_11 : decode cSC_within 11 = .ok (.goto 4, 3) := by decide +kernel
theorem dSC_within_14 : decode cSC_within 14 = .ok (.iconst 0, 1) := by decide +kernel
theorem dSC_within_15 : decode cSC_within 15 = .ok (.ireturn, 1) := by decide +kernel
theorem dWI_chooseByMeasures_0 : decode cWI_chooseByMeasures 0 = .ok (.aload_n 0, 1) := by decide +kernel
theorem dWI_chooseByMeasures_1 : decode cWI_chooseByMeasures 1 = .ok (.getfield 12, 3) := by decide +kernel
theorem dWI_chooseByMeasures_4 : decode cWI_chooseByMeasures 4 = .ok (.iconst 0, 1) := by decide +kernel
theorem dWI_chooseByMeasures_5 : decode cWI_chooseByMeasures 5 = .ok (.iload_n 1, 1) := by decide +kernel
theorem dWI_chooseByMeasures_6 : decode cWI_chooseByMeasures 6 = .ok (.invokevirtual 68, 3) := by decide +kernel
theorem dWI_chooseByMeasures_9 : decode cWI_chooseByMeasures 9 = .ok (.istore_n 3, 1) := by decide +kernel
theorem dWI_chooseByMeasures_10 : decode cWI_chooseByMeasures 10 = .ok (.aload_n 0, 1) := by decide +kernel
theorem dWI_chooseByMeasures_11 : decode cWI_chooseByMeasures 11 = .ok (.getfield 18, 3) := by decide +kernel
theorem dWI_chooseByMeasures_14 : decode cWI_chooseByMeasures 14 = .ok (.iconst 0, 1) := by decide +kernel
theorem dWI_chooseByMeasures_15 : decode cWI_chooseByMeasures 15 = .ok (.iload_n 1, 1) := by decide +kernel
theorem dWI_chooseByMeasures_16 : decode cWI_chooseByMeasures 16 = .ok (.invokevirtual 68, 3) := by decide +kernel
theorem dWI_chooseByMeasures_19 : decode cWI_chooseByMeasures 19 = .ok (.istore 4, 2) := by decide +kernel
theorem dWI_chooseByMeasures_21 : decode cWI_chooseByMeasures 21 = .ok (.iload_n 2, 1) := by decide +kernel
theorem dWI_chooseByMeasures_22 : decode cWI_chooseByMeasures 22 = .ok (.iload_n 3, 1) := by decide +kernel
theorem dWI_chooseByMeasures_23 : decode cWI_chooseByMeasures 23 = .ok (.if_icmp .gt 17, 3) := by decide +kernel
theorem dWI_chooseByMeasures_26 : decode cWI_chooseByMeasures 26 = .ok (.aload_n 0, 1) := by decide +kernel
theorem dWI_chooseByMeasures_27 : decode cWI_chooseByMeasures 27 = .ok (.getfield 21, 3) := by decide +kernel
theorem dWI_chooseByMeasures_30 : decode cWI_chooseByMeasures 30 = .ok (.aload_n 0, 1) := by decide +kernel
theorem dWI_chooseByMeasures_31 : decode cWI_chooseByMeasures 31 = .ok (.getfield 12, 3) := by decide +kernel
theorem dWI_chooseByMeasures_34 : decode cWI_chooseByMeasures 34 = .ok (.invokevirtual 72, 3) := by decide +kernel
theorem dWI_chooseByMeasures_37 : decode cWI_chooseByMeasures 37 = .ok (.goto 72, 3) := by decide +kernel
theorem dWI_chooseByMeasures_40 : decode cWI_chooseByMeasures 40 = .ok (.iload_n 2, 1) := by decide +kernel
theorem dWI_chooseByMeasures_41 : decode cWI_chooseByMeasures 41 = .ok (.iload 4, 2) := by decide +kernel
theorem dWI_chooseByMeasures_43 : decode cWI_chooseByMeasures 43 = .ok (.if_icmp .gt 38, 3) := by decide +kernel
theorem dWI_chooseByMeasures_46 : decode cWI_chooseByMeasures 46 = .ok (.aload_n 0, 1) := by decide +kernel
theorem dWI_chooseByMeasures_47 : decode cWI_chooseByMeasures 47 = .ok (.iload_n 1, 1) := by decide +kernel
theorem dWI_chooseByMeasures_48 : decode cWI_chooseByMeasures 48 = .ok (.invokevirtual 76, 3) := by decide +kernel
theorem dWI_chooseByMeasures_51 : decode cWI_chooseByMeasures 51 = .ok (.aload_n 0, 1) := by decide +kernel
theorem dWI_chooseByMeasures_52 : decode cWI_chooseByMeasures 52 = .ok (.getfield 21, 3) := by decide +kernel
theorem dWI_chooseByMeasures_55 : decode cWI_chooseByMeasures 55 = .ok (.aload_n 0, 1) := by decide +kernel
theorem dWI_chooseByMeasures_56 : decode cWI_chooseByMeasures 56 = .ok (.getfield 12, 3) := by decide +kernel
theorem dWI_chooseByMeasures_59 : decode cWI_chooseByMeasures 59 = .ok (.invokevirtual 72, 3) := by decide +kernel
theorem dWI_chooseByMeasures_62 : decode cWI_chooseByMeasures 62 = .ok (.aload_n 0, 1) := by decide +kernel
theorem dWI_chooseByMeasures_63 : decode cWI_chooseByMeasures 63 = .ok (.getfield 21, 3) := by decide +kernel
theorem dWI_chooseByMeasures_66 : decode cWI_chooseByMeasures 66 = .ok (.iload_n 2, 1) := by decide +kernel
theorem dWI_chooseByMeasures_67 : decode cWI_chooseByMeasures 67 = .ok (.iload_n 3, 1) := by decide +kernel
theorem dWI_chooseByMeasures_68 : decode cWI_chooseByMeasures 68 = .ok (.isub, 1) := by decide +kernel
theorem dWI_chooseByMeasures_69 : decode cWI_chooseByMeasures 69 = .ok (.aload_n 0, 1) := by decide +kernel
theorem dWI_chooseByMeasures_70 : decode cWI_chooseByMeasures 70 = .ok (.getfield 24, 3) := by decide +kernel
theorem dWI_chooseByMeasures_73 : decode cWI_chooseByMeasures 73 = .ok (.iconst 0, 1) := by decide +kernel
theorem dWI_chooseByMeasures_74 : decode cWI_chooseByMeasures 74 = .ok (.iload_n 1, 1) := by decide +kernel
theorem dWI_chooseByMeasures_75 : decode cWI_chooseByMeasures 75 = .ok (.invokevirtual 80, 3) := by decide +kernel
theorem dWI_chooseByMeasures_78 : decode cWI_chooseByMeasures 78 = .ok (.goto 31, 3) := by decide +kernel
theorem dWI_chooseByMeasures_81 : decode cWI_chooseByMeasures 81 = .ok (.aload_n 0, 1) := by decide +kernel
theorem dWI_chooseByMeasures_82 : decode cWI_chooseByMeasures 82 = .ok (.getfield 21, 3) := by decide +kernel
theorem dWI_chooseByMeasures_85 : decode cWI_chooseByMeasures 85 = .ok (.aload_n 0, 1) := by decide +kernel
theorem dWI_chooseByMeasures_86 : decode cWI_chooseByMeasures 86 = .ok (.getfield 18, 3) := by decide +kernel
theorem dWI_chooseByMeasures_89 : decode cWI_chooseByMeasures 89 = .ok (.invokevirtual 72, 3) := by decide +kernel
theorem dWI_chooseByMeasures_92 : decode cWI_chooseByMeasures 92 = .ok (.aload_n 0, 1) := by decide +kernel
theorem dWI_chooseByMeasures_93 : decode cWI_chooseByMeasures 93 = .ok (.getfield 21, 3) := by decide +kernel
theorem dWI_chooseByMeasures_96 : decode cWI_chooseByMeasures 96 = .ok (.iload_n 2, 1) := by decide +kernel
theorem dWI_chooseByMeasures_97 : decode cWI_chooseByMeasures 97 = .ok (.iload 4, 2) := by decide +kernel
theorem dWI_chooseByMeasures_99 : decode cWI_chooseByMeasures 99 = .ok (.isub, 1) := by decide +kernel
theorem dWI_chooseByMeasures_100 : decode cWI_chooseByMeasures 100 = .ok (.aload_n 0, 1) := by decide +kernel
theorem dWI_chooseByMeasures_101 : decode cWI_chooseByMeasures 101 = .ok (.getfield 18, 3) := by decide +kernel
theorem dWI_chooseByMeasures_104 : decode cWI_chooseByMeasures 104 = .ok (.iconst 0, 1) := by decide +kernel
theorem dWI_chooseByMeasures_105 : decode cWI_chooseByMeasures 105 = .ok (.iload_n 1, 1) := by decide +kernel
theorem dWI_chooseByMeasures_106 : decode cWI_chooseByMeasures 106 = .ok (.invokevirtual 80, 3) := by decide +kernel
theorem dWI_chooseByMeasures_109 : decode cWI_chooseByMeasures 109 = .ok (.return_, 1) := by decide +kernel
theorem dWI_chooseFixed_0 : decode cWI_chooseFixed 0 = .ok (.aload_n 0, 1) := by decide +kernel
theorem dWI_chooseFixed_1 : decode cWI_chooseFixed 1 = .ok (.getfield 21, 3) := by decide +kernel
theorem dWI_chooseFixed_4 : decode cWI_chooseFixed 4 = .ok (.invokevirtual 27, 3) := by decide +kernel
theorem dWI_chooseFixed_7 : decode cWI_chooseFixed 7 = .ok (.aload_n 0, 1) := by decide +kernel
theorem dWI_chooseFixed_8 : decode cWI_chooseFixed 8 = .ok (.getfield 24, 3) := by decide +kernel
theorem dWI_chooseFixed_11 : decode cWI_chooseFixed 11 = .ok (.invokevirtual 27, 3) := by decide +kernel
theorem dWI_chooseFixed_14 : decode cWI_chooseFixed 14 = .ok (.iconst 0, 1) := by decide +kernel
theorem dWI_chooseFixed_15 : decode cWI_chooseFixed 15 = .ok (.istore 4, 2) := by decide +kernel
theorem dWI_chooseFixed_17 : decode cWI_chooseFixed 17 = .ok (.iconst 0, 1) := by decide +kernel
theorem dWI_chooseFixed_18 : decode cWI_chooseFixed 18 = .ok (.istore 5, 2) := by decide +kernel
theorem dWI_chooseFixed_20 : decode cWI_chooseFixed 20 = .ok (.iload 5, 2) := by decide +kernel
theorem dWI_chooseFixed_22 : decode cWI_chooseFixed 22 = .ok (.aload_n 1, 1) := by decide +kernel
theorem dWI_chooseFixed_23 : decode cWI_chooseFixed 23 = .ok (.invokevirtual 30, 3) := by decide +kernel
theorem dWI_chooseFixed_26 : decode cWI_chooseFixed 26 = .ok (.if_icmp .ge 76, 3) := by decide +kernel
theorem dWI_chooseFixed_29 : decode cWI_chooseFixed 29 = .ok (.aload_n 1, 1) := by decide +kernel
theorem dWI_chooseFixed_30 : decode cWI_chooseFixed 30 = .ok (.iload 5, 2) := by decide +kernel
theorem dWI_chooseFixed_32 : decode cWI_chooseFixed 32 = .ok (.invokevirtual 36, 3) := by decide +kernel
theorem dWI_chooseFixed_35 : decode cWI_chooseFixed 35 = .ok (.astore 6, 2) := by decide +kernel
theorem dWI_chooseFixed_37 : decode cWI_chooseFixed 37 = .ok (.aload 6, 2) := by decide +kernel
theorem dWI_chooseFixed_39 : decode cWI_chooseFixed 39 = .ok (.getfield 92, 3) := by decide +kernel
theorem dWI_chooseFixed_42 : decode cWI_chooseFixed 42 = .ok (.ifCond .ne 54, 3) := by decide +kernel
theorem dWI_chooseFixed_45 : decode cWI_chooseFixed 45 = .ok (.iconst 0, 1) := by decide +kernel
theorem dWI_chooseFixed_46 : decode cWI_chooseFixed 46 = .ok (.aload 6, 2) := by decide +kernel
theorem dWI_chooseFixed_48 : decode cWI_chooseFixed 48 = .ok (.getfield 50, 3) := by decide +kernel
theorem dWI_chooseFixed_51 : decode cWI_chooseFixed 51 = .ok (.iload_n 2, 1) := by decide +kernel
theorem dWI_chooseFixed_52 : decode cWI_chooseFixed 52 = .ok (.aload 6, 2) := by decide +kernel
theorem dWI_chooseFixed_54 : decode cWI_chooseFixed 54 = .ok (.getfield 40, 3) := by decide +kernel
theorem dWI_chooseFixed_57 : decode cWI_chooseFixed 57 = .ok (.iconst 1, 1) := by decide +kernel
theorem dWI_chooseFixed_58 : decode cWI_chooseFixed 58 = .ok (.isub, 1) := by decide +kernel
theorem dWI_chooseFixed_59 : decode cWI_chooseFixed 59 = .ok (.imul, 1) := by decide +kernel
theorem dWI_chooseFixed_60 : decode cWI_chooseFixed 60 = .ok (.isub, 1) := by decide +kernel
theorem dWI_chooseFixed_61 : decode cWI_chooseFixed 61 = .ok (.invokestatic 95, 3) := by decide +kernel
theorem dWI_chooseFixed_64 : decode cWI_chooseFixed 64 = .ok (.istore 7, 2) := by decide +kernel
theorem dWI_chooseFixed_66 : decode cWI_chooseFixed 66 = .ok (.aload_n 0, 1) := by decide +kernel
theorem dWI_chooseFixed_67 : decode cWI_chooseFixed 67 = .ok (.getfield 21, 3) := by decide +kernel
theorem dWI_chooseFixed_70 : decode cWI_chooseFixed 70 = .ok (.iload 7, 2) := by decide +kernel
theorem dWI_chooseFixed_72 : decode cWI_chooseFixed 72 = .ok (.aload_n 0, 1) := by decide +kernel
theorem dWI_chooseFixed_73 : decode cWI_chooseFixed 73 = .ok (.getfield 24, 3) := by decide +kernel
theorem dWI_chooseFixed_76 : decode cWI_chooseFixed 76 = .ok (.aload 6, 2) := by decide +kernel
theorem dWI_chooseFixed_78 : decode cWI_chooseFixed 78 = .ok (.getfield 52, 3) := by decide +kernel
theorem dWI_chooseFixed_81 : decode cWI_chooseFixed 81 = .ok (.aload 6, 2) := by decide +kernel
theorem dWI_chooseFixed_83 : decode cWI_chooseFixed 83 = .ok (.invokevirtual 55, 3) := by decide +kernel
theorem dWI_chooseFixed_86 : decode cWI_chooseFixed 86 = .ok (.invokevirtual 80, 3) := by decide +kernel
theorem dWI_chooseFixed_89 : decode cWI_chooseFixed 89 = .ok (.aload 6, 2) := by decide +kernel
theorem dWI_chooseFixed_91 : decode cWI_chooseFixed 91 = .ok (.invokevirtual 55, 3) := by decide +kernel
theorem dWI_chooseFixed_94 : decode cWI_chooseFixed 94 = .ok (.istore 4, 2) := by decide +kernel
theorem dWI_chooseFixed_96 : decode cWI_chooseFixed 96 = .ok (.iinc 5 1, 3) := by decide +kernel
theorem dWI_chooseFixed_99 : decode cWI_chooseFixed 99 = .ok (.goto (-79), 3) := by decide +kernel
theorem dWI_chooseFixed_102 : decode cWI_chooseFixed 102 = .ok (.iconst 0, 1) := by decide +kernel
theorem dWI_chooseFixed_103 : decode cWI_chooseFixed 103 = .ok (.iload_n 3, 1) := by decide +kernel
theorem dWI_chooseFixed_104 : decode cWI_chooseFixed 104 = .ok (.aload_n 0, 1) := by decide +kernel
theorem dWI_chooseFixed_105 : decode cWI_chooseFixed 105 = .ok (.getfield 21, 3) := by decide +kernel
theorem dWI_chooseFixed_108 : decode cWI_chooseFixed 108 = .ok (.iconst 0, 1) := by decide +kernel
theorem dWI_chooseFixed_109 : decode cWI_chooseFixed 109 = .ok (.iload 4, 2) := by decide +kernel
theorem dWI_chooseFixed_111 : decode cWI_chooseFixed 111 = .ok (.invokevirtual 68, 3) := by decide +kernel
theorem dWI_chooseFixed_114 : decode cWI_chooseFixed 114 = .ok (.isub, 1) := by decide +kernel
theorem dWI_chooseFixed_115 : decode cWI_chooseFixed 115 = .ok (.invokestatic 95, 3) := by decide +kernel
theorem dWI_chooseFixed_118 : decode cWI_chooseFixed 118 = .ok (.istore 5, 2) := by decide +kernel
theorem dWI_chooseFixed_120 : decode cWI_chooseFixed 120 = .ok (.aload_n 0, 1) := by decide +kernel
theorem dWI_chooseFixed_121 : decode cWI_chooseFixed 121 = .ok (.getfield 21, 3) := by decide +kernel
theorem dWI_chooseFixed_124 : decode cWI_chooseFixed 124 = .ok (.iload 5, 2) := by decide +kernel
theorem dWI_chooseFixed_126 : decode cWI_chooseFixed 126 = .ok (.aload_n 0, 1) := by decide +kernel
theorem dWI_chooseFixed_127 : decode cWI_chooseFixed 127 = .ok (.getfield 24, 3) := by decide +kernel
theorem dWI_chooseFixed_130 : decode cWI_chooseFixed 130 = .ok (.iload 4, 2) := by decide +kernel
theorem dWI_chooseFixed_132 : decode cWI_chooseFixed 132 = .ok (.aload_n 1, 1) := by decide +kernel
theorem dWI_chooseFixed_133 : decode cWI_chooseFixed 133 = .ok (.invokevirtual 100, 3) := by decide +kernel
theorem dWI_chooseFixed_136 : decode cWI_chooseFixed 136 = .ok (.invokevirtual 80, 3) := by decide +kernel
theorem dWI_chooseFixed_139 : decode cWI_chooseFixed 139 = .ok (.return_, 1) := by decide +kernel
theorem dWI_fit_0 : decode cWI_fit 0 = .ok (.aload_n 0, 1) := by decide +kernel
theorem dWI_fit_1 : decode cWI_fit 1 = .ok (.getfield 12, 3) := by decide +kernel
theorem dWI_fit_4 : decode cWI_fit 4 = .ok (.aload_n 1, 1) := by decide +kernel
theorem dWI_fit_5 : decode cWI_fit 5 = .ok (.getfield 50, 3) := by decide +kernel
theorem dWI_fit_8 : decode cWI_fit 8 = .ok (.iload_n 2, 1) := by decide +kernel
theorem dWI_fit_9 : decode cWI_fit 9 = .ok (.aload_n 0, 1) := by decide +kernel
theorem dWI_fit_10 : decode cWI_fit 10 = .ok (.getfield 18, 3) := by decide +kernel
theorem dWI_fit_13 : decode cWI_fit 13 = .ok (.aload_n 1, 1) := by decide +kernel
theorem dWI_fit_14 : decode cWI_fit 14 = .ok (.getfield 52, 3) := by decide +kernel
theorem dWI_fit_17 : decode cWI_fit 17 = .ok (.aload_n 1, 1) := by decide +kernel
theorem dWI_fit_18 : decode cWI_fit 18 = .ok (.invokevirtual 55, 3) := by decide +kernel
theorem dWI_fit_21 : decode cWI_fit 21 = .ok (.invokevirtual 58, 3) := by decide +kernel
theorem dWI_fit_24 : decode cWI_fit 24 = .ok (.aload_n 0, 1) := by decide +kernel
theorem dWI_fit_25 : decode cWI_fit 25 = .ok (.getfield 18, 3) := by decide +kernel
theorem dWI_fit_28 : decode cWI_fit 28 = .ok (.aload_n 1, 1) := by decide +kernel
theorem dWI_fit_29 : decode cWI_fit 29 = .ok (.getfield 62, 3) := by decide +kernel
theorem dWI_fit_32 : decode cWI_fit 32 = .ok (.iload_n 2, 1) := by decide +kernel
theorem dWI_fit_33 : decode cWI_fit 33 = .ok (.aload_n 0, 1) := by decide +kernel
theorem dWI_fit_34 : decode cWI_fit 34 = .ok (.getfield 18, 3) := by decide +kernel
theorem dWI_fit_37 : decode cWI_fit 37 = .ok (.aload_n 1, 1) := by decide +kernel
theorem dWI_fit_38 : decode cWI_fit 38 = .ok (.getfield 52, 3) := by decide +kernel
theorem dWI_fit_41 : decode cWI_fit 41 = .ok (.aload_n 1, 1) := by decide +kernel
theorem dWI_fit_42 : decode cWI_fit 42 = .ok (.invokevirtual 55, 3) := by decide +kernel
theorem dWI_fit_45 : decode cWI_fit 45 = .ok (.invokevirtual 58, 3) := by decide +kernel
theorem dWI_fit_48 : decode cWI_fit 48 = .ok (.aload_n 0, 1) := by decide +kernel
theorem dWI_fit_49 : decode cWI_fit 49 = .ok (.getfield 18, 3) := by decide +kernel
theorem dWI_fit_52 : decode cWI_fit 52 = .ok (.aload_n 0, 1) := by decide +kernel
theorem dWI_fit_53 : decode cWI_fit 53 = .ok (.getfield 12, 3) := by decide +kernel
theorem dWI_fit_56 : decode cWI_fit 56 = .ok (.aload_n 1, 1) := by decide +kernel
theorem dWI_fit_57 : decode cWI_fit 57 = .ok (.getfield 52, 3) := by decide +kernel
theorem dWI_fit_60 : decode cWI_fit 60 = .ok (.aload_n 1, 1) := by decide +kernel
theorem dWI_fit_61 : decode cWI_fit 61 = .ok (.invokevirtual 55, 3) := by decide +kernel
theorem dWI_fit_64 : decode cWI_fit 64 = .ok (.invokevirtual 64, 3) := by decide +kernel
theorem dWI_fit_67 : decode cWI_fit 67 = .ok (.return_, 1) := by decide +kernel
theorem dWI_init_0 : decode cWI_init 0 = .ok (.aload_n 0, 1) := by decide +kernel
theorem dWI_init_1 : decode cWI_init 1 = .ok (.invokespecial 3, 3) := by decide +kernel
theorem dWI_init_4 : decode cWI_init 4 = .ok (.aload_n 0, 1) := by decide +kernel
theorem dWI_init_5 : decode cWI_init 5 = .ok (.new 9, 3) := by decide +kernel
theorem dWI_init_8 : decode cWI_init 8 = .ok (.dup, 1) := by decide +kernel
theorem dWI_init_9 : decode cWI_init 9 = .ok (.invokespecial 11, 3) := by decide +kernel
theorem dWI_init_12 : decode cWI_init 12 = .ok (.putfield 12, 3) := by decide +kernel
theorem dWI_init_15 : decode cWI_init 15 = .ok (.aload_n 0, 1) := by decide +kernel
theorem dWI_init_16 : decode cWI_init 16 = .ok (.new 9, 3) := by decide +kernel
theorem dWI_init_19 : decode cWI_init 19 = .ok (.dup, 1) := by decide +kernel
theorem dWI_init_20 : decode cWI_init 20 = .ok (.invokespecial 11, 3) := by decide +kernel
theorem dWI_init_23 : decode cWI_init 23 = .ok (.putfield 18, 3) := by decide +kernel
theorem dWI_init_26 : decode cWI_init 26 = .ok (.aload_n 0, 1) := by decide +kernel
theorem dWI_init_27 : decode cWI_init 27 = .ok (.new 9, 3) := by decide +kernel
theorem dWI_init_30 : decode cWI_init 30 = .ok (.dup, 1) := by decide +kernel
theorem dWI_init_31 : decode cWI_init 31 = .ok (.invokespecial 11, 3) := by decide +kernel
theorem dWI_init_34 : decode cWI_init 34 = .ok (.putfield 21, 3) := by decide +kernel
theorem dWI_init_37 : decode cWI_init 37 = .ok (.aload_n 0, 1) := by decide +kernel
theorem dWI_init_38 : decode cWI_init 38 = .ok (.new 9, 3) := by decide +kernel
theorem dWI_init_41 : decode cWI_init 41 = .ok (.dup, 1) := by decide +kernel
theorem dWI_init_42 : decode cWI_init 42 = .ok (.invokespecial 11, 3) := by decide +kernel
theorem dWI_init_45 : decode cWI_init 45 = .ok (.putfield 24, 3) := by decide +kernel
theorem dWI_init_48 : decode cWI_init 48 = .ok (.return_, 1) := by decide +kernel
theorem dWI_measure_0 : decode cWI_measure 0 = .ok (.aload_n 0, 1) := by decide +kernel
theorem dWI_measure_1 : decode cWI_measure 1 = .ok (.getfield 12, 3) := by decide +kernel
theorem dWI_measure_4 : decode cWI_measure 4 = .ok (.invokevirtual 27, 3) := by decide +kernel
theorem dWI_measure_7 : decode cWI_measure 7 = .ok (.aload_n 0, 1) := by decide +kernel
theorem dWI_measure_8 : decode cWI_measure 8 = .ok (.getfield 18, 3) := by decide +kernel
theorem dWI_measure_11 : decode cWI_measure 11 = .ok (.invokevirtual 27, 3) := by decide +kernel
theorem dWI_measure_14 : decode cWI_measure 14 = .ok (.iconst 1, 1) := by decide +kernel
theorem dWI_measure_15 : decode cWI_measure 15 = .ok (.istore_n 3, 1) := by decide +kernel
theorem dWI_measure_16 : decode cWI_measure 16 = .ok (.iload_n 3, 1) := by decide +kernel
theorem dWI_measure_17 : decode cWI_measure 17 = .ok (.bipush 6, 2) := by decide +kernel
theorem dWI_measure_19 : decode cWI_measure 19 = .ok (.if_icmp .gt 51, 3) := by decide +kernel
theorem dWI_measure_22 : decode cWI_measure 22 = .ok (.iconst 0, 1) := by decide +kernel
theorem dWI_measure_23 : decode cWI_measure 23 = .ok (.istore 4, 2) := by decide +kernel
theorem dWI_measure_25 : decode cWI_measure 25 = .ok (.iload 4, 2) := by decide +kernel
theorem dWI_measure_27 : decode cWI_measure 27 = .ok (.aload_n 1, 1) := by decide +kernel
theorem dWI_measure_28 : decode cWI_measure 28 = .ok (.invokevirtual 30, 3) := by decide +kernel
theorem dWI_measure_31 : decode cWI_measure 31 = .ok (.if_icmp .ge 33, 3) := by decide +kernel
theorem dWI_measure_34 : decode cWI_measure 34 = .ok (.aload_n 1, 1) := by decide +kernel
theorem dWI_measure_35 : decode cWI_measure 35 = .ok (.iload 4, 2) := by decide +kernel
theorem dWI_measure_37 : decode cWI_measure 37 = .ok (.invokevirtual 36, 3) := by decide +kernel
theorem dWI_measure_40 : decode cWI_measure 40 = .ok (.getfield 40, 3) := by decide +kernel
theorem dWI_measure_43 : decode cWI_measure 43 = .ok (.iload_n 3, 1) := by decide +kernel
theorem dWI_measure_44 : decode cWI_measure 44 = .ok (.if_icmp .ne 14, 3) := by decide +kernel
theorem dWI_measure_47 : decode cWI_measure 47 = .ok (.aload_n 0, 1) := by decide +kernel
theorem dWI_measure_48 : decode cWI_measure 48 = .ok (.aload_n 1, 1) := by decide +kernel
theorem dWI_measure_49 : decode cWI_measure 49 = .ok (.iload 4, 2) := by decide +kernel
theorem dWI_measure_51 : decode cWI_measure 51 = .ok (.invokevirtual 36, 3) := by decide +kernel
theorem dWI_measure_54 : decode cWI_measure 54 = .ok (.iload_n 2, 1) := by decide +kernel
theorem dWI_measure_55 : decode cWI_measure 55 = .ok (.invokevirtual 46, 3) := by decide +kernel
theorem dWI_measure_58 : decode cWI_measure 58 = .ok (.iinc 4 1, 3) := by decide +kernel
theorem dWI_measure_61 : decode cWI_measure 61 = .ok (.goto (-36), 3) := by decide +kernel
theorem dWI_measure_64 : decode cWI_measure 64 = .ok (.iinc 3 1, 3) := by decide +kernel
theorem dWI_measure_67 : decode cWI_measure 67 = .ok (.goto (-51), 3) := by decide +kernel
theorem dWI_measure_70 : decode cWI_measure 70 = .ok (.return_, 1) := by decide +kernel
theorem dWI_weighByScope_0 : decode cWI_weighByScope 0 = .ok (.iconst 0, 1) := by decide +kernel
theorem dWI_weighByScope_1 : decode cWI_weighByScope 1 = .ok (.istore_n 2, 1) := by decide +kernel
theorem dWI_weighByScope_2 : decode cWI_weighByScope 2 = .ok (.iload_n 2, 1) := by decide +kernel
theorem dWI_weighByScope_3 : decode cWI_weighByScope 3 = .ok (.iload_n 1, 1) := by decide +kernel
theorem dWI_weighByScope_4 : decode cWI_weighByScope 4 = .ok (.if_icmp .ge 34, 3) := by decide +kernel
theorem dWI_weighByScope_7 : decode cWI_weighByScope 7 = .ok (.aload_n 0, 1) := by decide +kernel
theorem dWI_weighByScope_8 : decode cWI_weighByScope 8 = .ok (.getfield 24, 3) := by decide +kernel
theorem dWI_weighByScope_11 : decode cWI_weighByScope 11 = .ok (.iload_n 2, 1) := by decide +kernel
theorem dWI_weighByScope_12 : decode cWI_weighByScope 12 = .ok (.aload_n 0, 1) := by decide +kernel
theorem dWI_weighByScope_13 : decode cWI_weighByScope 13 = .ok (.getfield 18, 3) := by decide +kernel
theorem dWI_weighByScope_16 : decode cWI_weighByScope 16 = .ok (.iload_n 2, 1) := by decide +kernel
theorem dWI_weighByScope_17 : decode cWI_weighByScope 17 = .ok (.invokevirtual 84, 3) := by decide +kernel
theorem dWI_weighByScope_20 : decode cWI_weighByScope 20 = .ok (.aload_n 0, 1) := by decide +kernel
theorem dWI_weighByScope_21 : decode cWI_weighByScope 21 = .ok (.getfield 12, 3) := by decide +kernel
theorem dWI_weighByScope_24 : decode cWI_weighByScope 24 = .ok (.iload_n 2, 1) := by decide +kernel
theorem dWI_weighByScope_25 : decode cWI_weighByScope 25 = .ok (.invokevirtual 84, 3) := by decide +kernel
theorem dWI_weighByScope_28 : decode cWI_weighByScope 28 = .ok (.isub, 1) := by decide +kernel
theorem dWI_weighByScope_29 : decode cWI_weighByScope 29 = .ok (.invokevirtual 88, 3) := by decide +kernel
theorem dWI_weighByScope_32 : decode cWI_weighByScope 32 = .ok (.iinc 2 1, 3) := by decide +kernel
theorem dWI_weighByScope_35 : decode cWI_weighByScope 35 = .ok (.goto (-33), 3) := by decide +kernel
theorem dWI_weighByScope_38 : decode cWI_weighByScope 38 = .ok (.return_, 1) := by decide +kernel
