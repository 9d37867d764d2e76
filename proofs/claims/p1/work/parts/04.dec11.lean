theorem dSC_layout_29 : decode cSC_layout 29 = .ok (.iload_n 2, 1) := by decide +kernel
theorem dSC_layout_30 : decode cSC_layout 30 = .ok (.putfield 34, 3) := by decide +kernel
theorem dSC_layout_33 : decode cSC_layout 33 = .ok (.aload_n 0, 1) := by decide +kernel
theorem dSC_layout_34 : decode cSC_layout 34 = .ok (.iload_n 3, 1) := by decide +kernel
theorem dSC_layout_35 : decode cSC_layout 35 = .ok (.putfield 37, 3) := by decide +kernel
theorem dSC_layout_38 : decode cSC_layout 38 = .ok (.iconst 1, 1) := by decide +kernel
theorem dSC_layout_39 : decode cSC_layout 39 = .ok (.ireturn, 1) := by decide +kernel
theorem dSC_overlaps_0 : decode cSC_overlaps 0 = .ok (.aload_n 0, 1) := by decide +kernel
theorem dSC_overlaps_1 : decode cSC_overlaps 1 = .ok (.getfield 10, 3) := by decide +kernel
theorem dSC_overlaps_4 : decode cSC_overlaps 4 = .ok (.invokevirtual 86, 3) := by decide +kernel
theorem dSC_overlaps_7 : decode cSC_overlaps 7 = .ok (.ireturn, 1) := by decide +kernel
theorem dSC_place_0 : decode cSC_place 0 = .ok (.aload_n 0, 1) := by decide +kernel
theorem dSC_place_1 : decode cSC_place 1 = .ok (.getfield 10, 3) := by decide +kernel
theorem dSC_place_4 : decode cSC_place 4 = .ok (.iload_n 1, 1) := by decide +kernel
theorem dSC_place_5 : decode cSC_place 5 = .ok (.invokevirtual 56, 3) := by decide +kernel
theorem dSC_place_8 : decode cSC_place 8 = .ok (.ifCond .ne 5, 3) := by decide +kernel
theorem dSC_place_11 : decode cSC_place 11 = .ok (.iconst (-1), 1) := by decide +kernel
theorem dSC_place_12 : decode cSC_place 12 = .ok (.ireturn, 1) := by decide +kernel
theorem dSC_row_0 : decode cSC_row 0 = .ok (.aload_n 0, 1) := by decide +kernel
theorem dSC_row_1 : decode cSC_row 1 = .ok (.getfield 10, 3) := by decide +kernel
theorem dSC_row_4 : decode cSC_row 4 = .ok (.invokevirtual 45, 3) := by decide +kernel
theorem dSC_row_7 : decode cSC_row 7 = .ok (.ireturn, 1) := by decide +kernel
theorem dSC_rows_0 : decode cSC_rows 0 = .ok (.aload_n 0, 1) := by decide +kernel
theorem dSC_rows_1 : decode cSC_rows 1 = .ok (.getfield 10, 3) := by decide +kernel
theorem dSC_rows_4 : decode cSC_rows 4 = .ok (.invokevirtual 79, 3) := by decide +kernel
theorem dSC_rows_7 : decode cSC_rows 7 = .ok (.ireturn, 1) := by decide +kernel
theorem dSC_size_0 : decode cSC_size 0 = .ok (.aload_n 0, 1) := by decide +kernel
theorem dSC_size_1 : decode cSC_size 1 = .ok (.getfield 10, 3) := by decide +kernel
theorem dSC_size_4 : decode cSC_size 4 = .ok (.invokevirtual 76, 3) := by decide +kernel
theorem dSC_size_7 : decode cSC_size 7 = .ok (.ifCond .eq 13, 3) := by decide +kernel
theorem dSC_size_20 : decode cSC_size 20 = .ok (.iconst 0, 1) := by decide +kernel
theorem dSC_size_21 : decode cSC_size 21 = .ok (.ireturn, 1) := by decide +kernel
theorem dSC_slot_0 : decode cSC_slot 0 = .ok (.aload_n 0, 1) := by decide +kernel
theorem dSC_slot_1 : decode cSC_slot 1 = .ok (.getfield 10, 3) := by decide +kernel
theorem dSC_slot_4 : decode cSC_slot 4 = .ok (.iload_n 1, 1) := by decide +kernel
theorem dSC_slot_5 : decode cSC_slot 5 = .ok (.iload_n 2, 1) := by decide +kernel
theorem dSC_slot_6 : decode cSC_slot 6 = .ok (.invokevirtual 82, 3) := by decide +kernel
theorem dSC_slot_9 : decode cSC_slot 9 = .ok (.ireturn, 1) := by decide +kernel
theorem dSC_span_0 : decode cSC_span 0 = .ok (.aload_n 0, 1) := by decide +kernel
theorem dSC_span_1 : decode cSC_span 1 = .ok (.getfield 10, 3) := by decide +kernel
theorem dSC_span_4 : decode cSC_span 4 = .ok (.iload_n 1, 1) := by decide +kernel
theorem dSC_span_5 : decode cSC_span 5 = .ok (.invokevirtual 56, 3) := by decide +kernel
theorem dSC_span_8 : decode cSC_span 8 = .ok (.ifCond .ne 5, 3) := by decide +kernel
theorem dSC_span_11 : decode cSC_span 11 = .ok (.iconst (-1), 1) := by decide +kernel
theorem dSC_span_12 : decode cSC_span 12 = .ok (.ireturn, 1) := by decide +kernel
theorem dSC_wide_0 : decode cSC_wide 0 = .ok (.iload_n 1, 1) := by decide +kernel
theorem dSC_wide_1 : decode cSC_wide 1 = .ok (.iconst 0, 1) := by decide +kernel
theorem dSC_wide_2 : decode cSC_wide 2 = .ok (.aload_n 0, 1) := by decide +kernel
theorem dSC_wide_3 : decode cSC_wide 3 = .ok (.getfield 10, 3) := by decide +kernel
theorem dSC_wide_6 : decode cSC_wide 6 = .ok (.invokevirtual 76, 3) := by decide +kernel
theorem dSC_wide_9 : decode cSC_wide 9 = .ok (.iconst 1, 1) := by decide +kernel
theorem dSC_wide_10 : decode cSC_wide 10 = .ok (.isub, 1) := by decide +kernel
theorem dSC_wide_11 : decode cSC_wide 11 = .ok (.invokestatic 48, 3) := by decide +kernel
theorem dSC_wide_14 : decode cSC_wide 14 = .ok (.ifCond .ne 5, 3) := by decide +kernel
theorem dSC_wide_17 : decode cSC_wide 17 = .ok (.iconst (-1), 1) := by decide +kernel
theorem dSC_wide_18 : decode cSC_wide 18 = .ok (.ireturn, 1) := by decide +kernel
theorem dSC_within_0 : decode cSC_within 0 = .ok (.iload_n 1, 1) := by decide +kernel
theorem dSC_within_1 : decode cSC_within 1 = .ok (.iload_n 0, 1) := by decide +kernel
theorem dSC_within_2 : decode cSC_within 2 = .ok (.if_icmp .gt 12, 3) := by decide +kernel
theorem dSC_within_5 : decode cSC_within 5 = .ok (.iload_n 0, 1) := by decide +kernel
theorem dSC_within_6 : decode cSC_within 6 = .ok (.iload_n 2, 1) := by decide +kernel
theorem dSC_within_7 : decode cSC_within 7 = .ok (.if_icmp .gt 7, 3) := by decide +kernel
theorem dSC_within_10 : decode cSC_within 10 = .ok (.iconst 1, 1) := by decide +kernel
theorem dSC_within_11 : decode cSC_within 11 = .ok (.goto 4, 3) := by decide +kernel
theorem dSC_within_14 : decode cSC_within 14 = .ok (.iconst 0, 1) := by decide +kernel
theorem dSC_within_15 : decode cSC_within 15 = .ok (.ireturn, 1) := by decide +kernel
theorem dWI_init_0 : decode cWI_init 0 = .ok (.aload_n 0, 1) := by decide +kernel
theorem dWI_init_1 : decode cWI_init 1 = .ok (.invokespecial 3, 3) := by decide +kernel
theorem dWI_init_4 : decode cWI_init 4 = .ok (.aload_n 0, 1) := by decide +kernel
theorem dWI_init_5 : decode cWI_init 5 = .ok (.new 9, 3) := by decide +kernel
theorem dWI_init_8 : decode cWI_init 8 = .ok (.dup, 1) := by decide +kernel
theorem dWI_init_9 : decode cWI_init 9 = .ok (.invokespecial 11, 3) := by decide +kernel
theorem dWI_init_12 : decode cWI_init 12 = .ok (.putfield 12, 3) := by decide +kernel
theorem dWI_init_15 : decode cWI_init 15 = .ok (.aload_n 0, 1) := by decide +kernel
theorem dWI_init_16 : decode cWI_init 16 = .ok (.new 9, 3) := by decide +kernel
theorem dWI_init_19 : decode cWI_init 19 = .ok (.dup, 1) := by decide +kernel
theorem dWI_init_20 : decode cWI_init 20 = .ok (.invokespecial 11, 3) := by decide +kernel
theorem dWI_init_23 : decode cWI_init 23 = .ok (.putfield 18, 3) := by decide +kernel
theorem dWI_init_26 : decode cWI_init 26 = .ok (.aload_n 0, 1) := by decide +kernel
theorem dWI_init_27 : decode cWI_init 27 = .ok (.new 9, 3) := by decide +kernel
theorem dWI_init_30 : decode cWI_init 30 = .ok (.dup, 1) := by decide +kernel
theorem dWI_init_31 : decode cWI_init 31 = .ok (.invokespecial 11, 3) := by decide +kernel
theorem dWI_init_34 : decode cWI_init 34 = .ok (.putfield 21, 3) := by decide +kernel
theorem dWI_init_37 : decode cWI_init 37 = .ok (.aload_n 0, 1) := by decide +kernel
theorem dWI_init_38 : decode cWI_init 38 = .ok (.new 9, 3) := by decide +kernel
theorem dWI_init_41 : decode cWI_init 41 = .ok (.dup, 1) := by decide +kernel
theorem dWI_init_42 : decode cWI_init 42 = .ok (.invokespecial 11, 3) := by decide +kernel
theorem dWI_init_45 : decode cWI_init 45 = .ok (.putfield 24, 3) := by decide +kernel
theorem dWI_init_48 : decode cWI_init 48 = .ok (.return_, 1) := by decide +kernel
