theorem dMD_init_137 : decode cMD_init 137 = .ok (.newarray .int, 2) := by decide +kernel
theorem dMD_init_139 : decode cMD_init 139 = .ok (.putfield 62, 3) := by decide +kernel
theorem dMD_init_142 : decode cMD_init 142 = .ok (.aload_n 0, 1) := by decide +kernel
theorem dMD_init_143 : decode cMD_init 143 = .ok (.bipush 12, 2) := by decide +kernel
theorem dMD_init_145 : decode cMD_init 145 = .ok (.newarray .boolean, 2) := by decide +kernel
theorem dMD_init_147 : decode cMD_init 147 = .ok (.putfield 65, 3) := by decide +kernel
theorem dMD_init_150 : decode cMD_init 150 = .ok (.aload_n 0, 1) := by decide +kernel
theorem dMD_init_151 : decode cMD_init 151 = .ok (.bipush 12, 2) := by decide +kernel
theorem dMD_init_153 : decode cMD_init 153 = .ok (.newarray .int, 2) := by decide +kernel
theorem dMD_init_155 : decode cMD_init 155 = .ok (.putfield 69, 3) := by decide +kernel
theorem dMD_init_158 : decode cMD_init 158 = .ok (.return_, 1) := by decide +kernel
theorem dMD_isCell_0 : decode cMD_isCell 0 = .ok (.iload_n 1, 1) := by decide +kernel
theorem dMD_isCell_1 : decode cMD_isCell 1 = .ok (.ifCond .lt 15, 3) := by decide +kernel
theorem dMD_isCell_4 : decode cMD_isCell 4 = .ok (.iload_n 1, 1) := by decide +kernel
theorem dMD_isCell_5 : decode cMD_isCell 5 = .ok (.aload_n 0, 1) := by decide +kernel
theorem dMD_isCell_6 : decode cMD_isCell 6 = .ok (.getfield 72, 3) := by decide +kernel
theorem dMD_isCell_9 : decode cMD_isCell 9 = .ok (.if_icmp .ge 7, 3) := by decide +kernel
theorem dMD_isCell_16 : decode cMD_isCell 16 = .ok (.iconst 0, 1) := by decide +kernel
theorem dMD_isCell_17 : decode cMD_isCell 17 = .ok (.ireturn, 1) := by decide +kernel
theorem dMD_layout_0 : decode cMD_layout 0 = .ok (.iload_n 1, 1) := by decide +kernel
theorem dMD_layout_1 : decode cMD_layout 1 = .ok (.ifCond .lt 20, 3) := by decide +kernel
theorem dMD_layout_4 : decode cMD_layout 4 = .ok (.iload_n 1, 1) := by decide +kernel
theorem dMD_layout_5 : decode cMD_layout 5 = .ok (.sipush 10000, 3) := by decide +kernel
theorem dMD_layout_8 : decode cMD_layout 8 = .ok (.if_icmp .gt 13, 3) := by decide +kernel
theorem dMD_layout_11 : decode cMD_layout 11 = .ok (.iload_n 2, 1) := by decide +kernel
theorem dMD_layout_12 : decode cMD_layout 12 = .ok (.ifCond .lt 9, 3) := by decide +kernel
theorem dMD_layout_15 : decode cMD_layout 15 = .ok (.iload_n 2, 1) := by decide +kernel
theorem dMD_layout_16 : decode cMD_layout 16 = .ok (.bipush 20, 2) := by decide +kernel
theorem dMD_layout_18 : decode cMD_layout 18 = .ok (.if_icmp .le 5, 3) := by decide +kernel
theorem dMD_layout_21 : decode cMD_layout 21 = .ok (.iconst 0, 1) := by decide +kernel
theorem dMD_layout_22 : decode cMD_layout 22 = .ok (.ireturn, 1) := by decide +kernel
theorem dMD_layout_23 : decode cMD_layout 23 = .ok (.aload_n 0, 1) := by decide +kernel
theorem dMD_layout_24 : decode cMD_layout 24 = .ok (.iload_n 1, 1) := by decide +kernel
theorem dMD_layout_25 : decode cMD_layout 25 = .ok (.putfield 92, 3) := by decide +kernel
theorem dMD_layout_28 : decode cMD_layout 28 = .ok (.aload_n 0, 1) := by decide +kernel
theorem dMD_layout_29 : decode cMD_layout 29 = .ok (.iload_n 2, 1) := by decide +kernel
theorem dMD_layout_30 : decode cMD_layout 30 = .ok (.putfield 95, 3) := by decide +kernel
theorem dMD_layout_33 : decode cMD_layout 33 = .ok (.aload_n 0, 1) := by decide +kernel
theorem dMD_layout_34 : decode cMD_layout 34 = .ok (.iload_n 3, 1) := by decide +kernel
theorem dMD_layout_35 : decode cMD_layout 35 = .ok (.putfield 98, 3) := by decide +kernel
theorem dMD_layout_38 : decode cMD_layout 38 = .ok (.iconst 1, 1) := by decide +kernel
theorem dMD_layout_39 : decode cMD_layout 39 = .ok (.ireturn, 1) := by decide +kernel
theorem dMD_measure_0 : decode cMD_measure 0 = .ok (.iconst 0, 1) := by decide +kernel
theorem dMD_measure_1 : decode cMD_measure 1 = .ok (.istore_n 1, 1) := by decide +kernel
theorem dMD_measure_2 : decode cMD_measure 2 = .ok (.iload_n 1, 1) := by decide +kernel
theorem dMD_measure_3 : decode cMD_measure 3 = .ok (.bipush 12, 2) := by decide +kernel
theorem dMD_measure_5 : decode cMD_measure 5 = .ok (.if_icmp .ge 23, 3) := by decide +kernel
theorem dMD_measure_8 : decode cMD_measure 8 = .ok (.aload_n 0, 1) := by decide +kernel
theorem dMD_measure_9 : decode cMD_measure 9 = .ok (.getfield 53, 3) := by decide +kernel
theorem dMD_measure_12 : decode cMD_measure 12 = .ok (.iload_n 1, 1) := by decide +kernel
theorem dMD_measure_13 : decode cMD_measure 13 = .ok (.iconst 0, 1) := by decide +kernel
theorem dMD_measure_14 : decode cMD_measure 14 = .ok (.iastore, 1) := by decide +kernel
theorem dMD_measure_15 : decode cMD_measure 15 = .ok (.aload_n 0, 1) := by decide +kernel
theorem dMD_measure_16 : decode cMD_measure 16 = .ok (.getfield 56, 3) := by decide +kernel
theorem dMD_measure_19 : decode cMD_measure 19 = .ok (.iload_n 1, 1) := by decide +kernel
theorem dMD_measure_20 : decode cMD_measure 20 = .ok (.iconst 0, 1) := by decide +kernel
theorem dMD_measure_21 : decode cMD_measure 21 = .ok (.iastore, 1) := by decide +kernel
theorem dMD_measure_22 : decode cMD_measure 22 = .ok (.iinc 1 1, 3) := by decide +kernel
theorem dMD_measure_25 : decode cMD_measure 25 = .ok (.goto (-23), 3) := by decide +kernel
theorem dMD_measure_28 : decode cMD_measure 28 = .ok (.iconst 1, 1) := by decide +kernel
theorem dMD_measure_29 : decode cMD_measure 29 = .ok (.istore_n 1, 1) := by decide +kernel
theorem dMD_measure_30 : decode cMD_measure 30 = .ok (.iload_n 1, 1) := by decide +kernel
theorem dMD_measure_31 : decode cMD_measure 31 = .ok (.bipush 7, 2) := by decide +kernel
theorem dMD_measure_33 : decode cMD_measure 33 = .ok (.if_icmp .ge 40, 3) := by decide +kernel
theorem dMD_measure_36 : decode cMD_measure 36 = .ok (.iconst 0, 1) := by decide +kernel
theorem dMD_measure_37 : decode cMD_measure 37 = .ok (.istore_n 2, 1) := by decide +kernel
theorem dMD_measure_38 : decode cMD_measure 38 = .ok (.iload_n 2, 1) := by decide +kernel
theorem dMD_measure_39 : decode cMD_measure 39 = .ok (.aload_n 0, 1) := by decide +kernel
theorem dMD_measure_40 : decode cMD_measure 40 = .ok (.getfield 72, 3) := by decide +kernel
theorem dMD_measure_43 : decode cMD_measure 43 = .ok (.if_icmp .ge 24, 3) := by decide +kernel
theorem dMD_measure_67 : decode cMD_measure 67 = .ok (.iinc 1 1, 3) := by decide +kernel
theorem dMD_measure_70 : decode cMD_measure 70 = .ok (.goto (-40), 3) := by decide +kernel
theorem dMD_measure_73 : decode cMD_measure 73 = .ok (.return_, 1) := by decide +kernel
theorem dMD_overlaps_0 : decode cMD_overlaps 0 = .ok (.iconst 0, 1) := by decide +kernel
theorem dMD_overlaps_1 : decode cMD_overlaps 1 = .ok (.istore_n 1, 1) := by decide +kernel
theorem dMD_overlaps_2 : decode cMD_overlaps 2 = .ok (.iconst 0, 1) := by decide +kernel
theorem dMD_overlaps_3 : decode cMD_overlaps 3 = .ok (.istore_n 2, 1) := by decide +kernel
theorem dMD_overlaps_4 : decode cMD_overlaps 4 = .ok (.iload_n 2, 1) := by decide +kernel
theorem dMD_overlaps_5 : decode cMD_overlaps 5 = .ok (.sipush 144, 3) := by decide +kernel
theorem dMD_overlaps_8 : decode cMD_overlaps 8 = .ok (.if_icmp .ge 37, 3) := by decide +kernel
theorem dMD_overlaps_11 : decode cMD_overlaps 11 = .ok (.aload_n 0, 1) := by decide +kernel
theorem dMD_overlaps_12 : decode cMD_overlaps 12 = .ok (.iload_n 2, 1) := by decide +kernel
theorem dMD_overlaps_13 : decode cMD_overlaps 13 = .ok (.bipush 12, 2) := by decide +kernel
theorem dMD_overlaps_15 : decode cMD_overlaps 15 = .ok (.irem, 1) := by decide +kernel
theorem dMD_overlaps_16 : decode cMD_overlaps 16 = .ok (.iload_n 2, 1) := by decide +kernel
theorem dMD_overlaps_17 : decode cMD_overlaps 17 = .ok (.bipush 12, 2) := by decide +kernel
theorem dMD_overlaps_19 : decode cMD_overlaps 19 = .ok (.idiv, 1) := by decide +kernel
theorem dMD_overlaps_20 : decode cMD_overlaps 20 = .ok (.invokevirtual 109, 3) := by decide +kernel
theorem dMD_overlaps_23 : decode cMD_overlaps 23 = .ok (.istore_n 3, 1) := by decide +kernel
theorem dMD_overlaps_24 : decode cMD_overlaps 24 = .ok (.iload_n 3, 1) := by decide +kernel
theorem dMD_overlaps_25 : decode cMD_overlaps 25 = .ok (.iconst 1, 1) := by decide +kernel
theorem dMD_overlaps_26 : decode cMD_overlaps 26 = .ok (.if_icmp .le 11, 3) := by decide +kernel
theorem dMD_overlaps_37 : decode cMD_overlaps 37 = .ok (.iload_n 1, 1) := by decide +kernel
theorem dMD_overlaps_38 : decode cMD_overlaps 38 = .ok (.istore_n 1, 1) := by decide +kernel
theorem dMD_overlaps_39 : decode cMD_overlaps 39 = .ok (.iinc 2 1, 3) := by decide +kernel
theorem dMD_overlaps_42 : decode cMD_overlaps 42 = .ok (.goto (-38), 3) := by decide +kernel
theorem dMD_overlaps_45 : decode cMD_overlaps 45 = .ok (.iload_n 1, 1) := by decide +kernel
theorem dMD_overlaps_46 : decode cMD_overlaps 46 = .ok (.ireturn, 1) := by decide +kernel
theorem dMD_place_0 : decode cMD_place 0 = .ok (.aload_n 0, 1) := by decide +kernel
theorem dMD_place_1 : decode cMD_place 1 = .ok (.iload_n 1, 1) := by decide +kernel
theorem dMD_place_2 : decode cMD_place 2 = .ok (.invokevirtual 89, 3) := by decide +kernel
theorem dMD_place_5 : decode cMD_place 5 = .ok (.ifCond .eq 12, 3) := by decide +kernel
theorem dMD_place_17 : decode cMD_place 17 = .ok (.iconst (-1), 1) := by decide +kernel
theorem dMD_place_18 : decode cMD_place 18 = .ok (.ireturn, 1) := by decide +kernel
theorem dMD_room_0 : decode cMD_room 0 = .ok (.iconst 0, 1) := by decide +kernel
theorem dMD_room_1 : decode cMD_room 1 = .ok (.aload_n 0, 1) := by decide +kernel
theorem dMD_room_2 : decode cMD_room 2 = .ok (.getfield 92, 3) := by decide +kernel
theorem dMD_room_5 : decode cMD_room 5 = .ok (.aload_n 0, 1) := by decide +kernel
theorem dMD_room_6 : decode cMD_room 6 = .ok (.getfield 95, 3) := by decide +kernel
theorem dMD_room_9 : decode cMD_room 9 = .ok (.aload_n 0, 1) := by decide +kernel
theorem dMD_room_10 : decode cMD_room 10 = .ok (.invokevirtual 113, 3) := by decide +kernel
theorem dMD_room_13 : decode cMD_room 13 = .ok (.iconst 1, 1) := by decide +kernel
theorem dMD_room_14 : decode cMD_room 14 = .ok (.iadd, 1) := by decide +kernel
theorem dMD_room_15 : decode cMD_room 15 = .ok (.imul, 1) := by decide +kernel
theorem dMD_room_16 : decode cMD_room 16 = .ok (.isub, 1) := by decide +kernel
theorem dMD_room_17 : decode cMD_room 17 = .ok (.invokestatic 121, 3) := by decide +kernel
theorem dMD_room_20 : decode cMD_room 20 = .ok (.ireturn, 1) := by decide +kernel
theorem dMD_row_0 : decode cMD_row 0 = .ok (.aload_n 0, 1) := by decide +kernel
theorem dMD_row_1 : decode cMD_row 1 = .ok (.getfield 7, 3) := by decide +kernel
theorem dMD_row_4 : decode cMD_row 4 = .ok (.iconst 1, 1) := by decide +kernel
