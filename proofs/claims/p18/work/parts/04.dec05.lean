theorem dMD_measureCell_114 : decode cMD_measureCell 114 = .ok (.getfield 38, 3) := by decide +kernel
theorem dMD_measureCell_117 : decode cMD_measureCell 117 = .ok (.iload_n 1, 1) := by decide +kernel
theorem dMD_measureCell_118 : decode cMD_measureCell 118 = .ok (.iaload, 1) := by decide +kernel
theorem dMD_measureCell_119 : decode cMD_measureCell 119 = .ok (.aload_n 0, 1) := by decide +kernel
theorem dMD_measureCell_120 : decode cMD_measureCell 120 = .ok (.getfield 56, 3) := by decide +kernel
theorem dMD_measureCell_123 : decode cMD_measureCell 123 = .ok (.iload_n 2, 1) := by decide +kernel
theorem dMD_measureCell_124 : decode cMD_measureCell 124 = .ok (.iload_n 3, 1) := by decide +kernel
theorem dMD_measureCell_125 : decode cMD_measureCell 125 = .ok (.invokestatic 128, 3) := by decide +kernel
theorem dMD_measureCell_128 : decode cMD_measureCell 128 = .ok (.isub, 1) := by decide +kernel
theorem dMD_measureCell_129 : decode cMD_measureCell 129 = .ok (.iload 4, 2) := by decide +kernel
theorem dMD_measureCell_131 : decode cMD_measureCell 131 = .ok (.isub, 1) := by decide +kernel
theorem dMD_measureCell_132 : decode cMD_measureCell 132 = .ok (.istore 6, 2) := by decide +kernel
theorem dMD_measureCell_134 : decode cMD_measureCell 134 = .ok (.iload 5, 2) := by decide +kernel
theorem dMD_measureCell_136 : decode cMD_measureCell 136 = .ok (.ifCond .le 15, 3) := by decide +kernel
theorem dMD_measureCell_139 : decode cMD_measureCell 139 = .ok (.aload_n 0, 1) := by decide +kernel
theorem dMD_measureCell_140 : decode cMD_measureCell 140 = .ok (.iload 5, 2) := by decide +kernel
theorem dMD_measureCell_142 : decode cMD_measureCell 142 = .ok (.aload_n 0, 1) := by decide +kernel
theorem dMD_measureCell_143 : decode cMD_measureCell 143 = .ok (.getfield 53, 3) := by decide +kernel
theorem dMD_measureCell_146 : decode cMD_measureCell 146 = .ok (.iload_n 2, 1) := by decide +kernel
theorem dMD_measureCell_147 : decode cMD_measureCell 147 = .ok (.iload_n 3, 1) := by decide +kernel
theorem dMD_measureCell_148 : decode cMD_measureCell 148 = .ok (.invokevirtual 132, 3) := by decide +kernel
theorem dMD_measureCell_151 : decode cMD_measureCell 151 = .ok (.iload 6, 2) := by decide +kernel
theorem dMD_measureCell_153 : decode cMD_measureCell 153 = .ok (.ifCond .le 15, 3) := by decide +kernel
theorem dMD_measureCell_156 : decode cMD_measureCell 156 = .ok (.aload_n 0, 1) := by decide +kernel
theorem dMD_measureCell_157 : decode cMD_measureCell 157 = .ok (.iload 6, 2) := by decide +kernel
theorem dMD_measureCell_159 : decode cMD_measureCell 159 = .ok (.aload_n 0, 1) := by decide +kernel
theorem dMD_measureCell_160 : decode cMD_measureCell 160 = .ok (.getfield 56, 3) := by decide +kernel
theorem dMD_measureCell_163 : decode cMD_measureCell 163 = .ok (.iload_n 2, 1) := by decide +kernel
theorem dMD_measureCell_164 : decode cMD_measureCell 164 = .ok (.iload_n 3, 1) := by decide +kernel
theorem dMD_measureCell_165 : decode cMD_measureCell 165 = .ok (.invokevirtual 132, 3) := by decide +kernel
theorem dMD_measureCell_168 : decode cMD_measureCell 168 = .ok (.iload_n 2, 1) := by decide +kernel
theorem dMD_measureCell_169 : decode cMD_measureCell 169 = .ok (.istore 7, 2) := by decide +kernel
theorem dMD_measureCell_171 : decode cMD_measureCell 171 = .ok (.iload 7, 2) := by decide +kernel
theorem dMD_measureCell_173 : decode cMD_measureCell 173 = .ok (.iload_n 3, 1) := by decide +kernel
theorem dMD_measureCell_174 : decode cMD_measureCell 174 = .ok (.if_icmp .ge 33, 3) := by decide +kernel
theorem dMD_measureCell_177 : decode cMD_measureCell 177 = .ok (.aload_n 0, 1) := by decide +kernel
theorem dMD_measureCell_178 : decode cMD_measureCell 178 = .ok (.getfield 56, 3) := by decide +kernel
theorem dMD_measureCell_181 : decode cMD_measureCell 181 = .ok (.iload 7, 2) := by decide +kernel
theorem dMD_measureCell_183 : decode cMD_measureCell 183 = .ok (.aload_n 0, 1) := by decide +kernel
theorem dMD_measureCell_184 : decode cMD_measureCell 184 = .ok (.getfield 56, 3) := by decide +kernel
theorem dMD_measureCell_187 : decode cMD_measureCell 187 = .ok (.iload 7, 2) := by decide +kernel
theorem dMD_measureCell_189 : decode cMD_measureCell 189 = .ok (.iaload, 1) := by decide +kernel
theorem dMD_measureCell_190 : decode cMD_measureCell 190 = .ok (.aload_n 0, 1) := by decide +kernel
theorem dMD_measureCell_191 : decode cMD_measureCell 191 = .ok (.getfield 53, 3) := by decide +kernel
theorem dMD_measureCell_194 : decode cMD_measureCell 194 = .ok (.iload 7, 2) := by decide +kernel
theorem dMD_measureCell_196 : decode cMD_measureCell 196 = .ok (.iaload, 1) := by decide +kernel
theorem dMD_measureCell_197 : decode cMD_measureCell 197 = .ok (.invokestatic 121, 3) := by decide +kernel
theorem dMD_measureCell_200 : decode cMD_measureCell 200 = .ok (.iastore, 1) := by decide +kernel
theorem dMD_measureCell_201 : decode cMD_measureCell 201 = .ok (.iinc 7 1, 3) := by decide +kernel
theorem dMD_measureCell_204 : decode cMD_measureCell 204 = .ok (.goto (-33), 3) := by decide +kernel
theorem dMD_measureCell_207 : decode cMD_measureCell 207 = .ok (.return_, 1) := by decide +kernel
theorem dMD_overlaps_0 : decode cMD_overlaps 0 = .ok (.iconst 0, 1) := by decide +kernel
theorem dMD_overlaps_1 : decode cMD_overlaps 1 = .ok (.istore_n 1, 1) := by decide +kernel
theorem dMD_overlaps_2 : decode cMD_overlaps 2 = .ok (.iconst 0, 1) := by decide +kernel
theorem dMD_overlaps_3 : decode cMD_overlaps 3 = .ok (.istore_n 2, 1) := by decide +kernel
theorem dMD_overlaps_4 : decode cMD_overlaps 4 = .ok (.iload_n 2, 1) := by decide +kernel
theorem dMD_overlaps_5 : decode cMD_overlaps 5 = .ok (.sipush 144, 3) := by decide +kernel
theorem dMD_overlaps_8 : decode cMD_overlaps 8 = .ok (.if_icmp .ge 37, 3) := by decide +kernel
theorem dMD_overlaps_11 : decode cMD_overlaps 11 = .ok (.aload_n 0, 1) := by decide +kernel
theorem dMD_overlaps_12 : decode cMD_overlaps 12 = .ok (.iload_n 2, 1) := by decide +kernel
theorem dMD_overlaps_13 : decode cMD_overlaps 13 = .ok (.bipush 12, 2) := by decide +kernel
theorem dMD_overlaps_15 : decode cMD_overlaps 15 = .ok (.irem, 1) := by decide +kernel
theorem dMD_overlaps_16 : decode cMD_overlaps 16 = .ok (.iload_n 2, 1) := by decide +kernel
theorem dMD_overlaps_17 : decode cMD_overlaps 17 = .ok (.bipush 12, 2) := by decide +kernel
theorem dMD_overlaps_19 : decode cMD_overlaps 19 = .ok (.idiv, 1) := by decide +kernel
theorem dMD_overlaps_20 : decode cMD_overlaps 20 = .ok (.invokevirtual 109, 3) := by decide +kernel
theorem dMD_overlaps_23 : decode cMD_overlaps 23 = .ok (.istore_n 3, 1) := by decide +kernel
theorem dMD_overlaps_24 : decode cMD_overlaps 24 = .ok (.iload_n 3, 1) := by decide +kernel
theorem dMD_overlaps_25 : decode cMD_overlaps 25 = .ok (.iconst 1, 1) := by decide +kernel
theorem dMD_overlaps_26 : decode cMD_overlaps 26 = .ok (.if_icmp .le 11, 3) := by decide +kernel
theorem dMD_overlaps_29 : decode cMD_overlaps 29 = .ok (.iload_n 1, 1) := by decide +kernel
theorem dMD_overlaps_30 : decode cMD_overlaps 30 = .ok (.iload_n 3, 1) := by decide +kernel
theorem dMD_overlaps_31 : decode cMD_overlaps 31 = .ok (.iadd, 1) := by decide +kernel
theorem dMD_overlaps_32 : decode cMD_overlaps 32 = .ok (.iconst 1, 1) := by decide +kernel
theorem dMD_overlaps_33 : decode cMD_overlaps 33 = .ok (.isub, 1) := by decide +kernel
theorem dMD_overlaps_34 : decode cMD_overlaps 34 = .ok (.goto 4, 3) := by decide +kernel
theorem dMD_overlaps_37 : decode cMD_overlaps 37 = .ok (.iload_n 1, 1) := by decide +kernel
theorem dMD_overlaps_38 : decode cMD_overlaps 38 = .ok (.istore_n 1, 1) := by decide +kernel
theorem dMD_overlaps_39 : decode cMD_overlaps 39 = .ok (.iinc 2 1, 3) := by decide +kernel
theorem dMD_overlaps_42 : decode cMD_overlaps 42 = .ok (.goto (-38), 3) := by decide +kernel
theorem dMD_overlaps_45 : decode cMD_overlaps 45 = .ok (.iload_n 1, 1) := by decide +kernel
theorem dMD_overlaps_46 : decode cMD_overlaps 46 = .ok (.ireturn, 1) := by decide +kernel
theorem dMD_place_0 : decode cMD_place 0 = .ok (.aload_n 0, 1) := by decide +kernel
theorem dMD_place_1 : decode cMD_place 1 = .ok (.iload_n 1, 1) := by decide +kernel
theorem dMD_place_2 : decode cMD_place 2 = .ok (.invokevirtual 89, 3) := by decide +kernel
theorem dMD_place_5 : decode cMD_place 5 = .ok (.ifCond .eq 12, 3) := by decide +kernel
theorem dMD_place_8 : decode cMD_place 8 = .ok (.iload_n 2, 1) := by decide +kernel
theorem dMD_place_9 : decode cMD_place 9 = .ok (.ifCond .lt 8, 3) := by decide +kernel
theorem dMD_place_12 : decode cMD_place 12 = .ok (.iload_n 2, 1) := by decide +kernel
theorem dMD_place_13 : decode cMD_place 13 = .ok (.iconst 3, 1) := by decide +kernel
theorem dMD_place_14 : decode cMD_place 14 = .ok (.if_icmp .le 5, 3) := by decide +kernel
theorem dMD_place_17 : decode cMD_place 17 = .ok (.iconst (-1), 1) := by decide +kernel
theorem dMD_place_18 : decode cMD_place 18 = .ok (.ireturn, 1) := by decide +kernel
theorem dMD_place_19 : decode cMD_place 19 = .ok (.aload_n 0, 1) := by decide +kernel
theorem dMD_place_20 : decode cMD_place 20 = .ok (.invokevirtual 149, 3) := by decide +kernel
theorem dMD_place_23 : decode cMD_place 23 = .ok (.aload_n 0, 1) := by decide +kernel
theorem dMD_place_24 : decode cMD_place 24 = .ok (.invokevirtual 152, 3) := by decide +kernel
theorem dMD_place_27 : decode cMD_place 27 = .ok (.aload_n 0, 1) := by decide +kernel
theorem dMD_place_28 : decode cMD_place 28 = .ok (.getfield 20, 3) := by decide +kernel
theorem dMD_place_31 : decode cMD_place 31 = .ok (.iload_n 1, 1) := by decide +kernel
theorem dMD_place_32 : decode cMD_place 32 = .ok (.iaload, 1) := by decide +kernel
theorem dMD_place_33 : decode cMD_place 33 = .ok (.istore_n 3, 1) := by decide +kernel
theorem dMD_place_34 : decode cMD_place 34 = .ok (.aload_n 0, 1) := by decide +kernel
theorem dMD_place_35 : decode cMD_place 35 = .ok (.getfield 23, 3) := by decide +kernel
theorem dMD_place_38 : decode cMD_place 38 = .ok (.iload_n 1, 1) := by decide +kernel
theorem dMD_place_39 : decode cMD_place 39 = .ok (.iaload, 1) := by decide +kernel
theorem dMD_place_40 : decode cMD_place 40 = .ok (.istore 4, 2) := by decide +kernel
theorem dMD_place_42 : decode cMD_place 42 = .ok (.iload_n 3, 1) := by decide +kernel
theorem dMD_place_43 : decode cMD_place 43 = .ok (.aload_n 0, 1) := by decide +kernel
theorem dMD_place_44 : decode cMD_place 44 = .ok (.getfield 26, 3) := by decide +kernel
theorem dMD_place_47 : decode cMD_place 47 = .ok (.iload_n 1, 1) := by decide +kernel
theorem dMD_place_48 : decode cMD_place 48 = .ok (.iaload, 1) := by decide +kernel
theorem dMD_place_49 : decode cMD_place 49 = .ok (.iadd, 1) := by decide +kernel
theorem dMD_place_50 : decode cMD_place 50 = .ok (.istore 5, 2) := by decide +kernel
theorem dMD_place_52 : decode cMD_place 52 = .ok (.iload 4, 2) := by decide +kernel
theorem dMD_place_54 : decode cMD_place 54 = .ok (.aload_n 0, 1) := by decide +kernel
theorem dMD_place_55 : decode cMD_place 55 = .ok (.iload_n 1, 1) := by decide +kernel
theorem dMD_place_56 : decode cMD_place 56 = .ok (.invokevirtual 102, 3) := by decide +kernel
theorem dMD_place_59 : decode cMD_place 59 = .ok (.iadd, 1) := by decide +kernel
theorem dMD_place_60 : decode cMD_place 60 = .ok (.istore 6, 2) := by decide +kernel
theorem dMD_place_62 : decode cMD_place 62 = .ok (.iload_n 2, 1) := by decide +kernel
theorem dMD_place_63 : decode cMD_place 63 = .ok (.ifCond .ne 22, 3) := by decide +kernel
theorem dMD_place_66 : decode cMD_place 66 = .ok (.aload_n 0, 1) := by decide +kernel
theorem dMD_place_67 : decode cMD_place 67 = .ok (.getfield 59, 3) := by decide +kernel
theorem dMD_place_70 : decode cMD_place 70 = .ok (.iconst 0, 1) := by decide +kernel
theorem dMD_place_71 : decode cMD_place 71 = .ok (.iload_n 3, 1) := by decide +kernel
theorem dMD_place_72 : decode cMD_place 72 = .ok (.invokestatic 128, 3) := by decide +kernel
theorem dMD_place_75 : decode cMD_place 75 = .ok (.aload_n 0, 1) := by decide +kernel
theorem dMD_place_76 : decode cMD_place 76 = .ok (.getfield 95, 3) := by decide +kernel
theorem dMD_place_79 : decode cMD_place 79 = .ok (.iload_n 3, 1) := by decide +kernel
theorem dMD_place_80 : decode cMD_place 80 = .ok (.iconst 1, 1) := by decide +kernel
theorem dMD_place_81 : decode cMD_place 81 = .ok (.iadd, 1) := by decide +kernel
theorem dMD_place_82 : decode cMD_place 82 = .ok (.imul, 1) := by decide +kernel
theorem dMD_place_83 : decode cMD_place 83 = .ok (.iadd, 1) := by decide +kernel
theorem dMD_place_84 : decode cMD_place 84 = .ok (.ireturn, 1) := by decide +kernel
theorem dMD_place_85 : decode cMD_place 85 = .ok (.iload_n 2, 1) := by decide +kernel
theorem dMD_place_86 : decode cMD_place 86 = .ok (.iconst 1, 1) := by decide +kernel
theorem dMD_place_87 : decode cMD_place 87 = .ok (.if_icmp .ne 24, 3) := by decide +kernel
theorem dMD_place_90 : decode cMD_place 90 = .ok (.aload_n 0, 1) := by decide +kernel
theorem dMD_place_91 : decode cMD_place 91 = .ok (.getfield 62, 3) := by decide +kernel
theorem dMD_place_94 : decode cMD_place 94 = .ok (.iconst 0, 1) := by decide +kernel
theorem dMD_place_95 : decode cMD_place 95 = .ok (.iload 4, 2) := by decide +kernel
theorem dMD_place_97 : decode cMD_place 97 = .ok (.invokestatic 128, 3) := by decide +kernel
theorem dMD_place_100 : decode cMD_place 100 = .ok (.aload_n 0, 1) := by decide +kernel
theorem dMD_place_101 : decode cMD_place 101 = .ok (.getfield 95, 3) := by decide +kernel
theorem dMD_place_104 : decode cMD_place 104 = .ok (.iload 4, 2) := by decide +kernel
theorem dMD_place_106 : decode cMD_place 106 = .ok (.iconst 1, 1) := by decide +kernel
theorem dMD_place_107 : decode cMD_place 107 = .ok (.iadd, 1) := by decide +kernel
theorem dMD_place_108 : decode cMD_place 108 = .ok (.imul, 1) := by decide +kernel
theorem dMD_place_109 : decode cMD_place 109 = .ok (.iadd, 1) := by decide +kernel
theorem dMD_place_110 : decode cMD_place 110 = .ok (.ireturn, 1) := by decide +kernel
theorem dMD_place_111 : decode cMD_place 111 = .ok (.iload_n 2, 1) := by decide +kernel
theorem dMD_place_112 : decode cMD_place 112 = .ok (.iconst 2, 1) := by decide +kernel
theorem dMD_place_113 : decode cMD_place 113 = .ok (.if_icmp .ne 28, 3) := by decide +kernel
theorem dMD_place_116 : decode cMD_place 116 = .ok (.aload_n 0, 1) := by decide +kernel
theorem dMD_place_117 : decode cMD_place 117 = .ok (.getfield 59, 3) := by decide +kernel
theorem dMD_place_120 : decode cMD_place 120 = .ok (.iload_n 3, 1) := by decide +kernel
theorem dMD_place_121 : decode cMD_place 121 = .ok (.iload 5, 2) := by decide +kernel
theorem dMD_place_123 : decode cMD_place 123 = .ok (.invokestatic 128, 3) := by decide +kernel
theorem dMD_place_126 : decode cMD_place 126 = .ok (.aload_n 0, 1) := by decide +kernel
theorem dMD_place_127 : decode cMD_place 127 = .ok (.getfield 95, 3) := by decide +kernel
theorem dMD_place_130 : decode cMD_place 130 = .ok (.iload 5, 2) := by decide +kernel
theorem dMD_place_132 : decode cMD_place 132 = .ok (.iload_n 3, 1) := by decide +kernel
theorem dMD_place_133 : decode cMD_place 133 = .ok (.isub, 1) := by decide +kernel
theorem dMD_place_134 : decode cMD_place 134 = .ok (.iconst 1, 1) := by decide +kernel
theorem dMD_place_135 : decode cMD_place 135 = .ok (.isub, 1) := by decide +kernel
theorem dMD_place_136 : decode cMD_place 136 = .ok (.imul, 1) := by decide +kernel
theorem dMD_place_137 : decode cMD_place 137 = .ok (.iadd, 1) := by decide +kernel
theorem dMD_place_138 : decode cMD_place 138 = .ok (.goto 27, 3) := by decide +kernel
theorem dMD_place_141 : decode cMD_place 141 = .ok (.aload_n 0, 1) := by decide +kernel
theorem dMD_place_142 : decode cMD_place 142 = .ok (.getfield 62, 3) := by decide +kernel
theorem dMD_place_145 : decode cMD_place 145 = .ok (.iload 4, 2) := by decide +kernel
theorem dMD_place_147 : decode cMD_place 147 = .ok (.iload 6, 2) := by decide +kernel
theorem dMD_place_149 : decode cMD_place 149 = .ok (.invokestatic 128, 3) := by decide +kernel
theorem dMD_place_152 : decode cMD_place 152 = .ok (.aload_n 0, 1) := by decide +kernel
theorem dMD_place_153 : decode cMD_place 153 = .ok (.getfield 95, 3) := by decide +kernel
theorem dMD_place_156 : decode cMD_place 156 = .ok (.iload 6, 2) := by decide +kernel
theorem dMD_place_158 : decode cMD_place 158 = .ok (.iload 4, 2) := by decide +kernel
theorem dMD_place_160 : decode cMD_place 160 = .ok (.isub, 1) := by decide +kernel
theorem dMD_place_161 : decode cMD_place 161 = .ok (.iconst 1, 1) := by decide +kernel
theorem dMD_place_162 : decode cMD_place 162 = .ok (.isub, 1) := by decide +kernel
theorem dMD_place_163 : decode cMD_place 163 = .ok (.imul, 1) := by decide +kernel
theorem dMD_place_164 : decode cMD_place 164 = .ok (.iadd, 1) := by decide +kernel
theorem dMD_place_165 : decode cMD_place 165 = .ok (.ireturn, 1) := by decide +kernel
theorem dMD_room_0 : decode cMD_room 0 = .ok (.iconst 0, 1) := by decide +kernel
theorem dMD_room_1 : decode cMD_room 1 = .ok (.aload_n 0, 1) := by decide +kernel
theorem dMD_room_2 : decode cMD_room 2 = .ok (.getfield 92, 3) := by decide +kernel
theorem dMD_room_5 : decode cMD_room 5 = .ok (.aload_n 0, 1) := by decide +kernel
theorem dMD_room_6 : decode cMD_room 6 = .ok (.getfield 95, 3) := by decide +kernel
theorem dMD_room_9 : decode cMD_room 9 = .ok (.aload_n 0, 1) := by decide +kernel
theorem dMD_room_10 : decode cMD_room 10 = .ok (.invokevirtual 113, 3) := by decide +kernel
theorem dMD_room_13 : decode cMD_room 13 = .ok (.iconst 1, 1) := by decide +kernel
theorem dMD_room_14 : decode cMD_room 14 = .ok (.iadd, 1) := by decide +kernel
theorem dMD_room_15 : decode cMD_room 15 = .ok (.imul, 1) := by decide +kernel
theorem dMD_room_16 : decode cMD_room 16 = .ok (.isub, 1) := by decide +kernel
theorem dMD_room_17 : decode cMD_room 17 = .ok (.invokestatic 121, 3) := by decide +kernel
theorem dMD_room_20 : decode cMD_room 20 = .ok (.ireturn, 1) := by decide +kernel
theorem dMD_row_0 : decode cMD_row 0 = .ok (.aload_n 0, 1) := by decide +kernel
theorem dMD_row_1 : decode cMD_row 1 = .ok (.getfield 7, 3) := by decide +kernel
theorem dMD_row_4 : decode cMD_row 4 = .ok (.iconst 1, 1) := by decide +kernel
theorem dMD_row_5 : decode cMD_row 5 = .ok (.isub, 1) := by decide +kernel
theorem dMD_row_6 : decode cMD_row 6 = .ok (.istore_n 1, 1) := by decide +kernel
theorem dMD_row_7 : decode cMD_row 7 = .ok (.aload_n 0, 1) := by decide +kernel
theorem dMD_row_8 : decode cMD_row 8 = .ok (.getfield 13, 3) := by decide +kernel
theorem dMD_row_11 : decode cMD_row 11 = .ok (.iload_n 1, 1) := by decide +kernel
theorem dMD_row_12 : decode cMD_row 12 = .ok (.iaload, 1) := by decide +kernel
theorem dMD_row_13 : decode cMD_row 13 = .ok (.aload_n 0, 1) := by decide +kernel
theorem dMD_row_14 : decode cMD_row 14 = .ok (.getfield 17, 3) := by decide +kernel
theorem dMD_row_17 : decode cMD_row 17 = .ok (.iload_n 1, 1) := by decide +kernel
theorem dMD_row_18 : decode cMD_row 18 = .ok (.iaload, 1) := by decide +kernel
theorem dMD_row_19 : decode cMD_row 19 = .ok (.iadd, 1) := by decide +kernel
theorem dMD_row_20 : decode cMD_row 20 = .ok (.istore_n 2, 1) := by decide +kernel
theorem dMD_row_21 : decode cMD_row 21 = .ok (.iload_n 2, 1) := by decide +kernel
theorem dMD_row_22 : decode cMD_row 22 = .ok (.bipush 11, 2) := by decide +kernel
theorem dMD_row_24 : decode cMD_row 24 = .ok (.if_icmp .le 5, 3) := by decide +kernel
theorem dMD_row_27 : decode cMD_row 27 = .ok (.iconst (-1), 1) := by decide +kernel
theorem dMD_row_28 : decode cMD_row 28 = .ok (.ireturn, 1) := by decide +kernel
theorem dMD_row_29 : decode cMD_row 29 = .ok (.aload_n 0, 1) := by decide +kernel
theorem dMD_row_30 : decode cMD_row 30 = .ok (.getfield 17, 3) := by decide +kernel
theorem dMD_row_33 : decode cMD_row 33 = .ok (.iload_n 1, 1) := by decide +kernel
theorem dMD_row_34 : decode cMD_row 34 = .ok (.aload_n 0, 1) := by decide +kernel
theorem dMD_row_35 : decode cMD_row 35 = .ok (.getfield 17, 3) := by decide +kernel
theorem dMD_row_38 : decode cMD_row 38 = .ok (.iload_n 1, 1) := by decide +kernel
theorem dMD_row_39 : decode cMD_row 39 = .ok (.iaload, 1) := by decide +kernel
theorem dMD_row_40 : decode cMD_row 40 = .ok (.iconst 1, 1) := by decide +kernel
theorem dMD_row_41 : decode cMD_row 41 = .ok (.iadd, 1) := by decide +kernel
theorem dMD_row_42 : decode cMD_row 42 = .ok (.iastore, 1) := by decide +kernel
theorem dMD_row_43 : decode cMD_row 43 = .ok (.aload_n 0, 1) := by decide +kernel
theorem dMD_row_44 : decode cMD_row 44 = .ok (.iload_n 1, 1) := by decide +kernel
theorem dMD_row_45 : decode cMD_row 45 = .ok (.putfield 50, 3) := by decide +kernel
theorem dMD_row_48 : decode cMD_row 48 = .ok (.aload_n 0, 1) := by decide +kernel
theorem dMD_row_49 : decode cMD_row 49 = .ok (.iload_n 2, 1) := by decide +kernel
theorem dMD_row_50 : decode cMD_row 50 = .ok (.putfield 79, 3) := by decide +kernel
theorem dMD_row_53 : decode cMD_row 53 = .ok (.aload_n 0, 1) := by decide +kernel
theorem dMD_row_54 : decode cMD_row 54 = .ok (.iconst 0, 1) := by decide +kernel
theorem dMD_row_55 : decode cMD_row 55 = .ok (.putfield 82, 3) := by decide +kernel
theorem dMD_row_58 : decode cMD_row 58 = .ok (.iload_n 2, 1) := by decide +kernel
theorem dMD_row_59 : decode cMD_row 59 = .ok (.ireturn, 1) := by decide +kernel
theorem dMD_rows_0 : decode cMD_rows 0 = .ok (.aload_n 0, 1) := by decide +kernel
theorem dMD_rows_1 : decode cMD_rows 1 = .ok (.aload_n 0, 1) := by decide +kernel
theorem dMD_rows_2 : decode cMD_rows 2 = .ok (.getfield 7, 3) := by decide +kernel
theorem dMD_rows_5 : decode cMD_rows 5 = .ok (.iconst 1, 1) := by decide +kernel
theorem dMD_rows_6 : decode cMD_rows 6 = .ok (.isub, 1) := by decide +kernel
theorem dMD_rows_7 : decode cMD_rows 7 = .ok (.invokevirtual 75, 3) := by decide +kernel
theorem dMD_rows_10 : decode cMD_rows 10 = .ok (.ireturn, 1) := by decide +kernel
theorem dMD_share_0 : decode cMD_share 0 = .ok (.iconst 0, 1) := by decide +kernel
theorem dMD_share_1 : decode cMD_share 1 = .ok (.istore 5, 2) := by decide +kernel
theorem dMD_share_3 : decode cMD_share 3 = .ok (.iload_n 3, 1) := by decide +kernel
theorem dMD_share_4 : decode cMD_share 4 = .ok (.istore 6, 2) := by decide +kernel
theorem dMD_share_6 : decode cMD_share 6 = .ok (.iload 6, 2) := by decide +kernel
theorem dMD_share_8 : decode cMD_share 8 = .ok (.iload 4, 2) := by decide +kernel
theorem dMD_share_10 : decode cMD_share 10 = .ok (.if_icmp .ge 21, 3) := by decide +kernel
theorem dMD_share_13 : decode cMD_share 13 = .ok (.iload 5, 2) := by decide +kernel
theorem dMD_share_15 : decode cMD_share 15 = .ok (.aload_n 0, 1) := by decide +kernel
theorem dMD_share_16 : decode cMD_share 16 = .ok (.getfield 69, 3) := by decide +kernel
theorem dMD_share_19 : decode cMD_share 19 = .ok (.iload 6, 2) := by decide +kernel
theorem dMD_share_21 : decode cMD_share 21 = .ok (.iaload, 1) := by decide +kernel
theorem dMD_share_22 : decode cMD_share 22 = .ok (.iadd, 1) := by decide +kernel
theorem dMD_share_23 : decode cMD_share 23 = .ok (.istore 5, 2) := by decide +kernel
theorem dMD_share_25 : decode cMD_share 25 = .ok (.iinc 6 1, 3) := by decide +kernel
theorem dMD_share_28 : decode cMD_share 28 = .ok (.goto (-22), 3) := by decide +kernel
theorem dMD_share_31 : decode cMD_share 31 = .ok (.iload_n 1, 1) := by decide +kernel
theorem dMD_share_32 : decode cMD_share 32 = .ok (.istore 6, 2) := by decide +kernel
theorem dMD_share_34 : decode cMD_share 34 = .ok (.iload_n 3, 1) := by decide +kernel
theorem dMD_share_35 : decode cMD_share 35 = .ok (.istore 7, 2) := by decide +kernel
theorem dMD_share_37 : decode cMD_share 37 = .ok (.iload 7, 2) := by decide +kernel
theorem dMD_share_39 : decode cMD_share 39 = .ok (.iload 4, 2) := by decide +kernel
theorem dMD_share_41 : decode cMD_share 41 = .ok (.if_icmp .ge 59, 3) := by decide +kernel
theorem dMD_share_44 : decode cMD_share 44 = .ok (.iload 5, 2) := by decide +kernel
theorem dMD_share_46 : decode cMD_share 46 = .ok (.ifCond .ne 12, 3) := by decide +kernel
theorem dMD_share_49 : decode cMD_share 49 = .ok (.iload_n 1, 1) := by decide +kernel
theorem dMD_share_50 : decode cMD_share 50 = .ok (.iload 4, 2) := by decide +kernel
theorem dMD_share_52 : decode cMD_share 52 = .ok (.iload_n 3, 1) := by decide +kernel
theorem dMD_share_53 : decode cMD_share 53 = .ok (.isub, 1) := by decide +kernel
theorem dMD_share_54 : decode cMD_share 54 = .ok (.idiv, 1) := by decide +kernel
theorem dMD_share_55 : decode cMD_share 55 = .ok (.goto 19, 3) := by decide +kernel
theorem dMD_share_58 : decode cMD_share 58 = .ok (.iload_n 1, 1) := by decide +kernel
theorem dMD_share_59 : decode cMD_share 59 = .ok (.i2l, 1) := by decide +kernel
theorem dMD_share_60 : decode cMD_share 60 = .ok (.aload_n 0, 1) := by decide +kernel
theorem dMD_share_61 : decode cMD_share 61 = .ok (.getfield 69, 3) := by decide +kernel
theorem dMD_share_64 : decode cMD_share 64 = .ok (.iload 7, 2) := by decide +kernel
theorem dMD_share_66 : decode cMD_share 66 = .ok (.iaload, 1) := by decide +kernel
theorem dMD_share_67 : decode cMD_share 67 = .ok (.i2l, 1) := by decide +kernel
theorem dMD_share_68 : decode cMD_share 68 = .ok (.lmul, 1) := by decide +kernel
theorem dMD_share_69 : decode cMD_share 69 = .ok (.iload 5, 2) := by decide +kernel
theorem dMD_share_71 : decode cMD_share 71 = .ok (.i2l, 1) := by decide +kernel
theorem dMD_share_72 : decode cMD_share 72 = .ok (.ldiv, 1) := by decide +kernel
theorem dMD_share_73 : decode cMD_share 73 = .ok (.l2i, 1) := by decide +kernel
theorem dMD_share_74 : decode cMD_share 74 = .ok (.istore 8, 2) := by decide +kernel
theorem dMD_share_76 : decode cMD_share 76 = .ok (.aload_n 2, 1) := by decide +kernel
theorem dMD_share_77 : decode cMD_share 77 = .ok (.iload 7, 2) := by decide +kernel
theorem dMD_share_79 : decode cMD_share 79 = .ok (.aload_n 2, 1) := by decide +kernel
theorem dMD_share_80 : decode cMD_share 80 = .ok (.iload 7, 2) := by decide +kernel
theorem dMD_share_82 : decode cMD_share 82 = .ok (.iaload, 1) := by decide +kernel
theorem dMD_share_83 : decode cMD_share 83 = .ok (.iload 8, 2) := by decide +kernel
theorem dMD_share_85 : decode cMD_share 85 = .ok (.iadd, 1) := by decide +kernel
theorem dMD_share_86 : decode cMD_share 86 = .ok (.iastore, 1) := by decide +kernel
theorem dMD_share_87 : decode cMD_share 87 = .ok (.iload 6, 2) := by decide +kernel
theorem dMD_share_89 : decode cMD_share 89 = .ok (.iload 8, 2) := by decide +kernel
theorem dMD_share_91 : decode cMD_share 91 = .ok (.isub, 1) := by decide +kernel
theorem dMD_share_92 : decode cMD_share 92 = .ok (.istore 6, 2) := by decide +kernel
theorem dMD_share_94 : decode cMD_share 94 = .ok (.iinc 7 1, 3) := by decide +kernel
theorem dMD_share_97 : decode cMD_share 97 = .ok (.goto (-60), 3) := by decide +kernel
theorem dMD_share_100 : decode cMD_share 100 = .ok (.iload_n 3, 1) := by decide +kernel
theorem dMD_share_101 : decode cMD_share 101 = .ok (.istore 7, 2) := by decide +kernel
theorem dMD_share_103 : decode cMD_share 103 = .ok (.iload 7, 2) := by decide +kernel
theorem dMD_share_105 : decode cMD_share 105 = .ok (.iload 4, 2) := by decide +kernel
theorem dMD_share_107 : decode cMD_share 107 = .ok (.if_icmp .ge 30, 3) := by decide +kernel
theorem dMD_share_110 : decode cMD_share 110 = .ok (.iload 6, 2) := by decide +kernel
theorem dMD_share_112 : decode cMD_share 112 = .ok (.ifCond .le 25, 3) := by decide +kernel
theorem dMD_share_115 : decode cMD_share 115 = .ok (.aload_n 2, 1) := by decide +kernel
theorem dMD_share_116 : decode cMD_share 116 = .ok (.iload 7, 2) := by decide +kernel
theorem dMD_share_118 : decode cMD_share 118 = .ok (.aload_n 2, 1) := by decide +kernel
theorem dMD_share_119 : decode cMD_share 119 = .ok (.iload 7, 2) := by decide +kernel
theorem dMD_share_121 : decode cMD_share 121 = .ok (.iaload, 1) := by decide +kernel
theorem dMD_share_122 : decode cMD_share 122 = .ok (.iconst 1, 1) := by decide +kernel
theorem dMD_share_123 : decode cMD_share 123 = .ok (.iadd, 1) := by decide +kernel
theorem dMD_share_124 : decode cMD_share 124 = .ok (.iastore, 1) := by decide +kernel
theorem dMD_share_125 : decode cMD_share 125 = .ok (.iload 6, 2) := by decide +kernel
theorem dMD_share_127 : decode cMD_share 127 = .ok (.iconst 1, 1) := by decide +kernel
theorem dMD_share_128 : decode cMD_share 128 = .ok (.isub, 1) := by decide +kernel
theorem dMD_share_129 : decode cMD_share 129 = .ok (.istore 6, 2) := by decide +kernel
theorem dMD_share_131 : decode cMD_share 131 = .ok (.iinc 7 1, 3) := by decide +kernel
theorem dMD_share_134 : decode cMD_share 134 = .ok (.goto (-31), 3) := by decide +kernel
theorem dMD_share_137 : decode cMD_share 137 = .ok (.return_, 1) := by decide +kernel
theorem dMD_size_0 : decode cMD_size 0 = .ok (.iload_n 1, 1) := by decide +kernel
theorem dMD_size_1 : decode cMD_size 1 = .ok (.ifCond .eq 10, 3) := by decide +kernel
theorem dMD_size_4 : decode cMD_size 4 = .ok (.aload_n 0, 1) := by decide +kernel
theorem dMD_size_5 : decode cMD_size 5 = .ok (.invokevirtual 117, 3) := by decide +kernel
theorem dMD_size_8 : decode cMD_size 8 = .ok (.goto 7, 3) := by decide +kernel
theorem dMD_size_11 : decode cMD_size 11 = .ok (.aload_n 0, 1) := by decide +kernel
theorem dMD_size_12 : decode cMD_size 12 = .ok (.invokevirtual 113, 3) := by decide +kernel
theorem dMD_size_15 : decode cMD_size 15 = .ok (.istore_n 2, 1) := by decide +kernel
theorem dMD_size_16 : decode cMD_size 16 = .ok (.aload_n 0, 1) := by decide +kernel
theorem dMD_size_17 : decode cMD_size 17 = .ok (.invokevirtual 149, 3) := by decide +kernel
theorem dMD_size_20 : decode cMD_size 20 = .ok (.aload_n 0, 1) := by decide +kernel
theorem dMD_size_21 : decode cMD_size 21 = .ok (.invokevirtual 152, 3) := by decide +kernel
theorem dMD_size_24 : decode cMD_size 24 = .ok (.iload_n 2, 1) := by decide +kernel
theorem dMD_size_25 : decode cMD_size 25 = .ok (.ifCond .ne 7, 3) := by decide +kernel
theorem dMD_size_28 : decode cMD_size 28 = .ok (.iconst 0, 1) := by decide +kernel
theorem dMD_size_29 : decode cMD_size 29 = .ok (.goto 37, 3) := by decide +kernel
theorem dMD_size_32 : decode cMD_size 32 = .ok (.aload_n 0, 1) := by decide +kernel
theorem dMD_size_33 : decode cMD_size 33 = .ok (.getfield 95, 3) := by decide +kernel
theorem dMD_size_36 : decode cMD_size 36 = .ok (.iload_n 2, 1) := by decide +kernel
theorem dMD_size_37 : decode cMD_size 37 = .ok (.iconst 1, 1) := by decide +kernel
theorem dMD_size_38 : decode cMD_size 38 = .ok (.iadd, 1) := by decide +kernel
theorem dMD_size_39 : decode cMD_size 39 = .ok (.imul, 1) := by decide +kernel
theorem dMD_size_40 : decode cMD_size 40 = .ok (.iload_n 1, 1) := by decide +kernel
theorem dMD_size_41 : decode cMD_size 41 = .ok (.ifCond .eq 15, 3) := by decide +kernel
theorem dMD_size_44 : decode cMD_size 44 = .ok (.aload_n 0, 1) := by decide +kernel
theorem dMD_size_45 : decode cMD_size 45 = .ok (.getfield 62, 3) := by decide +kernel
theorem dMD_size_48 : decode cMD_size 48 = .ok (.iconst 0, 1) := by decide +kernel
theorem dMD_size_49 : decode cMD_size 49 = .ok (.iload_n 2, 1) := by decide +kernel
theorem dMD_size_50 : decode cMD_size 50 = .ok (.invokestatic 128, 3) := by decide +kernel
theorem dMD_size_53 : decode cMD_size 53 = .ok (.goto 12, 3) := by decide +kernel
theorem dMD_size_56 : decode cMD_size 56 = .ok (.aload_n 0, 1) := by decide +kernel
theorem dMD_size_57 : decode cMD_size 57 = .ok (.getfield 59, 3) := by decide +kernel
theorem dMD_size_60 : decode cMD_size 60 = .ok (.iconst 0, 1) := by decide +kernel
theorem dMD_size_61 : decode cMD_size 61 = .ok (.iload_n 2, 1) := by decide +kernel
theorem dMD_size_62 : decode cMD_size 62 = .ok (.invokestatic 128, 3) := by decide +kernel
theorem dMD_size_65 : decode cMD_size 65 = .ok (.iadd, 1) := by decide +kernel
theorem dMD_size_66 : decode cMD_size 66 = .ok (.ireturn, 1) := by decide +kernel
theorem dMD_slot_0 : decode cMD_slot 0 = .ok (.iconst (-1), 1) := by decide +kernel
theorem dMD_slot_1 : decode cMD_slot 1 = .ok (.istore_n 3, 1) := by decide +kernel
theorem dMD_slot_2 : decode cMD_slot 2 = .ok (.aload_n 0, 1) := by decide +kernel
theorem dMD_slot_3 : decode cMD_slot 3 = .ok (.getfield 72, 3) := by decide +kernel
theorem dMD_slot_6 : decode cMD_slot 6 = .ok (.iconst 1, 1) := by decide +kernel
theorem dMD_slot_7 : decode cMD_slot 7 = .ok (.isub, 1) := by decide +kernel
theorem dMD_slot_8 : decode cMD_slot 8 = .ok (.istore 4, 2) := by decide +kernel
theorem dMD_slot_10 : decode cMD_slot 10 = .ok (.iload 4, 2) := by decide +kernel
theorem dMD_slot_12 : decode cMD_slot 12 = .ok (.ifCond .lt 27, 3) := by decide +kernel
theorem dMD_slot_15 : decode cMD_slot 15 = .ok (.aload_n 0, 1) := by decide +kernel
theorem dMD_slot_16 : decode cMD_slot 16 = .ok (.iload 4, 2) := by decide +kernel
theorem dMD_slot_18 : decode cMD_slot 18 = .ok (.iload_n 1, 1) := by decide +kernel
theorem dMD_slot_19 : decode cMD_slot 19 = .ok (.iload_n 2, 1) := by decide +kernel
theorem dMD_slot_20 : decode cMD_slot 20 = .ok (.invokevirtual 105, 3) := by decide +kernel
theorem dMD_slot_23 : decode cMD_slot 23 = .ok (.ifCond .eq 8, 3) := by decide +kernel
theorem dMD_slot_26 : decode cMD_slot 26 = .ok (.iload 4, 2) := by decide +kernel
theorem dMD_slot_28 : decode cMD_slot 28 = .ok (.goto 4, 3) := by decide +kernel
theorem dMD_slot_31 : decode cMD_slot 31 = .ok (.iload_n 3, 1) := by decide +kernel
theorem dMD_slot_32 : decode cMD_slot 32 = .ok (.istore_n 3, 1) := by decide +kernel
theorem dMD_slot_33 : decode cMD_slot 33 = .ok (.iinc 4 (-1), 3) := by decide +kernel
theorem dMD_slot_36 : decode cMD_slot 36 = .ok (.goto (-26), 3) := by decide +kernel
theorem dMD_slot_39 : decode cMD_slot 39 = .ok (.iload_n 3, 1) := by decide +kernel
theorem dMD_slot_40 : decode cMD_slot 40 = .ok (.ireturn, 1) := by decide +kernel
theorem dMD_span_0 : decode cMD_span 0 = .ok (.aload_n 0, 1) := by decide +kernel
theorem dMD_span_1 : decode cMD_span 1 = .ok (.iload_n 1, 1) := by decide +kernel
theorem dMD_span_2 : decode cMD_span 2 = .ok (.invokevirtual 89, 3) := by decide +kernel
theorem dMD_span_5 : decode cMD_span 5 = .ok (.ifCond .eq 42, 3) := by decide +kernel
theorem dMD_span_8 : decode cMD_span 8 = .ok (.aload_n 0, 1) := by decide +kernel
theorem dMD_span_9 : decode cMD_span 9 = .ok (.getfield 20, 3) := by decide +kernel
theorem dMD_span_12 : decode cMD_span 12 = .ok (.iload_n 1, 1) := by decide +kernel
theorem dMD_span_13 : decode cMD_span 13 = .ok (.iaload, 1) := by decide +kernel
theorem dMD_span_14 : decode cMD_span 14 = .ok (.bipush 100, 2) := by decide +kernel
theorem dMD_span_16 : decode cMD_span 16 = .ok (.aload_n 0, 1) := by decide +kernel
theorem dMD_span_17 : decode cMD_span 17 = .ok (.getfield 23, 3) := by decide +kernel
theorem dMD_span_20 : decode cMD_span 20 = .ok (.iload_n 1, 1) := by decide +kernel
theorem dMD_span_21 : decode cMD_span 21 = .ok (.iaload, 1) := by decide +kernel
theorem dMD_span_22 : decode cMD_span 22 = .ok (.imul, 1) := by decide +kernel
theorem dMD_span_23 : decode cMD_span 23 = .ok (.iadd, 1) := by decide +kernel
theorem dMD_span_24 : decode cMD_span 24 = .ok (.sipush 10000, 3) := by decide +kernel
theorem dMD_span_27 : decode cMD_span 27 = .ok (.aload_n 0, 1) := by decide +kernel
theorem dMD_span_28 : decode cMD_span 28 = .ok (.getfield 26, 3) := by decide +kernel
theorem dMD_span_31 : decode cMD_span 31 = .ok (.iload_n 1, 1) := by decide +kernel
theorem dMD_span_32 : decode cMD_span 32 = .ok (.iaload, 1) := by decide +kernel
theorem dMD_span_33 : decode cMD_span 33 = .ok (.imul, 1) := by decide +kernel
theorem dMD_span_34 : decode cMD_span 34 = .ok (.iadd, 1) := by decide +kernel
theorem dMD_span_35 : decode cMD_span 35 = .ok (.ldc 120, 2) := by decide +kernel
theorem dMD_span_37 : decode cMD_span 37 = .ok (.aload_n 0, 1) := by decide +kernel
theorem dMD_span_38 : decode cMD_span 38 = .ok (.iload_n 1, 1) := by decide +kernel
theorem dMD_span_39 : decode cMD_span 39 = .ok (.invokevirtual 102, 3) := by decide +kernel
theorem dMD_span_42 : decode cMD_span 42 = .ok (.imul, 1) := by decide +kernel
theorem dMD_span_43 : decode cMD_span 43 = .ok (.iadd, 1) := by decide +kernel
theorem dMD_span_44 : decode cMD_span 44 = .ok (.goto 4, 3) := by decide +kernel
theorem dMD_span_47 : decode cMD_span 47 = .ok (.iconst (-1), 1) := by decide +kernel
theorem dMD_span_48 : decode cMD_span 48 = .ok (.ireturn, 1) := by decide +kernel
theorem dMD_stronger_0 : decode cMD_stronger 0 = .ok (.iload_n 1, 1) := by decide +kernel
theorem dMD_stronger_1 : decode cMD_stronger 1 = .ok (.ifCond .lt 7, 3) := by decide +kernel
theorem dMD_stronger_4 : decode cMD_stronger 4 = .ok (.iload_n 2, 1) := by decide +kernel
theorem dMD_stronger_5 : decode cMD_stronger 5 = .ok (.ifCond .ge 13, 3) := by decide +kernel
theorem dMD_stronger_8 : decode cMD_stronger 8 = .ok (.iload_n 1, 1) := by decide +kernel
theorem dMD_stronger_9 : decode cMD_stronger 9 = .ok (.ifCond .ge 7, 3) := by decide +kernel
theorem dMD_stronger_12 : decode cMD_stronger 12 = .ok (.iload_n 2, 1) := by decide +kernel
theorem dMD_stronger_13 : decode cMD_stronger 13 = .ok (.goto 4, 3) := by decide +kernel
theorem dMD_stronger_16 : decode cMD_stronger 16 = .ok (.iload_n 1, 1) := by decide +kernel
theorem dMD_stronger_17 : decode cMD_stronger 17 = .ok (.ireturn, 1) := by decide +kernel
theorem dMD_stronger_18 : decode cMD_stronger 18 = .ok (.aload_n 0, 1) := by decide +kernel
theorem dMD_stronger_19 : decode cMD_stronger 19 = .ok (.getfield 47, 3) := by decide +kernel
theorem dMD_stronger_22 : decode cMD_stronger 22 = .ok (.iload_n 1, 1) := by decide +kernel
theorem dMD_stronger_23 : decode cMD_stronger 23 = .ok (.iaload, 1) := by decide +kernel
