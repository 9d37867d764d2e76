theorem dMD_fixWidths_190 : decode cMD_fixWidths 190 = .ok (.getfield 65, 3) := by decide +kernel
theorem dMD_fixWidths_193 : decode cMD_fixWidths 193 = .ok (.iload_n 3, 1) := by decide +kernel
theorem dMD_fixWidths_194 : decode cMD_fixWidths 194 = .ok (.baload, 1) := by decide +kernel
theorem dMD_fixWidths_195 : decode cMD_fixWidths 195 = .ok (.ifCond .eq 7, 3) := by decide +kernel
theorem dMD_fixWidths_198 : decode cMD_fixWidths 198 = .ok (.iload_n 2, 1) := by decide +kernel
theorem dMD_fixWidths_199 : decode cMD_fixWidths 199 = .ok (.goto 6, 3) := by decide +kernel
theorem dMD_fixWidths_202 : decode cMD_fixWidths 202 = .ok (.iload_n 2, 1) := by decide +kernel
theorem dMD_fixWidths_203 : decode cMD_fixWidths 203 = .ok (.iconst 1, 1) := by decide +kernel
theorem dMD_fixWidths_204 : decode cMD_fixWidths 204 = .ok (.iadd, 1) := by decide +kernel
theorem dMD_fixWidths_205 : decode cMD_fixWidths 205 = .ok (.istore_n 2, 1) := by decide +kernel
theorem dMD_fixWidths_206 : decode cMD_fixWidths 206 = .ok (.iinc 3 1, 3) := by decide +kernel
theorem dMD_fixWidths_209 : decode cMD_fixWidths 209 = .ok (.goto (-25), 3) := by decide +kernel
theorem dMD_fixWidths_212 : decode cMD_fixWidths 212 = .ok (.iconst 0, 1) := by decide +kernel
theorem dMD_fixWidths_213 : decode cMD_fixWidths 213 = .ok (.aload_n 0, 1) := by decide +kernel
theorem dMD_fixWidths_214 : decode cMD_fixWidths 214 = .ok (.invokevirtual 140, 3) := by decide +kernel
theorem dMD_fixWidths_217 : decode cMD_fixWidths 217 = .ok (.aload_n 0, 1) := by decide +kernel
theorem dMD_fixWidths_218 : decode cMD_fixWidths 218 = .ok (.getfield 59, 3) := by decide +kernel
theorem dMD_fixWidths_221 : decode cMD_fixWidths 221 = .ok (.iconst 0, 1) := by decide +kernel
theorem dMD_fixWidths_222 : decode cMD_fixWidths 222 = .ok (.iload_n 1, 1) := by decide +kernel
theorem dMD_fixWidths_223 : decode cMD_fixWidths 223 = .ok (.invokestatic 128, 3) := by decide +kernel
theorem dMD_fixWidths_226 : decode cMD_fixWidths 226 = .ok (.isub, 1) := by decide +kernel
theorem dMD_fixWidths_227 : decode cMD_fixWidths 227 = .ok (.invokestatic 121, 3) := by decide +kernel
theorem dMD_fixWidths_230 : decode cMD_fixWidths 230 = .ok (.istore_n 3, 1) := by decide +kernel
theorem dMD_fixWidths_231 : decode cMD_fixWidths 231 = .ok (.iconst 0, 1) := by decide +kernel
theorem dMD_fixWidths_232 : decode cMD_fixWidths 232 = .ok (.istore 4, 2) := by decide +kernel
theorem dMD_fixWidths_234 : decode cMD_fixWidths 234 = .ok (.iconst 0, 1) := by decide +kernel
theorem dMD_fixWidths_235 : decode cMD_fixWidths 235 = .ok (.istore 5, 2) := by decide +kernel
theorem dMD_fixWidths_237 : decode cMD_fixWidths 237 = .ok (.iload 5, 2) := by decide +kernel
theorem dMD_fixWidths_239 : decode cMD_fixWidths 239 = .ok (.iload_n 1, 1) := by decide +kernel
theorem dMD_fixWidths_240 : decode cMD_fixWidths 240 = .ok (.if_icmp .ge 49, 3) := by decide +kernel
theorem dMD_fixWidths_243 : decode cMD_fixWidths 243 = .ok (.aload_n 0, 1) := by decide +kernel
theorem dMD_fixWidths_244 : decode cMD_fixWidths 244 = .ok (.getfield 65, 3) := by decide +kernel
theorem dMD_fixWidths_247 : decode cMD_fixWidths 247 = .ok (.iload 5, 2) := by decide +kernel
theorem dMD_fixWidths_249 : decode cMD_fixWidths 249 = .ok (.baload, 1) := by decide +kernel
theorem dMD_fixWidths_250 : decode cMD_fixWidths 250 = .ok (.ifCond .ne 33, 3) := by decide +kernel
theorem dMD_fixWidths_253 : decode cMD_fixWidths 253 = .ok (.aload_n 0, 1) := by decide +kernel
theorem dMD_fixWidths_254 : decode cMD_fixWidths 254 = .ok (.getfield 59, 3) := by decide +kernel
theorem dMD_fixWidths_257 : decode cMD_fixWidths 257 = .ok (.iload 5, 2) := by decide +kernel
theorem dMD_fixWidths_259 : decode cMD_fixWidths 259 = .ok (.iload_n 3, 1) := by decide +kernel
theorem dMD_fixWidths_260 : decode cMD_fixWidths 260 = .ok (.iload_n 2, 1) := by decide +kernel
theorem dMD_fixWidths_261 : decode cMD_fixWidths 261 = .ok (.idiv, 1) := by decide +kernel
theorem dMD_fixWidths_262 : decode cMD_fixWidths 262 = .ok (.iload 4, 2) := by decide +kernel
theorem dMD_fixWidths_264 : decode cMD_fixWidths 264 = .ok (.iload_n 3, 1) := by decide +kernel
theorem dMD_fixWidths_265 : decode cMD_fixWidths 265 = .ok (.iload_n 2, 1) := by decide +kernel
theorem dMD_fixWidths_266 : decode cMD_fixWidths 266 = .ok (.irem, 1) := by decide +kernel
theorem dMD_fixWidths_267 : decode cMD_fixWidths 267 = .ok (.if_icmp .ge 7, 3) := by decide +kernel
theorem dMD_fixWidths_270 : decode cMD_fixWidths 270 = .ok (.iconst 1, 1) := by decide +kernel
theorem dMD_fixWidths_271 : decode cMD_fixWidths 271 = .ok (.goto 4, 3) := by decide +kernel
theorem dMD_fixWidths_274 : decode cMD_fixWidths 274 = .ok (.iconst 0, 1) := by decide +kernel
theorem dMD_fixWidths_275 : decode cMD_fixWidths 275 = .ok (.iadd, 1) := by decide +kernel
theorem dMD_fixWidths_276 : decode cMD_fixWidths 276 = .ok (.iastore, 1) := by decide +kernel
theorem dMD_fixWidths_277 : decode cMD_fixWidths 277 = .ok (.iload 4, 2) := by decide +kernel
theorem dMD_fixWidths_279 : decode cMD_fixWidths 279 = .ok (.iconst 1, 1) := by decide +kernel
theorem dMD_fixWidths_280 : decode cMD_fixWidths 280 = .ok (.iadd, 1) := by decide +kernel
theorem dMD_fixWidths_281 : decode cMD_fixWidths 281 = .ok (.istore 4, 2) := by decide +kernel
theorem dMD_fixWidths_283 : decode cMD_fixWidths 283 = .ok (.iinc 5 1, 3) := by decide +kernel
theorem dMD_fixWidths_286 : decode cMD_fixWidths 286 = .ok (.goto (-49), 3) := by decide +kernel
theorem dMD_fixWidths_289 : decode cMD_fixWidths 289 = .ok (.return_, 1) := by decide +kernel
theorem dMD_greater_0 : decode cMD_greater 0 = .ok (.iload_n 0, 1) := by decide +kernel
theorem dMD_greater_1 : decode cMD_greater 1 = .ok (.iload_n 1, 1) := by decide +kernel
theorem dMD_greater_2 : decode cMD_greater 2 = .ok (.if_icmp .le 7, 3) := by decide +kernel
theorem dMD_greater_5 : decode cMD_greater 5 = .ok (.iload_n 0, 1) := by decide +kernel
theorem dMD_greater_6 : decode cMD_greater 6 = .ok (.goto 4, 3) := by decide +kernel
theorem dMD_greater_9 : decode cMD_greater 9 = .ok (.iload_n 1, 1) := by decide +kernel
theorem dMD_greater_10 : decode cMD_greater 10 = .ok (.ireturn, 1) := by decide +kernel
theorem dMD_group_0 : decode cMD_group 0 = .ok (.aload_n 0, 1) := by decide +kernel
theorem dMD_group_1 : decode cMD_group 1 = .ok (.getfield 7, 3) := by decide +kernel
theorem dMD_group_4 : decode cMD_group 4 = .ok (.bipush 8, 2) := by decide +kernel
theorem dMD_group_6 : decode cMD_group 6 = .ok (.if_icmp .ne 5, 3) := by decide +kernel
theorem dMD_group_9 : decode cMD_group 9 = .ok (.iconst (-1), 1) := by decide +kernel
theorem dMD_group_10 : decode cMD_group 10 = .ok (.ireturn, 1) := by decide +kernel
theorem dMD_group_11 : decode cMD_group 11 = .ok (.aload_n 0, 1) := by decide +kernel
theorem dMD_group_12 : decode cMD_group 12 = .ok (.getfield 13, 3) := by decide +kernel
theorem dMD_group_15 : decode cMD_group 15 = .ok (.aload_n 0, 1) := by decide +kernel
theorem dMD_group_16 : decode cMD_group 16 = .ok (.getfield 7, 3) := by decide +kernel
theorem dMD_group_19 : decode cMD_group 19 = .ok (.aload_n 0, 1) := by decide +kernel
theorem dMD_group_20 : decode cMD_group 20 = .ok (.aload_n 0, 1) := by decide +kernel
theorem dMD_group_21 : decode cMD_group 21 = .ok (.getfield 7, 3) := by decide +kernel
theorem dMD_group_24 : decode cMD_group 24 = .ok (.iconst 1, 1) := by decide +kernel
theorem dMD_group_25 : decode cMD_group 25 = .ok (.isub, 1) := by decide +kernel
theorem dMD_group_26 : decode cMD_group 26 = .ok (.invokevirtual 75, 3) := by decide +kernel
theorem dMD_group_29 : decode cMD_group 29 = .ok (.iastore, 1) := by decide +kernel
theorem dMD_group_30 : decode cMD_group 30 = .ok (.aload_n 0, 1) := by decide +kernel
theorem dMD_group_31 : decode cMD_group 31 = .ok (.getfield 17, 3) := by decide +kernel
theorem dMD_group_34 : decode cMD_group 34 = .ok (.aload_n 0, 1) := by decide +kernel
theorem dMD_group_35 : decode cMD_group 35 = .ok (.getfield 7, 3) := by decide +kernel
theorem dMD_group_38 : decode cMD_group 38 = .ok (.iconst 0, 1) := by decide +kernel
theorem dMD_group_39 : decode cMD_group 39 = .ok (.iastore, 1) := by decide +kernel
theorem dMD_group_40 : decode cMD_group 40 = .ok (.aload_n 0, 1) := by decide +kernel
theorem dMD_group_41 : decode cMD_group 41 = .ok (.aload_n 0, 1) := by decide +kernel
theorem dMD_group_42 : decode cMD_group 42 = .ok (.getfield 7, 3) := by decide +kernel
theorem dMD_group_45 : decode cMD_group 45 = .ok (.iconst 1, 1) := by decide +kernel
theorem dMD_group_46 : decode cMD_group 46 = .ok (.iadd, 1) := by decide +kernel
theorem dMD_group_47 : decode cMD_group 47 = .ok (.putfield 7, 3) := by decide +kernel
theorem dMD_group_50 : decode cMD_group 50 = .ok (.aload_n 0, 1) := by decide +kernel
theorem dMD_group_51 : decode cMD_group 51 = .ok (.getfield 7, 3) := by decide +kernel
theorem dMD_group_54 : decode cMD_group 54 = .ok (.ireturn, 1) := by decide +kernel
theorem dMD_high_0 : decode cMD_high 0 = .ok (.iload_n 1, 1) := by decide +kernel
theorem dMD_high_1 : decode cMD_high 1 = .ok (.ifCond .lt 11, 3) := by decide +kernel
theorem dMD_high_4 : decode cMD_high 4 = .ok (.iload_n 1, 1) := by decide +kernel
theorem dMD_high_5 : decode cMD_high 5 = .ok (.aload_n 0, 1) := by decide +kernel
theorem dMD_high_6 : decode cMD_high 6 = .ok (.invokevirtual 117, 3) := by decide +kernel
theorem dMD_high_9 : decode cMD_high 9 = .ok (.if_icmp .lt 5, 3) := by decide +kernel
theorem dMD_high_12 : decode cMD_high 12 = .ok (.iconst (-1), 1) := by decide +kernel
theorem dMD_high_13 : decode cMD_high 13 = .ok (.ireturn, 1) := by decide +kernel
theorem dMD_high_14 : decode cMD_high 14 = .ok (.aload_n 0, 1) := by decide +kernel
theorem dMD_high_15 : decode cMD_high 15 = .ok (.invokevirtual 152, 3) := by decide +kernel
theorem dMD_high_18 : decode cMD_high 18 = .ok (.aload_n 0, 1) := by decide +kernel
theorem dMD_high_19 : decode cMD_high 19 = .ok (.getfield 62, 3) := by decide +kernel
theorem dMD_high_22 : decode cMD_high 22 = .ok (.iload_n 1, 1) := by decide +kernel
theorem dMD_high_23 : decode cMD_high 23 = .ok (.iaload, 1) := by decide +kernel
theorem dMD_high_24 : decode cMD_high 24 = .ok (.ireturn, 1) := by decide +kernel
theorem dMD_howMany_0 : decode cMD_howMany 0 = .ok (.iconst 0, 1) := by decide +kernel
theorem dMD_howMany_1 : decode cMD_howMany 1 = .ok (.istore_n 3, 1) := by decide +kernel
theorem dMD_howMany_2 : decode cMD_howMany 2 = .ok (.iconst 0, 1) := by decide +kernel
theorem dMD_howMany_3 : decode cMD_howMany 3 = .ok (.istore 4, 2) := by decide +kernel
theorem dMD_howMany_5 : decode cMD_howMany 5 = .ok (.iload 4, 2) := by decide +kernel
theorem dMD_howMany_7 : decode cMD_howMany 7 = .ok (.aload_n 0, 1) := by decide +kernel
theorem dMD_howMany_8 : decode cMD_howMany 8 = .ok (.getfield 72, 3) := by decide +kernel
theorem dMD_howMany_11 : decode cMD_howMany 11 = .ok (.if_icmp .ge 28, 3) := by decide +kernel
theorem dMD_howMany_14 : decode cMD_howMany 14 = .ok (.aload_n 0, 1) := by decide +kernel
theorem dMD_howMany_15 : decode cMD_howMany 15 = .ok (.iload 4, 2) := by decide +kernel
theorem dMD_howMany_17 : decode cMD_howMany 17 = .ok (.iload_n 1, 1) := by decide +kernel
theorem dMD_howMany_18 : decode cMD_howMany 18 = .ok (.iload_n 2, 1) := by decide +kernel
theorem dMD_howMany_19 : decode cMD_howMany 19 = .ok (.invokevirtual 105, 3) := by decide +kernel
theorem dMD_howMany_22 : decode cMD_howMany 22 = .ok (.ifCond .eq 9, 3) := by decide +kernel
theorem dMD_howMany_25 : decode cMD_howMany 25 = .ok (.iload_n 3, 1) := by decide +kernel
theorem dMD_howMany_26 : decode cMD_howMany 26 = .ok (.iconst 1, 1) := by decide +kernel
theorem dMD_howMany_27 : decode cMD_howMany 27 = .ok (.iadd, 1) := by decide +kernel
theorem dMD_howMany_28 : decode cMD_howMany 28 = .ok (.goto 4, 3) := by decide +kernel
theorem dMD_howMany_31 : decode cMD_howMany 31 = .ok (.iload_n 3, 1) := by decide +kernel
theorem dMD_howMany_32 : decode cMD_howMany 32 = .ok (.istore_n 3, 1) := by decide +kernel
theorem dMD_howMany_33 : decode cMD_howMany 33 = .ok (.iinc 4 1, 3) := by decide +kernel
theorem dMD_howMany_36 : decode cMD_howMany 36 = .ok (.goto (-31), 3) := by decide +kernel
theorem dMD_howMany_39 : decode cMD_howMany 39 = .ok (.iload_n 3, 1) := by decide +kernel
theorem dMD_howMany_40 : decode cMD_howMany 40 = .ok (.ireturn, 1) := by decide +kernel
theorem dMD_init_0 : decode cMD_init 0 = .ok (.aload_n 0, 1) := by decide +kernel
theorem dMD_init_1 : decode cMD_init 1 = .ok (.invokespecial 1, 3) := by decide +kernel
theorem dMD_init_4 : decode cMD_init 4 = .ok (.aload_n 0, 1) := by decide +kernel
theorem dMD_init_5 : decode cMD_init 5 = .ok (.iconst 1, 1) := by decide +kernel
theorem dMD_init_6 : decode cMD_init 6 = .ok (.putfield 7, 3) := by decide +kernel
theorem dMD_init_9 : decode cMD_init 9 = .ok (.aload_n 0, 1) := by decide +kernel
theorem dMD_init_10 : decode cMD_init 10 = .ok (.bipush 8, 2) := by decide +kernel
theorem dMD_init_12 : decode cMD_init 12 = .ok (.newarray .int, 2) := by decide +kernel
theorem dMD_init_14 : decode cMD_init 14 = .ok (.putfield 13, 3) := by decide +kernel
theorem dMD_init_17 : decode cMD_init 17 = .ok (.aload_n 0, 1) := by decide +kernel
theorem dMD_init_18 : decode cMD_init 18 = .ok (.bipush 8, 2) := by decide +kernel
theorem dMD_init_20 : decode cMD_init 20 = .ok (.newarray .int, 2) := by decide +kernel
theorem dMD_init_22 : decode cMD_init 22 = .ok (.putfield 17, 3) := by decide +kernel
theorem dMD_init_25 : decode cMD_init 25 = .ok (.aload_n 0, 1) := by decide +kernel
theorem dMD_init_26 : decode cMD_init 26 = .ok (.bipush 40, 2) := by decide +kernel
theorem dMD_init_28 : decode cMD_init 28 = .ok (.newarray .int, 2) := by decide +kernel
theorem dMD_init_30 : decode cMD_init 30 = .ok (.putfield 20, 3) := by decide +kernel
theorem dMD_init_33 : decode cMD_init 33 = .ok (.aload_n 0, 1) := by decide +kernel
theorem dMD_init_34 : decode cMD_init 34 = .ok (.bipush 40, 2) := by decide +kernel
theorem dMD_init_36 : decode cMD_init 36 = .ok (.newarray .int, 2) := by decide +kernel
theorem dMD_init_38 : decode cMD_init 38 = .ok (.putfield 23, 3) := by decide +kernel
theorem dMD_init_41 : decode cMD_init 41 = .ok (.aload_n 0, 1) := by decide +kernel
theorem dMD_init_42 : decode cMD_init 42 = .ok (.bipush 40, 2) := by decide +kernel
theorem dMD_init_44 : decode cMD_init 44 = .ok (.newarray .int, 2) := by decide +kernel
theorem dMD_init_46 : decode cMD_init 46 = .ok (.putfield 26, 3) := by decide +kernel
theorem dMD_init_49 : decode cMD_init 49 = .ok (.aload_n 0, 1) := by decide +kernel
theorem dMD_init_50 : decode cMD_init 50 = .ok (.bipush 40, 2) := by decide +kernel
theorem dMD_init_52 : decode cMD_init 52 = .ok (.newarray .int, 2) := by decide +kernel
theorem dMD_init_54 : decode cMD_init 54 = .ok (.putfield 29, 3) := by decide +kernel
theorem dMD_init_57 : decode cMD_init 57 = .ok (.aload_n 0, 1) := by decide +kernel
theorem dMD_init_58 : decode cMD_init 58 = .ok (.bipush 40, 2) := by decide +kernel
theorem dMD_init_60 : decode cMD_init 60 = .ok (.newarray .int, 2) := by decide +kernel
theorem dMD_init_62 : decode cMD_init 62 = .ok (.putfield 32, 3) := by decide +kernel
theorem dMD_init_65 : decode cMD_init 65 = .ok (.aload_n 0, 1) := by decide +kernel
theorem dMD_init_66 : decode cMD_init 66 = .ok (.bipush 40, 2) := by decide +kernel
theorem dMD_init_68 : decode cMD_init 68 = .ok (.newarray .int, 2) := by decide +kernel
theorem dMD_init_70 : decode cMD_init 70 = .ok (.putfield 35, 3) := by decide +kernel
theorem dMD_init_73 : decode cMD_init 73 = .ok (.aload_n 0, 1) := by decide +kernel
theorem dMD_init_74 : decode cMD_init 74 = .ok (.bipush 40, 2) := by decide +kernel
theorem dMD_init_76 : decode cMD_init 76 = .ok (.newarray .int, 2) := by decide +kernel
theorem dMD_init_78 : decode cMD_init 78 = .ok (.putfield 38, 3) := by decide +kernel
theorem dMD_init_81 : decode cMD_init 81 = .ok (.aload_n 0, 1) := by decide +kernel
theorem dMD_init_82 : decode cMD_init 82 = .ok (.bipush 40, 2) := by decide +kernel
theorem dMD_init_84 : decode cMD_init 84 = .ok (.newarray .int, 2) := by decide +kernel
theorem dMD_init_86 : decode cMD_init 86 = .ok (.putfield 41, 3) := by decide +kernel
theorem dMD_init_89 : decode cMD_init 89 = .ok (.aload_n 0, 1) := by decide +kernel
theorem dMD_init_90 : decode cMD_init 90 = .ok (.bipush 40, 2) := by decide +kernel
theorem dMD_init_92 : decode cMD_init 92 = .ok (.newarray .int, 2) := by decide +kernel
theorem dMD_init_94 : decode cMD_init 94 = .ok (.putfield 44, 3) := by decide +kernel
theorem dMD_init_97 : decode cMD_init 97 = .ok (.aload_n 0, 1) := by decide +kernel
theorem dMD_init_98 : decode cMD_init 98 = .ok (.bipush 40, 2) := by decide +kernel
theorem dMD_init_100 : decode cMD_init 100 = .ok (.newarray .int, 2) := by decide +kernel
theorem dMD_init_102 : decode cMD_init 102 = .ok (.putfield 47, 3) := by decide +kernel
theorem dMD_init_105 : decode cMD_init 105 = .ok (.aload_n 0, 1) := by decide +kernel
theorem dMD_init_106 : decode cMD_init 106 = .ok (.iconst (-1), 1) := by decide +kernel
theorem dMD_init_107 : decode cMD_init 107 = .ok (.putfield 50, 3) := by decide +kernel
theorem dMD_init_110 : decode cMD_init 110 = .ok (.aload_n 0, 1) := by decide +kernel
theorem dMD_init_111 : decode cMD_init 111 = .ok (.bipush 12, 2) := by decide +kernel
theorem dMD_init_113 : decode cMD_init 113 = .ok (.newarray .int, 2) := by decide +kernel
theorem dMD_init_115 : decode cMD_init 115 = .ok (.putfield 53, 3) := by decide +kernel
theorem dMD_init_118 : decode cMD_init 118 = .ok (.aload_n 0, 1) := by decide +kernel
theorem dMD_init_119 : decode cMD_init 119 = .ok (.bipush 12, 2) := by decide +kernel
theorem dMD_init_121 : decode cMD_init 121 = .ok (.newarray .int, 2) := by decide +kernel
theorem dMD_init_123 : decode cMD_init 123 = .ok (.putfield 56, 3) := by decide +kernel
theorem dMD_init_126 : decode cMD_init 126 = .ok (.aload_n 0, 1) := by decide +kernel
theorem dMD_init_127 : decode cMD_init 127 = .ok (.bipush 12, 2) := by decide +kernel
theorem dMD_init_129 : decode cMD_init 129 = .ok (.newarray .int, 2) := by decide +kernel
theorem dMD_init_131 : decode cMD_init 131 = .ok (.putfield 59, 3) := by decide +kernel
theorem dMD_init_134 : decode cMD_init 134 = .ok (.aload_n 0, 1) := by decide +kernel
theorem dMD_init_135 : decode cMD_init 135 = .ok (.bipush 12, 2) := by decide +kernel
theorem dMD_init_137 : decode cMD_init 137 = .ok (.newarray .int, 2) := by decide +kernel
theorem dMD_init_139 : decode cMD_init 139 = .ok (.putfield 62, 3) := by decide +kernel
theorem dMD_init_142 : decode cMD_init 142 = .ok (.aload_n 0, 1) := by decide +kernel
theorem dMD_init_143 : decode cMD_init 143 = .ok (.bipush 12, 2) := by decide +kernel
theorem dMD_init_145 : decode cMD_init 145 = .ok (.newarray .boolean, 2) := by decide +kernel
theorem dMD_init_147 : decode cMD_init 147 = .ok (.putfield 65, 3) := by decide +kernel
theorem dMD_init_150 : decode cMD_init 150 = .ok (.aload_n 0, 1) := by decide +kernel
theorem dMD_init_151 : decode cMD_init 151 = .ok (.bipush 12, 2) := by decide +kernel
theorem dMD_init_153 : decode cMD_init 153 = .ok (.newarray .int, 2) := by decide +kernel
theorem dMD_init_155 : decode cMD_init 155 = .ok (.putfield 69, 3) := by decide +kernel
theorem dMD_init_158 : decode cMD_init 158 = .ok (.return_, 1) := by decide +kernel
theorem dMD_isCell_0 : decode cMD_isCell 0 = .ok (.iload_n 1, 1) := by decide +kernel
theorem dMD_isCell_1 : decode cMD_isCell 1 = .ok (.ifCond .lt 15, 3) := by decide +kernel
theorem dMD_isCell_4 : decode cMD_isCell 4 = .ok (.iload_n 1, 1) := by decide +kernel
theorem dMD_isCell_5 : decode cMD_isCell 5 = .ok (.aload_n 0, 1) := by decide +kernel
theorem dMD_isCell_6 : decode cMD_isCell 6 = .ok (.getfield 72, 3) := by decide +kernel
theorem dMD_isCell_9 : decode cMD_isCell 9 = .ok (.if_icmp .ge 7, 3) := by decide +kernel
theorem dMD_isCell_12 : decode cMD_isCell 12 = .ok (.iconst 1, 1) := by decide +kernel
theorem dMD_isCell_13 : decode cMD_isCell 13 = .ok (.goto 4, 3) := by decide +kernel
theorem dMD_isCell_16 : decode cMD_isCell 16 = .ok (.iconst 0, 1) := by decide +kernel
theorem dMD_isCell_17 : decode cMD_isCell 17 = .ok (.ireturn, 1) := by decide +kernel
theorem dMD_isTaken_0 : decode cMD_isTaken 0 = .ok (.iconst 0, 1) := by decide +kernel
theorem dMD_isTaken_1 : decode cMD_isTaken 1 = .ok (.istore_n 2, 1) := by decide +kernel
theorem dMD_isTaken_2 : decode cMD_isTaken 2 = .ok (.iconst 0, 1) := by decide +kernel
theorem dMD_isTaken_3 : decode cMD_isTaken 3 = .ok (.istore_n 3, 1) := by decide +kernel
theorem dMD_isTaken_4 : decode cMD_isTaken 4 = .ok (.iload_n 3, 1) := by decide +kernel
theorem dMD_isTaken_5 : decode cMD_isTaken 5 = .ok (.aload_n 0, 1) := by decide +kernel
theorem dMD_isTaken_6 : decode cMD_isTaken 6 = .ok (.getfield 72, 3) := by decide +kernel
theorem dMD_isTaken_9 : decode cMD_isTaken 9 = .ok (.if_icmp .ge 100, 3) := by decide +kernel
theorem dMD_isTaken_12 : decode cMD_isTaken 12 = .ok (.aload_n 0, 1) := by decide +kernel
theorem dMD_isTaken_13 : decode cMD_isTaken 13 = .ok (.getfield 32, 3) := by decide +kernel
theorem dMD_isTaken_16 : decode cMD_isTaken 16 = .ok (.iload_n 3, 1) := by decide +kernel
theorem dMD_isTaken_17 : decode cMD_isTaken 17 = .ok (.iaload, 1) := by decide +kernel
theorem dMD_isTaken_18 : decode cMD_isTaken 18 = .ok (.aload_n 0, 1) := by decide +kernel
theorem dMD_isTaken_19 : decode cMD_isTaken 19 = .ok (.getfield 50, 3) := by decide +kernel
theorem dMD_isTaken_22 : decode cMD_isTaken 22 = .ok (.if_icmp .ne 36, 3) := by decide +kernel
theorem dMD_isTaken_25 : decode cMD_isTaken 25 = .ok (.aload_n 0, 1) := by decide +kernel
theorem dMD_isTaken_26 : decode cMD_isTaken 26 = .ok (.getfield 29, 3) := by decide +kernel
theorem dMD_isTaken_29 : decode cMD_isTaken 29 = .ok (.iload_n 3, 1) := by decide +kernel
theorem dMD_isTaken_30 : decode cMD_isTaken 30 = .ok (.iaload, 1) := by decide +kernel
theorem dMD_isTaken_31 : decode cMD_isTaken 31 = .ok (.ifCond .eq 23, 3) := by decide +kernel
theorem dMD_isTaken_34 : decode cMD_isTaken 34 = .ok (.aload_n 0, 1) := by decide +kernel
theorem dMD_isTaken_35 : decode cMD_isTaken 35 = .ok (.getfield 79, 3) := by decide +kernel
theorem dMD_isTaken_38 : decode cMD_isTaken 38 = .ok (.aload_n 0, 1) := by decide +kernel
theorem dMD_isTaken_39 : decode cMD_isTaken 39 = .ok (.getfield 23, 3) := by decide +kernel
theorem dMD_isTaken_42 : decode cMD_isTaken 42 = .ok (.iload_n 3, 1) := by decide +kernel
theorem dMD_isTaken_43 : decode cMD_isTaken 43 = .ok (.iaload, 1) := by decide +kernel
theorem dMD_isTaken_44 : decode cMD_isTaken 44 = .ok (.aload_n 0, 1) := by decide +kernel
theorem dMD_isTaken_45 : decode cMD_isTaken 45 = .ok (.getfield 29, 3) := by decide +kernel
theorem dMD_isTaken_48 : decode cMD_isTaken 48 = .ok (.iload_n 3, 1) := by decide +kernel
theorem dMD_isTaken_49 : decode cMD_isTaken 49 = .ok (.iaload, 1) := by decide +kernel
theorem dMD_isTaken_50 : decode cMD_isTaken 50 = .ok (.iadd, 1) := by decide +kernel
theorem dMD_isTaken_51 : decode cMD_isTaken 51 = .ok (.if_icmp .ge 7, 3) := by decide +kernel
theorem dMD_isTaken_54 : decode cMD_isTaken 54 = .ok (.iconst 1, 1) := by decide +kernel
theorem dMD_isTaken_55 : decode cMD_isTaken 55 = .ok (.goto 4, 3) := by decide +kernel
theorem dMD_isTaken_58 : decode cMD_isTaken 58 = .ok (.iconst 0, 1) := by decide +kernel
theorem dMD_isTaken_59 : decode cMD_isTaken 59 = .ok (.istore 4, 2) := by decide +kernel
theorem dMD_isTaken_61 : decode cMD_isTaken 61 = .ok (.iload_n 2, 1) := by decide +kernel
theorem dMD_isTaken_62 : decode cMD_isTaken 62 = .ok (.ifCond .ne 35, 3) := by decide +kernel
theorem dMD_isTaken_65 : decode cMD_isTaken 65 = .ok (.iload 4, 2) := by decide +kernel
theorem dMD_isTaken_67 : decode cMD_isTaken 67 = .ok (.ifCond .eq 34, 3) := by decide +kernel
theorem dMD_isTaken_70 : decode cMD_isTaken 70 = .ok (.iload_n 1, 1) := by decide +kernel
theorem dMD_isTaken_71 : decode cMD_isTaken 71 = .ok (.aload_n 0, 1) := by decide +kernel
theorem dMD_isTaken_72 : decode cMD_isTaken 72 = .ok (.getfield 20, 3) := by decide +kernel
theorem dMD_isTaken_75 : decode cMD_isTaken 75 = .ok (.iload_n 3, 1) := by decide +kernel
theorem dMD_isTaken_76 : decode cMD_isTaken 76 = .ok (.iaload, 1) := by decide +kernel
theorem dMD_isTaken_77 : decode cMD_isTaken 77 = .ok (.if_icmp .lt 24, 3) := by decide +kernel
theorem dMD_isTaken_80 : decode cMD_isTaken 80 = .ok (.iload_n 1, 1) := by decide +kernel
theorem dMD_isTaken_81 : decode cMD_isTaken 81 = .ok (.aload_n 0, 1) := by decide +kernel
theorem dMD_isTaken_82 : decode cMD_isTaken 82 = .ok (.getfield 20, 3) := by decide +kernel
theorem dMD_isTaken_85 : decode cMD_isTaken 85 = .ok (.iload_n 3, 1) := by decide +kernel
theorem dMD_isTaken_86 : decode cMD_isTaken 86 = .ok (.iaload, 1) := by decide +kernel
theorem dMD_isTaken_87 : decode cMD_isTaken 87 = .ok (.aload_n 0, 1) := by decide +kernel
theorem dMD_isTaken_88 : decode cMD_isTaken 88 = .ok (.getfield 26, 3) := by decide +kernel
theorem dMD_isTaken_91 : decode cMD_isTaken 91 = .ok (.iload_n 3, 1) := by decide +kernel
theorem dMD_isTaken_92 : decode cMD_isTaken 92 = .ok (.iaload, 1) := by decide +kernel
theorem dMD_isTaken_93 : decode cMD_isTaken 93 = .ok (.iadd, 1) := by decide +kernel
theorem dMD_isTaken_94 : decode cMD_isTaken 94 = .ok (.if_icmp .ge 7, 3) := by decide +kernel
theorem dMD_isTaken_97 : decode cMD_isTaken 97 = .ok (.iconst 1, 1) := by decide +kernel
theorem dMD_isTaken_98 : decode cMD_isTaken 98 = .ok (.goto 4, 3) := by decide +kernel
theorem dMD_isTaken_101 : decode cMD_isTaken 101 = .ok (.iconst 0, 1) := by decide +kernel
theorem dMD_isTaken_102 : decode cMD_isTaken 102 = .ok (.istore_n 2, 1) := by decide +kernel
theorem dMD_isTaken_103 : decode cMD_isTaken 103 = .ok (.iinc 3 1, 3) := by decide +kernel
theorem dMD_isTaken_106 : decode cMD_isTaken 106 = .ok (.goto (-102), 3) := by decide +kernel
theorem dMD_isTaken_109 : decode cMD_isTaken 109 = .ok (.iload_n 2, 1) := by decide +kernel
theorem dMD_isTaken_110 : decode cMD_isTaken 110 = .ok (.ireturn, 1) := by decide +kernel
theorem dMD_layout_0 : decode cMD_layout 0 = .ok (.iload_n 1, 1) := by decide +kernel
theorem dMD_layout_1 : decode cMD_layout 1 = .ok (.ifCond .lt 20, 3) := by decide +kernel
theorem dMD_layout_4 : decode cMD_layout 4 = .ok (.iload_n 1, 1) := by decide +kernel
theorem dMD_layout_5 : decode cMD_layout 5 = .ok (.sipush 10000, 3) := by decide +kernel
theorem dMD_layout_8 : decode cMD_layout 8 = .ok (.if_icmp .gt 13, 3) := by decide +kernel
theorem dMD_layout_11 : decode cMD_layout 11 = .ok (.iload_n 2, 1) := by decide +kernel
theorem dMD_layout_12 : decode cMD_layout 12 = .ok (.ifCond .lt 9, 3) := by decide +kernel
theorem dMD_layout_15 : decode cMD_layout 15 = .ok (.iload_n 2, 1) := by decide +kernel
theorem dMD_layout_16 : decode cMD_layout 16 = .ok (.bipush 20, 2) := by decide +kernel
theorem dMD_layout_18 : decode cMD_layout 18 = .ok (.if_icmp .le 5, 3) := by decide +kernel
theorem dMD_layout_21 : decode cMD_layout 21 = .ok (.iconst 0, 1) := by decide +kernel
theorem dMD_layout_22 : decode cMD_layout 22 = .ok (.ireturn, 1) := by decide +kernel
theorem dMD_layout_23 : decode cMD_layout 23 = .ok (.aload_n 0, 1) := by decide +kernel
theorem dMD_layout_24 : decode cMD_layout 24 = .ok (.iload_n 1, 1) := by decide +kernel
theorem dMD_layout_25 : decode cMD_layout 25 = .ok (.putfield 92, 3) := by decide +kernel
theorem dMD_layout_28 : decode cMD_layout 28 = .ok (.aload_n 0, 1) := by decide +kernel
theorem dMD_layout_29 : decode cMD_layout 29 = .ok (.iload_n 2, 1) := by decide +kernel
theorem dMD_layout_30 : decode cMD_layout 30 = .ok (.putfield 95, 3) := by decide +kernel
theorem dMD_layout_33 : decode cMD_layout 33 = .ok (.aload_n 0, 1) := by decide +kernel
theorem dMD_layout_34 : decode cMD_layout 34 = .ok (.iload_n 3, 1) := by decide +kernel
theorem dMD_layout_35 : decode cMD_layout 35 = .ok (.putfield 98, 3) := by decide +kernel
theorem dMD_layout_38 : decode cMD_layout 38 = .ok (.iconst 1, 1) := by decide +kernel
theorem dMD_layout_39 : decode cMD_layout 39 = .ok (.ireturn, 1) := by decide +kernel
theorem dMD_measure_0 : decode cMD_measure 0 = .ok (.iconst 0, 1) := by decide +kernel
theorem dMD_measure_1 : decode cMD_measure 1 = .ok (.istore_n 1, 1) := by decide +kernel
theorem dMD_measure_2 : decode cMD_measure 2 = .ok (.iload_n 1, 1) := by decide +kernel
theorem dMD_measure_3 : decode cMD_measure 3 = .ok (.bipush 12, 2) := by decide +kernel
theorem dMD_measure_5 : decode cMD_measure 5 = .ok (.if_icmp .ge 23, 3) := by decide +kernel
theorem dMD_measure_8 : decode cMD_measure 8 = .ok (.aload_n 0, 1) := by decide +kernel
theorem dMD_measure_9 : decode cMD_measure 9 = .ok (.getfield 53, 3) := by decide +kernel
theorem dMD_measure_12 : decode cMD_measure 12 = .ok (.iload_n 1, 1) := by decide +kernel
theorem dMD_measure_13 : decode cMD_measure 13 = .ok (.iconst 0, 1) := by decide +kernel
theorem dMD_measure_14 : decode cMD_measure 14 = .ok (.iastore, 1) := by decide +kernel
theorem dMD_measure_15 : decode cMD_measure 15 = .ok (.aload_n 0, 1) := by decide +kernel
theorem dMD_measure_16 : decode cMD_measure 16 = .ok (.getfield 56, 3) := by decide +kernel
theorem dMD_measure_19 : decode cMD_measure 19 = .ok (.iload_n 1, 1) := by decide +kernel
theorem dMD_measure_20 : decode cMD_measure 20 = .ok (.iconst 0, 1) := by decide +kernel
theorem dMD_measure_21 : decode cMD_measure 21 = .ok (.iastore, 1) := by decide +kernel
theorem dMD_measure_22 : decode cMD_measure 22 = .ok (.iinc 1 1, 3) := by decide +kernel
theorem dMD_measure_25 : decode cMD_measure 25 = .ok (.goto (-23), 3) := by decide +kernel
theorem dMD_measure_28 : decode cMD_measure 28 = .ok (.iconst 1, 1) := by decide +kernel
theorem dMD_measure_29 : decode cMD_measure 29 = .ok (.istore_n 1, 1) := by decide +kernel
theorem dMD_measure_30 : decode cMD_measure 30 = .ok (.iload_n 1, 1) := by decide +kernel
theorem dMD_measure_31 : decode cMD_measure 31 = .ok (.bipush 7, 2) := by decide +kernel
theorem dMD_measure_33 : decode cMD_measure 33 = .ok (.if_icmp .ge 40, 3) := by decide +kernel
theorem dMD_measure_36 : decode cMD_measure 36 = .ok (.iconst 0, 1) := by decide +kernel
theorem dMD_measure_37 : decode cMD_measure 37 = .ok (.istore_n 2, 1) := by decide +kernel
theorem dMD_measure_38 : decode cMD_measure 38 = .ok (.iload_n 2, 1) := by decide +kernel
theorem dMD_measure_39 : decode cMD_measure 39 = .ok (.aload_n 0, 1) := by decide +kernel
theorem dMD_measure_40 : decode cMD_measure 40 = .ok (.getfield 72, 3) := by decide +kernel
theorem dMD_measure_43 : decode cMD_measure 43 = .ok (.if_icmp .ge 24, 3) := by decide +kernel
theorem dMD_measure_46 : decode cMD_measure 46 = .ok (.aload_n 0, 1) := by decide +kernel
theorem dMD_measure_47 : decode cMD_measure 47 = .ok (.getfield 26, 3) := by decide +kernel
theorem dMD_measure_50 : decode cMD_measure 50 = .ok (.iload_n 2, 1) := by decide +kernel
theorem dMD_measure_51 : decode cMD_measure 51 = .ok (.iaload, 1) := by decide +kernel
theorem dMD_measure_52 : decode cMD_measure 52 = .ok (.iload_n 1, 1) := by decide +kernel
theorem dMD_measure_53 : decode cMD_measure 53 = .ok (.if_icmp .ne 8, 3) := by decide +kernel
theorem dMD_measure_56 : decode cMD_measure 56 = .ok (.aload_n 0, 1) := by decide +kernel
theorem dMD_measure_57 : decode cMD_measure 57 = .ok (.iload_n 2, 1) := by decide +kernel
theorem dMD_measure_58 : decode cMD_measure 58 = .ok (.invokevirtual 136, 3) := by decide +kernel
theorem dMD_measure_61 : decode cMD_measure 61 = .ok (.iinc 2 1, 3) := by decide +kernel
theorem dMD_measure_64 : decode cMD_measure 64 = .ok (.goto (-26), 3) := by decide +kernel
theorem dMD_measure_67 : decode cMD_measure 67 = .ok (.iinc 1 1, 3) := by decide +kernel
theorem dMD_measure_70 : decode cMD_measure 70 = .ok (.goto (-40), 3) := by decide +kernel
theorem dMD_measure_73 : decode cMD_measure 73 = .ok (.return_, 1) := by decide +kernel
theorem dMD_measureCell_0 : decode cMD_measureCell 0 = .ok (.aload_n 0, 1) := by decide +kernel
theorem dMD_measureCell_1 : decode cMD_measureCell 1 = .ok (.getfield 20, 3) := by decide +kernel
theorem dMD_measureCell_4 : decode cMD_measureCell 4 = .ok (.iload_n 1, 1) := by decide +kernel
theorem dMD_measureCell_5 : decode cMD_measureCell 5 = .ok (.iaload, 1) := by decide +kernel
theorem dMD_measureCell_6 : decode cMD_measureCell 6 = .ok (.istore_n 2, 1) := by decide +kernel
theorem dMD_measureCell_7 : decode cMD_measureCell 7 = .ok (.iload_n 2, 1) := by decide +kernel
theorem dMD_measureCell_8 : decode cMD_measureCell 8 = .ok (.aload_n 0, 1) := by decide +kernel
theorem dMD_measureCell_9 : decode cMD_measureCell 9 = .ok (.getfield 26, 3) := by decide +kernel
theorem dMD_measureCell_12 : decode cMD_measureCell 12 = .ok (.iload_n 1, 1) := by decide +kernel
theorem dMD_measureCell_13 : decode cMD_measureCell 13 = .ok (.iaload, 1) := by decide +kernel
theorem dMD_measureCell_14 : decode cMD_measureCell 14 = .ok (.iadd, 1) := by decide +kernel
theorem dMD_measureCell_15 : decode cMD_measureCell 15 = .ok (.istore_n 3, 1) := by decide +kernel
theorem dMD_measureCell_16 : decode cMD_measureCell 16 = .ok (.aload_n 0, 1) := by decide +kernel
theorem dMD_measureCell_17 : decode cMD_measureCell 17 = .ok (.getfield 26, 3) := by decide +kernel
theorem dMD_measureCell_20 : decode cMD_measureCell 20 = .ok (.iload_n 1, 1) := by decide +kernel
theorem dMD_measureCell_21 : decode cMD_measureCell 21 = .ok (.iaload, 1) := by decide +kernel
theorem dMD_measureCell_22 : decode cMD_measureCell 22 = .ok (.iconst 1, 1) := by decide +kernel
theorem dMD_measureCell_23 : decode cMD_measureCell 23 = .ok (.if_icmp .ne 46, 3) := by decide +kernel
theorem dMD_measureCell_26 : decode cMD_measureCell 26 = .ok (.aload_n 0, 1) := by decide +kernel
theorem dMD_measureCell_27 : decode cMD_measureCell 27 = .ok (.getfield 53, 3) := by decide +kernel
theorem dMD_measureCell_30 : decode cMD_measureCell 30 = .ok (.iload_n 2, 1) := by decide +kernel
theorem dMD_measureCell_31 : decode cMD_measureCell 31 = .ok (.aload_n 0, 1) := by decide +kernel
theorem dMD_measureCell_32 : decode cMD_measureCell 32 = .ok (.getfield 53, 3) := by decide +kernel
theorem dMD_measureCell_35 : decode cMD_measureCell 35 = .ok (.iload_n 2, 1) := by decide +kernel
theorem dMD_measureCell_36 : decode cMD_measureCell 36 = .ok (.iaload, 1) := by decide +kernel
theorem dMD_measureCell_37 : decode cMD_measureCell 37 = .ok (.aload_n 0, 1) := by decide +kernel
theorem dMD_measureCell_38 : decode cMD_measureCell 38 = .ok (.getfield 35, 3) := by decide +kernel
theorem dMD_measureCell_41 : decode cMD_measureCell 41 = .ok (.iload_n 1, 1) := by decide +kernel
theorem dMD_measureCell_42 : decode cMD_measureCell 42 = .ok (.iaload, 1) := by decide +kernel
theorem dMD_measureCell_43 : decode cMD_measureCell 43 = .ok (.invokestatic 121, 3) := by decide +kernel
theorem dMD_measureCell_46 : decode cMD_measureCell 46 = .ok (.iastore, 1) := by decide +kernel
theorem dMD_measureCell_47 : decode cMD_measureCell 47 = .ok (.aload_n 0, 1) := by decide +kernel
theorem dMD_measureCell_48 : decode cMD_measureCell 48 = .ok (.getfield 56, 3) := by decide +kernel
theorem dMD_measureCell_51 : decode cMD_measureCell 51 = .ok (.iload_n 2, 1) := by decide +kernel
theorem dMD_measureCell_52 : decode cMD_measureCell 52 = .ok (.aload_n 0, 1) := by decide +kernel
theorem dMD_measureCell_53 : decode cMD_measureCell 53 = .ok (.getfield 56, 3) := by decide +kernel
theorem dMD_measureCell_56 : decode cMD_measureCell 56 = .ok (.iload_n 2, 1) := by decide +kernel
theorem dMD_measureCell_57 : decode cMD_measureCell 57 = .ok (.iaload, 1) := by decide +kernel
theorem dMD_measureCell_58 : decode cMD_measureCell 58 = .ok (.aload_n 0, 1) := by decide +kernel
theorem dMD_measureCell_59 : decode cMD_measureCell 59 = .ok (.getfield 38, 3) := by decide +kernel
theorem dMD_measureCell_62 : decode cMD_measureCell 62 = .ok (.iload_n 1, 1) := by decide +kernel
theorem dMD_measureCell_63 : decode cMD_measureCell 63 = .ok (.iaload, 1) := by decide +kernel
theorem dMD_measureCell_64 : decode cMD_measureCell 64 = .ok (.invokestatic 121, 3) := by decide +kernel
theorem dMD_measureCell_67 : decode cMD_measureCell 67 = .ok (.iastore, 1) := by decide +kernel
theorem dMD_measureCell_68 : decode cMD_measureCell 68 = .ok (.return_, 1) := by decide +kernel
theorem dMD_measureCell_69 : decode cMD_measureCell 69 = .ok (.aload_n 0, 1) := by decide +kernel
theorem dMD_measureCell_70 : decode cMD_measureCell 70 = .ok (.getfield 95, 3) := by decide +kernel
theorem dMD_measureCell_73 : decode cMD_measureCell 73 = .ok (.aload_n 0, 1) := by decide +kernel
theorem dMD_measureCell_74 : decode cMD_measureCell 74 = .ok (.getfield 26, 3) := by decide +kernel
theorem dMD_measureCell_77 : decode cMD_measureCell 77 = .ok (.iload_n 1, 1) := by decide +kernel
theorem dMD_measureCell_78 : decode cMD_measureCell 78 = .ok (.iaload, 1) := by decide +kernel
theorem dMD_measureCell_79 : decode cMD_measureCell 79 = .ok (.iconst 1, 1) := by decide +kernel
theorem dMD_measureCell_80 : decode cMD_measureCell 80 = .ok (.isub, 1) := by decide +kernel
theorem dMD_measureCell_81 : decode cMD_measureCell 81 = .ok (.imul, 1) := by decide +kernel
theorem dMD_measureCell_82 : decode cMD_measureCell 82 = .ok (.istore 4, 2) := by decide +kernel
theorem dMD_measureCell_84 : decode cMD_measureCell 84 = .ok (.aload_n 0, 1) := by decide +kernel
theorem dMD_measureCell_85 : decode cMD_measureCell 85 = .ok (.aload_n 0, 1) := by decide +kernel
theorem dMD_measureCell_86 : decode cMD_measureCell 86 = .ok (.getfield 56, 3) := by decide +kernel
theorem dMD_measureCell_89 : decode cMD_measureCell 89 = .ok (.invokevirtual 124, 3) := by decide +kernel
theorem dMD_measureCell_92 : decode cMD_measureCell 92 = .ok (.aload_n 0, 1) := by decide +kernel
theorem dMD_measureCell_93 : decode cMD_measureCell 93 = .ok (.getfield 35, 3) := by decide +kernel
theorem dMD_measureCell_96 : decode cMD_measureCell 96 = .ok (.iload_n 1, 1) := by decide +kernel
theorem dMD_measureCell_97 : decode cMD_measureCell 97 = .ok (.iaload, 1) := by decide +kernel
theorem dMD_measureCell_98 : decode cMD_measureCell 98 = .ok (.aload_n 0, 1) := by decide +kernel
theorem dMD_measureCell_99 : decode cMD_measureCell 99 = .ok (.getfield 53, 3) := by decide +kernel
theorem dMD_measureCell_102 : decode cMD_measureCell 102 = .ok (.iload_n 2, 1) := by decide +kernel
theorem dMD_measureCell_103 : decode cMD_measureCell 103 = .ok (.iload_n 3, 1) := by decide +kernel
theorem dMD_measureCell_104 : decode cMD_measureCell 104 = .ok (.invokestatic 128, 3) := by decide +kernel
theorem dMD_measureCell_107 : decode cMD_measureCell 107 = .ok (.isub, 1) := by decide +kernel
theorem dMD_measureCell_108 : decode cMD_measureCell 108 = .ok (.iload 4, 2) := by decide +kernel
theorem dMD_measureCell_110 : decode cMD_measureCell 110 = .ok (.isub, 1) := by decide +kernel
theorem dMD_measureCell_111 : decode cMD_measureCell 111 = .ok (.istore 5, 2) := by decide +kernel
theorem dMD_measureCell_113 : decode cMD_measureCell 113 = .ok (.aload_n 0, 1) := by decide +kernel
