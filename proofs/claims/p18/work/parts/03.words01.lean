set_option maxRecDepth 100000 in
theorem wd_209 : (Cond.code yAL_elementData prog_16_method_18_code (2 : Nat) (Option.some (Jvm.ClassFile.FieldType.object "java/lang/Object"))) ∈ zT := z_tables_1_1 181 rfl rfl
set_option maxRecDepth 100000 in
theorem wd_210 : (Cond.classLink "SpannedCells$Grid" (49 : Nat) "SpannedCells$Cell") ∈ zT := z_tables_1_1 182 rfl rfl
set_option maxRecDepth 100000 in
theorem wd_211 : (Cond.methodLink "SpannedCells$Grid" (74 : Nat) yCE_growTo) ∈ zT := z_tables_1_1 183 rfl rfl
set_option maxRecDepth 100000 in
theorem wd_212 : (Cond.instanceMethod yCE_growTo) ∈ zT := z_tables_1_1 184 rfl rfl
set_option maxRecDepth 100000 in
theorem wd_213 : (Cond.selects "SpannedCells$Cell" yCE_growTo yCE_growTo) ∈ zT := z_tables_1_1 185 rfl rfl
set_option maxRecDepth 100000 in
theorem wd_214 : (Cond.code yCE_growTo prog_2_method_5_code (2 : Nat) (Option.none : Option Jvm.ClassFile.FieldType)) ∈ zT := z_tables_1_1 186 rfl rfl
set_option maxRecDepth 100000 in
theorem wd_216 : (Cond.instanceMethod ySC_cell) ∈ zT := z_tables_1_1 188 rfl rfl
set_option maxRecDepth 100000 in
theorem wd_217 : (Cond.selects "SpannedCells" ySC_cell ySC_cell) ∈ zT := z_tables_1_1 189 rfl rfl
set_option maxRecDepth 100000 in
theorem wd_218 : (Cond.code ySC_cell prog_1_method_4_code (9 : Nat) (Option.some Jvm.ClassFile.FieldType.int)) ∈ zT := z_tables_1_1 190 rfl rfl
set_option maxRecDepth 100000 in
theorem wd_219 : (Cond.methodLink "SpannedCells" (48 : Nat) ySC_within) ∈ zT := z_tables_1_1 191 rfl rfl
set_option maxRecDepth 100000 in
theorem wd_220 : (Cond.static ySC_within) ∈ zT := z_tables_1_1 192 rfl rfl
set_option maxRecDepth 100000 in
theorem wd_221 : (Cond.code ySC_within prog_1_method_22_code (3 : Nat) (Option.some Jvm.ClassFile.FieldType.boolean)) ∈ zT := z_tables_1_1 193 rfl rfl
set_option maxRecDepth 100000 in
theorem wd_222 : (Cond.methodLink "SpannedCells" (52 : Nat) yGR_putCell) ∈ zT := z_tables_1_1 194 rfl rfl
set_option maxRecDepth 100000 in
theorem wd_223 : (Cond.instanceMethod yGR_putCell) ∈ zT := z_tables_1_1 195 rfl rfl
set_option maxRecDepth 100000 in
theorem wd_224 : (Cond.selects "SpannedCells$Grid" yGR_putCell yGR_putCell) ∈ zT := z_tables_1_1 196 rfl rfl
set_option maxRecDepth 100000 in
theorem wd_225 : (Cond.code yGR_putCell prog_3_method_5_code (8 : Nat) (Option.some Jvm.ClassFile.FieldType.int)) ∈ zT := z_tables_1_1 197 rfl rfl
set_option maxRecDepth 100000 in
theorem wd_226 : (Cond.methodLink "SpannedCells$Grid" (45 : Nat) yGR_firstFreeColumn) ∈ zT := z_tables_1_1 198 rfl rfl
set_option maxRecDepth 100000 in
theorem wd_228 : (Cond.instanceMethod yGR_firstFreeColumn) ∈ zT := z_tables_1_1 200 rfl rfl
set_option maxRecDepth 100000 in
theorem wd_229 : (Cond.code yGR_firstFreeColumn prog_3_method_6_code (3 : Nat) (Option.some Jvm.ClassFile.FieldType.int)) ∈ zT := z_tables_1_1 201 rfl rfl
set_option maxRecDepth 100000 in
theorem wd_230 : (Cond.methodLink "SpannedCells$Grid" (64 : Nat) yGR_ownerOf) ∈ zT := z_tables_1_1 202 rfl rfl
set_option maxRecDepth 100000 in
theorem wd_231 : (Cond.instanceMethod yGR_ownerOf) ∈ zT := z_tables_1_1 203 rfl rfl
set_option maxRecDepth 100000 in
theorem wd_232 : (Cond.selects "SpannedCells$Grid" yGR_ownerOf yGR_ownerOf) ∈ zT := z_tables_1_1 204 rfl rfl
set_option maxRecDepth 100000 in
theorem wd_233 : (Cond.code yGR_ownerOf prog_3_method_14_code (4 : Nat) (Option.some Jvm.ClassFile.FieldType.int)) ∈ zT := z_tables_1_1 205 rfl rfl
set_option maxRecDepth 100000 in
theorem wd_234 : (Cond.methodLink "SpannedCells$Grid" (81 : Nat) yCE_takes) ∈ zT := z_tables_1_1 206 rfl rfl
set_option maxRecDepth 100000 in
theorem wd_235 : (Cond.instanceMethod yCE_takes) ∈ zT := z_tables_1_1 207 rfl rfl
set_option maxRecDepth 100000 in
theorem wd_236 : (Cond.selects "SpannedCells$Cell" yCE_takes yCE_takes) ∈ zT := z_tables_1_1 208 rfl rfl
set_option maxRecDepth 100000 in
theorem wd_237 : (Cond.code yCE_takes prog_2_method_4_code (3 : Nat) (Option.some Jvm.ClassFile.FieldType.boolean)) ∈ zT := z_tables_1_1 209 rfl rfl
set_option maxRecDepth 100000 in
theorem wd_238 : (Cond.methodLink "SpannedCells$Cell" (43 : Nat) yCE_right) ∈ zT := z_tables_1_1 210 rfl rfl
set_option maxRecDepth 100000 in
theorem wd_239 : (Cond.instanceMethod yCE_right) ∈ zT := z_tables_1_1 211 rfl rfl
set_option maxRecDepth 100000 in
theorem wd_240 : (Cond.selects "SpannedCells$Cell" yCE_right yCE_right) ∈ zT := z_tables_1_1 212 rfl rfl
set_option maxRecDepth 100000 in
theorem wd_241 : (Cond.code yCE_right prog_2_method_2_code (1 : Nat) (Option.some Jvm.ClassFile.FieldType.int)) ∈ zT := z_tables_1_1 213 rfl rfl
set_option maxRecDepth 100000 in
theorem wd_242 : (Cond.methodLink "SpannedCells$Cell" (47 : Nat) yCE_bottom) ∈ zT := z_tables_1_1 214 rfl rfl
set_option maxRecDepth 100000 in
theorem wd_243 : (Cond.instanceMethod yCE_bottom) ∈ zT := z_tables_1_1 215 rfl rfl
set_option maxRecDepth 100000 in
theorem wd_244 : (Cond.selects "SpannedCells$Cell" yCE_bottom yCE_bottom) ∈ zT := z_tables_1_1 216 rfl rfl
set_option maxRecDepth 100000 in
theorem wd_245 : (Cond.code yCE_bottom prog_2_method_3_code (1 : Nat) (Option.some Jvm.ClassFile.FieldType.int)) ∈ zT := z_tables_1_1 217 rfl rfl
set_option maxRecDepth 100000 in
theorem wd_246 : (Cond.instantiable "SpannedCells$Cell" (10 : Nat)) ∈ zT := z_tables_1_1 218 rfl rfl
set_option maxRecDepth 100000 in
theorem wd_247 : (Cond.methodLink "SpannedCells$Grid" (51 : Nat) yCE_init) ∈ zT := z_tables_1_1 219 rfl rfl
set_option maxRecDepth 100000 in
theorem wd_248 : (Cond.instanceMethod yCE_init) ∈ zT := z_tables_1_1 220 rfl rfl
set_option maxRecDepth 100000 in
theorem wd_249 : (Cond.code yCE_init prog_2_method_1_code (8 : Nat) (Option.none : Option Jvm.ClassFile.FieldType)) ∈ zT := z_tables_1_1 221 rfl rfl
set_option maxRecDepth 100000 in
theorem wd_250 : (Cond.methodLink "SpannedCells$Cell" (3 : Nat) objectInit) ∈ zT := z_tables_1_1 222 rfl rfl
set_option maxRecDepth 100000 in
theorem wd_251 : (Cond.fieldLink "SpannedCells$Cell" (18 : Nat) "SpannedCells$Cell" "left" "I") ∈ zT := z_tables_1_1 223 rfl rfl
set_option maxRecDepth 100000 in
theorem wd_252 : (Cond.fieldLink "SpannedCells$Widths" (52 : Nat) "SpannedCells$Cell" "left" "I") ∈ zT := z_tables_1_1 224 rfl rfl
set_option maxRecDepth 100000 in
theorem wd_253 : (Cond.fieldLink "SpannedCells" (95 : Nat) "SpannedCells$Cell" "left" "I") ∈ zT := z_tables_1_1 225 rfl rfl
set_option maxRecDepth 100000 in
theorem wd_254 : (Cond.fieldLink "SpannedCells$Grid" (101 : Nat) "SpannedCells$Cell" "left" "I") ∈ zT := z_tables_1_1 226 rfl rfl
set_option maxRecDepth 100000 in
theorem wd_255 : (Cond.fieldLink "SpannedCells$Cell" (21 : Nat) "SpannedCells$Cell" "top" "I") ∈ zT := z_tables_1_1 227 rfl rfl
set_option maxRecDepth 100000 in
theorem wd_256 : (Cond.fieldLink "SpannedCells$Heights" (40 : Nat) "SpannedCells$Cell" "top" "I") ∈ zT := z_tables_1_1 228 rfl rfl
set_option maxRecDepth 100000 in
theorem wd_257 : (Cond.fieldLink "SpannedCells$Widths" (92 : Nat) "SpannedCells$Cell" "top" "I") ∈ zT := z_tables_1_1 229 rfl rfl
set_option maxRecDepth 100000 in
theorem wd_258 : (Cond.fieldLink "SpannedCells$Grid" (71 : Nat) "SpannedCells$Cell" "top" "I") ∈ zT := z_tables_1_1 230 rfl rfl
set_option maxRecDepth 100000 in
theorem wd_259 : (Cond.fieldLink "SpannedCells" (98 : Nat) "SpannedCells$Cell" "top" "I") ∈ zT := z_tables_1_1 231 rfl rfl
set_option maxRecDepth 100000 in
theorem wd_260 : (Cond.fieldLink "SpannedCells$Cell" (24 : Nat) "SpannedCells$Cell" "columns" "I") ∈ zT := z_tables_1_1 232 rfl rfl
set_option maxRecDepth 100000 in
theorem wd_261 : (Cond.fieldLink "SpannedCells$Widths" (40 : Nat) "SpannedCells$Cell" "columns" "I") ∈ zT := z_tables_1_1 233 rfl rfl
set_option maxRecDepth 100000 in
theorem wd_262 : (Cond.fieldLink "SpannedCells" (101 : Nat) "SpannedCells$Cell" "columns" "I") ∈ zT := z_tables_1_1 234 rfl rfl
set_option maxRecDepth 100000 in
theorem wd_263 : (Cond.fieldLink "SpannedCells$Grid" (85 : Nat) "SpannedCells$Cell" "columns" "I") ∈ zT := z_tables_1_1 235 rfl rfl
set_option maxRecDepth 100000 in
theorem wd_264 : (Cond.fieldLink "SpannedCells$Cell" (30 : Nat) "SpannedCells$Cell" "least" "I") ∈ zT := z_tables_1_1 236 rfl rfl
set_option maxRecDepth 100000 in
theorem wd_265 : (Cond.fieldLink "SpannedCells$Widths" (50 : Nat) "SpannedCells$Cell" "least" "I") ∈ zT := z_tables_1_1 237 rfl rfl
set_option maxRecDepth 100000 in
theorem wd_266 : (Cond.fieldLink "SpannedCells$Cell" (33 : Nat) "SpannedCells$Cell" "most" "I") ∈ zT := z_tables_1_1 238 rfl rfl
set_option maxRecDepth 100000 in
theorem wd_267 : (Cond.fieldLink "SpannedCells$Widths" (62 : Nat) "SpannedCells$Cell" "most" "I") ∈ zT := z_tables_1_1 239 rfl rfl
set_option maxRecDepth 100000 in
theorem wd_268 : (Cond.fieldLink "SpannedCells$Cell" (36 : Nat) "SpannedCells$Cell" "need" "I") ∈ zT := z_tables_1_2 0 rfl rfl
set_option maxRecDepth 100000 in
theorem wd_269 : (Cond.fieldLink "SpannedCells$Heights" (37 : Nat) "SpannedCells$Cell" "need" "I") ∈ zT := z_tables_1_2 1 rfl rfl
set_option maxRecDepth 100000 in
theorem wd_270 : (Cond.fieldLink "SpannedCells$Cell" (39 : Nat) "SpannedCells$Cell" "growing" "Z") ∈ zT := z_tables_1_2 2 rfl rfl
set_option maxRecDepth 100000 in
theorem wd_271 : (Cond.fieldLink "SpannedCells$Cell" (27 : Nat) "SpannedCells$Cell" "rows" "I") ∈ zT := z_tables_1_2 3 rfl rfl
set_option maxRecDepth 100000 in
theorem wd_272 : (Cond.fieldLink "SpannedCells$Heights" (31 : Nat) "SpannedCells$Cell" "rows" "I") ∈ zT := z_tables_1_2 4 rfl rfl
set_option maxRecDepth 100000 in
theorem wd_273 : (Cond.fieldLink "SpannedCells" (105 : Nat) "SpannedCells$Cell" "rows" "I") ∈ zT := z_tables_1_2 5 rfl rfl
set_option maxRecDepth 100000 in
theorem wd_274 : (Cond.fieldLink "SpannedCells$Grid" (88 : Nat) "SpannedCells$Cell" "rows" "I") ∈ zT := z_tables_1_2 6 rfl rfl
set_option maxRecDepth 100000 in
theorem wd_275 : (Cond.fieldLink "SpannedCells$Cell" (9 : Nat) "SpannedCells$Cell" "thickness" "I") ∈ zT := z_tables_1_2 7 rfl rfl
set_option maxRecDepth 100000 in
theorem wd_276 : (Cond.fieldLink "SpannedCells$Cell" (15 : Nat) "SpannedCells$Cell" "rank" "I") ∈ zT := z_tables_1_2 8 rfl rfl
set_option maxRecDepth 100000 in
theorem wd_277 : (Cond.laysFinal "SpannedCells$Cell" "SpannedCells$Cell" "left" "I") ∈ zT := z_tables_1_2 9 rfl rfl
set_option maxRecDepth 100000 in
theorem wd_279 : (Cond.laysFinal "SpannedCells$Cell" "SpannedCells$Cell" "top" "I") ∈ zT := z_tables_1_2 11 rfl rfl
set_option maxRecDepth 100000 in
theorem wd_281 : (Cond.laysFinal "SpannedCells$Cell" "SpannedCells$Cell" "columns" "I") ∈ zT := z_tables_1_2 13 rfl rfl
set_option maxRecDepth 100000 in
theorem wd_283 : (Cond.laysFinal "SpannedCells$Cell" "SpannedCells$Cell" "least" "I") ∈ zT := z_tables_1_2 15 rfl rfl
set_option maxRecDepth 100000 in
theorem wd_285 : (Cond.laysFinal "SpannedCells$Cell" "SpannedCells$Cell" "most" "I") ∈ zT := z_tables_1_2 17 rfl rfl
set_option maxRecDepth 100000 in
theorem wd_287 : (Cond.laysFinal "SpannedCells$Cell" "SpannedCells$Cell" "need" "I") ∈ zT := z_tables_1_2 19 rfl rfl
set_option maxRecDepth 100000 in
theorem wd_289 : (Cond.laysFinal "SpannedCells$Cell" "SpannedCells$Cell" "growing" "Z") ∈ zT := z_tables_1_2 21 rfl rfl
set_option maxRecDepth 100000 in
theorem wd_291 : (Cond.lays "SpannedCells$Cell" "SpannedCells$Cell" "rows" "I") ∈ zT := z_tables_1_2 23 rfl rfl
set_option maxRecDepth 100000 in
theorem wd_293 : (Cond.lays "SpannedCells$Cell" "SpannedCells$Cell" "thickness" "I") ∈ zT := z_tables_1_2 25 rfl rfl
set_option maxRecDepth 100000 in
theorem wd_295 : (Cond.lays "SpannedCells$Cell" "SpannedCells$Cell" "rank" "I") ∈ zT := z_tables_1_2 27 rfl rfl
set_option maxRecDepth 100000 in
theorem wd_298 : (Cond.methodLink "SpannedCells$Grid" (54 : Nat) yAL_add) ∈ zT := z_tables_1_2 30 rfl rfl
set_option maxRecDepth 100000 in
theorem wd_299 : (Cond.instanceMethod yAL_add) ∈ zT := z_tables_1_2 31 rfl rfl
set_option maxRecDepth 100000 in
theorem wd_300 : (Cond.selects "java/util/ArrayList" yAL_add yAL_add) ∈ zT := z_tables_1_2 32 rfl rfl
set_option maxRecDepth 100000 in
theorem wd_301 : (Cond.code yAL_add prog_16_method_25_code (2 : Nat) (Option.some Jvm.ClassFile.FieldType.boolean)) ∈ zT := z_tables_1_2 33 rfl rfl
set_option maxRecDepth 100000 in
theorem wd_302 : (Cond.methodLink "java/util/ArrayList" (131 : Nat) yAL_add_41) ∈ zT := z_tables_1_2 34 rfl rfl
set_option maxRecDepth 100000 in
theorem wd_304 : (Cond.instanceMethod yAL_add_41) ∈ zT := z_tables_1_2 36 rfl rfl
set_option maxRecDepth 100000 in
theorem wd_305 : (Cond.code yAL_add_41 prog_16_method_24_code (4 : Nat) (Option.none : Option Jvm.ClassFile.FieldType)) ∈ zT := z_tables_1_2 37 rfl rfl
set_option maxRecDepth 100000 in
theorem wd_306 : (Cond.methodLink "java/util/ArrayList" (129 : Nat) yAL_grow) ∈ zT := z_tables_1_2 38 rfl rfl
set_option maxRecDepth 100000 in
theorem wd_308 : (Cond.instanceMethod yAL_grow) ∈ zT := z_tables_1_2 40 rfl rfl
set_option maxRecDepth 100000 in
theorem wd_309 : (Cond.code yAL_grow prog_16_method_7_code (1 : Nat) (Option.some (Jvm.ClassFile.FieldType.array (Jvm.ClassFile.FieldType.object "java/lang/Object")))) ∈ zT := z_tables_1_2 41 rfl rfl
set_option maxRecDepth 100000 in
theorem wd_310 : (Cond.methodLink "java/util/ArrayList" (69 : Nat) yAL_grow_22) ∈ zT := z_tables_1_2 42 rfl rfl
set_option maxRecDepth 100000 in
theorem wd_312 : (Cond.instanceMethod yAL_grow_22) ∈ zT := z_tables_1_2 44 rfl rfl
set_option maxRecDepth 100000 in
theorem wd_313 : (Cond.code yAL_grow_22 prog_16_method_6_code (4 : Nat) (Option.some (Jvm.ClassFile.FieldType.array (Jvm.ClassFile.FieldType.object "java/lang/Object")))) ∈ zT := z_tables_1_2 45 rfl rfl
set_option maxRecDepth 100000 in
theorem wd_314 : (Cond.methodLink "java/util/ArrayList" (73 : Nat) yAS_newLength) ∈ zT := z_tables_1_2 46 rfl rfl
set_option maxRecDepth 100000 in
theorem wd_315 : (Cond.static yAS_newLength) ∈ zT := z_tables_1_2 47 rfl rfl
set_option maxRecDepth 100000 in
theorem wd_316 : (Cond.code yAS_newLength prog_23_method_27_code (4 : Nat) (Option.some Jvm.ClassFile.FieldType.int)) ∈ zT := z_tables_1_2 48 rfl rfl
set_option maxRecDepth 100000 in
theorem wd_317 : (Cond.methodLink "jdk/internal/util/ArraysSupport" (194 : Nat) Lib.Math.max.name) ∈ zT := z_tables_1_2 49 rfl rfl
set_option maxRecDepth 100000 in
theorem wd_318 : (Cond.constant "jdk/internal/util/ArraysSupport" (200 : Nat) (2147483639 : Int32)) ∈ zT := z_tables_1_2 50 rfl rfl
set_option maxRecDepth 100000 in
theorem wd_319 : (Cond.methodLink "jdk/internal/util/ArraysSupport" (201 : Nat) yAS_hugeLength) ∈ zT := z_tables_1_2 51 rfl rfl
set_option maxRecDepth 100000 in
theorem wd_320 : (Cond.static yAS_hugeLength) ∈ zT := z_tables_1_2 52 rfl rfl
set_option maxRecDepth 100000 in
theorem wd_321 : (Cond.code yAS_hugeLength prog_23_method_28_code (3 : Nat) (Option.some Jvm.ClassFile.FieldType.int)) ∈ zT := z_tables_1_2 53 rfl rfl
set_option maxRecDepth 100000 in
theorem wd_322 : (Cond.methodLink "java/util/ArrayList" (66 : Nat) yAR_copyOf) ∈ zT := z_tables_1_2 54 rfl rfl
set_option maxRecDepth 100000 in
theorem wd_323 : (Cond.static yAR_copyOf) ∈ zT := z_tables_1_2 55 rfl rfl
set_option maxRecDepth 100000 in
theorem wd_324 : (Cond.code yAR_copyOf prog_17_method_119_code (2 : Nat) (Option.some (Jvm.ClassFile.FieldType.array (Jvm.ClassFile.FieldType.object "java/lang/Object")))) ∈ zT := z_tables_1_2 56 rfl rfl
set_option maxRecDepth 100000 in
theorem wd_325 : (Cond.methodLink "java/util/Arrays" (86 : Nat) ⟨"java/lang/Object", "getClass", "()Ljava/lang/Class;"⟩) ∈ zT := z_tables_1_2 57 rfl rfl
set_option maxRecDepth 100000 in
theorem wd_326 : (Cond.instanceMethod ⟨"java/lang/Object", "getClass", "()Ljava/lang/Class;"⟩) ∈ zT := z_tables_1_2 58 rfl rfl
set_option maxRecDepth 100000 in
theorem wd_328 : (Cond.selects "SpannedCells" ⟨"java/lang/Object", "getClass", "()Ljava/lang/Class;"⟩ ⟨"java/lang/Object", "getClass", "()Ljava/lang/Class;"⟩) ∈ zT := z_tables_1_2 60 rfl rfl
set_option maxRecDepth 100000 in
theorem wd_329 : (Cond.selects "SpannedCells$Cell" ⟨"java/lang/Object", "getClass", "()Ljava/lang/Class;"⟩ ⟨"java/lang/Object", "getClass", "()Ljava/lang/Class;"⟩) ∈ zT := z_tables_1_2 61 rfl rfl
set_option maxRecDepth 100000 in
theorem wd_330 : (Cond.selects "SpannedCells$Grid" ⟨"java/lang/Object", "getClass", "()Ljava/lang/Class;"⟩ ⟨"java/lang/Object", "getClass", "()Ljava/lang/Class;"⟩) ∈ zT := z_tables_1_2 62 rfl rfl
set_option maxRecDepth 100000 in
theorem wd_331 : (Cond.selects "SpannedCells$Heights" ⟨"java/lang/Object", "getClass", "()Ljava/lang/Class;"⟩ ⟨"java/lang/Object", "getClass", "()Ljava/lang/Class;"⟩) ∈ zT := z_tables_1_2 63 rfl rfl
set_option maxRecDepth 100000 in
theorem wd_332 : (Cond.selects "SpannedCells$Lines" ⟨"java/lang/Object", "getClass", "()Ljava/lang/Class;"⟩ ⟨"java/lang/Object", "getClass", "()Ljava/lang/Class;"⟩) ∈ zT := z_tables_1_2 64 rfl rfl
set_option maxRecDepth 100000 in
theorem wd_333 : (Cond.selects "SpannedCells$Widths" ⟨"java/lang/Object", "getClass", "()Ljava/lang/Class;"⟩ ⟨"java/lang/Object", "getClass", "()Ljava/lang/Class;"⟩) ∈ zT := z_tables_1_2 65 rfl rfl
set_option maxRecDepth 100000 in
theorem wd_334 : (Cond.selects "SpannedCellsModel" ⟨"java/lang/Object", "getClass", "()Ljava/lang/Class;"⟩ ⟨"java/lang/Object", "getClass", "()Ljava/lang/Class;"⟩) ∈ zT := z_tables_1_2 66 rfl rfl
set_option maxRecDepth 100000 in
theorem wd_335 : (Cond.selects "java/util/ArrayList" ⟨"java/lang/Object", "getClass", "()Ljava/lang/Class;"⟩ ⟨"java/lang/Object", "getClass", "()Ljava/lang/Class;"⟩) ∈ zT := z_tables_1_2 67 rfl rfl
set_option maxRecDepth 100000 in
theorem wd_337 : (Cond.methodLink "java/util/Arrays" (300 : Nat) yAR_copyOf_58) ∈ zT := z_tables_1_2 69 rfl rfl
set_option maxRecDepth 100000 in
theorem wd_338 : (Cond.static yAR_copyOf_58) ∈ zT := z_tables_1_2 70 rfl rfl
set_option maxRecDepth 100000 in
theorem wd_339 : (Cond.code yAR_copyOf_58 prog_17_method_120_code (4 : Nat) (Option.some (Jvm.ClassFile.FieldType.array (Jvm.ClassFile.FieldType.object "java/lang/Object")))) ∈ zT := z_tables_1_2 71 rfl rfl
set_option maxRecDepth 100000 in
theorem wd_340 : (Cond.classLink "java/util/Arrays" (110 : Nat) "[Ljava/lang/Object;") ∈ zT := z_tables_1_2 72 rfl rfl
set_option maxRecDepth 100000 in
theorem wd_342 : (Cond.classLink "java/util/Arrays" (2 : Nat) "java/lang/Object") ∈ zT := z_tables_1_2 74 rfl rfl
set_option maxRecDepth 100000 in
theorem wd_343 : (Cond.methodLink "java/util/Arrays" (304 : Nat) yMA_min) ∈ zT := z_tables_1_2 75 rfl rfl
set_option maxRecDepth 100000 in
theorem wd_344 : (Cond.static yMA_min) ∈ zT := z_tables_1_2 76 rfl rfl
set_option maxRecDepth 100000 in
theorem wd_345 : (Cond.code yMA_min prog_12_method_69_code (2 : Nat) (Option.some Jvm.ClassFile.FieldType.int)) ∈ zT := z_tables_1_2 77 rfl rfl
set_option maxRecDepth 100000 in
theorem wd_346 : (Cond.methodLink "java/util/Arrays" (150 : Nat) ⟨"java/lang/System", "arraycopy", "(Ljava/lang/Object;ILjava/lang/Object;II)V"⟩) ∈ zT := z_tables_1_2 78 rfl rfl
set_option maxRecDepth 100000 in
theorem wd_347 : (Cond.static ⟨"java/lang/System", "arraycopy", "(Ljava/lang/Object;ILjava/lang/Object;II)V"⟩) ∈ zT := z_tables_1_2 79 rfl rfl
set_option maxRecDepth 100000 in
theorem wd_349 : (Cond.methodLink "java/util/ArrayList" (79 : Nat) Lib.Math.max.name) ∈ zT := z_tables_1_2 81 rfl rfl
set_option maxRecDepth 100000 in
theorem wd_350 : (Cond.classLink "java/util/ArrayList" (7 : Nat) "java/lang/Object") ∈ zT := z_tables_1_2 82 rfl rfl
set_option maxRecDepth 100000 in
theorem wd_352 : (Cond.instanceMethod ySC_border) ∈ zT := z_tables_1_2 84 rfl rfl
set_option maxRecDepth 100000 in
theorem wd_353 : (Cond.selects "SpannedCells" ySC_border ySC_border) ∈ zT := z_tables_1_2 85 rfl rfl
set_option maxRecDepth 100000 in
theorem wd_354 : (Cond.code ySC_border prog_1_method_5_code (4 : Nat) (Option.some Jvm.ClassFile.FieldType.boolean)) ∈ zT := z_tables_1_2 86 rfl rfl
set_option maxRecDepth 100000 in
theorem wd_355 : (Cond.methodLink "SpannedCells" (56 : Nat) yGR_hasCell) ∈ zT := z_tables_1_2 87 rfl rfl
set_option maxRecDepth 100000 in
theorem wd_356 : (Cond.instanceMethod yGR_hasCell) ∈ zT := z_tables_1_2 88 rfl rfl
set_option maxRecDepth 100000 in
theorem wd_357 : (Cond.selects "SpannedCells$Grid" yGR_hasCell yGR_hasCell) ∈ zT := z_tables_1_2 89 rfl rfl
set_option maxRecDepth 100000 in
theorem wd_358 : (Cond.code yGR_hasCell prog_3_method_11_code (2 : Nat) (Option.some Jvm.ClassFile.FieldType.boolean)) ∈ zT := z_tables_1_2 90 rfl rfl
set_option maxRecDepth 100000 in
theorem wd_359 : (Cond.methodLink "SpannedCells" (60 : Nat) yGR_cellAt) ∈ zT := z_tables_1_2 91 rfl rfl
set_option maxRecDepth 100000 in
theorem wd_360 : (Cond.instanceMethod yGR_cellAt) ∈ zT := z_tables_1_2 92 rfl rfl
set_option maxRecDepth 100000 in
theorem wd_361 : (Cond.selects "SpannedCells$Grid" yGR_cellAt yGR_cellAt) ∈ zT := z_tables_1_2 93 rfl rfl
set_option maxRecDepth 100000 in
theorem wd_362 : (Cond.code yGR_cellAt prog_3_method_12_code (2 : Nat) (Option.some (Jvm.ClassFile.FieldType.object "SpannedCells$Cell"))) ∈ zT := z_tables_1_2 94 rfl rfl
set_option maxRecDepth 100000 in
theorem wd_363 : (Cond.methodLink "SpannedCells" (64 : Nat) yCE_frame) ∈ zT := z_tables_1_2 95 rfl rfl
set_option maxRecDepth 100000 in
theorem wd_364 : (Cond.instanceMethod yCE_frame) ∈ zT := z_tables_1_2 96 rfl rfl
set_option maxRecDepth 100000 in
theorem wd_365 : (Cond.selects "SpannedCells$Cell" yCE_frame yCE_frame) ∈ zT := z_tables_1_2 97 rfl rfl
set_option maxRecDepth 100000 in
theorem wd_366 : (Cond.code yCE_frame prog_2_method_6_code (3 : Nat) (Option.none : Option Jvm.ClassFile.FieldType)) ∈ zT := z_tables_1_2 98 rfl rfl
set_option maxRecDepth 100000 in
theorem wd_368 : (Cond.instanceMethod ySC_layout) ∈ zT := z_tables_1_2 100 rfl rfl
set_option maxRecDepth 100000 in
theorem wd_369 : (Cond.selects "SpannedCells" ySC_layout ySC_layout) ∈ zT := z_tables_1_2 101 rfl rfl
set_option maxRecDepth 100000 in
theorem wd_370 : (Cond.code ySC_layout prog_1_method_6_code (4 : Nat) (Option.some Jvm.ClassFile.FieldType.boolean)) ∈ zT := z_tables_1_2 102 rfl rfl
set_option maxRecDepth 100000 in
theorem wd_372 : (Cond.instanceMethod ySC_clear) ∈ zT := z_tables_1_2 104 rfl rfl
set_option maxRecDepth 100000 in
theorem wd_373 : (Cond.selects "SpannedCells" ySC_clear ySC_clear) ∈ zT := z_tables_1_2 105 rfl rfl
set_option maxRecDepth 100000 in
theorem wd_374 : (Cond.code ySC_clear prog_1_method_7_code (2 : Nat) (Option.some Jvm.ClassFile.FieldType.int)) ∈ zT := z_tables_1_2 106 rfl rfl
set_option maxRecDepth 100000 in
theorem wd_375 : (Cond.methodLink "SpannedCells" (70 : Nat) yGR_cellCount) ∈ zT := z_tables_1_2 107 rfl rfl
set_option maxRecDepth 100000 in
theorem wd_376 : (Cond.instanceMethod yGR_cellCount) ∈ zT := z_tables_1_2 108 rfl rfl
set_option maxRecDepth 100000 in
theorem wd_377 : (Cond.selects "SpannedCells$Grid" yGR_cellCount yGR_cellCount) ∈ zT := z_tables_1_2 109 rfl rfl
set_option maxRecDepth 100000 in
theorem wd_378 : (Cond.code yGR_cellCount prog_3_method_8_code (1 : Nat) (Option.some Jvm.ClassFile.FieldType.int)) ∈ zT := z_tables_1_2 110 rfl rfl
set_option maxRecDepth 100000 in
theorem wd_379 : (Cond.methodLink "SpannedCells" (73 : Nat) yGR_empty) ∈ zT := z_tables_1_2 111 rfl rfl
set_option maxRecDepth 100000 in
theorem wd_380 : (Cond.instanceMethod yGR_empty) ∈ zT := z_tables_1_2 112 rfl rfl
set_option maxRecDepth 100000 in
theorem wd_381 : (Cond.selects "SpannedCells$Grid" yGR_empty yGR_empty) ∈ zT := z_tables_1_2 113 rfl rfl
set_option maxRecDepth 100000 in
theorem wd_382 : (Cond.code yGR_empty prog_3_method_2_code (1 : Nat) (Option.none : Option Jvm.ClassFile.FieldType)) ∈ zT := z_tables_1_2 114 rfl rfl
set_option maxRecDepth 100000 in
theorem wd_383 : (Cond.methodLink "SpannedCells$Grid" (34 : Nat) yAL_clear) ∈ zT := z_tables_1_2 115 rfl rfl
set_option maxRecDepth 100000 in
theorem wd_384 : (Cond.instanceMethod yAL_clear) ∈ zT := z_tables_1_2 116 rfl rfl
set_option maxRecDepth 100000 in
theorem wd_385 : (Cond.selects "java/util/ArrayList" yAL_clear yAL_clear) ∈ zT := z_tables_1_2 117 rfl rfl
set_option maxRecDepth 100000 in
theorem wd_386 : (Cond.code yAL_clear prog_16_method_40_code (4 : Nat) (Option.none : Option Jvm.ClassFile.FieldType)) ∈ zT := z_tables_1_2 118 rfl rfl
set_option maxRecDepth 100000 in
theorem wd_388 : (Cond.instanceMethod ySC_columns) ∈ zT := z_tables_1_2 120 rfl rfl
set_option maxRecDepth 100000 in
theorem wd_389 : (Cond.selects "SpannedCells" ySC_columns ySC_columns) ∈ zT := z_tables_1_2 121 rfl rfl
set_option maxRecDepth 100000 in
theorem wd_390 : (Cond.code ySC_columns prog_1_method_8_code (1 : Nat) (Option.some Jvm.ClassFile.FieldType.int)) ∈ zT := z_tables_1_2 122 rfl rfl
set_option maxRecDepth 100000 in
theorem wd_391 : (Cond.methodLink "SpannedCells" (76 : Nat) yGR_columnCount) ∈ zT := z_tables_1_2 123 rfl rfl
set_option maxRecDepth 100000 in
theorem wd_392 : (Cond.instanceMethod yGR_columnCount) ∈ zT := z_tables_1_2 124 rfl rfl
set_option maxRecDepth 100000 in
theorem wd_393 : (Cond.selects "SpannedCells$Grid" yGR_columnCount yGR_columnCount) ∈ zT := z_tables_1_2 125 rfl rfl
set_option maxRecDepth 100000 in
theorem wd_394 : (Cond.code yGR_columnCount prog_3_method_9_code (1 : Nat) (Option.some Jvm.ClassFile.FieldType.int)) ∈ zT := z_tables_1_2 126 rfl rfl
set_option maxRecDepth 100000 in
theorem wd_396 : (Cond.instanceMethod ySC_rows) ∈ zT := z_tables_1_2 128 rfl rfl
set_option maxRecDepth 100000 in
theorem wd_397 : (Cond.selects "SpannedCells" ySC_rows ySC_rows) ∈ zT := z_tables_1_2 129 rfl rfl
set_option maxRecDepth 100000 in
theorem wd_398 : (Cond.code ySC_rows prog_1_method_9_code (1 : Nat) (Option.some Jvm.ClassFile.FieldType.int)) ∈ zT := z_tables_1_2 130 rfl rfl
set_option maxRecDepth 100000 in
theorem wd_399 : (Cond.methodLink "SpannedCells" (79 : Nat) yGR_rowCount) ∈ zT := z_tables_1_2 131 rfl rfl
set_option maxRecDepth 100000 in
theorem wd_400 : (Cond.instanceMethod yGR_rowCount) ∈ zT := z_tables_1_2 132 rfl rfl
set_option maxRecDepth 100000 in
theorem wd_401 : (Cond.selects "SpannedCells$Grid" yGR_rowCount yGR_rowCount) ∈ zT := z_tables_1_2 133 rfl rfl
set_option maxRecDepth 100000 in
theorem wd_402 : (Cond.code yGR_rowCount prog_3_method_10_code (1 : Nat) (Option.some Jvm.ClassFile.FieldType.int)) ∈ zT := z_tables_1_2 134 rfl rfl
set_option maxRecDepth 100000 in
theorem wd_404 : (Cond.instanceMethod ySC_slot) ∈ zT := z_tables_1_2 136 rfl rfl
