set_option maxRecDepth 100000 in
theorem wd_405 : (Cond.selects "SpannedCells" ySC_slot ySC_slot) ∈ zT := z_tables_1_2 137 rfl rfl
set_option maxRecDepth 100000 in
theorem wd_406 : (Cond.code ySC_slot prog_1_method_10_code (3 : Nat) (Option.some Jvm.ClassFile.FieldType.int)) ∈ zT := z_tables_1_2 138 rfl rfl
set_option maxRecDepth 100000 in
theorem wd_407 : (Cond.methodLink "SpannedCells" (82 : Nat) yGR_ownerOf) ∈ zT := z_tables_1_2 139 rfl rfl
set_option maxRecDepth 100000 in
theorem wd_409 : (Cond.instanceMethod ySC_overlaps) ∈ zT := z_tables_1_2 141 rfl rfl
set_option maxRecDepth 100000 in
theorem wd_410 : (Cond.selects "SpannedCells" ySC_overlaps ySC_overlaps) ∈ zT := z_tables_1_2 142 rfl rfl
set_option maxRecDepth 100000 in
theorem wd_411 : (Cond.code ySC_overlaps prog_1_method_11_code (1 : Nat) (Option.some Jvm.ClassFile.FieldType.int)) ∈ zT := z_tables_1_2 143 rfl rfl
set_option maxRecDepth 100000 in
theorem wd_412 : (Cond.methodLink "SpannedCells" (86 : Nat) yGR_countOverlaps) ∈ zT := z_tables_1_2 144 rfl rfl
set_option maxRecDepth 100000 in
theorem wd_413 : (Cond.instanceMethod yGR_countOverlaps) ∈ zT := z_tables_1_2 145 rfl rfl
set_option maxRecDepth 100000 in
theorem wd_414 : (Cond.selects "SpannedCells$Grid" yGR_countOverlaps yGR_countOverlaps) ∈ zT := z_tables_1_2 146 rfl rfl
set_option maxRecDepth 100000 in
theorem wd_415 : (Cond.code yGR_countOverlaps prog_3_method_15_code (3 : Nat) (Option.some Jvm.ClassFile.FieldType.int)) ∈ zT := z_tables_1_2 147 rfl rfl
set_option maxRecDepth 100000 in
theorem wd_416 : (Cond.methodLink "SpannedCells$Grid" (91 : Nat) yGR_countOwnedSlots) ∈ zT := z_tables_1_2 148 rfl rfl
set_option maxRecDepth 100000 in
theorem wd_418 : (Cond.instanceMethod yGR_countOwnedSlots) ∈ zT := z_tables_1_2 150 rfl rfl
set_option maxRecDepth 100000 in
theorem wd_419 : (Cond.code yGR_countOwnedSlots prog_3_method_16_code (4 : Nat) (Option.some Jvm.ClassFile.FieldType.int)) ∈ zT := z_tables_1_2 151 rfl rfl
set_option maxRecDepth 100000 in
theorem wd_421 : (Cond.instanceMethod ySC_empties) ∈ zT := z_tables_1_2 153 rfl rfl
set_option maxRecDepth 100000 in
theorem wd_422 : (Cond.selects "SpannedCells" ySC_empties ySC_empties) ∈ zT := z_tables_1_2 154 rfl rfl
set_option maxRecDepth 100000 in
theorem wd_423 : (Cond.code ySC_empties prog_1_method_12_code (1 : Nat) (Option.some Jvm.ClassFile.FieldType.int)) ∈ zT := z_tables_1_2 155 rfl rfl
set_option maxRecDepth 100000 in
theorem wd_424 : (Cond.methodLink "SpannedCells" (89 : Nat) yGR_countEmptyColumns) ∈ zT := z_tables_1_2 156 rfl rfl
set_option maxRecDepth 100000 in
theorem wd_425 : (Cond.instanceMethod yGR_countEmptyColumns) ∈ zT := z_tables_1_2 157 rfl rfl
set_option maxRecDepth 100000 in
theorem wd_426 : (Cond.selects "SpannedCells$Grid" yGR_countEmptyColumns yGR_countEmptyColumns) ∈ zT := z_tables_1_2 158 rfl rfl
set_option maxRecDepth 100000 in
theorem wd_427 : (Cond.code yGR_countEmptyColumns prog_3_method_17_code (3 : Nat) (Option.some Jvm.ClassFile.FieldType.int)) ∈ zT := z_tables_1_2 159 rfl rfl
set_option maxRecDepth 100000 in
theorem wd_428 : (Cond.methodLink "SpannedCells$Grid" (94 : Nat) yGR_beginsInColumn) ∈ zT := z_tables_1_2 160 rfl rfl
set_option maxRecDepth 100000 in
theorem wd_430 : (Cond.instanceMethod yGR_beginsInColumn) ∈ zT := z_tables_1_2 162 rfl rfl
set_option maxRecDepth 100000 in
theorem wd_431 : (Cond.code yGR_beginsInColumn prog_3_method_19_code (3 : Nat) (Option.some Jvm.ClassFile.FieldType.boolean)) ∈ zT := z_tables_1_2 163 rfl rfl
set_option maxRecDepth 100000 in
theorem wd_432 : (Cond.methodLink "SpannedCells" (92 : Nat) yGR_countEmptyRows) ∈ zT := z_tables_1_2 164 rfl rfl
set_option maxRecDepth 100000 in
theorem wd_433 : (Cond.instanceMethod yGR_countEmptyRows) ∈ zT := z_tables_1_2 165 rfl rfl
set_option maxRecDepth 100000 in
theorem wd_434 : (Cond.selects "SpannedCells$Grid" yGR_countEmptyRows yGR_countEmptyRows) ∈ zT := z_tables_1_2 166 rfl rfl
set_option maxRecDepth 100000 in
theorem wd_435 : (Cond.code yGR_countEmptyRows prog_3_method_18_code (3 : Nat) (Option.some Jvm.ClassFile.FieldType.int)) ∈ zT := z_tables_1_2 167 rfl rfl
set_option maxRecDepth 100000 in
theorem wd_436 : (Cond.methodLink "SpannedCells$Grid" (98 : Nat) yGR_beginsInRow) ∈ zT := z_tables_1_2 168 rfl rfl
set_option maxRecDepth 100000 in
theorem wd_438 : (Cond.instanceMethod yGR_beginsInRow) ∈ zT := z_tables_1_2 170 rfl rfl
set_option maxRecDepth 100000 in
theorem wd_439 : (Cond.code yGR_beginsInRow prog_3_method_20_code (3 : Nat) (Option.some Jvm.ClassFile.FieldType.boolean)) ∈ zT := z_tables_1_2 171 rfl rfl
set_option maxRecDepth 100000 in
theorem wd_441 : (Cond.instanceMethod ySC_span) ∈ zT := z_tables_1_2 173 rfl rfl
set_option maxRecDepth 100000 in
theorem wd_442 : (Cond.selects "SpannedCells" ySC_span ySC_span) ∈ zT := z_tables_1_2 174 rfl rfl
set_option maxRecDepth 100000 in
theorem wd_443 : (Cond.code ySC_span prog_1_method_13_code (3 : Nat) (Option.some Jvm.ClassFile.FieldType.int)) ∈ zT := z_tables_1_2 175 rfl rfl
set_option maxRecDepth 100000 in
theorem wd_444 : (Cond.constant "SpannedCells" (104 : Nat) (1000000 : Int32)) ∈ zT := z_tables_1_2 176 rfl rfl
set_option maxRecDepth 100000 in
theorem wd_446 : (Cond.instanceMethod ySC_wide) ∈ zT := z_tables_1_2 178 rfl rfl
set_option maxRecDepth 100000 in
theorem wd_447 : (Cond.selects "SpannedCells" ySC_wide ySC_wide) ∈ zT := z_tables_1_2 179 rfl rfl
set_option maxRecDepth 100000 in
theorem wd_448 : (Cond.code ySC_wide prog_1_method_14_code (3 : Nat) (Option.some Jvm.ClassFile.FieldType.int)) ∈ zT := z_tables_1_2 180 rfl rfl
set_option maxRecDepth 100000 in
theorem wd_449 : (Cond.methodLink "SpannedCells" (108 : Nat) ySC_measuredWidths) ∈ zT := z_tables_1_2 181 rfl rfl
set_option maxRecDepth 100000 in
theorem wd_451 : (Cond.instanceMethod ySC_measuredWidths) ∈ zT := z_tables_1_2 183 rfl rfl
set_option maxRecDepth 100000 in
theorem wd_452 : (Cond.code ySC_measuredWidths prog_1_method_19_code (1 : Nat) (Option.some (Jvm.ClassFile.FieldType.object "SpannedCells$Widths"))) ∈ zT := z_tables_1_2 184 rfl rfl
set_option maxRecDepth 100000 in
theorem wd_453 : (Cond.methodLink "SpannedCells" (152 : Nat) yWI_measure) ∈ zT := z_tables_1_2 185 rfl rfl
set_option maxRecDepth 100000 in
theorem wd_454 : (Cond.instanceMethod yWI_measure) ∈ zT := z_tables_1_2 186 rfl rfl
set_option maxRecDepth 100000 in
theorem wd_455 : (Cond.selects "SpannedCells$Widths" yWI_measure yWI_measure) ∈ zT := z_tables_1_2 187 rfl rfl
set_option maxRecDepth 100000 in
theorem wd_456 : (Cond.code yWI_measure prog_6_method_2_code (5 : Nat) (Option.none : Option Jvm.ClassFile.FieldType)) ∈ zT := z_tables_1_2 188 rfl rfl
set_option maxRecDepth 100000 in
theorem wd_457 : (Cond.methodLink "SpannedCells$Widths" (27 : Nat) yLI_reset) ∈ zT := z_tables_1_2 189 rfl rfl
set_option maxRecDepth 100000 in
theorem wd_458 : (Cond.instanceMethod yLI_reset) ∈ zT := z_tables_1_2 190 rfl rfl
set_option maxRecDepth 100000 in
theorem wd_459 : (Cond.selects "SpannedCells$Lines" yLI_reset yLI_reset) ∈ zT := z_tables_1_2 191 rfl rfl
set_option maxRecDepth 100000 in
theorem wd_460 : (Cond.code yLI_reset prog_5_method_2_code (1 : Nat) (Option.none : Option Jvm.ClassFile.FieldType)) ∈ zT := z_tables_1_2 192 rfl rfl
set_option maxRecDepth 100000 in
theorem wd_461 : (Cond.methodLink "SpannedCells$Lines" (15 : Nat) yAR_fill) ∈ zT := z_tables_1_2 193 rfl rfl
set_option maxRecDepth 100000 in
theorem wd_462 : (Cond.static yAR_fill) ∈ zT := z_tables_1_2 194 rfl rfl
set_option maxRecDepth 100000 in
theorem wd_463 : (Cond.code yAR_fill prog_17_method_103_code (4 : Nat) (Option.none : Option Jvm.ClassFile.FieldType)) ∈ zT := z_tables_1_2 195 rfl rfl
set_option maxRecDepth 100000 in
theorem wd_464 : (Cond.methodLink "SpannedCells$Widths" (30 : Nat) yGR_cellCount) ∈ zT := z_tables_1_2 196 rfl rfl
set_option maxRecDepth 100000 in
theorem wd_465 : (Cond.methodLink "SpannedCells$Widths" (36 : Nat) yGR_cellAt) ∈ zT := z_tables_1_2 197 rfl rfl
set_option maxRecDepth 100000 in
theorem wd_466 : (Cond.methodLink "SpannedCells$Widths" (46 : Nat) yWI_fit) ∈ zT := z_tables_1_2 198 rfl rfl
set_option maxRecDepth 100000 in
theorem wd_468 : (Cond.instanceMethod yWI_fit) ∈ zT := z_tables_1_2 200 rfl rfl
set_option maxRecDepth 100000 in
theorem wd_469 : (Cond.code yWI_fit prog_6_method_3_code (3 : Nat) (Option.none : Option Jvm.ClassFile.FieldType)) ∈ zT := z_tables_1_2 201 rfl rfl
set_option maxRecDepth 100000 in
theorem wd_470 : (Cond.methodLink "SpannedCells$Widths" (55 : Nat) yCE_right) ∈ zT := z_tables_1_2 202 rfl rfl
set_option maxRecDepth 100000 in
theorem wd_471 : (Cond.methodLink "SpannedCells$Widths" (58 : Nat) yLI_stretch) ∈ zT := z_tables_1_2 203 rfl rfl
set_option maxRecDepth 100000 in
theorem wd_472 : (Cond.instanceMethod yLI_stretch) ∈ zT := z_tables_1_2 204 rfl rfl
set_option maxRecDepth 100000 in
theorem wd_473 : (Cond.selects "SpannedCells$Lines" yLI_stretch yLI_stretch) ∈ zT := z_tables_1_2 205 rfl rfl
set_option maxRecDepth 100000 in
theorem wd_474 : (Cond.code yLI_stretch prog_5_method_10_code (7 : Nat) (Option.none : Option Jvm.ClassFile.FieldType)) ∈ zT := z_tables_1_2 206 rfl rfl
set_option maxRecDepth 100000 in
theorem wd_475 : (Cond.methodLink "SpannedCells$Lines" (36 : Nat) yLI_reach) ∈ zT := z_tables_1_2 207 rfl rfl
set_option maxRecDepth 100000 in
theorem wd_476 : (Cond.instanceMethod yLI_reach) ∈ zT := z_tables_1_2 208 rfl rfl
set_option maxRecDepth 100000 in
theorem wd_477 : (Cond.selects "SpannedCells$Lines" yLI_reach yLI_reach) ∈ zT := z_tables_1_2 209 rfl rfl
set_option maxRecDepth 100000 in
theorem wd_478 : (Cond.code yLI_reach prog_5_method_8_code (4 : Nat) (Option.some Jvm.ClassFile.FieldType.int)) ∈ zT := z_tables_1_2 210 rfl rfl
set_option maxRecDepth 100000 in
theorem wd_479 : (Cond.methodLink "SpannedCells$Lines" (33 : Nat) yLI_sum) ∈ zT := z_tables_1_2 211 rfl rfl
set_option maxRecDepth 100000 in
theorem wd_480 : (Cond.instanceMethod yLI_sum) ∈ zT := z_tables_1_2 212 rfl rfl
set_option maxRecDepth 100000 in
theorem wd_481 : (Cond.selects "SpannedCells$Lines" yLI_sum yLI_sum) ∈ zT := z_tables_1_2 213 rfl rfl
set_option maxRecDepth 100000 in
theorem wd_482 : (Cond.code yLI_sum prog_5_method_7_code (5 : Nat) (Option.some Jvm.ClassFile.FieldType.int)) ∈ zT := z_tables_1_2 214 rfl rfl
set_option maxRecDepth 100000 in
theorem wd_483 : (Cond.methodLink "SpannedCells$Lines" (40 : Nat) yLI_shareOut) ∈ zT := z_tables_1_2 215 rfl rfl
set_option maxRecDepth 100000 in
theorem wd_484 : (Cond.instanceMethod yLI_shareOut) ∈ zT := z_tables_1_2 216 rfl rfl
set_option maxRecDepth 100000 in
theorem wd_485 : (Cond.selects "SpannedCells$Lines" yLI_shareOut yLI_shareOut) ∈ zT := z_tables_1_2 217 rfl rfl
set_option maxRecDepth 100000 in
theorem wd_486 : (Cond.code yLI_shareOut prog_5_method_11_code (12 : Nat) (Option.none : Option Jvm.ClassFile.FieldType)) ∈ zT := z_tables_1_2 218 rfl rfl
set_option maxRecDepth 100000 in
theorem wd_487 : (Cond.methodLink "SpannedCells$Widths" (64 : Nat) yLI_raiseTo) ∈ zT := z_tables_1_2 219 rfl rfl
set_option maxRecDepth 100000 in
theorem wd_488 : (Cond.instanceMethod yLI_raiseTo) ∈ zT := z_tables_1_2 220 rfl rfl
set_option maxRecDepth 100000 in
theorem wd_489 : (Cond.selects "SpannedCells$Lines" yLI_raiseTo yLI_raiseTo) ∈ zT := z_tables_1_2 221 rfl rfl
set_option maxRecDepth 100000 in
theorem wd_490 : (Cond.code yLI_raiseTo prog_5_method_5_code (5 : Nat) (Option.none : Option Jvm.ClassFile.FieldType)) ∈ zT := z_tables_1_2 222 rfl rfl
set_option maxRecDepth 100000 in
theorem wd_491 : (Cond.methodLink "SpannedCells$Lines" (21 : Nat) Lib.Math.max.name) ∈ zT := z_tables_1_2 223 rfl rfl
set_option maxRecDepth 100000 in
theorem wd_492 : (Cond.methodLink "SpannedCells" (116 : Nat) yLI_sizeOf) ∈ zT := z_tables_1_2 224 rfl rfl
set_option maxRecDepth 100000 in
theorem wd_493 : (Cond.instanceMethod yLI_sizeOf) ∈ zT := z_tables_1_2 225 rfl rfl
set_option maxRecDepth 100000 in
theorem wd_494 : (Cond.selects "SpannedCells$Lines" yLI_sizeOf yLI_sizeOf) ∈ zT := z_tables_1_2 226 rfl rfl
set_option maxRecDepth 100000 in
theorem wd_495 : (Cond.code yLI_sizeOf prog_5_method_3_code (2 : Nat) (Option.some Jvm.ClassFile.FieldType.int)) ∈ zT := z_tables_1_2 227 rfl rfl
set_option maxRecDepth 100000 in
theorem wd_496 : (Cond.methodLink "SpannedCells" (125 : Nat) ySC_chosenWidths) ∈ zT := z_tables_1_2 228 rfl rfl
set_option maxRecDepth 100000 in
theorem wd_498 : (Cond.instanceMethod ySC_chosenWidths) ∈ zT := z_tables_1_2 230 rfl rfl
set_option maxRecDepth 100000 in
theorem wd_499 : (Cond.code ySC_chosenWidths prog_1_method_20_code (2 : Nat) (Option.some (Jvm.ClassFile.FieldType.object "SpannedCells$Lines"))) ∈ zT := z_tables_1_2 231 rfl rfl
set_option maxRecDepth 100000 in
theorem wd_500 : (Cond.methodLink "SpannedCells" (156 : Nat) Lib.Math.max.name) ∈ zT := z_tables_1_2 232 rfl rfl
set_option maxRecDepth 100000 in
theorem wd_501 : (Cond.methodLink "SpannedCells" (161 : Nat) yWI_chooseFixed) ∈ zT := z_tables_1_2 233 rfl rfl
set_option maxRecDepth 100000 in
theorem wd_502 : (Cond.instanceMethod yWI_chooseFixed) ∈ zT := z_tables_1_2 234 rfl rfl
set_option maxRecDepth 100000 in
theorem wd_503 : (Cond.selects "SpannedCells$Widths" yWI_chooseFixed yWI_chooseFixed) ∈ zT := z_tables_1_2 235 rfl rfl
set_option maxRecDepth 100000 in
theorem wd_504 : (Cond.code yWI_chooseFixed prog_6_method_6_code (8 : Nat) (Option.none : Option Jvm.ClassFile.FieldType)) ∈ zT := z_tables_1_2 236 rfl rfl
set_option maxRecDepth 100000 in
theorem wd_505 : (Cond.methodLink "SpannedCells$Widths" (95 : Nat) Lib.Math.max.name) ∈ zT := z_tables_1_2 237 rfl rfl
set_option maxRecDepth 100000 in
theorem wd_506 : (Cond.methodLink "SpannedCells$Widths" (80 : Nat) yLI_shareOut) ∈ zT := z_tables_1_2 238 rfl rfl
set_option maxRecDepth 100000 in
theorem wd_507 : (Cond.methodLink "SpannedCells$Widths" (68 : Nat) yLI_sum) ∈ zT := z_tables_1_2 239 rfl rfl
set_option maxRecDepth 100000 in
theorem wd_508 : (Cond.methodLink "SpannedCells$Widths" (100 : Nat) yGR_columnCount) ∈ zT := z_tables_1_3 0 rfl rfl
set_option maxRecDepth 100000 in
theorem wd_509 : (Cond.methodLink "SpannedCells" (165 : Nat) yWI_chooseByMeasures) ∈ zT := z_tables_1_3 1 rfl rfl
set_option maxRecDepth 100000 in
theorem wd_510 : (Cond.instanceMethod yWI_chooseByMeasures) ∈ zT := z_tables_1_3 2 rfl rfl
set_option maxRecDepth 100000 in
theorem wd_511 : (Cond.selects "SpannedCells$Widths" yWI_chooseByMeasures yWI_chooseByMeasures) ∈ zT := z_tables_1_3 3 rfl rfl
set_option maxRecDepth 100000 in
theorem wd_512 : (Cond.code yWI_chooseByMeasures prog_6_method_4_code (5 : Nat) (Option.none : Option Jvm.ClassFile.FieldType)) ∈ zT := z_tables_1_3 4 rfl rfl
set_option maxRecDepth 100000 in
theorem wd_513 : (Cond.methodLink "SpannedCells$Widths" (72 : Nat) yLI_copyOf) ∈ zT := z_tables_1_3 5 rfl rfl
set_option maxRecDepth 100000 in
theorem wd_514 : (Cond.instanceMethod yLI_copyOf) ∈ zT := z_tables_1_3 6 rfl rfl
set_option maxRecDepth 100000 in
theorem wd_515 : (Cond.selects "SpannedCells$Lines" yLI_copyOf yLI_copyOf) ∈ zT := z_tables_1_3 7 rfl rfl
set_option maxRecDepth 100000 in
theorem wd_516 : (Cond.code yLI_copyOf prog_5_method_6_code (2 : Nat) (Option.none : Option Jvm.ClassFile.FieldType)) ∈ zT := z_tables_1_3 8 rfl rfl
set_option maxRecDepth 100000 in
theorem wd_517 : (Cond.methodLink "SpannedCells$Lines" (27 : Nat) ⟨"java/lang/System", "arraycopy", "(Ljava/lang/Object;ILjava/lang/Object;II)V"⟩) ∈ zT := z_tables_1_3 9 rfl rfl
set_option maxRecDepth 100000 in
theorem wd_518 : (Cond.methodLink "SpannedCells$Widths" (76 : Nat) yWI_weighByScope) ∈ zT := z_tables_1_3 10 rfl rfl
set_option maxRecDepth 100000 in
theorem wd_520 : (Cond.instanceMethod yWI_weighByScope) ∈ zT := z_tables_1_3 12 rfl rfl
set_option maxRecDepth 100000 in
theorem wd_521 : (Cond.code yWI_weighByScope prog_6_method_5_code (3 : Nat) (Option.none : Option Jvm.ClassFile.FieldType)) ∈ zT := z_tables_1_3 13 rfl rfl
set_option maxRecDepth 100000 in
theorem wd_522 : (Cond.methodLink "SpannedCells$Widths" (84 : Nat) yLI_sizeOf) ∈ zT := z_tables_1_3 14 rfl rfl
set_option maxRecDepth 100000 in
theorem wd_523 : (Cond.methodLink "SpannedCells$Widths" (88 : Nat) yLI_set) ∈ zT := z_tables_1_3 15 rfl rfl
set_option maxRecDepth 100000 in
theorem wd_524 : (Cond.instanceMethod yLI_set) ∈ zT := z_tables_1_3 16 rfl rfl
set_option maxRecDepth 100000 in
theorem wd_525 : (Cond.selects "SpannedCells$Lines" yLI_set yLI_set) ∈ zT := z_tables_1_3 17 rfl rfl
set_option maxRecDepth 100000 in
theorem wd_526 : (Cond.code yLI_set prog_5_method_4_code (3 : Nat) (Option.none : Option Jvm.ClassFile.FieldType)) ∈ zT := z_tables_1_3 18 rfl rfl
set_option maxRecDepth 100000 in
theorem wd_528 : (Cond.instanceMethod ySC_high) ∈ zT := z_tables_1_3 20 rfl rfl
set_option maxRecDepth 100000 in
theorem wd_529 : (Cond.selects "SpannedCells" ySC_high ySC_high) ∈ zT := z_tables_1_3 21 rfl rfl
set_option maxRecDepth 100000 in
theorem wd_530 : (Cond.code ySC_high prog_1_method_15_code (2 : Nat) (Option.some Jvm.ClassFile.FieldType.int)) ∈ zT := z_tables_1_3 22 rfl rfl
set_option maxRecDepth 100000 in
theorem wd_531 : (Cond.methodLink "SpannedCells" (129 : Nat) ySC_measuredHeights) ∈ zT := z_tables_1_3 23 rfl rfl
set_option maxRecDepth 100000 in
theorem wd_533 : (Cond.instanceMethod ySC_measuredHeights) ∈ zT := z_tables_1_3 25 rfl rfl
set_option maxRecDepth 100000 in
theorem wd_534 : (Cond.code ySC_measuredHeights prog_1_method_21_code (1 : Nat) (Option.some (Jvm.ClassFile.FieldType.object "SpannedCells$Lines"))) ∈ zT := z_tables_1_3 26 rfl rfl
set_option maxRecDepth 100000 in
theorem wd_535 : (Cond.methodLink "SpannedCells" (171 : Nat) yHE_measure) ∈ zT := z_tables_1_3 27 rfl rfl
set_option maxRecDepth 100000 in
theorem wd_536 : (Cond.instanceMethod yHE_measure) ∈ zT := z_tables_1_3 28 rfl rfl
set_option maxRecDepth 100000 in
theorem wd_537 : (Cond.selects "SpannedCells$Heights" yHE_measure yHE_measure) ∈ zT := z_tables_1_3 29 rfl rfl
set_option maxRecDepth 100000 in
theorem wd_538 : (Cond.code yHE_measure prog_4_method_2_code (6 : Nat) (Option.none : Option Jvm.ClassFile.FieldType)) ∈ zT := z_tables_1_3 30 rfl rfl
set_option maxRecDepth 100000 in
theorem wd_539 : (Cond.methodLink "SpannedCells$Heights" (18 : Nat) yLI_reset) ∈ zT := z_tables_1_3 31 rfl rfl
set_option maxRecDepth 100000 in
theorem wd_540 : (Cond.methodLink "SpannedCells$Heights" (21 : Nat) yGR_cellCount) ∈ zT := z_tables_1_3 32 rfl rfl
set_option maxRecDepth 100000 in
theorem wd_541 : (Cond.methodLink "SpannedCells$Heights" (27 : Nat) yGR_cellAt) ∈ zT := z_tables_1_3 33 rfl rfl
set_option maxRecDepth 100000 in
theorem wd_542 : (Cond.methodLink "SpannedCells$Heights" (43 : Nat) yCE_bottom) ∈ zT := z_tables_1_3 34 rfl rfl
set_option maxRecDepth 100000 in
theorem wd_543 : (Cond.methodLink "SpannedCells$Heights" (46 : Nat) yLI_stretch) ∈ zT := z_tables_1_3 35 rfl rfl
set_option maxRecDepth 100000 in
theorem wd_545 : (Cond.instanceMethod ySC_place) ∈ zT := z_tables_1_3 37 rfl rfl
set_option maxRecDepth 100000 in
theorem wd_546 : (Cond.selects "SpannedCells" ySC_place ySC_place) ∈ zT := z_tables_1_3 38 rfl rfl
set_option maxRecDepth 100000 in
theorem wd_547 : (Cond.code ySC_place prog_1_method_16_code (4 : Nat) (Option.some Jvm.ClassFile.FieldType.int)) ∈ zT := z_tables_1_3 39 rfl rfl
set_option maxRecDepth 100000 in
theorem wd_548 : (Cond.methodLink "SpannedCells" (132 : Nat) yLI_startOf) ∈ zT := z_tables_1_3 40 rfl rfl
set_option maxRecDepth 100000 in
theorem wd_549 : (Cond.instanceMethod yLI_startOf) ∈ zT := z_tables_1_3 41 rfl rfl
set_option maxRecDepth 100000 in
theorem wd_550 : (Cond.selects "SpannedCells$Lines" yLI_startOf yLI_startOf) ∈ zT := z_tables_1_3 42 rfl rfl
set_option maxRecDepth 100000 in
theorem wd_551 : (Cond.code yLI_startOf prog_5_method_9_code (3 : Nat) (Option.some Jvm.ClassFile.FieldType.int)) ∈ zT := z_tables_1_3 43 rfl rfl
set_option maxRecDepth 100000 in
theorem wd_552 : (Cond.methodLink "SpannedCells" (135 : Nat) yCE_right) ∈ zT := z_tables_1_3 44 rfl rfl
set_option maxRecDepth 100000 in
theorem wd_553 : (Cond.methodLink "SpannedCells" (138 : Nat) yLI_reach) ∈ zT := z_tables_1_3 45 rfl rfl
set_option maxRecDepth 100000 in
theorem wd_554 : (Cond.methodLink "SpannedCells" (142 : Nat) yCE_bottom) ∈ zT := z_tables_1_3 46 rfl rfl
set_option maxRecDepth 100000 in
theorem wd_556 : (Cond.instanceMethod ySC_size) ∈ zT := z_tables_1_3 48 rfl rfl
set_option maxRecDepth 100000 in
theorem wd_557 : (Cond.selects "SpannedCells" ySC_size ySC_size) ∈ zT := z_tables_1_3 49 rfl rfl
set_option maxRecDepth 100000 in
theorem wd_558 : (Cond.code ySC_size prog_1_method_17_code (2 : Nat) (Option.some Jvm.ClassFile.FieldType.int)) ∈ zT := z_tables_1_3 50 rfl rfl
set_option maxRecDepth 100000 in
theorem wd_560 : (Cond.instanceMethod ySC_edge) ∈ zT := z_tables_1_3 52 rfl rfl
set_option maxRecDepth 100000 in
theorem wd_561 : (Cond.selects "SpannedCells" ySC_edge ySC_edge) ∈ zT := z_tables_1_3 53 rfl rfl
set_option maxRecDepth 100000 in
theorem wd_562 : (Cond.code ySC_edge prog_1_method_18_code (5 : Nat) (Option.some Jvm.ClassFile.FieldType.int)) ∈ zT := z_tables_1_3 54 rfl rfl
set_option maxRecDepth 100000 in
theorem wd_563 : (Cond.methodLink "SpannedCells" (145 : Nat) yGR_hasSlot) ∈ zT := z_tables_1_3 55 rfl rfl
set_option maxRecDepth 100000 in
theorem wd_564 : (Cond.instanceMethod yGR_hasSlot) ∈ zT := z_tables_1_3 56 rfl rfl
set_option maxRecDepth 100000 in
theorem wd_565 : (Cond.selects "SpannedCells$Grid" yGR_hasSlot yGR_hasSlot) ∈ zT := z_tables_1_3 57 rfl rfl
set_option maxRecDepth 100000 in
theorem wd_566 : (Cond.code yGR_hasSlot prog_3_method_13_code (3 : Nat) (Option.some Jvm.ClassFile.FieldType.boolean)) ∈ zT := z_tables_1_3 58 rfl rfl
set_option maxRecDepth 100000 in
theorem wd_568 : (Cond.methodLink "SpannedCells" (149 : Nat) yGR_drawnBetween) ∈ zT := z_tables_1_3 60 rfl rfl
set_option maxRecDepth 100000 in
theorem wd_569 : (Cond.instanceMethod yGR_drawnBetween) ∈ zT := z_tables_1_3 61 rfl rfl
set_option maxRecDepth 100000 in
theorem wd_570 : (Cond.selects "SpannedCells$Grid" yGR_drawnBetween yGR_drawnBetween) ∈ zT := z_tables_1_3 62 rfl rfl
set_option maxRecDepth 100000 in
theorem wd_571 : (Cond.code yGR_drawnBetween prog_3_method_21_code (3 : Nat) (Option.some Jvm.ClassFile.FieldType.int)) ∈ zT := z_tables_1_3 63 rfl rfl
set_option maxRecDepth 100000 in
theorem wd_572 : (Cond.methodLink "SpannedCells$Grid" (104 : Nat) yGR_hasCell) ∈ zT := z_tables_1_3 64 rfl rfl
set_option maxRecDepth 100000 in
theorem wd_573 : (Cond.methodLink "SpannedCells$Grid" (107 : Nat) yGR_cellAt) ∈ zT := z_tables_1_3 65 rfl rfl
set_option maxRecDepth 100000 in
theorem wd_574 : (Cond.methodLink "SpannedCells$Grid" (111 : Nat) yCE_prevailsOver) ∈ zT := z_tables_1_3 66 rfl rfl
set_option maxRecDepth 100000 in
theorem wd_575 : (Cond.instanceMethod yCE_prevailsOver) ∈ zT := z_tables_1_3 67 rfl rfl
set_option maxRecDepth 100000 in
theorem wd_576 : (Cond.selects "SpannedCells$Cell" yCE_prevailsOver yCE_prevailsOver) ∈ zT := z_tables_1_3 68 rfl rfl
set_option maxRecDepth 100000 in
theorem wd_577 : (Cond.code yCE_prevailsOver prog_2_method_7_code (2 : Nat) (Option.some Jvm.ClassFile.FieldType.boolean)) ∈ zT := z_tables_1_3 69 rfl rfl
set_option maxRecDepth 100000 in
theorem wd_579 : (Cond.instantiable "SpannedCellsModel" (26 : Nat)) ∈ zT := z_tables_1_3 71 rfl rfl
set_option maxRecDepth 100000 in
theorem wd_581 : (Cond.instanceMethod yMD_init) ∈ zT := z_tables_1_3 73 rfl rfl
set_option maxRecDepth 100000 in
theorem wd_582 : (Cond.code yMD_init prog_8_method_1_code (1 : Nat) (Option.none : Option Jvm.ClassFile.FieldType)) ∈ zT := z_tables_1_3 74 rfl rfl
set_option maxRecDepth 100000 in
theorem wd_583 : (Cond.methodLink "SpannedCellsModel" (1 : Nat) objectInit) ∈ zT := z_tables_1_3 75 rfl rfl
set_option maxRecDepth 100000 in
theorem wd_584 : (Cond.fieldLink "SpannedCellsModel" (7 : Nat) "SpannedCellsModel" "groups" "I") ∈ zT := z_tables_1_3 76 rfl rfl
set_option maxRecDepth 100000 in
theorem wd_585 : (Cond.fieldLink "SpannedCellsModel" (13 : Nat) "SpannedCellsModel" "bases" "[I") ∈ zT := z_tables_1_3 77 rfl rfl
set_option maxRecDepth 100000 in
theorem wd_586 : (Cond.fieldLink "SpannedCellsModel" (17 : Nat) "SpannedCellsModel" "begun" "[I") ∈ zT := z_tables_1_3 78 rfl rfl
set_option maxRecDepth 100000 in
theorem wd_587 : (Cond.fieldLink "SpannedCellsModel" (72 : Nat) "SpannedCellsModel" "cells" "I") ∈ zT := z_tables_1_3 79 rfl rfl
set_option maxRecDepth 100000 in
theorem wd_588 : (Cond.fieldLink "SpannedCellsModel" (20 : Nat) "SpannedCellsModel" "lefts" "[I") ∈ zT := z_tables_1_3 80 rfl rfl
set_option maxRecDepth 100000 in
theorem wd_589 : (Cond.fieldLink "SpannedCellsModel" (23 : Nat) "SpannedCellsModel" "tops" "[I") ∈ zT := z_tables_1_3 81 rfl rfl
set_option maxRecDepth 100000 in
theorem wd_590 : (Cond.fieldLink "SpannedCellsModel" (26 : Nat) "SpannedCellsModel" "across" "[I") ∈ zT := z_tables_1_3 82 rfl rfl
set_option maxRecDepth 100000 in
theorem wd_591 : (Cond.fieldLink "SpannedCellsModel" (29 : Nat) "SpannedCellsModel" "wants" "[I") ∈ zT := z_tables_1_3 83 rfl rfl
set_option maxRecDepth 100000 in
theorem wd_592 : (Cond.fieldLink "SpannedCellsModel" (32 : Nat) "SpannedCellsModel" "groupOf" "[I") ∈ zT := z_tables_1_3 84 rfl rfl
set_option maxRecDepth 100000 in
theorem wd_593 : (Cond.fieldLink "SpannedCellsModel" (35 : Nat) "SpannedCellsModel" "leasts" "[I") ∈ zT := z_tables_1_3 85 rfl rfl
