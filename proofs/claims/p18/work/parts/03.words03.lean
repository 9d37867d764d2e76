set_option maxRecDepth 100000 in
theorem wd_594 : (Cond.fieldLink "SpannedCellsModel" (38 : Nat) "SpannedCellsModel" "mosts" "[I") ∈ zT := z_tables_1_3 86 rfl rfl
set_option maxRecDepth 100000 in
theorem wd_595 : (Cond.fieldLink "SpannedCellsModel" (41 : Nat) "SpannedCellsModel" "needs" "[I") ∈ zT := z_tables_1_3 87 rfl rfl
set_option maxRecDepth 100000 in
theorem wd_596 : (Cond.fieldLink "SpannedCellsModel" (44 : Nat) "SpannedCellsModel" "thick" "[I") ∈ zT := z_tables_1_3 88 rfl rfl
set_option maxRecDepth 100000 in
theorem wd_597 : (Cond.fieldLink "SpannedCellsModel" (47 : Nat) "SpannedCellsModel" "ranks" "[I") ∈ zT := z_tables_1_3 89 rfl rfl
set_option maxRecDepth 100000 in
theorem wd_598 : (Cond.fieldLink "SpannedCellsModel" (50 : Nat) "SpannedCellsModel" "rowGroup" "I") ∈ zT := z_tables_1_3 90 rfl rfl
set_option maxRecDepth 100000 in
theorem wd_599 : (Cond.fieldLink "SpannedCellsModel" (79 : Nat) "SpannedCellsModel" "rowNumber" "I") ∈ zT := z_tables_1_3 91 rfl rfl
set_option maxRecDepth 100000 in
theorem wd_600 : (Cond.fieldLink "SpannedCellsModel" (82 : Nat) "SpannedCellsModel" "rowEnd" "I") ∈ zT := z_tables_1_3 92 rfl rfl
set_option maxRecDepth 100000 in
theorem wd_601 : (Cond.fieldLink "SpannedCellsModel" (92 : Nat) "SpannedCellsModel" "space" "I") ∈ zT := z_tables_1_3 93 rfl rfl
set_option maxRecDepth 100000 in
theorem wd_602 : (Cond.fieldLink "SpannedCellsModel" (95 : Nat) "SpannedCellsModel" "gap" "I") ∈ zT := z_tables_1_3 94 rfl rfl
set_option maxRecDepth 100000 in
theorem wd_603 : (Cond.fieldLink "SpannedCellsModel" (98 : Nat) "SpannedCellsModel" "fixed" "Z") ∈ zT := z_tables_1_3 95 rfl rfl
set_option maxRecDepth 100000 in
theorem wd_604 : (Cond.fieldLink "SpannedCellsModel" (53 : Nat) "SpannedCellsModel" "least" "[I") ∈ zT := z_tables_1_3 96 rfl rfl
set_option maxRecDepth 100000 in
theorem wd_605 : (Cond.fieldLink "SpannedCellsModel" (56 : Nat) "SpannedCellsModel" "most" "[I") ∈ zT := z_tables_1_3 97 rfl rfl
set_option maxRecDepth 100000 in
theorem wd_606 : (Cond.fieldLink "SpannedCellsModel" (59 : Nat) "SpannedCellsModel" "width" "[I") ∈ zT := z_tables_1_3 98 rfl rfl
set_option maxRecDepth 100000 in
theorem wd_607 : (Cond.fieldLink "SpannedCellsModel" (62 : Nat) "SpannedCellsModel" "height" "[I") ∈ zT := z_tables_1_3 99 rfl rfl
set_option maxRecDepth 100000 in
theorem wd_608 : (Cond.fieldLink "SpannedCellsModel" (65 : Nat) "SpannedCellsModel" "given" "[Z") ∈ zT := z_tables_1_3 100 rfl rfl
set_option maxRecDepth 100000 in
theorem wd_609 : (Cond.fieldLink "SpannedCellsModel" (69 : Nat) "SpannedCellsModel" "weights" "[I") ∈ zT := z_tables_1_3 101 rfl rfl
set_option maxRecDepth 100000 in
theorem wd_610 : (Cond.lays "SpannedCellsModel" "SpannedCellsModel" "groups" "I") ∈ zT := z_tables_1_3 102 rfl rfl
set_option maxRecDepth 100000 in
theorem wd_612 : (Cond.laysFinal "SpannedCellsModel" "SpannedCellsModel" "bases" "[I") ∈ zT := z_tables_1_3 104 rfl rfl
set_option maxRecDepth 100000 in
theorem wd_614 : (Cond.laysFinal "SpannedCellsModel" "SpannedCellsModel" "begun" "[I") ∈ zT := z_tables_1_3 106 rfl rfl
set_option maxRecDepth 100000 in
theorem wd_616 : (Cond.lays "SpannedCellsModel" "SpannedCellsModel" "cells" "I") ∈ zT := z_tables_1_3 108 rfl rfl
set_option maxRecDepth 100000 in
theorem wd_618 : (Cond.laysFinal "SpannedCellsModel" "SpannedCellsModel" "lefts" "[I") ∈ zT := z_tables_1_3 110 rfl rfl
set_option maxRecDepth 100000 in
theorem wd_620 : (Cond.laysFinal "SpannedCellsModel" "SpannedCellsModel" "tops" "[I") ∈ zT := z_tables_1_3 112 rfl rfl
set_option maxRecDepth 100000 in
theorem wd_622 : (Cond.laysFinal "SpannedCellsModel" "SpannedCellsModel" "across" "[I") ∈ zT := z_tables_1_3 114 rfl rfl
set_option maxRecDepth 100000 in
theorem wd_624 : (Cond.laysFinal "SpannedCellsModel" "SpannedCellsModel" "wants" "[I") ∈ zT := z_tables_1_3 116 rfl rfl
set_option maxRecDepth 100000 in
theorem wd_626 : (Cond.laysFinal "SpannedCellsModel" "SpannedCellsModel" "groupOf" "[I") ∈ zT := z_tables_1_3 118 rfl rfl
set_option maxRecDepth 100000 in
theorem wd_628 : (Cond.laysFinal "SpannedCellsModel" "SpannedCellsModel" "leasts" "[I") ∈ zT := z_tables_1_3 120 rfl rfl
set_option maxRecDepth 100000 in
theorem wd_630 : (Cond.laysFinal "SpannedCellsModel" "SpannedCellsModel" "mosts" "[I") ∈ zT := z_tables_1_3 122 rfl rfl
set_option maxRecDepth 100000 in
theorem wd_632 : (Cond.laysFinal "SpannedCellsModel" "SpannedCellsModel" "needs" "[I") ∈ zT := z_tables_1_3 124 rfl rfl
set_option maxRecDepth 100000 in
theorem wd_634 : (Cond.laysFinal "SpannedCellsModel" "SpannedCellsModel" "thick" "[I") ∈ zT := z_tables_1_3 126 rfl rfl
set_option maxRecDepth 100000 in
theorem wd_636 : (Cond.laysFinal "SpannedCellsModel" "SpannedCellsModel" "ranks" "[I") ∈ zT := z_tables_1_3 128 rfl rfl
set_option maxRecDepth 100000 in
theorem wd_638 : (Cond.lays "SpannedCellsModel" "SpannedCellsModel" "rowGroup" "I") ∈ zT := z_tables_1_3 130 rfl rfl
set_option maxRecDepth 100000 in
theorem wd_640 : (Cond.lays "SpannedCellsModel" "SpannedCellsModel" "rowNumber" "I") ∈ zT := z_tables_1_3 132 rfl rfl
set_option maxRecDepth 100000 in
theorem wd_642 : (Cond.lays "SpannedCellsModel" "SpannedCellsModel" "rowEnd" "I") ∈ zT := z_tables_1_3 134 rfl rfl
set_option maxRecDepth 100000 in
theorem wd_644 : (Cond.lays "SpannedCellsModel" "SpannedCellsModel" "space" "I") ∈ zT := z_tables_1_3 136 rfl rfl
set_option maxRecDepth 100000 in
theorem wd_646 : (Cond.lays "SpannedCellsModel" "SpannedCellsModel" "gap" "I") ∈ zT := z_tables_1_3 138 rfl rfl
set_option maxRecDepth 100000 in
theorem wd_648 : (Cond.lays "SpannedCellsModel" "SpannedCellsModel" "fixed" "Z") ∈ zT := z_tables_1_3 140 rfl rfl
set_option maxRecDepth 100000 in
theorem wd_650 : (Cond.laysFinal "SpannedCellsModel" "SpannedCellsModel" "least" "[I") ∈ zT := z_tables_1_3 142 rfl rfl
set_option maxRecDepth 100000 in
theorem wd_652 : (Cond.laysFinal "SpannedCellsModel" "SpannedCellsModel" "most" "[I") ∈ zT := z_tables_1_3 144 rfl rfl
set_option maxRecDepth 100000 in
theorem wd_654 : (Cond.laysFinal "SpannedCellsModel" "SpannedCellsModel" "width" "[I") ∈ zT := z_tables_1_3 146 rfl rfl
set_option maxRecDepth 100000 in
theorem wd_656 : (Cond.laysFinal "SpannedCellsModel" "SpannedCellsModel" "height" "[I") ∈ zT := z_tables_1_3 148 rfl rfl
set_option maxRecDepth 100000 in
theorem wd_658 : (Cond.laysFinal "SpannedCellsModel" "SpannedCellsModel" "given" "[Z") ∈ zT := z_tables_1_3 150 rfl rfl
set_option maxRecDepth 100000 in
theorem wd_660 : (Cond.laysFinal "SpannedCellsModel" "SpannedCellsModel" "weights" "[I") ∈ zT := z_tables_1_3 152 rfl rfl
set_option maxRecDepth 100000 in
theorem wd_663 : (Cond.arrayClass Jvm.ClassFile.FieldType.boolean) ∈ zT := z_tables_1_3 155 rfl rfl
set_option maxRecDepth 100000 in
theorem wd_665 : (Cond.instanceMethod yMD_group) ∈ zT := z_tables_1_3 157 rfl rfl
set_option maxRecDepth 100000 in
theorem wd_666 : (Cond.selects "SpannedCellsModel" yMD_group yMD_group) ∈ zT := z_tables_1_3 158 rfl rfl
set_option maxRecDepth 100000 in
theorem wd_667 : (Cond.code yMD_group prog_8_method_3_code (1 : Nat) (Option.some Jvm.ClassFile.FieldType.int)) ∈ zT := z_tables_1_3 159 rfl rfl
set_option maxRecDepth 100000 in
theorem wd_668 : (Cond.methodLink "SpannedCellsModel" (75 : Nat) yMD_endOf) ∈ zT := z_tables_1_3 160 rfl rfl
set_option maxRecDepth 100000 in
theorem wd_670 : (Cond.instanceMethod yMD_endOf) ∈ zT := z_tables_1_3 162 rfl rfl
set_option maxRecDepth 100000 in
theorem wd_671 : (Cond.code yMD_endOf prog_8_method_2_code (5 : Nat) (Option.some Jvm.ClassFile.FieldType.int)) ∈ zT := z_tables_1_3 163 rfl rfl
set_option maxRecDepth 100000 in
theorem wd_673 : (Cond.instanceMethod yMD_row) ∈ zT := z_tables_1_3 165 rfl rfl
set_option maxRecDepth 100000 in
theorem wd_674 : (Cond.selects "SpannedCellsModel" yMD_row yMD_row) ∈ zT := z_tables_1_3 166 rfl rfl
set_option maxRecDepth 100000 in
theorem wd_675 : (Cond.code yMD_row prog_8_method_4_code (3 : Nat) (Option.some Jvm.ClassFile.FieldType.int)) ∈ zT := z_tables_1_3 167 rfl rfl
set_option maxRecDepth 100000 in
theorem wd_677 : (Cond.instanceMethod yMD_cell) ∈ zT := z_tables_1_3 169 rfl rfl
set_option maxRecDepth 100000 in
theorem wd_678 : (Cond.selects "SpannedCellsModel" yMD_cell yMD_cell) ∈ zT := z_tables_1_3 170 rfl rfl
set_option maxRecDepth 100000 in
theorem wd_679 : (Cond.code yMD_cell prog_8_method_6_code (9 : Nat) (Option.some Jvm.ClassFile.FieldType.int)) ∈ zT := z_tables_1_3 171 rfl rfl
set_option maxRecDepth 100000 in
theorem wd_680 : (Cond.methodLink "SpannedCellsModel" (85 : Nat) yMD_isTaken) ∈ zT := z_tables_1_3 172 rfl rfl
set_option maxRecDepth 100000 in
theorem wd_682 : (Cond.instanceMethod yMD_isTaken) ∈ zT := z_tables_1_3 174 rfl rfl
set_option maxRecDepth 100000 in
theorem wd_683 : (Cond.code yMD_isTaken prog_8_method_5_code (5 : Nat) (Option.some Jvm.ClassFile.FieldType.boolean)) ∈ zT := z_tables_1_3 175 rfl rfl
set_option maxRecDepth 100000 in
theorem wd_685 : (Cond.instanceMethod yMD_border) ∈ zT := z_tables_1_3 177 rfl rfl
set_option maxRecDepth 100000 in
theorem wd_686 : (Cond.selects "SpannedCellsModel" yMD_border yMD_border) ∈ zT := z_tables_1_3 178 rfl rfl
set_option maxRecDepth 100000 in
theorem wd_687 : (Cond.code yMD_border prog_8_method_8_code (4 : Nat) (Option.some Jvm.ClassFile.FieldType.boolean)) ∈ zT := z_tables_1_3 179 rfl rfl
set_option maxRecDepth 100000 in
theorem wd_688 : (Cond.methodLink "SpannedCellsModel" (89 : Nat) yMD_isCell) ∈ zT := z_tables_1_3 180 rfl rfl
set_option maxRecDepth 100000 in
theorem wd_690 : (Cond.instanceMethod yMD_isCell) ∈ zT := z_tables_1_3 182 rfl rfl
set_option maxRecDepth 100000 in
theorem wd_691 : (Cond.code yMD_isCell prog_8_method_7_code (2 : Nat) (Option.some Jvm.ClassFile.FieldType.boolean)) ∈ zT := z_tables_1_3 183 rfl rfl
set_option maxRecDepth 100000 in
theorem wd_693 : (Cond.instanceMethod yMD_layout) ∈ zT := z_tables_1_3 185 rfl rfl
set_option maxRecDepth 100000 in
theorem wd_694 : (Cond.selects "SpannedCellsModel" yMD_layout yMD_layout) ∈ zT := z_tables_1_3 186 rfl rfl
set_option maxRecDepth 100000 in
theorem wd_695 : (Cond.code yMD_layout prog_8_method_9_code (4 : Nat) (Option.some Jvm.ClassFile.FieldType.boolean)) ∈ zT := z_tables_1_3 187 rfl rfl
set_option maxRecDepth 100000 in
theorem wd_697 : (Cond.instanceMethod yMD_clear) ∈ zT := z_tables_1_3 189 rfl rfl
set_option maxRecDepth 100000 in
theorem wd_698 : (Cond.selects "SpannedCellsModel" yMD_clear yMD_clear) ∈ zT := z_tables_1_3 190 rfl rfl
set_option maxRecDepth 100000 in
theorem wd_699 : (Cond.code yMD_clear prog_8_method_10_code (2 : Nat) (Option.some Jvm.ClassFile.FieldType.int)) ∈ zT := z_tables_1_3 191 rfl rfl
set_option maxRecDepth 100000 in
theorem wd_701 : (Cond.instanceMethod yMD_columns) ∈ zT := z_tables_1_3 193 rfl rfl
set_option maxRecDepth 100000 in
theorem wd_702 : (Cond.selects "SpannedCellsModel" yMD_columns yMD_columns) ∈ zT := z_tables_1_3 194 rfl rfl
set_option maxRecDepth 100000 in
theorem wd_703 : (Cond.code yMD_columns prog_8_method_11_code (3 : Nat) (Option.some Jvm.ClassFile.FieldType.int)) ∈ zT := z_tables_1_3 195 rfl rfl
set_option maxRecDepth 100000 in
theorem wd_705 : (Cond.instanceMethod yMD_rows) ∈ zT := z_tables_1_3 197 rfl rfl
set_option maxRecDepth 100000 in
theorem wd_706 : (Cond.selects "SpannedCellsModel" yMD_rows yMD_rows) ∈ zT := z_tables_1_3 198 rfl rfl
set_option maxRecDepth 100000 in
theorem wd_707 : (Cond.code yMD_rows prog_8_method_12_code (1 : Nat) (Option.some Jvm.ClassFile.FieldType.int)) ∈ zT := z_tables_1_3 199 rfl rfl
set_option maxRecDepth 100000 in
theorem wd_709 : (Cond.instanceMethod yMD_slot) ∈ zT := z_tables_1_3 201 rfl rfl
set_option maxRecDepth 100000 in
theorem wd_710 : (Cond.selects "SpannedCellsModel" yMD_slot yMD_slot) ∈ zT := z_tables_1_3 202 rfl rfl
set_option maxRecDepth 100000 in
theorem wd_711 : (Cond.code yMD_slot prog_8_method_16_code (5 : Nat) (Option.some Jvm.ClassFile.FieldType.int)) ∈ zT := z_tables_1_3 203 rfl rfl
set_option maxRecDepth 100000 in
theorem wd_712 : (Cond.methodLink "SpannedCellsModel" (105 : Nat) yMD_takes) ∈ zT := z_tables_1_3 204 rfl rfl
set_option maxRecDepth 100000 in
theorem wd_714 : (Cond.instanceMethod yMD_takes) ∈ zT := z_tables_1_3 206 rfl rfl
set_option maxRecDepth 100000 in
theorem wd_715 : (Cond.code yMD_takes prog_8_method_14_code (4 : Nat) (Option.some Jvm.ClassFile.FieldType.boolean)) ∈ zT := z_tables_1_3 207 rfl rfl
set_option maxRecDepth 100000 in
theorem wd_716 : (Cond.methodLink "SpannedCellsModel" (102 : Nat) yMD_down) ∈ zT := z_tables_1_3 208 rfl rfl
set_option maxRecDepth 100000 in
theorem wd_718 : (Cond.instanceMethod yMD_down) ∈ zT := z_tables_1_3 210 rfl rfl
set_option maxRecDepth 100000 in
theorem wd_719 : (Cond.code yMD_down prog_8_method_13_code (2 : Nat) (Option.some Jvm.ClassFile.FieldType.int)) ∈ zT := z_tables_1_3 211 rfl rfl
set_option maxRecDepth 100000 in
theorem wd_721 : (Cond.instanceMethod yMD_overlaps) ∈ zT := z_tables_1_3 213 rfl rfl
set_option maxRecDepth 100000 in
theorem wd_722 : (Cond.selects "SpannedCellsModel" yMD_overlaps yMD_overlaps) ∈ zT := z_tables_1_3 214 rfl rfl
set_option maxRecDepth 100000 in
theorem wd_723 : (Cond.code yMD_overlaps prog_8_method_17_code (4 : Nat) (Option.some Jvm.ClassFile.FieldType.int)) ∈ zT := z_tables_1_3 215 rfl rfl
set_option maxRecDepth 100000 in
theorem wd_724 : (Cond.methodLink "SpannedCellsModel" (109 : Nat) yMD_howMany) ∈ zT := z_tables_1_3 216 rfl rfl
set_option maxRecDepth 100000 in
theorem wd_726 : (Cond.instanceMethod yMD_howMany) ∈ zT := z_tables_1_3 218 rfl rfl
set_option maxRecDepth 100000 in
theorem wd_727 : (Cond.code yMD_howMany prog_8_method_15_code (5 : Nat) (Option.some Jvm.ClassFile.FieldType.int)) ∈ zT := z_tables_1_3 219 rfl rfl
set_option maxRecDepth 100000 in
theorem wd_729 : (Cond.instanceMethod yMD_empties) ∈ zT := z_tables_1_3 221 rfl rfl
set_option maxRecDepth 100000 in
theorem wd_730 : (Cond.selects "SpannedCellsModel" yMD_empties yMD_empties) ∈ zT := z_tables_1_3 222 rfl rfl
set_option maxRecDepth 100000 in
theorem wd_731 : (Cond.code yMD_empties prog_8_method_18_code (6 : Nat) (Option.some Jvm.ClassFile.FieldType.int)) ∈ zT := z_tables_1_3 223 rfl rfl
set_option maxRecDepth 100000 in
theorem wd_732 : (Cond.methodLink "SpannedCellsModel" (113 : Nat) yMD_columns) ∈ zT := z_tables_1_3 224 rfl rfl
set_option maxRecDepth 100000 in
theorem wd_733 : (Cond.methodLink "SpannedCellsModel" (117 : Nat) yMD_rows) ∈ zT := z_tables_1_3 225 rfl rfl
set_option maxRecDepth 100000 in
theorem wd_735 : (Cond.instanceMethod yMD_span) ∈ zT := z_tables_1_3 227 rfl rfl
set_option maxRecDepth 100000 in
theorem wd_736 : (Cond.selects "SpannedCellsModel" yMD_span yMD_span) ∈ zT := z_tables_1_3 228 rfl rfl
set_option maxRecDepth 100000 in
theorem wd_737 : (Cond.code yMD_span prog_8_method_19_code (2 : Nat) (Option.some Jvm.ClassFile.FieldType.int)) ∈ zT := z_tables_1_3 229 rfl rfl
set_option maxRecDepth 100000 in
theorem wd_738 : (Cond.constant "SpannedCellsModel" (120 : Nat) (1000000 : Int32)) ∈ zT := z_tables_1_3 230 rfl rfl
set_option maxRecDepth 100000 in
theorem wd_740 : (Cond.instanceMethod yMD_wide) ∈ zT := z_tables_1_3 232 rfl rfl
set_option maxRecDepth 100000 in
theorem wd_741 : (Cond.selects "SpannedCellsModel" yMD_wide yMD_wide) ∈ zT := z_tables_1_3 233 rfl rfl
set_option maxRecDepth 100000 in
theorem wd_742 : (Cond.code yMD_wide prog_8_method_30_code (3 : Nat) (Option.some Jvm.ClassFile.FieldType.int)) ∈ zT := z_tables_1_3 234 rfl rfl
set_option maxRecDepth 100000 in
theorem wd_743 : (Cond.methodLink "SpannedCellsModel" (149 : Nat) yMD_findWidths) ∈ zT := z_tables_1_3 235 rfl rfl
set_option maxRecDepth 100000 in
theorem wd_745 : (Cond.instanceMethod yMD_findWidths) ∈ zT := z_tables_1_3 237 rfl rfl
set_option maxRecDepth 100000 in
theorem wd_746 : (Cond.code yMD_findWidths prog_8_method_28_code (6 : Nat) (Option.none : Option Jvm.ClassFile.FieldType)) ∈ zT := z_tables_1_3 238 rfl rfl
set_option maxRecDepth 100000 in
theorem wd_747 : (Cond.methodLink "SpannedCellsModel" (143 : Nat) yMD_measure) ∈ zT := z_tables_1_3 239 rfl rfl
set_option maxRecDepth 100000 in
theorem wd_749 : (Cond.instanceMethod yMD_measure) ∈ zT := z_tables_1_4 1 rfl rfl
set_option maxRecDepth 100000 in
theorem wd_750 : (Cond.code yMD_measure prog_8_method_25_code (3 : Nat) (Option.none : Option Jvm.ClassFile.FieldType)) ∈ zT := z_tables_1_4 2 rfl rfl
set_option maxRecDepth 100000 in
theorem wd_751 : (Cond.methodLink "SpannedCellsModel" (136 : Nat) yMD_measureCell) ∈ zT := z_tables_1_4 3 rfl rfl
set_option maxRecDepth 100000 in
theorem wd_753 : (Cond.instanceMethod yMD_measureCell) ∈ zT := z_tables_1_4 5 rfl rfl
set_option maxRecDepth 100000 in
theorem wd_754 : (Cond.code yMD_measureCell prog_8_method_24_code (8 : Nat) (Option.none : Option Jvm.ClassFile.FieldType)) ∈ zT := z_tables_1_4 6 rfl rfl
set_option maxRecDepth 100000 in
theorem wd_755 : (Cond.methodLink "SpannedCellsModel" (121 : Nat) yMD_greater) ∈ zT := z_tables_1_4 7 rfl rfl
set_option maxRecDepth 100000 in
theorem wd_756 : (Cond.static yMD_greater) ∈ zT := z_tables_1_4 8 rfl rfl
set_option maxRecDepth 100000 in
theorem wd_757 : (Cond.code yMD_greater prog_8_method_22_code (2 : Nat) (Option.some Jvm.ClassFile.FieldType.int)) ∈ zT := z_tables_1_4 9 rfl rfl
set_option maxRecDepth 100000 in
theorem wd_758 : (Cond.methodLink "SpannedCellsModel" (124 : Nat) yMD_weigh) ∈ zT := z_tables_1_4 10 rfl rfl
set_option maxRecDepth 100000 in
theorem wd_760 : (Cond.instanceMethod yMD_weigh) ∈ zT := z_tables_1_4 12 rfl rfl
set_option maxRecDepth 100000 in
theorem wd_761 : (Cond.code yMD_weigh prog_8_method_23_code (3 : Nat) (Option.none : Option Jvm.ClassFile.FieldType)) ∈ zT := z_tables_1_4 13 rfl rfl
set_option maxRecDepth 100000 in
theorem wd_762 : (Cond.methodLink "SpannedCellsModel" (128 : Nat) yMD_sumOf) ∈ zT := z_tables_1_4 14 rfl rfl
set_option maxRecDepth 100000 in
theorem wd_763 : (Cond.static yMD_sumOf) ∈ zT := z_tables_1_4 15 rfl rfl
set_option maxRecDepth 100000 in
theorem wd_764 : (Cond.code yMD_sumOf prog_8_method_21_code (5 : Nat) (Option.some Jvm.ClassFile.FieldType.int)) ∈ zT := z_tables_1_4 16 rfl rfl
set_option maxRecDepth 100000 in
theorem wd_765 : (Cond.methodLink "SpannedCellsModel" (132 : Nat) yMD_share) ∈ zT := z_tables_1_4 17 rfl rfl
set_option maxRecDepth 100000 in
theorem wd_767 : (Cond.instanceMethod yMD_share) ∈ zT := z_tables_1_4 19 rfl rfl
set_option maxRecDepth 100000 in
theorem wd_768 : (Cond.code yMD_share prog_8_method_20_code (9 : Nat) (Option.none : Option Jvm.ClassFile.FieldType)) ∈ zT := z_tables_1_4 20 rfl rfl
set_option maxRecDepth 100000 in
theorem wd_769 : (Cond.methodLink "SpannedCellsModel" (146 : Nat) yMD_fixWidths) ∈ zT := z_tables_1_4 21 rfl rfl
set_option maxRecDepth 100000 in
theorem wd_771 : (Cond.instanceMethod yMD_fixWidths) ∈ zT := z_tables_1_4 23 rfl rfl
set_option maxRecDepth 100000 in
theorem wd_772 : (Cond.code yMD_fixWidths prog_8_method_27_code (7 : Nat) (Option.none : Option Jvm.ClassFile.FieldType)) ∈ zT := z_tables_1_4 24 rfl rfl
set_option maxRecDepth 100000 in
theorem wd_773 : (Cond.methodLink "SpannedCellsModel" (140 : Nat) yMD_room) ∈ zT := z_tables_1_4 25 rfl rfl
set_option maxRecDepth 100000 in
theorem wd_775 : (Cond.instanceMethod yMD_room) ∈ zT := z_tables_1_4 27 rfl rfl
set_option maxRecDepth 100000 in
theorem wd_776 : (Cond.code yMD_room prog_8_method_26_code (1 : Nat) (Option.some Jvm.ClassFile.FieldType.int)) ∈ zT := z_tables_1_4 28 rfl rfl
set_option maxRecDepth 100000 in
theorem wd_778 : (Cond.instanceMethod yMD_high) ∈ zT := z_tables_1_4 30 rfl rfl
set_option maxRecDepth 100000 in
theorem wd_779 : (Cond.selects "SpannedCellsModel" yMD_high yMD_high) ∈ zT := z_tables_1_4 31 rfl rfl
set_option maxRecDepth 100000 in
theorem wd_780 : (Cond.code yMD_high prog_8_method_31_code (2 : Nat) (Option.some Jvm.ClassFile.FieldType.int)) ∈ zT := z_tables_1_4 32 rfl rfl
set_option maxRecDepth 100000 in
theorem wd_781 : (Cond.methodLink "SpannedCellsModel" (152 : Nat) yMD_findHeights) ∈ zT := z_tables_1_4 33 rfl rfl
set_option maxRecDepth 100000 in
theorem wd_783 : (Cond.instanceMethod yMD_findHeights) ∈ zT := z_tables_1_4 35 rfl rfl
set_option maxRecDepth 100000 in
theorem wd_784 : (Cond.code yMD_findHeights prog_8_method_29_code (5 : Nat) (Option.none : Option Jvm.ClassFile.FieldType)) ∈ zT := z_tables_1_4 36 rfl rfl
set_option maxRecDepth 100000 in
theorem wd_786 : (Cond.instanceMethod yMD_place) ∈ zT := z_tables_1_4 38 rfl rfl
set_option maxRecDepth 100000 in
theorem wd_787 : (Cond.selects "SpannedCellsModel" yMD_place yMD_place) ∈ zT := z_tables_1_4 39 rfl rfl
set_option maxRecDepth 100000 in
theorem wd_788 : (Cond.code yMD_place prog_8_method_32_code (7 : Nat) (Option.some Jvm.ClassFile.FieldType.int)) ∈ zT := z_tables_1_4 40 rfl rfl
set_option maxRecDepth 100000 in
theorem wd_790 : (Cond.instanceMethod yMD_size) ∈ zT := z_tables_1_4 42 rfl rfl
set_option maxRecDepth 100000 in
theorem wd_791 : (Cond.selects "SpannedCellsModel" yMD_size yMD_size) ∈ zT := z_tables_1_4 43 rfl rfl
set_option maxRecDepth 100000 in
theorem wd_792 : (Cond.code yMD_size prog_8_method_33_code (3 : Nat) (Option.some Jvm.ClassFile.FieldType.int)) ∈ zT := z_tables_1_4 44 rfl rfl
set_option maxRecDepth 100000 in
theorem wd_794 : (Cond.instanceMethod yMD_edge) ∈ zT := z_tables_1_4 46 rfl rfl
set_option maxRecDepth 100000 in
theorem wd_795 : (Cond.selects "SpannedCellsModel" yMD_edge yMD_edge) ∈ zT := z_tables_1_4 47 rfl rfl
set_option maxRecDepth 100000 in
theorem wd_796 : (Cond.code yMD_edge prog_8_method_35_code (6 : Nat) (Option.some Jvm.ClassFile.FieldType.int)) ∈ zT := z_tables_1_4 48 rfl rfl
set_option maxRecDepth 100000 in
theorem wd_797 : (Cond.methodLink "SpannedCellsModel" (155 : Nat) yMD_slot) ∈ zT := z_tables_1_4 49 rfl rfl
set_option maxRecDepth 100000 in
theorem wd_798 : (Cond.methodLink "SpannedCellsModel" (158 : Nat) yMD_stronger) ∈ zT := z_tables_1_4 50 rfl rfl
set_option maxRecDepth 100000 in
theorem wd_800 : (Cond.instanceMethod yMD_stronger) ∈ zT := z_tables_1_4 52 rfl rfl
set_option maxRecDepth 100000 in
theorem wd_801 : (Cond.code yMD_stronger prog_8_method_34_code (3 : Nat) (Option.some Jvm.ClassFile.FieldType.int)) ∈ zT := z_tables_1_4 53 rfl rfl
set_option maxRecDepth 100000 in
theorem wd_804 : (Cond.selects "[Ljava/lang/Object;" ⟨"java/lang/Object", "getClass", "()Ljava/lang/Class;"⟩ ⟨"java/lang/Object", "getClass", "()Ljava/lang/Class;"⟩) ∈ zT := z_tables_1_4 56 rfl rfl
