theorem wd_0 : (Cond.selects "SpannedCells$Grid" yGR_extendGroupTo yGR_extendGroupTo) ∈ zT := z_mem 0 (by decide +kernel) (by decide +kernel)
theorem wd_1 : (Cond.selects "SpannedCells$Grid" yGR_firstFreeColumn yGR_firstFreeColumn) ∈ zT := z_mem 1 (by decide +kernel) (by decide +kernel)
theorem wd_2 : (Cond.selects "java/util/ArrayList" yAL_add_41 yAL_add_41) ∈ zT := z_mem 2 (by decide +kernel) (by decide +kernel)
theorem wd_3 : (Cond.selects "java/util/ArrayList" yAL_grow yAL_grow) ∈ zT := z_mem 3 (by decide +kernel) (by decide +kernel)
theorem wd_4 : (Cond.selects "java/util/ArrayList" yAL_grow_22 yAL_grow_22) ∈ zT := z_mem 4 (by decide +kernel) (by decide +kernel)
theorem wd_5 : (Cond.selects "SpannedCells$Grid" yGR_countOwnedSlots yGR_countOwnedSlots) ∈ zT := z_mem 5 (by decide +kernel) (by decide +kernel)
theorem wd_6 : (Cond.selects "SpannedCells$Grid" yGR_beginsInColumn yGR_beginsInColumn) ∈ zT := z_mem 6 (by decide +kernel) (by decide +kernel)
theorem wd_7 : (Cond.selects "SpannedCells$Grid" yGR_beginsInRow yGR_beginsInRow) ∈ zT := z_mem 7 (by decide +kernel) (by decide +kernel)
theorem wd_8 : (Cond.selects "SpannedCells" ySC_measuredWidths ySC_measuredWidths) ∈ zT := z_mem 8 (by decide +kernel) (by decide +kernel)
theorem wd_9 : (Cond.selects "SpannedCells$Widths" yWI_fit yWI_fit) ∈ zT := z_mem 9 (by decide +kernel) (by decide +kernel)
theorem wd_10 : (Cond.selects "SpannedCells" ySC_chosenWidths ySC_chosenWidths) ∈ zT := z_mem 10 (by decide +kernel) (by decide +kernel)
theorem wd_11 : (Cond.selects "SpannedCells$Widths" yWI_weighByScope yWI_weighByScope) ∈ zT := z_mem 11 (by decide +kernel) (by decide +kernel)
theorem wd_12 : (Cond.selects "SpannedCells" ySC_measuredHeights ySC_measuredHeights) ∈ zT := z_mem 12 (by decide +kernel) (by decide +kernel)
theorem wd_13 : (Cond.selects "SpannedCellsModel" yMD_endOf yMD_endOf) ∈ zT := z_mem 13 (by decide +kernel) (by decide +kernel)
theorem wd_14 : (Cond.selects "SpannedCellsModel" yMD_isTaken yMD_isTaken) ∈ zT := z_mem 14 (by decide +kernel) (by decide +kernel)
theorem wd_15 : (Cond.selects "SpannedCellsModel" yMD_isCell yMD_isCell) ∈ zT := z_mem 15 (by decide +kernel) (by decide +kernel)
theorem wd_16 : (Cond.selects "SpannedCellsModel" yMD_takes yMD_takes) ∈ zT := z_mem 16 (by decide +kernel) (by decide +kernel)
theorem wd_17 : (Cond.selects "SpannedCellsModel" yMD_down yMD_down) ∈ zT := z_mem 17 (by decide +kernel) (by decide +kernel)
theorem wd_18 : (Cond.selects "SpannedCellsModel" yMD_howMany yMD_howMany) ∈ zT := z_mem 18 (by decide +kernel) (by decide +kernel)
theorem wd_19 : (Cond.selects "SpannedCellsModel" yMD_findWidths yMD_findWidths) ∈ zT := z_mem 19 (by decide +kernel) (by decide +kernel)
theorem wd_20 : (Cond.selects "SpannedCellsModel" yMD_measure yMD_measure) ∈ zT := z_mem 20 (by decide +kernel) (by decide +kernel)
theorem wd_21 : (Cond.selects "SpannedCellsModel" yMD_measureCell yMD_measureCell) ∈ zT := z_mem 21 (by decide +kernel) (by decide +kernel)
theorem wd_22 : (Cond.selects "SpannedCellsModel" yMD_weigh yMD_weigh) ∈ zT := z_mem 22 (by decide +kernel) (by decide +kernel)
theorem wd_23 : (Cond.selects "SpannedCellsModel" yMD_share yMD_share) ∈ zT := z_mem 23 (by decide +kernel) (by decide +kernel)
theorem wd_24 : (Cond.selects "SpannedCellsModel" yMD_fixWidths yMD_fixWidths) ∈ zT := z_mem 24 (by decide +kernel) (by decide +kernel)
theorem wd_25 : (Cond.selects "SpannedCellsModel" yMD_room yMD_room) ∈ zT := z_mem 25 (by decide +kernel) (by decide +kernel)
theorem wd_26 : (Cond.selects "SpannedCellsModel" yMD_findHeights yMD_findHeights) ∈ zT := z_mem 26 (by decide +kernel) (by decide +kernel)
theorem wd_27 : (Cond.selects "SpannedCellsModel" yMD_stronger yMD_stronger) ∈ zT := z_mem 27 (by decide +kernel) (by decide +kernel)
set_option maxRecDepth 100000 in
theorem wd_29 : (Cond.initialized "SpannedCells") ∈ zT := z_tables_1_1 1 rfl rfl
set_option maxRecDepth 100000 in
theorem wd_30 : (Cond.initialized "SpannedCells$Grid") ∈ zT := z_tables_1_1 2 rfl rfl
set_option maxRecDepth 100000 in
theorem wd_31 : (Cond.initialized "java/util/AbstractCollection") ∈ zT := z_tables_1_1 3 rfl rfl
set_option maxRecDepth 100000 in
theorem wd_32 : (Cond.initialized "java/util/AbstractList") ∈ zT := z_tables_1_1 4 rfl rfl
set_option maxRecDepth 100000 in
theorem wd_33 : (Cond.initialized "java/util/ArrayList") ∈ zT := z_tables_1_1 5 rfl rfl
set_option maxRecDepth 100000 in
theorem wd_34 : (Cond.initialized "SpannedCells$Widths") ∈ zT := z_tables_1_1 6 rfl rfl
set_option maxRecDepth 100000 in
theorem wd_35 : (Cond.initialized "SpannedCells$Lines") ∈ zT := z_tables_1_1 7 rfl rfl
set_option maxRecDepth 100000 in
theorem wd_36 : (Cond.initialized "SpannedCells$Heights") ∈ zT := z_tables_1_1 8 rfl rfl
set_option maxRecDepth 100000 in
theorem wd_37 : (Cond.initialized "SpannedCellsModel") ∈ zT := z_tables_1_1 9 rfl rfl
set_option maxRecDepth 100000 in
theorem wd_38 : (Cond.initialized "java/lang/Math") ∈ zT := z_tables_1_1 10 rfl rfl
set_option maxRecDepth 100000 in
theorem wd_39 : (Cond.initialized "java/util/Objects") ∈ zT := z_tables_1_1 11 rfl rfl
set_option maxRecDepth 100000 in
theorem wd_40 : (Cond.initialized "jdk/internal/util/Preconditions") ∈ zT := z_tables_1_1 12 rfl rfl
set_option maxRecDepth 100000 in
theorem wd_41 : (Cond.initialized "SpannedCells$Cell") ∈ zT := z_tables_1_1 13 rfl rfl
set_option maxRecDepth 100000 in
theorem wd_42 : (Cond.initialized "jdk/internal/util/ArraysSupport") ∈ zT := z_tables_1_1 14 rfl rfl
set_option maxRecDepth 100000 in
theorem wd_43 : (Cond.initialized "java/util/Arrays") ∈ zT := z_tables_1_1 15 rfl rfl
set_option maxRecDepth 100000 in
theorem wd_44 : (Cond.initialized "java/lang/System") ∈ zT := z_tables_1_1 16 rfl rfl
set_option maxRecDepth 100000 in
theorem wd_46 : (Cond.instantiable "SpannedCells" (6 : Nat)) ∈ zT := z_tables_1_1 18 rfl rfl
set_option maxRecDepth 100000 in
theorem wd_48 : (Cond.instanceMethod ySC_init) ∈ zT := z_tables_1_1 20 rfl rfl
set_option maxRecDepth 100000 in
theorem wd_49 : (Cond.code ySC_init prog_1_method_1_code (1 : Nat) (Option.none : Option Jvm.ClassFile.FieldType)) ∈ zT := z_tables_1_1 21 rfl rfl
set_option maxRecDepth 100000 in
theorem wd_50 : (Cond.methodLink "SpannedCells" (1 : Nat) objectInit) ∈ zT := z_tables_1_1 22 rfl rfl
set_option maxRecDepth 100000 in
theorem wd_51 : (Cond.instanceMethod objectInit) ∈ zT := z_tables_1_1 23 rfl rfl
set_option maxRecDepth 100000 in
theorem wd_52 : (Cond.code objectInit object_method_1_code (1 : Nat) (Option.none : Option Jvm.ClassFile.FieldType)) ∈ zT := z_tables_1_1 24 rfl rfl
set_option maxRecDepth 100000 in
theorem wd_53 : (Cond.classLink "SpannedCells" (7 : Nat) "SpannedCells$Grid") ∈ zT := z_tables_1_1 25 rfl rfl
set_option maxRecDepth 100000 in
theorem wd_54 : (Cond.instantiable "SpannedCells$Grid" (6 : Nat)) ∈ zT := z_tables_1_1 26 rfl rfl
set_option maxRecDepth 100000 in
theorem wd_56 : (Cond.instanceMethod yGR_init) ∈ zT := z_tables_1_1 28 rfl rfl
set_option maxRecDepth 100000 in
theorem wd_57 : (Cond.code yGR_init prog_3_method_1_code (1 : Nat) (Option.none : Option Jvm.ClassFile.FieldType)) ∈ zT := z_tables_1_1 29 rfl rfl
set_option maxRecDepth 100000 in
theorem wd_58 : (Cond.methodLink "SpannedCells$Grid" (3 : Nat) objectInit) ∈ zT := z_tables_1_1 30 rfl rfl
set_option maxRecDepth 100000 in
theorem wd_59 : (Cond.classLink "SpannedCells$Grid" (9 : Nat) "java/util/ArrayList") ∈ zT := z_tables_1_1 31 rfl rfl
set_option maxRecDepth 100000 in
theorem wd_60 : (Cond.instantiable "java/util/ArrayList" (3 : Nat)) ∈ zT := z_tables_1_1 32 rfl rfl
set_option maxRecDepth 100000 in
theorem wd_61 : (Cond.methodLink "SpannedCells$Grid" (11 : Nat) yAL_init) ∈ zT := z_tables_1_1 33 rfl rfl
set_option maxRecDepth 100000 in
theorem wd_62 : (Cond.instanceMethod yAL_init) ∈ zT := z_tables_1_1 34 rfl rfl
set_option maxRecDepth 100000 in
theorem wd_63 : (Cond.code yAL_init prog_16_method_2_code (1 : Nat) (Option.none : Option Jvm.ClassFile.FieldType)) ∈ zT := z_tables_1_1 35 rfl rfl
set_option maxRecDepth 100000 in
theorem wd_64 : (Cond.methodLink "java/util/ArrayList" (1 : Nat) yAB_init) ∈ zT := z_tables_1_1 36 rfl rfl
set_option maxRecDepth 100000 in
theorem wd_65 : (Cond.instanceMethod yAB_init) ∈ zT := z_tables_1_1 37 rfl rfl
set_option maxRecDepth 100000 in
theorem wd_66 : (Cond.code yAB_init prog_15_method_1_code (1 : Nat) (Option.none : Option Jvm.ClassFile.FieldType)) ∈ zT := z_tables_1_1 38 rfl rfl
set_option maxRecDepth 100000 in
theorem wd_67 : (Cond.methodLink "java/util/AbstractList" (1 : Nat) yAC_init) ∈ zT := z_tables_1_1 39 rfl rfl
set_option maxRecDepth 100000 in
theorem wd_68 : (Cond.instanceMethod yAC_init) ∈ zT := z_tables_1_1 40 rfl rfl
set_option maxRecDepth 100000 in
theorem wd_69 : (Cond.code yAC_init prog_14_method_1_code (1 : Nat) (Option.none : Option Jvm.ClassFile.FieldType)) ∈ zT := z_tables_1_1 41 rfl rfl
set_option maxRecDepth 100000 in
theorem wd_70 : (Cond.methodLink "java/util/AbstractCollection" (1 : Nat) objectInit) ∈ zT := z_tables_1_1 42 rfl rfl
set_option maxRecDepth 100000 in
theorem wd_71 : (Cond.fieldLink "java/util/ArrayList" (39 : Nat) "java/util/ArrayList" "DEFAULTCAPACITY_EMPTY_ELEMENTDATA" "[Ljava/lang/Object;") ∈ zT := z_tables_1_1 43 rfl rfl
set_option maxRecDepth 100000 in
theorem wd_73 : (Cond.fieldLink "java/util/ArrayList" (9 : Nat) "java/util/ArrayList" "elementData" "[Ljava/lang/Object;") ∈ zT := z_tables_1_1 45 rfl rfl
set_option maxRecDepth 100000 in
theorem wd_74 : (Cond.fieldLink "java/util/ArrayList" (48 : Nat) "java/util/ArrayList" "size" "I") ∈ zT := z_tables_1_1 46 rfl rfl
set_option maxRecDepth 100000 in
theorem wd_75 : (Cond.fieldLink "java/util/AbstractList" (7 : Nat) "java/util/AbstractList" "modCount" "I") ∈ zT := z_tables_1_1 47 rfl rfl
set_option maxRecDepth 100000 in
theorem wd_76 : (Cond.fieldLink "java/util/ArrayList" (63 : Nat) "java/util/ArrayList" "modCount" "I") ∈ zT := z_tables_1_1 48 rfl rfl
set_option maxRecDepth 100000 in
theorem wd_77 : (Cond.sameField "java/util/ArrayList" "java/util/AbstractList" "modCount" "I") ∈ zT := z_tables_1_1 49 rfl rfl
set_option maxRecDepth 100000 in
theorem wd_78 : (Cond.lays "java/util/ArrayList" "java/util/ArrayList" "elementData" "[Ljava/lang/Object;") ∈ zT := z_tables_1_1 50 rfl rfl
set_option maxRecDepth 100000 in
theorem wd_80 : (Cond.lays "java/util/ArrayList" "java/util/ArrayList" "size" "I") ∈ zT := z_tables_1_1 52 rfl rfl
set_option maxRecDepth 100000 in
theorem wd_82 : (Cond.lays "java/util/ArrayList" "java/util/AbstractList" "modCount" "I") ∈ zT := z_tables_1_1 54 rfl rfl
set_option maxRecDepth 100000 in
theorem wd_85 : (Cond.fieldLink "SpannedCells$Grid" (12 : Nat) "SpannedCells$Grid" "cells" "Ljava/util/ArrayList;") ∈ zT := z_tables_1_1 57 rfl rfl
set_option maxRecDepth 100000 in
theorem wd_86 : (Cond.fieldLink "SpannedCells$Grid" (18 : Nat) "SpannedCells$Grid" "groups" "I") ∈ zT := z_tables_1_1 58 rfl rfl
set_option maxRecDepth 100000 in
theorem wd_87 : (Cond.fieldLink "SpannedCells$Grid" (22 : Nat) "SpannedCells$Grid" "groupStart" "I") ∈ zT := z_tables_1_1 59 rfl rfl
set_option maxRecDepth 100000 in
theorem wd_88 : (Cond.fieldLink "SpannedCells$Grid" (25 : Nat) "SpannedCells$Grid" "begunInGroup" "I") ∈ zT := z_tables_1_1 60 rfl rfl
set_option maxRecDepth 100000 in
theorem wd_89 : (Cond.fieldLink "SpannedCells$Grid" (28 : Nat) "SpannedCells$Grid" "rowsEnd" "I") ∈ zT := z_tables_1_1 61 rfl rfl
set_option maxRecDepth 100000 in
theorem wd_90 : (Cond.fieldLink "SpannedCells$Grid" (31 : Nat) "SpannedCells$Grid" "columnsEnd" "I") ∈ zT := z_tables_1_1 62 rfl rfl
set_option maxRecDepth 100000 in
theorem wd_91 : (Cond.laysFinal "SpannedCells$Grid" "SpannedCells$Grid" "cells" "Ljava/util/ArrayList;") ∈ zT := z_tables_1_1 63 rfl rfl
set_option maxRecDepth 100000 in
theorem wd_93 : (Cond.lays "SpannedCells$Grid" "SpannedCells$Grid" "groups" "I") ∈ zT := z_tables_1_1 65 rfl rfl
set_option maxRecDepth 100000 in
theorem wd_95 : (Cond.lays "SpannedCells$Grid" "SpannedCells$Grid" "groupStart" "I") ∈ zT := z_tables_1_1 67 rfl rfl
set_option maxRecDepth 100000 in
theorem wd_97 : (Cond.lays "SpannedCells$Grid" "SpannedCells$Grid" "begunInGroup" "I") ∈ zT := z_tables_1_1 69 rfl rfl
set_option maxRecDepth 100000 in
theorem wd_99 : (Cond.lays "SpannedCells$Grid" "SpannedCells$Grid" "rowsEnd" "I") ∈ zT := z_tables_1_1 71 rfl rfl
set_option maxRecDepth 100000 in
theorem wd_101 : (Cond.lays "SpannedCells$Grid" "SpannedCells$Grid" "columnsEnd" "I") ∈ zT := z_tables_1_1 73 rfl rfl
set_option maxRecDepth 100000 in
theorem wd_104 : (Cond.classLink "SpannedCells" (16 : Nat) "SpannedCells$Widths") ∈ zT := z_tables_1_1 76 rfl rfl
set_option maxRecDepth 100000 in
theorem wd_105 : (Cond.instantiable "SpannedCells$Widths" (4 : Nat)) ∈ zT := z_tables_1_1 77 rfl rfl
set_option maxRecDepth 100000 in
theorem wd_107 : (Cond.instanceMethod yWI_init) ∈ zT := z_tables_1_1 79 rfl rfl
set_option maxRecDepth 100000 in
theorem wd_108 : (Cond.code yWI_init prog_6_method_1_code (1 : Nat) (Option.none : Option Jvm.ClassFile.FieldType)) ∈ zT := z_tables_1_1 80 rfl rfl
set_option maxRecDepth 100000 in
theorem wd_109 : (Cond.methodLink "SpannedCells$Widths" (3 : Nat) objectInit) ∈ zT := z_tables_1_1 81 rfl rfl
set_option maxRecDepth 100000 in
theorem wd_110 : (Cond.classLink "SpannedCells$Widths" (9 : Nat) "SpannedCells$Lines") ∈ zT := z_tables_1_1 82 rfl rfl
set_option maxRecDepth 100000 in
theorem wd_111 : (Cond.instantiable "SpannedCells$Lines" (1 : Nat)) ∈ zT := z_tables_1_1 83 rfl rfl
set_option maxRecDepth 100000 in
theorem wd_113 : (Cond.instanceMethod yLI_init) ∈ zT := z_tables_1_1 85 rfl rfl
set_option maxRecDepth 100000 in
theorem wd_114 : (Cond.code yLI_init prog_5_method_1_code (1 : Nat) (Option.none : Option Jvm.ClassFile.FieldType)) ∈ zT := z_tables_1_1 86 rfl rfl
set_option maxRecDepth 100000 in
theorem wd_115 : (Cond.methodLink "SpannedCells$Lines" (3 : Nat) objectInit) ∈ zT := z_tables_1_1 87 rfl rfl
set_option maxRecDepth 100000 in
theorem wd_116 : (Cond.fieldLink "SpannedCells$Lines" (9 : Nat) "SpannedCells$Lines" "sizes" "[I") ∈ zT := z_tables_1_1 88 rfl rfl
set_option maxRecDepth 100000 in
theorem wd_117 : (Cond.laysFinal "SpannedCells$Lines" "SpannedCells$Lines" "sizes" "[I") ∈ zT := z_tables_1_1 89 rfl rfl
set_option maxRecDepth 100000 in
theorem wd_120 : (Cond.arrayClass Jvm.ClassFile.FieldType.int) ∈ zT := z_tables_1_1 92 rfl rfl
set_option maxRecDepth 100000 in
theorem wd_121 : (Cond.fieldLink "SpannedCells$Widths" (12 : Nat) "SpannedCells$Widths" "least" "LSpannedCells$Lines;") ∈ zT := z_tables_1_1 93 rfl rfl
set_option maxRecDepth 100000 in
theorem wd_122 : (Cond.fieldLink "SpannedCells" (112 : Nat) "SpannedCells$Widths" "least" "LSpannedCells$Lines;") ∈ zT := z_tables_1_1 94 rfl rfl
set_option maxRecDepth 100000 in
theorem wd_123 : (Cond.fieldLink "SpannedCells$Widths" (18 : Nat) "SpannedCells$Widths" "most" "LSpannedCells$Lines;") ∈ zT := z_tables_1_1 95 rfl rfl
set_option maxRecDepth 100000 in
theorem wd_124 : (Cond.fieldLink "SpannedCells" (122 : Nat) "SpannedCells$Widths" "most" "LSpannedCells$Lines;") ∈ zT := z_tables_1_1 96 rfl rfl
set_option maxRecDepth 100000 in
theorem wd_125 : (Cond.fieldLink "SpannedCells$Widths" (21 : Nat) "SpannedCells$Widths" "chosen" "LSpannedCells$Lines;") ∈ zT := z_tables_1_1 97 rfl rfl
set_option maxRecDepth 100000 in
theorem wd_126 : (Cond.fieldLink "SpannedCells" (168 : Nat) "SpannedCells$Widths" "chosen" "LSpannedCells$Lines;") ∈ zT := z_tables_1_1 98 rfl rfl
set_option maxRecDepth 100000 in
theorem wd_127 : (Cond.fieldLink "SpannedCells$Widths" (24 : Nat) "SpannedCells$Widths" "weights" "LSpannedCells$Lines;") ∈ zT := z_tables_1_1 99 rfl rfl
set_option maxRecDepth 100000 in
theorem wd_128 : (Cond.laysFinal "SpannedCells$Widths" "SpannedCells$Widths" "least" "LSpannedCells$Lines;") ∈ zT := z_tables_1_1 100 rfl rfl
set_option maxRecDepth 100000 in
theorem wd_130 : (Cond.laysFinal "SpannedCells$Widths" "SpannedCells$Widths" "most" "LSpannedCells$Lines;") ∈ zT := z_tables_1_1 102 rfl rfl
set_option maxRecDepth 100000 in
theorem wd_132 : (Cond.laysFinal "SpannedCells$Widths" "SpannedCells$Widths" "chosen" "LSpannedCells$Lines;") ∈ zT := z_tables_1_1 104 rfl rfl
set_option maxRecDepth 100000 in
theorem wd_134 : (Cond.laysFinal "SpannedCells$Widths" "SpannedCells$Widths" "weights" "LSpannedCells$Lines;") ∈ zT := z_tables_1_1 106 rfl rfl
set_option maxRecDepth 100000 in
theorem wd_137 : (Cond.classLink "SpannedCells" (23 : Nat) "SpannedCells$Heights") ∈ zT := z_tables_1_1 109 rfl rfl
set_option maxRecDepth 100000 in
theorem wd_138 : (Cond.instantiable "SpannedCells$Heights" (1 : Nat)) ∈ zT := z_tables_1_1 110 rfl rfl
set_option maxRecDepth 100000 in
theorem wd_140 : (Cond.instanceMethod yHE_init) ∈ zT := z_tables_1_1 112 rfl rfl
set_option maxRecDepth 100000 in
theorem wd_141 : (Cond.code yHE_init prog_4_method_1_code (1 : Nat) (Option.none : Option Jvm.ClassFile.FieldType)) ∈ zT := z_tables_1_1 113 rfl rfl
set_option maxRecDepth 100000 in
theorem wd_142 : (Cond.methodLink "SpannedCells$Heights" (3 : Nat) objectInit) ∈ zT := z_tables_1_1 114 rfl rfl
set_option maxRecDepth 100000 in
theorem wd_143 : (Cond.classLink "SpannedCells$Heights" (9 : Nat) "SpannedCells$Lines") ∈ zT := z_tables_1_1 115 rfl rfl
set_option maxRecDepth 100000 in
theorem wd_145 : (Cond.fieldLink "SpannedCells$Heights" (12 : Nat) "SpannedCells$Heights" "needed" "LSpannedCells$Lines;") ∈ zT := z_tables_1_1 117 rfl rfl
set_option maxRecDepth 100000 in
theorem wd_146 : (Cond.fieldLink "SpannedCells" (172 : Nat) "SpannedCells$Heights" "needed" "LSpannedCells$Lines;") ∈ zT := z_tables_1_1 118 rfl rfl
set_option maxRecDepth 100000 in
theorem wd_147 : (Cond.laysFinal "SpannedCells$Heights" "SpannedCells$Heights" "needed" "LSpannedCells$Lines;") ∈ zT := z_tables_1_1 119 rfl rfl
set_option maxRecDepth 100000 in
theorem wd_150 : (Cond.fieldLink "SpannedCells" (10 : Nat) "SpannedCells" "grid" "LSpannedCells$Grid;") ∈ zT := z_tables_1_1 122 rfl rfl
set_option maxRecDepth 100000 in
theorem wd_151 : (Cond.fieldLink "SpannedCells" (19 : Nat) "SpannedCells" "widths" "LSpannedCells$Widths;") ∈ zT := z_tables_1_1 123 rfl rfl
set_option maxRecDepth 100000 in
theorem wd_152 : (Cond.fieldLink "SpannedCells" (26 : Nat) "SpannedCells" "heights" "LSpannedCells$Heights;") ∈ zT := z_tables_1_1 124 rfl rfl
set_option maxRecDepth 100000 in
theorem wd_153 : (Cond.fieldLink "SpannedCells" (30 : Nat) "SpannedCells" "space" "I") ∈ zT := z_tables_1_1 125 rfl rfl
set_option maxRecDepth 100000 in
theorem wd_154 : (Cond.fieldLink "SpannedCells" (34 : Nat) "SpannedCells" "gap" "I") ∈ zT := z_tables_1_1 126 rfl rfl
set_option maxRecDepth 100000 in
theorem wd_155 : (Cond.fieldLink "SpannedCells" (37 : Nat) "SpannedCells" "fixed" "Z") ∈ zT := z_tables_1_1 127 rfl rfl
set_option maxRecDepth 100000 in
theorem wd_156 : (Cond.laysFinal "SpannedCells" "SpannedCells" "grid" "LSpannedCells$Grid;") ∈ zT := z_tables_1_1 128 rfl rfl
set_option maxRecDepth 100000 in
theorem wd_158 : (Cond.laysFinal "SpannedCells" "SpannedCells" "widths" "LSpannedCells$Widths;") ∈ zT := z_tables_1_1 130 rfl rfl
set_option maxRecDepth 100000 in
theorem wd_160 : (Cond.laysFinal "SpannedCells" "SpannedCells" "heights" "LSpannedCells$Heights;") ∈ zT := z_tables_1_1 132 rfl rfl
set_option maxRecDepth 100000 in
theorem wd_162 : (Cond.lays "SpannedCells" "SpannedCells" "space" "I") ∈ zT := z_tables_1_1 134 rfl rfl
set_option maxRecDepth 100000 in
theorem wd_164 : (Cond.lays "SpannedCells" "SpannedCells" "gap" "I") ∈ zT := z_tables_1_1 136 rfl rfl
set_option maxRecDepth 100000 in
theorem wd_166 : (Cond.lays "SpannedCells" "SpannedCells" "fixed" "Z") ∈ zT := z_tables_1_1 138 rfl rfl
set_option maxRecDepth 100000 in
theorem wd_170 : (Cond.instanceMethod ySC_group) ∈ zT := z_tables_1_1 142 rfl rfl
set_option maxRecDepth 100000 in
theorem wd_171 : (Cond.selects "SpannedCells" ySC_group ySC_group) ∈ zT := z_tables_1_1 143 rfl rfl
set_option maxRecDepth 100000 in
theorem wd_172 : (Cond.code ySC_group prog_1_method_2_code (1 : Nat) (Option.some Jvm.ClassFile.FieldType.int)) ∈ zT := z_tables_1_1 144 rfl rfl
set_option maxRecDepth 100000 in
theorem wd_173 : (Cond.methodLink "SpannedCells" (41 : Nat) yGR_beginGroup) ∈ zT := z_tables_1_1 145 rfl rfl
set_option maxRecDepth 100000 in
theorem wd_174 : (Cond.instanceMethod yGR_beginGroup) ∈ zT := z_tables_1_1 146 rfl rfl
set_option maxRecDepth 100000 in
theorem wd_175 : (Cond.selects "SpannedCells$Grid" yGR_beginGroup yGR_beginGroup) ∈ zT := z_tables_1_1 147 rfl rfl
set_option maxRecDepth 100000 in
theorem wd_176 : (Cond.code yGR_beginGroup prog_3_method_3_code (1 : Nat) (Option.some Jvm.ClassFile.FieldType.int)) ∈ zT := z_tables_1_1 148 rfl rfl
set_option maxRecDepth 100000 in
theorem wd_178 : (Cond.instanceMethod ySC_row) ∈ zT := z_tables_1_1 150 rfl rfl
set_option maxRecDepth 100000 in
theorem wd_179 : (Cond.selects "SpannedCells" ySC_row ySC_row) ∈ zT := z_tables_1_1 151 rfl rfl
set_option maxRecDepth 100000 in
theorem wd_180 : (Cond.code ySC_row prog_1_method_3_code (1 : Nat) (Option.some Jvm.ClassFile.FieldType.int)) ∈ zT := z_tables_1_1 152 rfl rfl
set_option maxRecDepth 100000 in
theorem wd_181 : (Cond.methodLink "SpannedCells" (45 : Nat) yGR_beginRow) ∈ zT := z_tables_1_1 153 rfl rfl
set_option maxRecDepth 100000 in
theorem wd_182 : (Cond.instanceMethod yGR_beginRow) ∈ zT := z_tables_1_1 154 rfl rfl
set_option maxRecDepth 100000 in
theorem wd_183 : (Cond.selects "SpannedCells$Grid" yGR_beginRow yGR_beginRow) ∈ zT := z_tables_1_1 155 rfl rfl
set_option maxRecDepth 100000 in
theorem wd_184 : (Cond.code yGR_beginRow prog_3_method_4_code (2 : Nat) (Option.some Jvm.ClassFile.FieldType.int)) ∈ zT := z_tables_1_1 156 rfl rfl
set_option maxRecDepth 100000 in
theorem wd_185 : (Cond.methodLink "SpannedCells$Grid" (37 : Nat) yGR_extendGroupTo) ∈ zT := z_tables_1_1 157 rfl rfl
set_option maxRecDepth 100000 in
theorem wd_187 : (Cond.instanceMethod yGR_extendGroupTo) ∈ zT := z_tables_1_1 159 rfl rfl
set_option maxRecDepth 100000 in
theorem wd_188 : (Cond.code yGR_extendGroupTo prog_3_method_7_code (4 : Nat) (Option.none : Option Jvm.ClassFile.FieldType)) ∈ zT := z_tables_1_1 160 rfl rfl
set_option maxRecDepth 100000 in
theorem wd_189 : (Cond.methodLink "SpannedCells$Grid" (58 : Nat) Lib.Math.max.name) ∈ zT := z_tables_1_1 161 rfl rfl
set_option maxRecDepth 100000 in
theorem wd_190 : (Cond.static Lib.Math.max.name) ∈ zT := z_tables_1_1 162 rfl rfl
set_option maxRecDepth 100000 in
theorem wd_191 : (Cond.code Lib.Math.max.name prog_12_method_65_code (2 : Nat) (Option.some Jvm.ClassFile.FieldType.int)) ∈ zT := z_tables_1_1 163 rfl rfl
set_option maxRecDepth 100000 in
theorem wd_192 : (Cond.methodLink "SpannedCells$Grid" (41 : Nat) yAL_size) ∈ zT := z_tables_1_1 164 rfl rfl
set_option maxRecDepth 100000 in
theorem wd_193 : (Cond.instanceMethod yAL_size) ∈ zT := z_tables_1_1 165 rfl rfl
set_option maxRecDepth 100000 in
theorem wd_194 : (Cond.selects "java/util/ArrayList" yAL_size yAL_size) ∈ zT := z_tables_1_1 166 rfl rfl
set_option maxRecDepth 100000 in
theorem wd_195 : (Cond.code yAL_size prog_16_method_8_code (1 : Nat) (Option.some Jvm.ClassFile.FieldType.int)) ∈ zT := z_tables_1_1 167 rfl rfl
set_option maxRecDepth 100000 in
theorem wd_196 : (Cond.methodLink "SpannedCells$Grid" (67 : Nat) yAL_get) ∈ zT := z_tables_1_1 168 rfl rfl
set_option maxRecDepth 100000 in
theorem wd_197 : (Cond.instanceMethod yAL_get) ∈ zT := z_tables_1_1 169 rfl rfl
set_option maxRecDepth 100000 in
theorem wd_198 : (Cond.selects "java/util/ArrayList" yAL_get yAL_get) ∈ zT := z_tables_1_1 170 rfl rfl
set_option maxRecDepth 100000 in
theorem wd_199 : (Cond.code yAL_get prog_16_method_20_code (2 : Nat) (Option.some (Jvm.ClassFile.FieldType.object "java/lang/Object"))) ∈ zT := z_tables_1_1 171 rfl rfl
set_option maxRecDepth 100000 in
theorem wd_200 : (Cond.methodLink "java/util/ArrayList" (118 : Nat) yOS_checkIndex) ∈ zT := z_tables_1_1 172 rfl rfl
set_option maxRecDepth 100000 in
theorem wd_201 : (Cond.static yOS_checkIndex) ∈ zT := z_tables_1_1 173 rfl rfl
set_option maxRecDepth 100000 in
theorem wd_202 : (Cond.code yOS_checkIndex prog_20_method_17_code (2 : Nat) (Option.some Jvm.ClassFile.FieldType.int)) ∈ zT := z_tables_1_1 174 rfl rfl
set_option maxRecDepth 100000 in
theorem wd_203 : (Cond.methodLink "java/util/Objects" (105 : Nat) yPR_checkIndex) ∈ zT := z_tables_1_1 175 rfl rfl
set_option maxRecDepth 100000 in
theorem wd_204 : (Cond.static yPR_checkIndex) ∈ zT := z_tables_1_1 176 rfl rfl
set_option maxRecDepth 100000 in
theorem wd_205 : (Cond.code yPR_checkIndex prog_24_method_11_code (3 : Nat) (Option.some Jvm.ClassFile.FieldType.int)) ∈ zT := z_tables_1_1 177 rfl rfl
set_option maxRecDepth 100000 in
theorem wd_206 : (Cond.methodLink "java/util/ArrayList" (123 : Nat) yAL_elementData) ∈ zT := z_tables_1_1 178 rfl rfl
set_option maxRecDepth 100000 in
theorem wd_207 : (Cond.instanceMethod yAL_elementData) ∈ zT := z_tables_1_1 179 rfl rfl
set_option maxRecDepth 100000 in
theorem wd_208 : (Cond.selects "java/util/ArrayList" yAL_elementData yAL_elementData) ∈ zT := z_tables_1_1 180 rfl rfl
