set_option maxRecDepth 100000 in
theorem wd_169 : (Cond.methodLink "SpannedCellsLaw" (13 : Nat) ySC_group) ∈ zT := z_tables_1_1 141 rfl rfl
set_option maxRecDepth 100000 in
theorem wd_177 : (Cond.methodLink "SpannedCellsLaw" (18 : Nat) ySC_row) ∈ zT := z_tables_1_1 149 rfl rfl
set_option maxRecDepth 100000 in
theorem wd_215 : (Cond.methodLink "SpannedCellsLaw" (22 : Nat) ySC_cell) ∈ zT := z_tables_1_1 187 rfl rfl
set_option maxRecDepth 100000 in
theorem wd_351 : (Cond.methodLink "SpannedCellsLaw" (27 : Nat) ySC_border) ∈ zT := z_tables_1_2 83 rfl rfl
set_option maxRecDepth 100000 in
theorem wd_367 : (Cond.methodLink "SpannedCellsLaw" (32 : Nat) ySC_layout) ∈ zT := z_tables_1_2 99 rfl rfl
set_option maxRecDepth 100000 in
theorem wd_371 : (Cond.methodLink "SpannedCellsLaw" (37 : Nat) ySC_clear) ∈ zT := z_tables_1_2 103 rfl rfl
set_option maxRecDepth 100000 in
theorem wd_387 : (Cond.methodLink "SpannedCellsLaw" (41 : Nat) ySC_columns) ∈ zT := z_tables_1_2 119 rfl rfl
set_option maxRecDepth 100000 in
theorem wd_395 : (Cond.methodLink "SpannedCellsLaw" (45 : Nat) ySC_rows) ∈ zT := z_tables_1_2 127 rfl rfl
set_option maxRecDepth 100000 in
theorem wd_403 : (Cond.methodLink "SpannedCellsLaw" (49 : Nat) ySC_slot) ∈ zT := z_tables_1_2 135 rfl rfl
set_option maxRecDepth 100000 in
theorem wd_408 : (Cond.methodLink "SpannedCellsLaw" (54 : Nat) ySC_overlaps) ∈ zT := z_tables_1_2 140 rfl rfl
set_option maxRecDepth 100000 in
theorem wd_420 : (Cond.methodLink "SpannedCellsLaw" (58 : Nat) ySC_empties) ∈ zT := z_tables_1_2 152 rfl rfl
set_option maxRecDepth 100000 in
theorem wd_440 : (Cond.methodLink "SpannedCellsLaw" (62 : Nat) ySC_span) ∈ zT := z_tables_1_2 172 rfl rfl
set_option maxRecDepth 100000 in
theorem wd_445 : (Cond.methodLink "SpannedCellsLaw" (67 : Nat) ySC_wide) ∈ zT := z_tables_1_2 177 rfl rfl
set_option maxRecDepth 100000 in
theorem wd_527 : (Cond.methodLink "SpannedCellsLaw" (71 : Nat) ySC_high) ∈ zT := z_tables_1_3 19 rfl rfl
set_option maxRecDepth 100000 in
theorem wd_544 : (Cond.methodLink "SpannedCellsLaw" (75 : Nat) ySC_place) ∈ zT := z_tables_1_3 36 rfl rfl
set_option maxRecDepth 100000 in
theorem wd_555 : (Cond.methodLink "SpannedCellsLaw" (79 : Nat) ySC_size) ∈ zT := z_tables_1_3 47 rfl rfl
set_option maxRecDepth 100000 in
theorem wd_559 : (Cond.methodLink "SpannedCellsLaw" (84 : Nat) ySC_edge) ∈ zT := z_tables_1_3 51 rfl rfl
set_option maxRecDepth 100000 in
theorem wd_664 : (Cond.methodLink "SpannedCellsLaw" (17 : Nat) yMD_group) ∈ zT := z_tables_1_3 156 rfl rfl
set_option maxRecDepth 100000 in
theorem wd_672 : (Cond.methodLink "SpannedCellsLaw" (21 : Nat) yMD_row) ∈ zT := z_tables_1_3 164 rfl rfl
set_option maxRecDepth 100000 in
theorem wd_676 : (Cond.methodLink "SpannedCellsLaw" (26 : Nat) yMD_cell) ∈ zT := z_tables_1_3 168 rfl rfl
set_option maxRecDepth 100000 in
theorem wd_684 : (Cond.methodLink "SpannedCellsLaw" (31 : Nat) yMD_border) ∈ zT := z_tables_1_3 176 rfl rfl
set_option maxRecDepth 100000 in
theorem wd_692 : (Cond.methodLink "SpannedCellsLaw" (36 : Nat) yMD_layout) ∈ zT := z_tables_1_3 184 rfl rfl
set_option maxRecDepth 100000 in
theorem wd_696 : (Cond.methodLink "SpannedCellsLaw" (40 : Nat) yMD_clear) ∈ zT := z_tables_1_3 188 rfl rfl
set_option maxRecDepth 100000 in
theorem wd_700 : (Cond.methodLink "SpannedCellsLaw" (44 : Nat) yMD_columns) ∈ zT := z_tables_1_3 192 rfl rfl
set_option maxRecDepth 100000 in
theorem wd_704 : (Cond.methodLink "SpannedCellsLaw" (48 : Nat) yMD_rows) ∈ zT := z_tables_1_3 196 rfl rfl
set_option maxRecDepth 100000 in
theorem wd_708 : (Cond.methodLink "SpannedCellsLaw" (53 : Nat) yMD_slot) ∈ zT := z_tables_1_3 200 rfl rfl
set_option maxRecDepth 100000 in
theorem wd_720 : (Cond.methodLink "SpannedCellsLaw" (57 : Nat) yMD_overlaps) ∈ zT := z_tables_1_3 212 rfl rfl
set_option maxRecDepth 100000 in
theorem wd_728 : (Cond.methodLink "SpannedCellsLaw" (61 : Nat) yMD_empties) ∈ zT := z_tables_1_3 220 rfl rfl
set_option maxRecDepth 100000 in
theorem wd_734 : (Cond.methodLink "SpannedCellsLaw" (66 : Nat) yMD_span) ∈ zT := z_tables_1_3 226 rfl rfl
set_option maxRecDepth 100000 in
theorem wd_739 : (Cond.methodLink "SpannedCellsLaw" (70 : Nat) yMD_wide) ∈ zT := z_tables_1_3 231 rfl rfl
set_option maxRecDepth 100000 in
theorem wd_777 : (Cond.methodLink "SpannedCellsLaw" (74 : Nat) yMD_high) ∈ zT := z_tables_1_4 29 rfl rfl
set_option maxRecDepth 100000 in
theorem wd_785 : (Cond.methodLink "SpannedCellsLaw" (78 : Nat) yMD_place) ∈ zT := z_tables_1_4 37 rfl rfl
set_option maxRecDepth 100000 in
theorem wd_789 : (Cond.methodLink "SpannedCellsLaw" (83 : Nat) yMD_size) ∈ zT := z_tables_1_4 41 rfl rfl
set_option maxRecDepth 100000 in
theorem wd_793 : (Cond.methodLink "SpannedCellsLaw" (88 : Nat) yMD_edge) ∈ zT := z_tables_1_4 45 rfl rfl
