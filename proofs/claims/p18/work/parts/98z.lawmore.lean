set_option maxRecDepth 100000 in
theorem wd_45 : (Cond.classLink "SpannedCellsLaw" (7 : Nat) "SpannedCells") ∈ zT := z_tables_1_1 17 rfl rfl
set_option maxRecDepth 100000 in
theorem wd_47 : (Cond.methodLink "SpannedCellsLaw" (9 : Nat) ySC_init) ∈ zT := z_tables_1_1 19 rfl rfl
set_option maxRecDepth 100000 in
theorem wd_578 : (Cond.classLink "SpannedCellsLaw" (10 : Nat) "SpannedCellsModel") ∈ zT := z_tables_1_3 70 rfl rfl
set_option maxRecDepth 100000 in
theorem wd_580 : (Cond.methodLink "SpannedCellsLaw" (12 : Nat) yMD_init) ∈ zT := z_tables_1_3 72 rfl rfl
theorem dLW_law_0 : decode cLW_law 0 = .ok (.new 7, 3) := by decide +kernel
theorem dLW_law_3 : decode cLW_law 3 = .ok (.dup, 1) := by decide +kernel
theorem dLW_law_4 : decode cLW_law 4 = .ok (.invokespecial 9, 3) := by decide +kernel
theorem dLW_law_7 : decode cLW_law 7 = .ok (.astore_n 1, 1) := by decide +kernel
theorem dLW_law_8 : decode cLW_law 8 = .ok (.new 10, 3) := by decide +kernel
theorem dLW_law_11 : decode cLW_law 11 = .ok (.dup, 1) := by decide +kernel
theorem dLW_law_12 : decode cLW_law 12 = .ok (.invokespecial 12, 3) := by decide +kernel
theorem dLW_law_15 : decode cLW_law 15 = .ok (.astore_n 2, 1) := by decide +kernel
theorem dLW_law_16 : decode cLW_law 16 = .ok (.iconst 0, 1) := by decide +kernel
theorem dLW_law_17 : decode cLW_law 17 = .ok (.istore_n 3, 1) := by decide +kernel
theorem dLW_law_18 : decode cLW_law 18 = .ok (.iload_n 3, 1) := by decide +kernel
theorem dLW_law_19 : decode cLW_law 19 = .ok (.aload_n 0, 1) := by decide +kernel
theorem dLW_law_20 : decode cLW_law 20 = .ok (.arraylength, 1) := by decide +kernel
theorem dLW_law_21 : decode cLW_law 21 = .ok (.bipush 6, 2) := by decide +kernel
theorem dLW_law_23 : decode cLW_law 23 = .ok (.isub, 1) := by decide +kernel
theorem dLW_law_24 : decode cLW_law 24 = .ok (.if_icmp .gt 597, 3) := by decide +kernel
theorem dLW_law_27 : decode cLW_law 27 = .ok (.aload_n 0, 1) := by decide +kernel
theorem dLW_law_28 : decode cLW_law 28 = .ok (.iload_n 3, 1) := by decide +kernel
theorem dLW_law_29 : decode cLW_law 29 = .ok (.iaload, 1) := by decide +kernel
theorem dLW_law_30 : decode cLW_law 30 = .ok (.bipush 31, 2) := by decide +kernel
theorem dLW_law_32 : decode cLW_law 32 = .ok (.iand, 1) := by decide +kernel
theorem dLW_law_33 : decode cLW_law 33 = .ok (.tableswitch 582 0 16 #[83, 96, 109, 172, 215, 274, 287, 300, 313, 346, 359, 372, 395, 428, 451, 484, 523], 83) := by decide +kernel
theorem dLW_law_615 : decode cLW_law 615 = .ok (.iinc 3 6, 3) := by decide +kernel
theorem dLW_law_618 : decode cLW_law 618 = .ok (.goto (-600), 3) := by decide +kernel
theorem dLW_law_621 : decode cLW_law 621 = .ok (.iconst 1, 1) := by decide +kernel
theorem dLW_law_622 : decode cLW_law 622 = .ok (.ireturn, 1) := by decide +kernel
