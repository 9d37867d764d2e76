section
-- ===== PART A: goes FIRST, ahead of the names: the tables' words, and 'selects' of the private methods out of them =====
/-- a private method of a class that the tables say can be made, by its rows of tables_1 -/
def lw_okq (q : MethodName × Nat) : Prop := (q.1.cls ≠ "java/lang/invoke/MethodHandle" ∧ q.1.cls ≠ "java/lang/invoke/VarHandle") ∧ Cond.instantiable q.1.cls q.2 ∈ tables_1 ∧ Cond.privateMethod q.1 ∈ tables_1 ∧ Cond.instanceMethod q.1 ∈ tables_1
theorem lw_p0 : lw_okq (⟨"SpannedCells$Grid", "extendGroupTo", "(I)V"⟩, 6) := ⟨⟨by decide +kernel, by decide +kernel⟩, List.mem_of_getElem? (i := 26) (by decide +kernel), List.mem_of_getElem? (i := 158) (by decide +kernel), List.mem_of_getElem? (i := 159) (by decide +kernel)⟩
theorem lw_p1 : lw_okq (⟨"SpannedCells$Grid", "firstFreeColumn", "(I)I"⟩, 6) := ⟨⟨by decide +kernel, by decide +kernel⟩, List.mem_of_getElem? (i := 26) (by decide +kernel), List.mem_of_getElem? (i := 199) (by decide +kernel), List.mem_of_getElem? (i := 200) (by decide +kernel)⟩
theorem lw_p2 : lw_okq (⟨"java/util/ArrayList", "add", "(Ljava/lang/Object;[Ljava/lang/Object;I)V"⟩, 3) := ⟨⟨by decide +kernel, by decide +kernel⟩, List.mem_of_getElem? (i := 32) (by decide +kernel), List.mem_of_getElem? (i := 275) (by decide +kernel), List.mem_of_getElem? (i := 276) (by decide +kernel)⟩
theorem lw_p3 : lw_okq (⟨"java/util/ArrayList", "grow", "()[Ljava/lang/Object;"⟩, 3) := ⟨⟨by decide +kernel, by decide +kernel⟩, List.mem_of_getElem? (i := 32) (by decide +kernel), List.mem_of_getElem? (i := 279) (by decide +kernel), List.mem_of_getElem? (i := 280) (by decide +kernel)⟩
theorem lw_p4 : lw_okq (⟨"java/util/ArrayList", "grow", "(I)[Ljava/lang/Object;"⟩, 3) := ⟨⟨by decide +kernel, by decide +kernel⟩, List.mem_of_getElem? (i := 32) (by decide +kernel), List.mem_of_getElem? (i := 283) (by decide +kernel), List.mem_of_getElem? (i := 284) (by decide +kernel)⟩
theorem lw_p5 : lw_okq (⟨"SpannedCells$Grid", "countOwnedSlots", "()I"⟩, 6) := ⟨⟨by decide +kernel, by decide +kernel⟩, List.mem_of_getElem? (i := 26) (by decide +kernel), List.mem_of_getElem? (i := 389) (by decide +kernel), List.mem_of_getElem? (i := 390) (by decide +kernel)⟩
theorem lw_p6 : lw_okq (⟨"SpannedCells$Grid", "beginsInColumn", "(I)Z"⟩, 6) := ⟨⟨by decide +kernel, by decide +kernel⟩, List.mem_of_getElem? (i := 26) (by decide +kernel), List.mem_of_getElem? (i := 401) (by decide +kernel), List.mem_of_getElem? (i := 402) (by decide +kernel)⟩
theorem lw_p7 : lw_okq (⟨"SpannedCells$Grid", "beginsInRow", "(I)Z"⟩, 6) := ⟨⟨by decide +kernel, by decide +kernel⟩, List.mem_of_getElem? (i := 26) (by decide +kernel), List.mem_of_getElem? (i := 409) (by decide +kernel), List.mem_of_getElem? (i := 410) (by decide +kernel)⟩
theorem lw_p8 : lw_okq (⟨"SpannedCells", "measuredWidths", "()LSpannedCells$Widths;"⟩, 6) := ⟨⟨by decide +kernel, by decide +kernel⟩, List.mem_of_getElem? (i := 18) (by decide +kernel), List.mem_of_getElem? (i := 422) (by decide +kernel), List.mem_of_getElem? (i := 423) (by decide +kernel)⟩
theorem lw_p9 : lw_okq (⟨"SpannedCells$Widths", "fit", "(LSpannedCells$Cell;I)V"⟩, 4) := ⟨⟨by decide +kernel, by decide +kernel⟩, List.mem_of_getElem? (i := 77) (by decide +kernel), List.mem_of_getElem? (i := 439) (by decide +kernel), List.mem_of_getElem? (i := 440) (by decide +kernel)⟩
theorem lw_p10 : lw_okq (⟨"SpannedCells", "chosenWidths", "()LSpannedCells$Lines;"⟩, 6) := ⟨⟨by decide +kernel, by decide +kernel⟩, List.mem_of_getElem? (i := 18) (by decide +kernel), List.mem_of_getElem? (i := 469) (by decide +kernel), List.mem_of_getElem? (i := 470) (by decide +kernel)⟩
theorem lw_p11 : lw_okq (⟨"SpannedCells$Widths", "weighByScope", "(I)V"⟩, 4) := ⟨⟨by decide +kernel, by decide +kernel⟩, List.mem_of_getElem? (i := 77) (by decide +kernel), List.mem_of_getElem? (i := 491) (by decide +kernel), List.mem_of_getElem? (i := 492) (by decide +kernel)⟩
theorem lw_p12 : lw_okq (⟨"SpannedCells", "measuredHeights", "()LSpannedCells$Lines;"⟩, 6) := ⟨⟨by decide +kernel, by decide +kernel⟩, List.mem_of_getElem? (i := 18) (by decide +kernel), List.mem_of_getElem? (i := 504) (by decide +kernel), List.mem_of_getElem? (i := 505) (by decide +kernel)⟩
theorem lw_p13 : lw_okq (⟨"SpannedCellsModel", "endOf", "(I)I"⟩, 26) := ⟨⟨by decide +kernel, by decide +kernel⟩, List.mem_of_getElem? (i := 551) (by decide +kernel), List.mem_of_getElem? (i := 641) (by decide +kernel), List.mem_of_getElem? (i := 642) (by decide +kernel)⟩
theorem lw_p14 : lw_okq (⟨"SpannedCellsModel", "isTaken", "(I)Z"⟩, 26) := ⟨⟨by decide +kernel, by decide +kernel⟩, List.mem_of_getElem? (i := 551) (by decide +kernel), List.mem_of_getElem? (i := 653) (by decide +kernel), List.mem_of_getElem? (i := 654) (by decide +kernel)⟩
theorem lw_p15 : lw_okq (⟨"SpannedCellsModel", "isCell", "(I)Z"⟩, 26) := ⟨⟨by decide +kernel, by decide +kernel⟩, List.mem_of_getElem? (i := 551) (by decide +kernel), List.mem_of_getElem? (i := 661) (by decide +kernel), List.mem_of_getElem? (i := 662) (by decide +kernel)⟩
def lw_privs_1 : List (MethodName × Nat) := [(⟨"SpannedCells$Grid", "extendGroupTo", "(I)V"⟩, 6), (⟨"SpannedCells$Grid", "firstFreeColumn", "(I)I"⟩, 6), (⟨"java/util/ArrayList", "add", "(Ljava/lang/Object;[Ljava/lang/Object;I)V"⟩, 3), (⟨"java/util/ArrayList", "grow", "()[Ljava/lang/Object;"⟩, 3), (⟨"java/util/ArrayList", "grow", "(I)[Ljava/lang/Object;"⟩, 3), (⟨"SpannedCells$Grid", "countOwnedSlots", "()I"⟩, 6), (⟨"SpannedCells$Grid", "beginsInColumn", "(I)Z"⟩, 6), (⟨"SpannedCells$Grid", "beginsInRow", "(I)Z"⟩, 6), (⟨"SpannedCells", "measuredWidths", "()LSpannedCells$Widths;"⟩, 6), (⟨"SpannedCells$Widths", "fit", "(LSpannedCells$Cell;I)V"⟩, 4), (⟨"SpannedCells", "chosenWidths", "()LSpannedCells$Lines;"⟩, 6), (⟨"SpannedCells$Widths", "weighByScope", "(I)V"⟩, 4), (⟨"SpannedCells", "measuredHeights", "()LSpannedCells$Lines;"⟩, 6), (⟨"SpannedCellsModel", "endOf", "(I)I"⟩, 26), (⟨"SpannedCellsModel", "isTaken", "(I)Z"⟩, 26), (⟨"SpannedCellsModel", "isCell", "(I)Z"⟩, 26)]
theorem lw_r1 : ∀ q ∈ lw_privs_1, lw_okq q := List.forall_mem_cons.mpr ⟨lw_p0, List.forall_mem_cons.mpr ⟨lw_p1, List.forall_mem_cons.mpr ⟨lw_p2, List.forall_mem_cons.mpr ⟨lw_p3, List.forall_mem_cons.mpr ⟨lw_p4, List.forall_mem_cons.mpr ⟨lw_p5, List.forall_mem_cons.mpr ⟨lw_p6, List.forall_mem_cons.mpr ⟨lw_p7, List.forall_mem_cons.mpr ⟨lw_p8, List.forall_mem_cons.mpr ⟨lw_p9, List.forall_mem_cons.mpr ⟨lw_p10, List.forall_mem_cons.mpr ⟨lw_p11, List.forall_mem_cons.mpr ⟨lw_p12, List.forall_mem_cons.mpr ⟨lw_p13, List.forall_mem_cons.mpr ⟨lw_p14, List.forall_mem_cons.mpr ⟨lw_p15, fun _ h => absurd h List.not_mem_nil⟩⟩⟩⟩⟩⟩⟩⟩⟩⟩⟩⟩⟩⟩⟩⟩
theorem lw_p16 : lw_okq (⟨"SpannedCellsModel", "takes", "(III)Z"⟩, 26) := ⟨⟨by decide +kernel, by decide +kernel⟩, List.mem_of_getElem? (i := 551) (by decide +kernel), List.mem_of_getElem? (i := 685) (by decide +kernel), List.mem_of_getElem? (i := 686) (by decide +kernel)⟩
theorem lw_p17 : lw_okq (⟨"SpannedCellsModel", "down", "(I)I"⟩, 26) := ⟨⟨by decide +kernel, by decide +kernel⟩, List.mem_of_getElem? (i := 551) (by decide +kernel), List.mem_of_getElem? (i := 689) (by decide +kernel), List.mem_of_getElem? (i := 690) (by decide +kernel)⟩
theorem lw_p18 : lw_okq (⟨"SpannedCellsModel", "howMany", "(II)I"⟩, 26) := ⟨⟨by decide +kernel, by decide +kernel⟩, List.mem_of_getElem? (i := 551) (by decide +kernel), List.mem_of_getElem? (i := 697) (by decide +kernel), List.mem_of_getElem? (i := 698) (by decide +kernel)⟩
theorem lw_p19 : lw_okq (⟨"SpannedCellsModel", "findWidths", "()V"⟩, 26) := ⟨⟨by decide +kernel, by decide +kernel⟩, List.mem_of_getElem? (i := 551) (by decide +kernel), List.mem_of_getElem? (i := 716) (by decide +kernel), List.mem_of_getElem? (i := 717) (by decide +kernel)⟩
theorem lw_p20 : lw_okq (⟨"SpannedCellsModel", "measure", "()V"⟩, 26) := ⟨⟨by decide +kernel, by decide +kernel⟩, List.mem_of_getElem? (i := 551) (by decide +kernel), List.mem_of_getElem? (i := 720) (by decide +kernel), List.mem_of_getElem? (i := 721) (by decide +kernel)⟩
theorem lw_p21 : lw_okq (⟨"SpannedCellsModel", "measureCell", "(I)V"⟩, 26) := ⟨⟨by decide +kernel, by decide +kernel⟩, List.mem_of_getElem? (i := 551) (by decide +kernel), List.mem_of_getElem? (i := 724) (by decide +kernel), List.mem_of_getElem? (i := 725) (by decide +kernel)⟩
theorem lw_p22 : lw_okq (⟨"SpannedCellsModel", "weigh", "([I)V"⟩, 26) := ⟨⟨by decide +kernel, by decide +kernel⟩, List.mem_of_getElem? (i := 551) (by decide +kernel), List.mem_of_getElem? (i := 731) (by decide +kernel), List.mem_of_getElem? (i := 732) (by decide +kernel)⟩
theorem lw_p23 : lw_okq (⟨"SpannedCellsModel", "share", "(I[III)V"⟩, 26) := ⟨⟨by decide +kernel, by decide +kernel⟩, List.mem_of_getElem? (i := 551) (by decide +kernel), List.mem_of_getElem? (i := 738) (by decide +kernel), List.mem_of_getElem? (i := 739) (by decide +kernel)⟩
theorem lw_p24 : lw_okq (⟨"SpannedCellsModel", "fixWidths", "()V"⟩, 26) := ⟨⟨by decide +kernel, by decide +kernel⟩, List.mem_of_getElem? (i := 551) (by decide +kernel), List.mem_of_getElem? (i := 742) (by decide +kernel), List.mem_of_getElem? (i := 743) (by decide +kernel)⟩
theorem lw_p25 : lw_okq (⟨"SpannedCellsModel", "room", "()I"⟩, 26) := ⟨⟨by decide +kernel, by decide +kernel⟩, List.mem_of_getElem? (i := 551) (by decide +kernel), List.mem_of_getElem? (i := 746) (by decide +kernel), List.mem_of_getElem? (i := 747) (by decide +kernel)⟩
theorem lw_p26 : lw_okq (⟨"SpannedCellsModel", "findHeights", "()V"⟩, 26) := ⟨⟨by decide +kernel, by decide +kernel⟩, List.mem_of_getElem? (i := 551) (by decide +kernel), List.mem_of_getElem? (i := 754) (by decide +kernel), List.mem_of_getElem? (i := 755) (by decide +kernel)⟩
theorem lw_p27 : lw_okq (⟨"SpannedCellsModel", "stronger", "(II)I"⟩, 26) := ⟨⟨by decide +kernel, by decide +kernel⟩, List.mem_of_getElem? (i := 551) (by decide +kernel), List.mem_of_getElem? (i := 771) (by decide +kernel), List.mem_of_getElem? (i := 772) (by decide +kernel)⟩
def lw_privs_2 : List (MethodName × Nat) := [(⟨"SpannedCellsModel", "takes", "(III)Z"⟩, 26), (⟨"SpannedCellsModel", "down", "(I)I"⟩, 26), (⟨"SpannedCellsModel", "howMany", "(II)I"⟩, 26), (⟨"SpannedCellsModel", "findWidths", "()V"⟩, 26), (⟨"SpannedCellsModel", "measure", "()V"⟩, 26), (⟨"SpannedCellsModel", "measureCell", "(I)V"⟩, 26), (⟨"SpannedCellsModel", "weigh", "([I)V"⟩, 26), (⟨"SpannedCellsModel", "share", "(I[III)V"⟩, 26), (⟨"SpannedCellsModel", "fixWidths", "()V"⟩, 26), (⟨"SpannedCellsModel", "room", "()I"⟩, 26), (⟨"SpannedCellsModel", "findHeights", "()V"⟩, 26), (⟨"SpannedCellsModel", "stronger", "(II)I"⟩, 26)]
theorem lw_r2 : ∀ q ∈ lw_privs_2, lw_okq q := List.forall_mem_cons.mpr ⟨lw_p16, List.forall_mem_cons.mpr ⟨lw_p17, List.forall_mem_cons.mpr ⟨lw_p18, List.forall_mem_cons.mpr ⟨lw_p19, List.forall_mem_cons.mpr ⟨lw_p20, List.forall_mem_cons.mpr ⟨lw_p21, List.forall_mem_cons.mpr ⟨lw_p22, List.forall_mem_cons.mpr ⟨lw_p23, List.forall_mem_cons.mpr ⟨lw_p24, List.forall_mem_cons.mpr ⟨lw_p25, List.forall_mem_cons.mpr ⟨lw_p26, List.forall_mem_cons.mpr ⟨lw_p27, fun _ h => absurd h List.not_mem_nil⟩⟩⟩⟩⟩⟩⟩⟩⟩⟩⟩⟩
def lw_privs : List (MethodName × Nat) := lw_privs_1 ++ (lw_privs_2)
def lw_tbl : List Cond := k2_sels lw_privs ++ tables_1
theorem lw_privs_ok : ∀ q ∈ lw_privs, lw_okq q := by
  show ∀ q ∈ lw_privs_1 ++ (lw_privs_2), lw_okq q
  exact List.forall_mem_append.mpr ⟨lw_r1, lw_r2⟩
end
section
/-! ===== names: by my own program out of the words of the tables and the listing ===== -/
def TSC : u_T := fun k => match k with
  | 0 => ("SpannedCells", "grid", "LSpannedCells$Grid;", true)
  | 1 => ("SpannedCells", "widths", "LSpannedCells$Widths;", true)
  | 2 => ("SpannedCells", "heights", "LSpannedCells$Heights;", true)
  | 3 => ("SpannedCells", "space", "I", false)
  | 4 => ("SpannedCells", "gap", "I", false)
  | _ => ("SpannedCells", "fixed", "Z", false)
def tySC : Nat → FieldType := fun k => match k with
  | 0 => .object "SpannedCells$Grid"
  | 1 => .object "SpannedCells$Widths"
  | 2 => .object "SpannedCells$Heights"
  | 3 => .int
  | 4 => .int
  | _ => .boolean
theorem nokSC : ∀ a, a < 6 → ∀ b, b < 6 → a ≠ b → (TSC a).2.1 ≠ (TSC b).2.1 := by decide +kernel
theorem tokSC : ∀ k, k < 6 → parseFieldDescriptor (TSC k).2.2.1 = some (tySC k) := by decide +kernel
def TGR : u_T := fun k => match k with
  | 0 => ("SpannedCells$Grid", "cells", "Ljava/util/ArrayList;", true)
  | 1 => ("SpannedCells$Grid", "groups", "I", false)
  | 2 => ("SpannedCells$Grid", "groupStart", "I", false)
  | 3 => ("SpannedCells$Grid", "begunInGroup", "I", false)
  | 4 => ("SpannedCells$Grid", "rowsEnd", "I", false)
  | _ => ("SpannedCells$Grid", "columnsEnd", "I", false)
def tyGR : Nat → FieldType := fun k => match k with
  | 0 => .object "java/util/ArrayList"
  | 1 => .int
  | 2 => .int
  | 3 => .int
  | 4 => .int
  | _ => .int
theorem nokGR : ∀ a, a < 6 → ∀ b, b < 6 → a ≠ b → (TGR a).2.1 ≠ (TGR b).2.1 := by decide +kernel
theorem tokGR : ∀ k, k < 6 → parseFieldDescriptor (TGR k).2.2.1 = some (tyGR k) := by decide +kernel
def TAL : u_T := fun k => match k with
  | 0 => ("java/util/ArrayList", "elementData", "[Ljava/lang/Object;", false)
  | 1 => ("java/util/ArrayList", "size", "I", false)
  | _ => ("java/util/AbstractList", "modCount", "I", false)
def tyAL : Nat → FieldType := fun k => match k with
  | 0 => .array (.object "java/lang/Object")
  | 1 => .int
  | _ => .int
theorem nokAL : ∀ a, a < 3 → ∀ b, b < 3 → a ≠ b → (TAL a).2.1 ≠ (TAL b).2.1 := by decide +kernel
theorem tokAL : ∀ k, k < 3 → parseFieldDescriptor (TAL k).2.2.1 = some (tyAL k) := by decide +kernel
def TWI : u_T := fun k => match k with
  | 0 => ("SpannedCells$Widths", "least", "LSpannedCells$Lines;", true)
  | 1 => ("SpannedCells$Widths", "most", "LSpannedCells$Lines;", true)
  | 2 => ("SpannedCells$Widths", "chosen", "LSpannedCells$Lines;", true)
  | _ => ("SpannedCells$Widths", "weights", "LSpannedCells$Lines;", true)
def tyWI : Nat → FieldType := fun k => match k with
  | 0 => .object "SpannedCells$Lines"
  | 1 => .object "SpannedCells$Lines"
  | 2 => .object "SpannedCells$Lines"
  | _ => .object "SpannedCells$Lines"
theorem nokWI : ∀ a, a < 4 → ∀ b, b < 4 → a ≠ b → (TWI a).2.1 ≠ (TWI b).2.1 := by decide +kernel
theorem tokWI : ∀ k, k < 4 → parseFieldDescriptor (TWI k).2.2.1 = some (tyWI k) := by decide +kernel
def TLI : u_T := fun k => match k with
  | _ => ("SpannedCells$Lines", "sizes", "[I", true)
def tyLI : Nat → FieldType := fun k => match k with
  | _ => .array .int
theorem nokLI : ∀ a, a < 1 → ∀ b, b < 1 → a ≠ b → (TLI a).2.1 ≠ (TLI b).2.1 := by decide +kernel
theorem tokLI : ∀ k, k < 1 → parseFieldDescriptor (TLI k).2.2.1 = some (tyLI k) := by decide +kernel
def THE : u_T := fun k => match k with
  | _ => ("SpannedCells$Heights", "needed", "LSpannedCells$Lines;", true)
def tyHE : Nat → FieldType := fun k => match k with
  | _ => .object "SpannedCells$Lines"
theorem nokHE : ∀ a, a < 1 → ∀ b, b < 1 → a ≠ b → (THE a).2.1 ≠ (THE b).2.1 := by decide +kernel
theorem tokHE : ∀ k, k < 1 → parseFieldDescriptor (THE k).2.2.1 = some (tyHE k) := by decide +kernel
def TMD : u_T := fun k => match k with
  | 0 => ("SpannedCellsModel", "groups", "I", false)
  | 1 => ("SpannedCellsModel", "bases", "[I", true)
  | 2 => ("SpannedCellsModel", "begun", "[I", true)
  | 3 => ("SpannedCellsModel", "cells", "I", false)
  | 4 => ("SpannedCellsModel", "lefts", "[I", true)
  | 5 => ("SpannedCellsModel", "tops", "[I", true)
  | 6 => ("SpannedCellsModel", "across", "[I", true)
  | 7 => ("SpannedCellsModel", "wants", "[I", true)
  | 8 => ("SpannedCellsModel", "groupOf", "[I", true)
  | 9 => ("SpannedCellsModel", "leasts", "[I", true)
  | 10 => ("SpannedCellsModel", "mosts", "[I", true)
  | 11 => ("SpannedCellsModel", "needs", "[I", true)
  | 12 => ("SpannedCellsModel", "thick", "[I", true)
  | 13 => ("SpannedCellsModel", "ranks", "[I", true)
  | 14 => ("SpannedCellsModel", "rowGroup", "I", false)
  | 15 => ("SpannedCellsModel", "rowNumber", "I", false)
  | 16 => ("SpannedCellsModel", "rowEnd", "I", false)
  | 17 => ("SpannedCellsModel", "space", "I", false)
  | 18 => ("SpannedCellsModel", "gap", "I", false)
  | 19 => ("SpannedCellsModel", "fixed", "Z", false)
  | 20 => ("SpannedCellsModel", "least", "[I", true)
  | 21 => ("SpannedCellsModel", "most", "[I", true)
  | 22 => ("SpannedCellsModel", "width", "[I", true)
  | 23 => ("SpannedCellsModel", "height", "[I", true)
  | 24 => ("SpannedCellsModel", "given", "[Z", true)
  | _ => ("SpannedCellsModel", "weights", "[I", true)
def tyMD : Nat → FieldType := fun k => match k with
  | 0 => .int
  | 1 => .array .int
  | 2 => .array .int
  | 3 => .int
  | 4 => .array .int
  | 5 => .array .int
  | 6 => .array .int
  | 7 => .array .int
  | 8 => .array .int
  | 9 => .array .int
  | 10 => .array .int
  | 11 => .array .int
  | 12 => .array .int
  | 13 => .array .int
  | 14 => .int
  | 15 => .int
  | 16 => .int
  | 17 => .int
  | 18 => .int
  | 19 => .boolean
  | 20 => .array .int
  | 21 => .array .int
  | 22 => .array .int
  | 23 => .array .int
  | 24 => .array .boolean
  | _ => .array .int
theorem nokMD : ∀ a, a < 26 → ∀ b, b < 26 → a ≠ b → (TMD a).2.1 ≠ (TMD b).2.1 := by decide +kernel
theorem tokMD : ∀ k, k < 26 → parseFieldDescriptor (TMD k).2.2.1 = some (tyMD k) := by decide +kernel
def TCE : u_T := fun k => match k with
  | 0 => ("SpannedCells$Cell", "left", "I", true)
  | 1 => ("SpannedCells$Cell", "top", "I", true)
  | 2 => ("SpannedCells$Cell", "columns", "I", true)
  | 3 => ("SpannedCells$Cell", "least", "I", true)
  | 4 => ("SpannedCells$Cell", "most", "I", true)
  | 5 => ("SpannedCells$Cell", "need", "I", true)
  | 6 => ("SpannedCells$Cell", "growing", "Z", true)
  | 7 => ("SpannedCells$Cell", "rows", "I", false)
  | 8 => ("SpannedCells$Cell", "thickness", "I", false)
  | _ => ("SpannedCells$Cell", "rank", "I", false)
def tyCE : Nat → FieldType := fun k => match k with
  | 0 => .int
  | 1 => .int
  | 2 => .int
  | 3 => .int
  | 4 => .int
  | 5 => .int
  | 6 => .boolean
  | 7 => .int
  | 8 => .int
  | _ => .int
theorem nokCE : ∀ a, a < 10 → ∀ b, b < 10 → a ≠ b → (TCE a).2.1 ≠ (TCE b).2.1 := by decide +kernel
theorem tokCE : ∀ k, k < 10 → parseFieldDescriptor (TCE k).2.2.1 = some (tyCE k) := by decide +kernel
abbrev RSC : String := "SpannedCells"
abbrev RCE : String := "SpannedCells$Cell"
abbrev RGR : String := "SpannedCells$Grid"
abbrev RLI : String := "SpannedCells$Lines"
abbrev RWI : String := "SpannedCells$Widths"
abbrev RHE : String := "SpannedCells$Heights"
abbrev RMD : String := "SpannedCellsModel"
abbrev RLW : String := "SpannedCellsLaw"
abbrev RAL : String := "java/util/ArrayList"
abbrev RAB : String := "java/util/AbstractList"
abbrev RAC : String := "java/util/AbstractCollection"
abbrev ROB : String := "java/lang/Object"
abbrev RMA : String := "java/lang/Math"
abbrev RAR : String := "java/util/Arrays"
abbrev ROS : String := "java/util/Objects"
abbrev RPR : String := "jdk/internal/util/Preconditions"
abbrev RAS : String := "jdk/internal/util/ArraysSupport"
abbrev RSY : String := "java/lang/System"
abbrev vwCl : List vw_C := [(RSC, TSC, 6), (RGR, TGR, 6), (RAL, TAL, 3), (RWI, TWI, 4), (RLI, TLI, 1), (RHE, THE, 1), (RMD, TMD, 26), (RCE, TCE, 10)]
def zT : List Cond := lw_tbl.filter goodWord
theorem z_mem {w : Cond} (i : Nat) (h : lw_tbl[i]? = some w) (hg : goodWord w = true) : w ∈ zT := List.mem_filter.mpr ⟨List.mem_of_getElem? h, hg⟩
theorem zT_in : ∀ w ∈ zT, w ∈ lw_tbl := fun _ h => (List.mem_filter.mp h).1
theorem zT_good {Ts : List Cond} (h : ∀ w ∈ zT, w ∈ Ts) : GoodIn Ts zT := fun w hw => ⟨h w hw, good_of_word (List.mem_filter.mp hw).2⟩
abbrev cLW_law : ByteArray := code
abbrev cAB_init : ByteArray := prog_15_method_1_code
abbrev yAB_init : MethodName := ⟨"java/util/AbstractList", "<init>", "()V"⟩
abbrev wAB_init : List Cond := .code yAB_init cAB_init 1 none :: zT
abbrev cAC_init : ByteArray := prog_14_method_1_code
abbrev yAC_init : MethodName := ⟨"java/util/AbstractCollection", "<init>", "()V"⟩
abbrev wAC_init : List Cond := .code yAC_init cAC_init 1 none :: zT
abbrev cAL_clear : ByteArray := prog_16_method_40_code
abbrev yAL_clear : MethodName := ⟨"java/util/ArrayList", "clear", "()V"⟩
abbrev wAL_clear : List Cond := .code yAL_clear cAL_clear 4 none :: zT
abbrev cAL_init : ByteArray := prog_16_method_2_code
abbrev yAL_init : MethodName := ⟨"java/util/ArrayList", "<init>", "()V"⟩
abbrev wAL_init : List Cond := .code yAL_init cAL_init 1 none :: zT
abbrev cAL_size : ByteArray := prog_16_method_8_code
abbrev yAL_size : MethodName := ⟨"java/util/ArrayList", "size", "()I"⟩
abbrev wAL_size : List Cond := .code yAL_size cAL_size 1 (some .int) :: zT
abbrev cGR_beginGroup : ByteArray := prog_3_method_3_code
abbrev yGR_beginGroup : MethodName := ⟨"SpannedCells$Grid", "beginGroup", "()I"⟩
abbrev wGR_beginGroup : List Cond := .code yGR_beginGroup cGR_beginGroup 1 (some .int) :: zT
abbrev cGR_beginRow : ByteArray := prog_3_method_4_code
abbrev yGR_beginRow : MethodName := ⟨"SpannedCells$Grid", "beginRow", "()I"⟩
abbrev wGR_beginRow : List Cond := .code yGR_beginRow cGR_beginRow 2 (some .int) :: zT
abbrev cGR_cellCount : ByteArray := prog_3_method_8_code
abbrev yGR_cellCount : MethodName := ⟨"SpannedCells$Grid", "cellCount", "()I"⟩
abbrev wGR_cellCount : List Cond := .code yGR_cellCount cGR_cellCount 1 (some .int) :: zT
abbrev cGR_columnCount : ByteArray := prog_3_method_9_code
abbrev yGR_columnCount : MethodName := ⟨"SpannedCells$Grid", "columnCount", "()I"⟩
abbrev wGR_columnCount : List Cond := .code yGR_columnCount cGR_columnCount 1 (some .int) :: zT
abbrev cGR_countEmptyColumns : ByteArray := prog_3_method_17_code
abbrev yGR_countEmptyColumns : MethodName := ⟨"SpannedCells$Grid", "countEmptyColumns", "()I"⟩
abbrev wGR_countEmptyColumns : List Cond := .code yGR_countEmptyColumns cGR_countEmptyColumns 3 (some .int) :: zT
abbrev cGR_countEmptyRows : ByteArray := prog_3_method_18_code
abbrev yGR_countEmptyRows : MethodName := ⟨"SpannedCells$Grid", "countEmptyRows", "()I"⟩
abbrev wGR_countEmptyRows : List Cond := .code yGR_countEmptyRows cGR_countEmptyRows 3 (some .int) :: zT
abbrev cGR_countOverlaps : ByteArray := prog_3_method_15_code
abbrev yGR_countOverlaps : MethodName := ⟨"SpannedCells$Grid", "countOverlaps", "()I"⟩
abbrev wGR_countOverlaps : List Cond := .code yGR_countOverlaps cGR_countOverlaps 3 (some .int) :: zT
abbrev cGR_countOwnedSlots : ByteArray := prog_3_method_16_code
abbrev yGR_countOwnedSlots : MethodName := ⟨"SpannedCells$Grid", "countOwnedSlots", "()I"⟩
abbrev wGR_countOwnedSlots : List Cond := .code yGR_countOwnedSlots cGR_countOwnedSlots 4 (some .int) :: zT
abbrev cGR_empty : ByteArray := prog_3_method_2_code
abbrev yGR_empty : MethodName := ⟨"SpannedCells$Grid", "empty", "()V"⟩
abbrev wGR_empty : List Cond := .code yGR_empty cGR_empty 1 none :: zT
abbrev cGR_extendGroupTo : ByteArray := prog_3_method_7_code
abbrev yGR_extendGroupTo : MethodName := ⟨"SpannedCells$Grid", "extendGroupTo", "(I)V"⟩
abbrev wGR_extendGroupTo : List Cond := .code yGR_extendGroupTo cGR_extendGroupTo 4 none :: zT
abbrev cGR_hasCell : ByteArray := prog_3_method_11_code
abbrev yGR_hasCell : MethodName := ⟨"SpannedCells$Grid", "hasCell", "(I)Z"⟩
abbrev wGR_hasCell : List Cond := .code yGR_hasCell cGR_hasCell 2 (some .boolean) :: zT
abbrev cGR_hasSlot : ByteArray := prog_3_method_13_code
abbrev yGR_hasSlot : MethodName := ⟨"SpannedCells$Grid", "hasSlot", "(II)Z"⟩
abbrev wGR_hasSlot : List Cond := .code yGR_hasSlot cGR_hasSlot 3 (some .boolean) :: zT
abbrev cGR_init : ByteArray := prog_3_method_1_code
abbrev yGR_init : MethodName := ⟨"SpannedCells$Grid", "<init>", "()V"⟩
abbrev wGR_init : List Cond := .code yGR_init cGR_init 1 none :: zT
abbrev cGR_ownerOf : ByteArray := prog_3_method_14_code
abbrev yGR_ownerOf : MethodName := ⟨"SpannedCells$Grid", "ownerOf", "(II)I"⟩
abbrev wGR_ownerOf : List Cond := .code yGR_ownerOf cGR_ownerOf 4 (some .int) :: zT
abbrev cGR_putCell : ByteArray := prog_3_method_5_code
abbrev yGR_putCell : MethodName := ⟨"SpannedCells$Grid", "putCell", "(IIIII)I"⟩
abbrev wGR_putCell : List Cond := .code yGR_putCell cGR_putCell 8 (some .int) :: zT
abbrev cGR_rowCount : ByteArray := prog_3_method_10_code
abbrev yGR_rowCount : MethodName := ⟨"SpannedCells$Grid", "rowCount", "()I"⟩
abbrev wGR_rowCount : List Cond := .code yGR_rowCount cGR_rowCount 1 (some .int) :: zT
abbrev cHE_init : ByteArray := prog_4_method_1_code
abbrev yHE_init : MethodName := ⟨"SpannedCells$Heights", "<init>", "()V"⟩
abbrev wHE_init : List Cond := .code yHE_init cHE_init 1 none :: zT
abbrev cLI_init : ByteArray := prog_5_method_1_code
abbrev yLI_init : MethodName := ⟨"SpannedCells$Lines", "<init>", "()V"⟩
abbrev wLI_init : List Cond := .code yLI_init cLI_init 1 none :: zT
abbrev cMD_border : ByteArray := prog_8_method_8_code
abbrev yMD_border : MethodName := ⟨"SpannedCellsModel", "border", "(III)Z"⟩
abbrev wMD_border : List Cond := .code yMD_border cMD_border 4 (some .boolean) :: zT
abbrev cMD_cell : ByteArray := prog_8_method_6_code
abbrev yMD_cell : MethodName := ⟨"SpannedCellsModel", "cell", "(IIIII)I"⟩
abbrev wMD_cell : List Cond := .code yMD_cell cMD_cell 9 (some .int) :: zT
abbrev cMD_clear : ByteArray := prog_8_method_10_code
abbrev yMD_clear : MethodName := ⟨"SpannedCellsModel", "clear", "()I"⟩
abbrev wMD_clear : List Cond := .code yMD_clear cMD_clear 2 (some .int) :: zT
abbrev cMD_columns : ByteArray := prog_8_method_11_code
abbrev yMD_columns : MethodName := ⟨"SpannedCellsModel", "columns", "()I"⟩
abbrev wMD_columns : List Cond := .code yMD_columns cMD_columns 3 (some .int) :: zT
abbrev cMD_edge : ByteArray := prog_8_method_35_code
abbrev yMD_edge : MethodName := ⟨"SpannedCellsModel", "edge", "(IIZ)I"⟩
abbrev wMD_edge : List Cond := .code yMD_edge cMD_edge 6 (some .int) :: zT
abbrev cMD_empties : ByteArray := prog_8_method_18_code
abbrev yMD_empties : MethodName := ⟨"SpannedCellsModel", "empties", "()I"⟩
abbrev wMD_empties : List Cond := .code yMD_empties cMD_empties 6 (some .int) :: zT
abbrev cMD_endOf : ByteArray := prog_8_method_2_code
abbrev yMD_endOf : MethodName := ⟨"SpannedCellsModel", "endOf", "(I)I"⟩
abbrev wMD_endOf : List Cond := .code yMD_endOf cMD_endOf 5 (some .int) :: zT
abbrev cMD_findHeights : ByteArray := prog_8_method_29_code
abbrev yMD_findHeights : MethodName := ⟨"SpannedCellsModel", "findHeights", "()V"⟩
abbrev wMD_findHeights : List Cond := .code yMD_findHeights cMD_findHeights 5 none :: zT
abbrev cMD_findWidths : ByteArray := prog_8_method_28_code
abbrev yMD_findWidths : MethodName := ⟨"SpannedCellsModel", "findWidths", "()V"⟩
abbrev wMD_findWidths : List Cond := .code yMD_findWidths cMD_findWidths 6 none :: zT
abbrev cMD_greater : ByteArray := prog_8_method_22_code
abbrev yMD_greater : MethodName := ⟨"SpannedCellsModel", "greater", "(II)I"⟩
abbrev wMD_greater : List Cond := .code yMD_greater cMD_greater 2 (some .int) :: zT
abbrev cMD_group : ByteArray := prog_8_method_3_code
abbrev yMD_group : MethodName := ⟨"SpannedCellsModel", "group", "()I"⟩
abbrev wMD_group : List Cond := .code yMD_group cMD_group 1 (some .int) :: zT
abbrev cMD_high : ByteArray := prog_8_method_31_code
abbrev yMD_high : MethodName := ⟨"SpannedCellsModel", "high", "(I)I"⟩
abbrev wMD_high : List Cond := .code yMD_high cMD_high 2 (some .int) :: zT
abbrev cMD_howMany : ByteArray := prog_8_method_15_code
abbrev yMD_howMany : MethodName := ⟨"SpannedCellsModel", "howMany", "(II)I"⟩
abbrev wMD_howMany : List Cond := .code yMD_howMany cMD_howMany 5 (some .int) :: zT
abbrev cMD_init : ByteArray := prog_8_method_1_code
abbrev yMD_init : MethodName := ⟨"SpannedCellsModel", "<init>", "()V"⟩
abbrev wMD_init : List Cond := .code yMD_init cMD_init 1 none :: zT
abbrev cMD_isCell : ByteArray := prog_8_method_7_code
abbrev yMD_isCell : MethodName := ⟨"SpannedCellsModel", "isCell", "(I)Z"⟩
abbrev wMD_isCell : List Cond := .code yMD_isCell cMD_isCell 2 (some .boolean) :: zT
abbrev cMD_layout : ByteArray := prog_8_method_9_code
abbrev yMD_layout : MethodName := ⟨"SpannedCellsModel", "layout", "(IIZ)Z"⟩
abbrev wMD_layout : List Cond := .code yMD_layout cMD_layout 4 (some .boolean) :: zT
abbrev cMD_measure : ByteArray := prog_8_method_25_code
abbrev yMD_measure : MethodName := ⟨"SpannedCellsModel", "measure", "()V"⟩
abbrev wMD_measure : List Cond := .code yMD_measure cMD_measure 3 none :: zT
abbrev cMD_overlaps : ByteArray := prog_8_method_17_code
abbrev yMD_overlaps : MethodName := ⟨"SpannedCellsModel", "overlaps", "()I"⟩
abbrev wMD_overlaps : List Cond := .code yMD_overlaps cMD_overlaps 4 (some .int) :: zT
abbrev cMD_place : ByteArray := prog_8_method_32_code
abbrev yMD_place : MethodName := ⟨"SpannedCellsModel", "place", "(II)I"⟩
abbrev wMD_place : List Cond := .code yMD_place cMD_place 7 (some .int) :: zT
abbrev cMD_room : ByteArray := prog_8_method_26_code
abbrev yMD_room : MethodName := ⟨"SpannedCellsModel", "room", "()I"⟩
abbrev wMD_room : List Cond := .code yMD_room cMD_room 1 (some .int) :: zT
abbrev cMD_row : ByteArray := prog_8_method_4_code
abbrev yMD_row : MethodName := ⟨"SpannedCellsModel", "row", "()I"⟩
abbrev wMD_row : List Cond := .code yMD_row cMD_row 3 (some .int) :: zT
abbrev cMD_rows : ByteArray := prog_8_method_12_code
abbrev yMD_rows : MethodName := ⟨"SpannedCellsModel", "rows", "()I"⟩
abbrev wMD_rows : List Cond := .code yMD_rows cMD_rows 1 (some .int) :: zT
abbrev cMD_size : ByteArray := prog_8_method_33_code
abbrev yMD_size : MethodName := ⟨"SpannedCellsModel", "size", "(Z)I"⟩
abbrev wMD_size : List Cond := .code yMD_size cMD_size 3 (some .int) :: zT
abbrev cMD_slot : ByteArray := prog_8_method_16_code
abbrev yMD_slot : MethodName := ⟨"SpannedCellsModel", "slot", "(II)I"⟩
abbrev wMD_slot : List Cond := .code yMD_slot cMD_slot 5 (some .int) :: zT
abbrev cMD_span : ByteArray := prog_8_method_19_code
abbrev yMD_span : MethodName := ⟨"SpannedCellsModel", "span", "(I)I"⟩
abbrev wMD_span : List Cond := .code yMD_span cMD_span 2 (some .int) :: zT
abbrev cMD_sumOf : ByteArray := prog_8_method_21_code
abbrev yMD_sumOf : MethodName := ⟨"SpannedCellsModel", "sumOf", "([III)I"⟩
abbrev wMD_sumOf : List Cond := .code yMD_sumOf cMD_sumOf 5 (some .int) :: zT
abbrev cMD_wide : ByteArray := prog_8_method_30_code
abbrev yMD_wide : MethodName := ⟨"SpannedCellsModel", "wide", "(II)I"⟩
abbrev wMD_wide : List Cond := .code yMD_wide cMD_wide 3 (some .int) :: zT
abbrev cSC_border : ByteArray := prog_1_method_5_code
abbrev ySC_border : MethodName := ⟨"SpannedCells", "border", "(III)Z"⟩
abbrev wSC_border : List Cond := .code ySC_border cSC_border 4 (some .boolean) :: zT
abbrev cSC_cell : ByteArray := prog_1_method_4_code
abbrev ySC_cell : MethodName := ⟨"SpannedCells", "cell", "(IIIII)I"⟩
abbrev wSC_cell : List Cond := .code ySC_cell cSC_cell 9 (some .int) :: zT
abbrev cSC_clear : ByteArray := prog_1_method_7_code
abbrev ySC_clear : MethodName := ⟨"SpannedCells", "clear", "()I"⟩
abbrev wSC_clear : List Cond := .code ySC_clear cSC_clear 2 (some .int) :: zT
abbrev cSC_columns : ByteArray := prog_1_method_8_code
abbrev ySC_columns : MethodName := ⟨"SpannedCells", "columns", "()I"⟩
abbrev wSC_columns : List Cond := .code ySC_columns cSC_columns 1 (some .int) :: zT
abbrev cSC_edge : ByteArray := prog_1_method_18_code
abbrev ySC_edge : MethodName := ⟨"SpannedCells", "edge", "(IIZ)I"⟩
abbrev wSC_edge : List Cond := .code ySC_edge cSC_edge 5 (some .int) :: zT
abbrev cSC_empties : ByteArray := prog_1_method_12_code
abbrev ySC_empties : MethodName := ⟨"SpannedCells", "empties", "()I"⟩
abbrev wSC_empties : List Cond := .code ySC_empties cSC_empties 1 (some .int) :: zT
abbrev cSC_group : ByteArray := prog_1_method_2_code
abbrev ySC_group : MethodName := ⟨"SpannedCells", "group", "()I"⟩
abbrev wSC_group : List Cond := .code ySC_group cSC_group 1 (some .int) :: zT
abbrev cSC_high : ByteArray := prog_1_method_15_code
abbrev ySC_high : MethodName := ⟨"SpannedCells", "high", "(I)I"⟩
abbrev wSC_high : List Cond := .code ySC_high cSC_high 2 (some .int) :: zT
abbrev cSC_init : ByteArray := prog_1_method_1_code
abbrev ySC_init : MethodName := ⟨"SpannedCells", "<init>", "()V"⟩
abbrev wSC_init : List Cond := .code ySC_init cSC_init 1 none :: zT
abbrev cSC_layout : ByteArray := prog_1_method_6_code
abbrev ySC_layout : MethodName := ⟨"SpannedCells", "layout", "(IIZ)Z"⟩
abbrev wSC_layout : List Cond := .code ySC_layout cSC_layout 4 (some .boolean) :: zT
abbrev cSC_overlaps : ByteArray := prog_1_method_11_code
abbrev ySC_overlaps : MethodName := ⟨"SpannedCells", "overlaps", "()I"⟩
abbrev wSC_overlaps : List Cond := .code ySC_overlaps cSC_overlaps 1 (some .int) :: zT
abbrev cSC_place : ByteArray := prog_1_method_16_code
abbrev ySC_place : MethodName := ⟨"SpannedCells", "place", "(II)I"⟩
abbrev wSC_place : List Cond := .code ySC_place cSC_place 4 (some .int) :: zT
abbrev cSC_row : ByteArray := prog_1_method_3_code
abbrev ySC_row : MethodName := ⟨"SpannedCells", "row", "()I"⟩
abbrev wSC_row : List Cond := .code ySC_row cSC_row 1 (some .int) :: zT
abbrev cSC_rows : ByteArray := prog_1_method_9_code
abbrev ySC_rows : MethodName := ⟨"SpannedCells", "rows", "()I"⟩
abbrev wSC_rows : List Cond := .code ySC_rows cSC_rows 1 (some .int) :: zT
abbrev cSC_size : ByteArray := prog_1_method_17_code
abbrev ySC_size : MethodName := ⟨"SpannedCells", "size", "(Z)I"⟩
abbrev wSC_size : List Cond := .code ySC_size cSC_size 2 (some .int) :: zT
abbrev cSC_slot : ByteArray := prog_1_method_10_code
abbrev ySC_slot : MethodName := ⟨"SpannedCells", "slot", "(II)I"⟩
abbrev wSC_slot : List Cond := .code ySC_slot cSC_slot 3 (some .int) :: zT
abbrev cSC_span : ByteArray := prog_1_method_13_code
abbrev ySC_span : MethodName := ⟨"SpannedCells", "span", "(I)I"⟩
abbrev wSC_span : List Cond := .code ySC_span cSC_span 3 (some .int) :: zT
abbrev cSC_wide : ByteArray := prog_1_method_14_code
abbrev ySC_wide : MethodName := ⟨"SpannedCells", "wide", "(II)I"⟩
abbrev wSC_wide : List Cond := .code ySC_wide cSC_wide 3 (some .int) :: zT
abbrev cSC_within : ByteArray := prog_1_method_22_code
abbrev ySC_within : MethodName := ⟨"SpannedCells", "within", "(III)Z"⟩
abbrev wSC_within : List Cond := .code ySC_within cSC_within 3 (some .boolean) :: zT
abbrev cWI_init : ByteArray := prog_6_method_1_code
abbrev yWI_init : MethodName := ⟨"SpannedCells$Widths", "<init>", "()V"⟩
abbrev wWI_init : List Cond := .code yWI_init cWI_init 1 none :: zT
def zNest : List (String × Nat × MethodName × String) := [("SpannedCells", 9, ⟨"SpannedCells$Grid", "<init>", "()V"⟩, "SpannedCells"), ("SpannedCells", 18, ⟨"SpannedCells$Widths", "<init>", "()V"⟩, "SpannedCells"), ("SpannedCells$Widths", 11, ⟨"SpannedCells$Lines", "<init>", "()V"⟩, "SpannedCells"), ("SpannedCells", 25, ⟨"SpannedCells$Heights", "<init>", "()V"⟩, "SpannedCells"), ("SpannedCells$Heights", 11, ⟨"SpannedCells$Lines", "<init>", "()V"⟩, "SpannedCells"), ("SpannedCells$Grid", 77, ⟨"SpannedCells", "within", "(III)Z"⟩, "SpannedCells")]
end
section
theorem wd_0 : (Cond.selects "SpannedCells$Grid" yGR_extendGroupTo yGR_extendGroupTo) ∈ zT := z_mem 0 (by decide +kernel) (by decide +kernel)
theorem wd_5 : (Cond.selects "SpannedCells$Grid" yGR_countOwnedSlots yGR_countOwnedSlots) ∈ zT := z_mem 5 (by decide +kernel) (by decide +kernel)
theorem wd_13 : (Cond.selects "SpannedCellsModel" yMD_endOf yMD_endOf) ∈ zT := z_mem 13 (by decide +kernel) (by decide +kernel)
theorem wd_15 : (Cond.selects "SpannedCellsModel" yMD_isCell yMD_isCell) ∈ zT := z_mem 15 (by decide +kernel) (by decide +kernel)
theorem wd_18 : (Cond.selects "SpannedCellsModel" yMD_howMany yMD_howMany) ∈ zT := z_mem 18 (by decide +kernel) (by decide +kernel)
theorem wd_19 : (Cond.selects "SpannedCellsModel" yMD_findWidths yMD_findWidths) ∈ zT := z_mem 19 (by decide +kernel) (by decide +kernel)
theorem wd_20 : (Cond.selects "SpannedCellsModel" yMD_measure yMD_measure) ∈ zT := z_mem 20 (by decide +kernel) (by decide +kernel)
theorem wd_25 : (Cond.selects "SpannedCellsModel" yMD_room yMD_room) ∈ zT := z_mem 25 (by decide +kernel) (by decide +kernel)
theorem wd_26 : (Cond.selects "SpannedCellsModel" yMD_findHeights yMD_findHeights) ∈ zT := z_mem 26 (by decide +kernel) (by decide +kernel)
theorem wd_29 : (Cond.initialized "SpannedCells") ∈ zT := z_mem 29 (by decide +kernel) (by decide +kernel)
theorem wd_30 : (Cond.initialized "SpannedCells$Grid") ∈ zT := z_mem 30 (by decide +kernel) (by decide +kernel)
theorem wd_31 : (Cond.initialized "java/util/AbstractCollection") ∈ zT := z_mem 31 (by decide +kernel) (by decide +kernel)
theorem wd_32 : (Cond.initialized "java/util/AbstractList") ∈ zT := z_mem 32 (by decide +kernel) (by decide +kernel)
theorem wd_33 : (Cond.initialized "java/util/ArrayList") ∈ zT := z_mem 33 (by decide +kernel) (by decide +kernel)
theorem wd_34 : (Cond.initialized "SpannedCells$Widths") ∈ zT := z_mem 34 (by decide +kernel) (by decide +kernel)
theorem wd_35 : (Cond.initialized "SpannedCells$Lines") ∈ zT := z_mem 35 (by decide +kernel) (by decide +kernel)
theorem wd_36 : (Cond.initialized "SpannedCells$Heights") ∈ zT := z_mem 36 (by decide +kernel) (by decide +kernel)
theorem wd_37 : (Cond.initialized "SpannedCellsModel") ∈ zT := z_mem 37 (by decide +kernel) (by decide +kernel)
theorem wd_38 : (Cond.initialized "java/lang/Math") ∈ zT := z_mem 38 (by decide +kernel) (by decide +kernel)
theorem wd_45 : (Cond.classLink "SpannedCellsLaw" (7 : Nat) "SpannedCells") ∈ zT := z_mem 45 (by decide +kernel) (by decide +kernel)
theorem wd_46 : (Cond.instantiable "SpannedCells" (6 : Nat)) ∈ zT := z_mem 46 (by decide +kernel) (by decide +kernel)
theorem wd_47 : (Cond.methodLink "SpannedCellsLaw" (9 : Nat) ySC_init) ∈ zT := z_mem 47 (by decide +kernel) (by decide +kernel)
theorem wd_48 : (Cond.instanceMethod ySC_init) ∈ zT := z_mem 48 (by decide +kernel) (by decide +kernel)
theorem wd_49 : (Cond.code ySC_init prog_1_method_1_code (1 : Nat) (Option.none : Option Jvm.ClassFile.FieldType)) ∈ zT := z_mem 49 (by decide +kernel) (by decide +kernel)
theorem wd_50 : (Cond.methodLink "SpannedCells" (1 : Nat) objectInit) ∈ zT := z_mem 50 (by decide +kernel) (by decide +kernel)
theorem wd_51 : (Cond.instanceMethod objectInit) ∈ zT := z_mem 51 (by decide +kernel) (by decide +kernel)
theorem wd_52 : (Cond.code objectInit object_method_1_code (1 : Nat) (Option.none : Option Jvm.ClassFile.FieldType)) ∈ zT := z_mem 52 (by decide +kernel) (by decide +kernel)
theorem wd_53 : (Cond.classLink "SpannedCells" (7 : Nat) "SpannedCells$Grid") ∈ zT := z_mem 53 (by decide +kernel) (by decide +kernel)
theorem wd_54 : (Cond.instantiable "SpannedCells$Grid" (6 : Nat)) ∈ zT := z_mem 54 (by decide +kernel) (by decide +kernel)
theorem wd_56 : (Cond.instanceMethod yGR_init) ∈ zT := z_mem 56 (by decide +kernel) (by decide +kernel)
theorem wd_57 : (Cond.code yGR_init prog_3_method_1_code (1 : Nat) (Option.none : Option Jvm.ClassFile.FieldType)) ∈ zT := z_mem 57 (by decide +kernel) (by decide +kernel)
theorem wd_58 : (Cond.methodLink "SpannedCells$Grid" (3 : Nat) objectInit) ∈ zT := z_mem 58 (by decide +kernel) (by decide +kernel)
theorem wd_59 : (Cond.classLink "SpannedCells$Grid" (9 : Nat) "java/util/ArrayList") ∈ zT := z_mem 59 (by decide +kernel) (by decide +kernel)
theorem wd_60 : (Cond.instantiable "java/util/ArrayList" (3 : Nat)) ∈ zT := z_mem 60 (by decide +kernel) (by decide +kernel)
theorem wd_61 : (Cond.methodLink "SpannedCells$Grid" (11 : Nat) yAL_init) ∈ zT := z_mem 61 (by decide +kernel) (by decide +kernel)
theorem wd_62 : (Cond.instanceMethod yAL_init) ∈ zT := z_mem 62 (by decide +kernel) (by decide +kernel)
theorem wd_63 : (Cond.code yAL_init prog_16_method_2_code (1 : Nat) (Option.none : Option Jvm.ClassFile.FieldType)) ∈ zT := z_mem 63 (by decide +kernel) (by decide +kernel)
theorem wd_64 : (Cond.methodLink "java/util/ArrayList" (1 : Nat) yAB_init) ∈ zT := z_mem 64 (by decide +kernel) (by decide +kernel)
theorem wd_65 : (Cond.instanceMethod yAB_init) ∈ zT := z_mem 65 (by decide +kernel) (by decide +kernel)
theorem wd_66 : (Cond.code yAB_init prog_15_method_1_code (1 : Nat) (Option.none : Option Jvm.ClassFile.FieldType)) ∈ zT := z_mem 66 (by decide +kernel) (by decide +kernel)
theorem wd_67 : (Cond.methodLink "java/util/AbstractList" (1 : Nat) yAC_init) ∈ zT := z_mem 67 (by decide +kernel) (by decide +kernel)
theorem wd_68 : (Cond.instanceMethod yAC_init) ∈ zT := z_mem 68 (by decide +kernel) (by decide +kernel)
theorem wd_69 : (Cond.code yAC_init prog_14_method_1_code (1 : Nat) (Option.none : Option Jvm.ClassFile.FieldType)) ∈ zT := z_mem 69 (by decide +kernel) (by decide +kernel)
theorem wd_70 : (Cond.methodLink "java/util/AbstractCollection" (1 : Nat) objectInit) ∈ zT := z_mem 70 (by decide +kernel) (by decide +kernel)
theorem wd_71 : (Cond.fieldLink "java/util/ArrayList" (39 : Nat) "java/util/ArrayList" "DEFAULTCAPACITY_EMPTY_ELEMENTDATA" "[Ljava/lang/Object;") ∈ zT := z_mem 71 (by decide +kernel) (by decide +kernel)
theorem wd_73 : (Cond.fieldLink "java/util/ArrayList" (9 : Nat) "java/util/ArrayList" "elementData" "[Ljava/lang/Object;") ∈ zT := z_mem 73 (by decide +kernel) (by decide +kernel)
theorem wd_74 : (Cond.fieldLink "java/util/ArrayList" (48 : Nat) "java/util/ArrayList" "size" "I") ∈ zT := z_mem 74 (by decide +kernel) (by decide +kernel)
theorem wd_75 : (Cond.fieldLink "java/util/AbstractList" (7 : Nat) "java/util/AbstractList" "modCount" "I") ∈ zT := z_mem 75 (by decide +kernel) (by decide +kernel)
theorem wd_76 : (Cond.fieldLink "java/util/ArrayList" (63 : Nat) "java/util/ArrayList" "modCount" "I") ∈ zT := z_mem 76 (by decide +kernel) (by decide +kernel)
theorem wd_77 : (Cond.sameField "java/util/ArrayList" "java/util/AbstractList" "modCount" "I") ∈ zT := z_mem 77 (by decide +kernel) (by decide +kernel)
theorem wd_78 : (Cond.lays "java/util/ArrayList" "java/util/ArrayList" "elementData" "[Ljava/lang/Object;") ∈ zT := z_mem 78 (by decide +kernel) (by decide +kernel)
theorem wd_80 : (Cond.lays "java/util/ArrayList" "java/util/ArrayList" "size" "I") ∈ zT := z_mem 80 (by decide +kernel) (by decide +kernel)
theorem wd_82 : (Cond.lays "java/util/ArrayList" "java/util/AbstractList" "modCount" "I") ∈ zT := z_mem 82 (by decide +kernel) (by decide +kernel)
theorem wd_85 : (Cond.fieldLink "SpannedCells$Grid" (12 : Nat) "SpannedCells$Grid" "cells" "Ljava/util/ArrayList;") ∈ zT := z_mem 85 (by decide +kernel) (by decide +kernel)
theorem wd_86 : (Cond.fieldLink "SpannedCells$Grid" (18 : Nat) "SpannedCells$Grid" "groups" "I") ∈ zT := z_mem 86 (by decide +kernel) (by decide +kernel)
theorem wd_87 : (Cond.fieldLink "SpannedCells$Grid" (22 : Nat) "SpannedCells$Grid" "groupStart" "I") ∈ zT := z_mem 87 (by decide +kernel) (by decide +kernel)
theorem wd_88 : (Cond.fieldLink "SpannedCells$Grid" (25 : Nat) "SpannedCells$Grid" "begunInGroup" "I") ∈ zT := z_mem 88 (by decide +kernel) (by decide +kernel)
theorem wd_89 : (Cond.fieldLink "SpannedCells$Grid" (28 : Nat) "SpannedCells$Grid" "rowsEnd" "I") ∈ zT := z_mem 89 (by decide +kernel) (by decide +kernel)
theorem wd_90 : (Cond.fieldLink "SpannedCells$Grid" (31 : Nat) "SpannedCells$Grid" "columnsEnd" "I") ∈ zT := z_mem 90 (by decide +kernel) (by decide +kernel)
theorem wd_91 : (Cond.laysFinal "SpannedCells$Grid" "SpannedCells$Grid" "cells" "Ljava/util/ArrayList;") ∈ zT := z_mem 91 (by decide +kernel) (by decide +kernel)
theorem wd_93 : (Cond.lays "SpannedCells$Grid" "SpannedCells$Grid" "groups" "I") ∈ zT := z_mem 93 (by decide +kernel) (by decide +kernel)
theorem wd_95 : (Cond.lays "SpannedCells$Grid" "SpannedCells$Grid" "groupStart" "I") ∈ zT := z_mem 95 (by decide +kernel) (by decide +kernel)
theorem wd_97 : (Cond.lays "SpannedCells$Grid" "SpannedCells$Grid" "begunInGroup" "I") ∈ zT := z_mem 97 (by decide +kernel) (by decide +kernel)
theorem wd_99 : (Cond.lays "SpannedCells$Grid" "SpannedCells$Grid" "rowsEnd" "I") ∈ zT := z_mem 99 (by decide +kernel) (by decide +kernel)
theorem wd_101 : (Cond.lays "SpannedCells$Grid" "SpannedCells$Grid" "columnsEnd" "I") ∈ zT := z_mem 101 (by decide +kernel) (by decide +kernel)
theorem wd_104 : (Cond.classLink "SpannedCells" (16 : Nat) "SpannedCells$Widths") ∈ zT := z_mem 104 (by decide +kernel) (by decide +kernel)
theorem wd_105 : (Cond.instantiable "SpannedCells$Widths" (4 : Nat)) ∈ zT := z_mem 105 (by decide +kernel) (by decide +kernel)
theorem wd_107 : (Cond.instanceMethod yWI_init) ∈ zT := z_mem 107 (by decide +kernel) (by decide +kernel)
theorem wd_108 : (Cond.code yWI_init prog_6_method_1_code (1 : Nat) (Option.none : Option Jvm.ClassFile.FieldType)) ∈ zT := z_mem 108 (by decide +kernel) (by decide +kernel)
theorem wd_109 : (Cond.methodLink "SpannedCells$Widths" (3 : Nat) objectInit) ∈ zT := z_mem 109 (by decide +kernel) (by decide +kernel)
theorem wd_110 : (Cond.classLink "SpannedCells$Widths" (9 : Nat) "SpannedCells$Lines") ∈ zT := z_mem 110 (by decide +kernel) (by decide +kernel)
theorem wd_111 : (Cond.instantiable "SpannedCells$Lines" (1 : Nat)) ∈ zT := z_mem 111 (by decide +kernel) (by decide +kernel)
theorem wd_113 : (Cond.instanceMethod yLI_init) ∈ zT := z_mem 113 (by decide +kernel) (by decide +kernel)
theorem wd_114 : (Cond.code yLI_init prog_5_method_1_code (1 : Nat) (Option.none : Option Jvm.ClassFile.FieldType)) ∈ zT := z_mem 114 (by decide +kernel) (by decide +kernel)
theorem wd_115 : (Cond.methodLink "SpannedCells$Lines" (3 : Nat) objectInit) ∈ zT := z_mem 115 (by decide +kernel) (by decide +kernel)
theorem wd_116 : (Cond.fieldLink "SpannedCells$Lines" (9 : Nat) "SpannedCells$Lines" "sizes" "[I") ∈ zT := z_mem 116 (by decide +kernel) (by decide +kernel)
theorem wd_117 : (Cond.laysFinal "SpannedCells$Lines" "SpannedCells$Lines" "sizes" "[I") ∈ zT := z_mem 117 (by decide +kernel) (by decide +kernel)
theorem wd_120 : (Cond.arrayClass Jvm.ClassFile.FieldType.int) ∈ zT := z_mem 120 (by decide +kernel) (by decide +kernel)
theorem wd_121 : (Cond.fieldLink "SpannedCells$Widths" (12 : Nat) "SpannedCells$Widths" "least" "LSpannedCells$Lines;") ∈ zT := z_mem 121 (by decide +kernel) (by decide +kernel)
theorem wd_123 : (Cond.fieldLink "SpannedCells$Widths" (18 : Nat) "SpannedCells$Widths" "most" "LSpannedCells$Lines;") ∈ zT := z_mem 123 (by decide +kernel) (by decide +kernel)
theorem wd_125 : (Cond.fieldLink "SpannedCells$Widths" (21 : Nat) "SpannedCells$Widths" "chosen" "LSpannedCells$Lines;") ∈ zT := z_mem 125 (by decide +kernel) (by decide +kernel)
theorem wd_127 : (Cond.fieldLink "SpannedCells$Widths" (24 : Nat) "SpannedCells$Widths" "weights" "LSpannedCells$Lines;") ∈ zT := z_mem 127 (by decide +kernel) (by decide +kernel)
theorem wd_128 : (Cond.laysFinal "SpannedCells$Widths" "SpannedCells$Widths" "least" "LSpannedCells$Lines;") ∈ zT := z_mem 128 (by decide +kernel) (by decide +kernel)
theorem wd_130 : (Cond.laysFinal "SpannedCells$Widths" "SpannedCells$Widths" "most" "LSpannedCells$Lines;") ∈ zT := z_mem 130 (by decide +kernel) (by decide +kernel)
theorem wd_132 : (Cond.laysFinal "SpannedCells$Widths" "SpannedCells$Widths" "chosen" "LSpannedCells$Lines;") ∈ zT := z_mem 132 (by decide +kernel) (by decide +kernel)
theorem wd_134 : (Cond.laysFinal "SpannedCells$Widths" "SpannedCells$Widths" "weights" "LSpannedCells$Lines;") ∈ zT := z_mem 134 (by decide +kernel) (by decide +kernel)
theorem wd_137 : (Cond.classLink "SpannedCells" (23 : Nat) "SpannedCells$Heights") ∈ zT := z_mem 137 (by decide +kernel) (by decide +kernel)
theorem wd_138 : (Cond.instantiable "SpannedCells$Heights" (1 : Nat)) ∈ zT := z_mem 138 (by decide +kernel) (by decide +kernel)
theorem wd_140 : (Cond.instanceMethod yHE_init) ∈ zT := z_mem 140 (by decide +kernel) (by decide +kernel)
theorem wd_141 : (Cond.code yHE_init prog_4_method_1_code (1 : Nat) (Option.none : Option Jvm.ClassFile.FieldType)) ∈ zT := z_mem 141 (by decide +kernel) (by decide +kernel)
theorem wd_142 : (Cond.methodLink "SpannedCells$Heights" (3 : Nat) objectInit) ∈ zT := z_mem 142 (by decide +kernel) (by decide +kernel)
theorem wd_143 : (Cond.classLink "SpannedCells$Heights" (9 : Nat) "SpannedCells$Lines") ∈ zT := z_mem 143 (by decide +kernel) (by decide +kernel)
theorem wd_145 : (Cond.fieldLink "SpannedCells$Heights" (12 : Nat) "SpannedCells$Heights" "needed" "LSpannedCells$Lines;") ∈ zT := z_mem 145 (by decide +kernel) (by decide +kernel)
theorem wd_147 : (Cond.laysFinal "SpannedCells$Heights" "SpannedCells$Heights" "needed" "LSpannedCells$Lines;") ∈ zT := z_mem 147 (by decide +kernel) (by decide +kernel)
theorem wd_150 : (Cond.fieldLink "SpannedCells" (10 : Nat) "SpannedCells" "grid" "LSpannedCells$Grid;") ∈ zT := z_mem 150 (by decide +kernel) (by decide +kernel)
theorem wd_151 : (Cond.fieldLink "SpannedCells" (19 : Nat) "SpannedCells" "widths" "LSpannedCells$Widths;") ∈ zT := z_mem 151 (by decide +kernel) (by decide +kernel)
theorem wd_152 : (Cond.fieldLink "SpannedCells" (26 : Nat) "SpannedCells" "heights" "LSpannedCells$Heights;") ∈ zT := z_mem 152 (by decide +kernel) (by decide +kernel)
theorem wd_153 : (Cond.fieldLink "SpannedCells" (30 : Nat) "SpannedCells" "space" "I") ∈ zT := z_mem 153 (by decide +kernel) (by decide +kernel)
theorem wd_154 : (Cond.fieldLink "SpannedCells" (34 : Nat) "SpannedCells" "gap" "I") ∈ zT := z_mem 154 (by decide +kernel) (by decide +kernel)
theorem wd_155 : (Cond.fieldLink "SpannedCells" (37 : Nat) "SpannedCells" "fixed" "Z") ∈ zT := z_mem 155 (by decide +kernel) (by decide +kernel)
theorem wd_156 : (Cond.laysFinal "SpannedCells" "SpannedCells" "grid" "LSpannedCells$Grid;") ∈ zT := z_mem 156 (by decide +kernel) (by decide +kernel)
theorem wd_158 : (Cond.laysFinal "SpannedCells" "SpannedCells" "widths" "LSpannedCells$Widths;") ∈ zT := z_mem 158 (by decide +kernel) (by decide +kernel)
theorem wd_160 : (Cond.laysFinal "SpannedCells" "SpannedCells" "heights" "LSpannedCells$Heights;") ∈ zT := z_mem 160 (by decide +kernel) (by decide +kernel)
theorem wd_162 : (Cond.lays "SpannedCells" "SpannedCells" "space" "I") ∈ zT := z_mem 162 (by decide +kernel) (by decide +kernel)
theorem wd_164 : (Cond.lays "SpannedCells" "SpannedCells" "gap" "I") ∈ zT := z_mem 164 (by decide +kernel) (by decide +kernel)
theorem wd_166 : (Cond.lays "SpannedCells" "SpannedCells" "fixed" "Z") ∈ zT := z_mem 166 (by decide +kernel) (by decide +kernel)
theorem wd_169 : (Cond.methodLink "SpannedCellsLaw" (13 : Nat) ySC_group) ∈ zT := z_mem 169 (by decide +kernel) (by decide +kernel)
theorem wd_170 : (Cond.instanceMethod ySC_group) ∈ zT := z_mem 170 (by decide +kernel) (by decide +kernel)
theorem wd_171 : (Cond.selects "SpannedCells" ySC_group ySC_group) ∈ zT := z_mem 171 (by decide +kernel) (by decide +kernel)
theorem wd_172 : (Cond.code ySC_group prog_1_method_2_code (1 : Nat) (Option.some Jvm.ClassFile.FieldType.int)) ∈ zT := z_mem 172 (by decide +kernel) (by decide +kernel)
theorem wd_173 : (Cond.methodLink "SpannedCells" (41 : Nat) yGR_beginGroup) ∈ zT := z_mem 173 (by decide +kernel) (by decide +kernel)
theorem wd_174 : (Cond.instanceMethod yGR_beginGroup) ∈ zT := z_mem 174 (by decide +kernel) (by decide +kernel)
theorem wd_175 : (Cond.selects "SpannedCells$Grid" yGR_beginGroup yGR_beginGroup) ∈ zT := z_mem 175 (by decide +kernel) (by decide +kernel)
theorem wd_176 : (Cond.code yGR_beginGroup prog_3_method_3_code (1 : Nat) (Option.some Jvm.ClassFile.FieldType.int)) ∈ zT := z_mem 176 (by decide +kernel) (by decide +kernel)
theorem wd_177 : (Cond.methodLink "SpannedCellsLaw" (18 : Nat) ySC_row) ∈ zT := z_mem 177 (by decide +kernel) (by decide +kernel)
theorem wd_178 : (Cond.instanceMethod ySC_row) ∈ zT := z_mem 178 (by decide +kernel) (by decide +kernel)
theorem wd_179 : (Cond.selects "SpannedCells" ySC_row ySC_row) ∈ zT := z_mem 179 (by decide +kernel) (by decide +kernel)
theorem wd_180 : (Cond.code ySC_row prog_1_method_3_code (1 : Nat) (Option.some Jvm.ClassFile.FieldType.int)) ∈ zT := z_mem 180 (by decide +kernel) (by decide +kernel)
theorem wd_181 : (Cond.methodLink "SpannedCells" (45 : Nat) yGR_beginRow) ∈ zT := z_mem 181 (by decide +kernel) (by decide +kernel)
theorem wd_182 : (Cond.instanceMethod yGR_beginRow) ∈ zT := z_mem 182 (by decide +kernel) (by decide +kernel)
theorem wd_183 : (Cond.selects "SpannedCells$Grid" yGR_beginRow yGR_beginRow) ∈ zT := z_mem 183 (by decide +kernel) (by decide +kernel)
theorem wd_184 : (Cond.code yGR_beginRow prog_3_method_4_code (2 : Nat) (Option.some Jvm.ClassFile.FieldType.int)) ∈ zT := z_mem 184 (by decide +kernel) (by decide +kernel)
theorem wd_185 : (Cond.methodLink "SpannedCells$Grid" (37 : Nat) yGR_extendGroupTo) ∈ zT := z_mem 185 (by decide +kernel) (by decide +kernel)
theorem wd_187 : (Cond.instanceMethod yGR_extendGroupTo) ∈ zT := z_mem 187 (by decide +kernel) (by decide +kernel)
theorem wd_188 : (Cond.code yGR_extendGroupTo prog_3_method_7_code (4 : Nat) (Option.none : Option Jvm.ClassFile.FieldType)) ∈ zT := z_mem 188 (by decide +kernel) (by decide +kernel)
theorem wd_189 : (Cond.methodLink "SpannedCells$Grid" (58 : Nat) Lib.Math.max.name) ∈ zT := z_mem 189 (by decide +kernel) (by decide +kernel)
theorem wd_190 : (Cond.static Lib.Math.max.name) ∈ zT := z_mem 190 (by decide +kernel) (by decide +kernel)
theorem wd_191 : (Cond.code Lib.Math.max.name prog_12_method_65_code (2 : Nat) (Option.some Jvm.ClassFile.FieldType.int)) ∈ zT := z_mem 191 (by decide +kernel) (by decide +kernel)
theorem wd_192 : (Cond.methodLink "SpannedCells$Grid" (41 : Nat) yAL_size) ∈ zT := z_mem 192 (by decide +kernel) (by decide +kernel)
theorem wd_193 : (Cond.instanceMethod yAL_size) ∈ zT := z_mem 193 (by decide +kernel) (by decide +kernel)
theorem wd_194 : (Cond.selects "java/util/ArrayList" yAL_size yAL_size) ∈ zT := z_mem 194 (by decide +kernel) (by decide +kernel)
theorem wd_195 : (Cond.code yAL_size prog_16_method_8_code (1 : Nat) (Option.some Jvm.ClassFile.FieldType.int)) ∈ zT := z_mem 195 (by decide +kernel) (by decide +kernel)
theorem wd_215 : (Cond.methodLink "SpannedCellsLaw" (22 : Nat) ySC_cell) ∈ zT := z_mem 215 (by decide +kernel) (by decide +kernel)
theorem wd_216 : (Cond.instanceMethod ySC_cell) ∈ zT := z_mem 216 (by decide +kernel) (by decide +kernel)
theorem wd_217 : (Cond.selects "SpannedCells" ySC_cell ySC_cell) ∈ zT := z_mem 217 (by decide +kernel) (by decide +kernel)
theorem wd_218 : (Cond.code ySC_cell prog_1_method_4_code (9 : Nat) (Option.some Jvm.ClassFile.FieldType.int)) ∈ zT := z_mem 218 (by decide +kernel) (by decide +kernel)
theorem wd_219 : (Cond.methodLink "SpannedCells" (48 : Nat) ySC_within) ∈ zT := z_mem 219 (by decide +kernel) (by decide +kernel)
theorem wd_220 : (Cond.static ySC_within) ∈ zT := z_mem 220 (by decide +kernel) (by decide +kernel)
theorem wd_221 : (Cond.code ySC_within prog_1_method_22_code (3 : Nat) (Option.some Jvm.ClassFile.FieldType.boolean)) ∈ zT := z_mem 221 (by decide +kernel) (by decide +kernel)
theorem wd_222 : (Cond.methodLink "SpannedCells" (52 : Nat) yGR_putCell) ∈ zT := z_mem 222 (by decide +kernel) (by decide +kernel)
theorem wd_223 : (Cond.instanceMethod yGR_putCell) ∈ zT := z_mem 223 (by decide +kernel) (by decide +kernel)
theorem wd_224 : (Cond.selects "SpannedCells$Grid" yGR_putCell yGR_putCell) ∈ zT := z_mem 224 (by decide +kernel) (by decide +kernel)
theorem wd_225 : (Cond.code yGR_putCell prog_3_method_5_code (8 : Nat) (Option.some Jvm.ClassFile.FieldType.int)) ∈ zT := z_mem 225 (by decide +kernel) (by decide +kernel)
theorem wd_231 : (Cond.instanceMethod yGR_ownerOf) ∈ zT := z_mem 231 (by decide +kernel) (by decide +kernel)
theorem wd_232 : (Cond.selects "SpannedCells$Grid" yGR_ownerOf yGR_ownerOf) ∈ zT := z_mem 232 (by decide +kernel) (by decide +kernel)
theorem wd_233 : (Cond.code yGR_ownerOf prog_3_method_14_code (4 : Nat) (Option.some Jvm.ClassFile.FieldType.int)) ∈ zT := z_mem 233 (by decide +kernel) (by decide +kernel)
theorem wd_246 : (Cond.instantiable "SpannedCells$Cell" (10 : Nat)) ∈ zT := z_mem 246 (by decide +kernel) (by decide +kernel)
theorem wd_277 : (Cond.laysFinal "SpannedCells$Cell" "SpannedCells$Cell" "left" "I") ∈ zT := z_mem 277 (by decide +kernel) (by decide +kernel)
theorem wd_279 : (Cond.laysFinal "SpannedCells$Cell" "SpannedCells$Cell" "top" "I") ∈ zT := z_mem 279 (by decide +kernel) (by decide +kernel)
theorem wd_281 : (Cond.laysFinal "SpannedCells$Cell" "SpannedCells$Cell" "columns" "I") ∈ zT := z_mem 281 (by decide +kernel) (by decide +kernel)
theorem wd_283 : (Cond.laysFinal "SpannedCells$Cell" "SpannedCells$Cell" "least" "I") ∈ zT := z_mem 283 (by decide +kernel) (by decide +kernel)
theorem wd_285 : (Cond.laysFinal "SpannedCells$Cell" "SpannedCells$Cell" "most" "I") ∈ zT := z_mem 285 (by decide +kernel) (by decide +kernel)
theorem wd_287 : (Cond.laysFinal "SpannedCells$Cell" "SpannedCells$Cell" "need" "I") ∈ zT := z_mem 287 (by decide +kernel) (by decide +kernel)
theorem wd_289 : (Cond.laysFinal "SpannedCells$Cell" "SpannedCells$Cell" "growing" "Z") ∈ zT := z_mem 289 (by decide +kernel) (by decide +kernel)
theorem wd_291 : (Cond.lays "SpannedCells$Cell" "SpannedCells$Cell" "rows" "I") ∈ zT := z_mem 291 (by decide +kernel) (by decide +kernel)
theorem wd_293 : (Cond.lays "SpannedCells$Cell" "SpannedCells$Cell" "thickness" "I") ∈ zT := z_mem 293 (by decide +kernel) (by decide +kernel)
theorem wd_295 : (Cond.lays "SpannedCells$Cell" "SpannedCells$Cell" "rank" "I") ∈ zT := z_mem 295 (by decide +kernel) (by decide +kernel)
theorem wd_351 : (Cond.methodLink "SpannedCellsLaw" (27 : Nat) ySC_border) ∈ zT := z_mem 351 (by decide +kernel) (by decide +kernel)
theorem wd_352 : (Cond.instanceMethod ySC_border) ∈ zT := z_mem 352 (by decide +kernel) (by decide +kernel)
theorem wd_353 : (Cond.selects "SpannedCells" ySC_border ySC_border) ∈ zT := z_mem 353 (by decide +kernel) (by decide +kernel)
theorem wd_354 : (Cond.code ySC_border prog_1_method_5_code (4 : Nat) (Option.some Jvm.ClassFile.FieldType.boolean)) ∈ zT := z_mem 354 (by decide +kernel) (by decide +kernel)
theorem wd_355 : (Cond.methodLink "SpannedCells" (56 : Nat) yGR_hasCell) ∈ zT := z_mem 355 (by decide +kernel) (by decide +kernel)
theorem wd_356 : (Cond.instanceMethod yGR_hasCell) ∈ zT := z_mem 356 (by decide +kernel) (by decide +kernel)
theorem wd_357 : (Cond.selects "SpannedCells$Grid" yGR_hasCell yGR_hasCell) ∈ zT := z_mem 357 (by decide +kernel) (by decide +kernel)
theorem wd_358 : (Cond.code yGR_hasCell prog_3_method_11_code (2 : Nat) (Option.some Jvm.ClassFile.FieldType.boolean)) ∈ zT := z_mem 358 (by decide +kernel) (by decide +kernel)
theorem wd_367 : (Cond.methodLink "SpannedCellsLaw" (32 : Nat) ySC_layout) ∈ zT := z_mem 367 (by decide +kernel) (by decide +kernel)
theorem wd_368 : (Cond.instanceMethod ySC_layout) ∈ zT := z_mem 368 (by decide +kernel) (by decide +kernel)
theorem wd_369 : (Cond.selects "SpannedCells" ySC_layout ySC_layout) ∈ zT := z_mem 369 (by decide +kernel) (by decide +kernel)
theorem wd_370 : (Cond.code ySC_layout prog_1_method_6_code (4 : Nat) (Option.some Jvm.ClassFile.FieldType.boolean)) ∈ zT := z_mem 370 (by decide +kernel) (by decide +kernel)
theorem wd_371 : (Cond.methodLink "SpannedCellsLaw" (37 : Nat) ySC_clear) ∈ zT := z_mem 371 (by decide +kernel) (by decide +kernel)
theorem wd_372 : (Cond.instanceMethod ySC_clear) ∈ zT := z_mem 372 (by decide +kernel) (by decide +kernel)
theorem wd_373 : (Cond.selects "SpannedCells" ySC_clear ySC_clear) ∈ zT := z_mem 373 (by decide +kernel) (by decide +kernel)
theorem wd_374 : (Cond.code ySC_clear prog_1_method_7_code (2 : Nat) (Option.some Jvm.ClassFile.FieldType.int)) ∈ zT := z_mem 374 (by decide +kernel) (by decide +kernel)
theorem wd_375 : (Cond.methodLink "SpannedCells" (70 : Nat) yGR_cellCount) ∈ zT := z_mem 375 (by decide +kernel) (by decide +kernel)
theorem wd_376 : (Cond.instanceMethod yGR_cellCount) ∈ zT := z_mem 376 (by decide +kernel) (by decide +kernel)
theorem wd_377 : (Cond.selects "SpannedCells$Grid" yGR_cellCount yGR_cellCount) ∈ zT := z_mem 377 (by decide +kernel) (by decide +kernel)
theorem wd_378 : (Cond.code yGR_cellCount prog_3_method_8_code (1 : Nat) (Option.some Jvm.ClassFile.FieldType.int)) ∈ zT := z_mem 378 (by decide +kernel) (by decide +kernel)
theorem wd_379 : (Cond.methodLink "SpannedCells" (73 : Nat) yGR_empty) ∈ zT := z_mem 379 (by decide +kernel) (by decide +kernel)
theorem wd_380 : (Cond.instanceMethod yGR_empty) ∈ zT := z_mem 380 (by decide +kernel) (by decide +kernel)
theorem wd_381 : (Cond.selects "SpannedCells$Grid" yGR_empty yGR_empty) ∈ zT := z_mem 381 (by decide +kernel) (by decide +kernel)
theorem wd_382 : (Cond.code yGR_empty prog_3_method_2_code (1 : Nat) (Option.none : Option Jvm.ClassFile.FieldType)) ∈ zT := z_mem 382 (by decide +kernel) (by decide +kernel)
theorem wd_383 : (Cond.methodLink "SpannedCells$Grid" (34 : Nat) yAL_clear) ∈ zT := z_mem 383 (by decide +kernel) (by decide +kernel)
theorem wd_384 : (Cond.instanceMethod yAL_clear) ∈ zT := z_mem 384 (by decide +kernel) (by decide +kernel)
theorem wd_385 : (Cond.selects "java/util/ArrayList" yAL_clear yAL_clear) ∈ zT := z_mem 385 (by decide +kernel) (by decide +kernel)
theorem wd_386 : (Cond.code yAL_clear prog_16_method_40_code (4 : Nat) (Option.none : Option Jvm.ClassFile.FieldType)) ∈ zT := z_mem 386 (by decide +kernel) (by decide +kernel)
theorem wd_387 : (Cond.methodLink "SpannedCellsLaw" (41 : Nat) ySC_columns) ∈ zT := z_mem 387 (by decide +kernel) (by decide +kernel)
theorem wd_388 : (Cond.instanceMethod ySC_columns) ∈ zT := z_mem 388 (by decide +kernel) (by decide +kernel)
theorem wd_389 : (Cond.selects "SpannedCells" ySC_columns ySC_columns) ∈ zT := z_mem 389 (by decide +kernel) (by decide +kernel)
theorem wd_390 : (Cond.code ySC_columns prog_1_method_8_code (1 : Nat) (Option.some Jvm.ClassFile.FieldType.int)) ∈ zT := z_mem 390 (by decide +kernel) (by decide +kernel)
theorem wd_391 : (Cond.methodLink "SpannedCells" (76 : Nat) yGR_columnCount) ∈ zT := z_mem 391 (by decide +kernel) (by decide +kernel)
theorem wd_392 : (Cond.instanceMethod yGR_columnCount) ∈ zT := z_mem 392 (by decide +kernel) (by decide +kernel)
theorem wd_393 : (Cond.selects "SpannedCells$Grid" yGR_columnCount yGR_columnCount) ∈ zT := z_mem 393 (by decide +kernel) (by decide +kernel)
theorem wd_394 : (Cond.code yGR_columnCount prog_3_method_9_code (1 : Nat) (Option.some Jvm.ClassFile.FieldType.int)) ∈ zT := z_mem 394 (by decide +kernel) (by decide +kernel)
theorem wd_395 : (Cond.methodLink "SpannedCellsLaw" (45 : Nat) ySC_rows) ∈ zT := z_mem 395 (by decide +kernel) (by decide +kernel)
theorem wd_396 : (Cond.instanceMethod ySC_rows) ∈ zT := z_mem 396 (by decide +kernel) (by decide +kernel)
theorem wd_397 : (Cond.selects "SpannedCells" ySC_rows ySC_rows) ∈ zT := z_mem 397 (by decide +kernel) (by decide +kernel)
theorem wd_398 : (Cond.code ySC_rows prog_1_method_9_code (1 : Nat) (Option.some Jvm.ClassFile.FieldType.int)) ∈ zT := z_mem 398 (by decide +kernel) (by decide +kernel)
theorem wd_399 : (Cond.methodLink "SpannedCells" (79 : Nat) yGR_rowCount) ∈ zT := z_mem 399 (by decide +kernel) (by decide +kernel)
theorem wd_400 : (Cond.instanceMethod yGR_rowCount) ∈ zT := z_mem 400 (by decide +kernel) (by decide +kernel)
theorem wd_401 : (Cond.selects "SpannedCells$Grid" yGR_rowCount yGR_rowCount) ∈ zT := z_mem 401 (by decide +kernel) (by decide +kernel)
theorem wd_402 : (Cond.code yGR_rowCount prog_3_method_10_code (1 : Nat) (Option.some Jvm.ClassFile.FieldType.int)) ∈ zT := z_mem 402 (by decide +kernel) (by decide +kernel)
theorem wd_403 : (Cond.methodLink "SpannedCellsLaw" (49 : Nat) ySC_slot) ∈ zT := z_mem 403 (by decide +kernel) (by decide +kernel)
theorem wd_404 : (Cond.instanceMethod ySC_slot) ∈ zT := z_mem 404 (by decide +kernel) (by decide +kernel)
theorem wd_405 : (Cond.selects "SpannedCells" ySC_slot ySC_slot) ∈ zT := z_mem 405 (by decide +kernel) (by decide +kernel)
theorem wd_406 : (Cond.code ySC_slot prog_1_method_10_code (3 : Nat) (Option.some Jvm.ClassFile.FieldType.int)) ∈ zT := z_mem 406 (by decide +kernel) (by decide +kernel)
theorem wd_407 : (Cond.methodLink "SpannedCells" (82 : Nat) yGR_ownerOf) ∈ zT := z_mem 407 (by decide +kernel) (by decide +kernel)
theorem wd_408 : (Cond.methodLink "SpannedCellsLaw" (54 : Nat) ySC_overlaps) ∈ zT := z_mem 408 (by decide +kernel) (by decide +kernel)
theorem wd_409 : (Cond.instanceMethod ySC_overlaps) ∈ zT := z_mem 409 (by decide +kernel) (by decide +kernel)
theorem wd_410 : (Cond.selects "SpannedCells" ySC_overlaps ySC_overlaps) ∈ zT := z_mem 410 (by decide +kernel) (by decide +kernel)
theorem wd_411 : (Cond.code ySC_overlaps prog_1_method_11_code (1 : Nat) (Option.some Jvm.ClassFile.FieldType.int)) ∈ zT := z_mem 411 (by decide +kernel) (by decide +kernel)
theorem wd_412 : (Cond.methodLink "SpannedCells" (86 : Nat) yGR_countOverlaps) ∈ zT := z_mem 412 (by decide +kernel) (by decide +kernel)
theorem wd_413 : (Cond.instanceMethod yGR_countOverlaps) ∈ zT := z_mem 413 (by decide +kernel) (by decide +kernel)
theorem wd_414 : (Cond.selects "SpannedCells$Grid" yGR_countOverlaps yGR_countOverlaps) ∈ zT := z_mem 414 (by decide +kernel) (by decide +kernel)
theorem wd_415 : (Cond.code yGR_countOverlaps prog_3_method_15_code (3 : Nat) (Option.some Jvm.ClassFile.FieldType.int)) ∈ zT := z_mem 415 (by decide +kernel) (by decide +kernel)
theorem wd_416 : (Cond.methodLink "SpannedCells$Grid" (91 : Nat) yGR_countOwnedSlots) ∈ zT := z_mem 416 (by decide +kernel) (by decide +kernel)
theorem wd_418 : (Cond.instanceMethod yGR_countOwnedSlots) ∈ zT := z_mem 418 (by decide +kernel) (by decide +kernel)
theorem wd_419 : (Cond.code yGR_countOwnedSlots prog_3_method_16_code (4 : Nat) (Option.some Jvm.ClassFile.FieldType.int)) ∈ zT := z_mem 419 (by decide +kernel) (by decide +kernel)
theorem wd_420 : (Cond.methodLink "SpannedCellsLaw" (58 : Nat) ySC_empties) ∈ zT := z_mem 420 (by decide +kernel) (by decide +kernel)
theorem wd_421 : (Cond.instanceMethod ySC_empties) ∈ zT := z_mem 421 (by decide +kernel) (by decide +kernel)
theorem wd_422 : (Cond.selects "SpannedCells" ySC_empties ySC_empties) ∈ zT := z_mem 422 (by decide +kernel) (by decide +kernel)
theorem wd_423 : (Cond.code ySC_empties prog_1_method_12_code (1 : Nat) (Option.some Jvm.ClassFile.FieldType.int)) ∈ zT := z_mem 423 (by decide +kernel) (by decide +kernel)
theorem wd_424 : (Cond.methodLink "SpannedCells" (89 : Nat) yGR_countEmptyColumns) ∈ zT := z_mem 424 (by decide +kernel) (by decide +kernel)
theorem wd_425 : (Cond.instanceMethod yGR_countEmptyColumns) ∈ zT := z_mem 425 (by decide +kernel) (by decide +kernel)
theorem wd_426 : (Cond.selects "SpannedCells$Grid" yGR_countEmptyColumns yGR_countEmptyColumns) ∈ zT := z_mem 426 (by decide +kernel) (by decide +kernel)
theorem wd_427 : (Cond.code yGR_countEmptyColumns prog_3_method_17_code (3 : Nat) (Option.some Jvm.ClassFile.FieldType.int)) ∈ zT := z_mem 427 (by decide +kernel) (by decide +kernel)
theorem wd_432 : (Cond.methodLink "SpannedCells" (92 : Nat) yGR_countEmptyRows) ∈ zT := z_mem 432 (by decide +kernel) (by decide +kernel)
theorem wd_433 : (Cond.instanceMethod yGR_countEmptyRows) ∈ zT := z_mem 433 (by decide +kernel) (by decide +kernel)
theorem wd_434 : (Cond.selects "SpannedCells$Grid" yGR_countEmptyRows yGR_countEmptyRows) ∈ zT := z_mem 434 (by decide +kernel) (by decide +kernel)
theorem wd_435 : (Cond.code yGR_countEmptyRows prog_3_method_18_code (3 : Nat) (Option.some Jvm.ClassFile.FieldType.int)) ∈ zT := z_mem 435 (by decide +kernel) (by decide +kernel)
theorem wd_440 : (Cond.methodLink "SpannedCellsLaw" (62 : Nat) ySC_span) ∈ zT := z_mem 440 (by decide +kernel) (by decide +kernel)
theorem wd_441 : (Cond.instanceMethod ySC_span) ∈ zT := z_mem 441 (by decide +kernel) (by decide +kernel)
theorem wd_442 : (Cond.selects "SpannedCells" ySC_span ySC_span) ∈ zT := z_mem 442 (by decide +kernel) (by decide +kernel)
theorem wd_443 : (Cond.code ySC_span prog_1_method_13_code (3 : Nat) (Option.some Jvm.ClassFile.FieldType.int)) ∈ zT := z_mem 443 (by decide +kernel) (by decide +kernel)
theorem wd_445 : (Cond.methodLink "SpannedCellsLaw" (67 : Nat) ySC_wide) ∈ zT := z_mem 445 (by decide +kernel) (by decide +kernel)
theorem wd_446 : (Cond.instanceMethod ySC_wide) ∈ zT := z_mem 446 (by decide +kernel) (by decide +kernel)
theorem wd_447 : (Cond.selects "SpannedCells" ySC_wide ySC_wide) ∈ zT := z_mem 447 (by decide +kernel) (by decide +kernel)
theorem wd_448 : (Cond.code ySC_wide prog_1_method_14_code (3 : Nat) (Option.some Jvm.ClassFile.FieldType.int)) ∈ zT := z_mem 448 (by decide +kernel) (by decide +kernel)
theorem wd_527 : (Cond.methodLink "SpannedCellsLaw" (71 : Nat) ySC_high) ∈ zT := z_mem 527 (by decide +kernel) (by decide +kernel)
theorem wd_528 : (Cond.instanceMethod ySC_high) ∈ zT := z_mem 528 (by decide +kernel) (by decide +kernel)
theorem wd_529 : (Cond.selects "SpannedCells" ySC_high ySC_high) ∈ zT := z_mem 529 (by decide +kernel) (by decide +kernel)
theorem wd_530 : (Cond.code ySC_high prog_1_method_15_code (2 : Nat) (Option.some Jvm.ClassFile.FieldType.int)) ∈ zT := z_mem 530 (by decide +kernel) (by decide +kernel)
theorem wd_544 : (Cond.methodLink "SpannedCellsLaw" (75 : Nat) ySC_place) ∈ zT := z_mem 544 (by decide +kernel) (by decide +kernel)
theorem wd_545 : (Cond.instanceMethod ySC_place) ∈ zT := z_mem 545 (by decide +kernel) (by decide +kernel)
theorem wd_546 : (Cond.selects "SpannedCells" ySC_place ySC_place) ∈ zT := z_mem 546 (by decide +kernel) (by decide +kernel)
theorem wd_547 : (Cond.code ySC_place prog_1_method_16_code (4 : Nat) (Option.some Jvm.ClassFile.FieldType.int)) ∈ zT := z_mem 547 (by decide +kernel) (by decide +kernel)
theorem wd_555 : (Cond.methodLink "SpannedCellsLaw" (79 : Nat) ySC_size) ∈ zT := z_mem 555 (by decide +kernel) (by decide +kernel)
theorem wd_556 : (Cond.instanceMethod ySC_size) ∈ zT := z_mem 556 (by decide +kernel) (by decide +kernel)
theorem wd_557 : (Cond.selects "SpannedCells" ySC_size ySC_size) ∈ zT := z_mem 557 (by decide +kernel) (by decide +kernel)
theorem wd_558 : (Cond.code ySC_size prog_1_method_17_code (2 : Nat) (Option.some Jvm.ClassFile.FieldType.int)) ∈ zT := z_mem 558 (by decide +kernel) (by decide +kernel)
theorem wd_559 : (Cond.methodLink "SpannedCellsLaw" (84 : Nat) ySC_edge) ∈ zT := z_mem 559 (by decide +kernel) (by decide +kernel)
theorem wd_560 : (Cond.instanceMethod ySC_edge) ∈ zT := z_mem 560 (by decide +kernel) (by decide +kernel)
theorem wd_561 : (Cond.selects "SpannedCells" ySC_edge ySC_edge) ∈ zT := z_mem 561 (by decide +kernel) (by decide +kernel)
theorem wd_562 : (Cond.code ySC_edge prog_1_method_18_code (5 : Nat) (Option.some Jvm.ClassFile.FieldType.int)) ∈ zT := z_mem 562 (by decide +kernel) (by decide +kernel)
theorem wd_563 : (Cond.methodLink "SpannedCells" (145 : Nat) yGR_hasSlot) ∈ zT := z_mem 563 (by decide +kernel) (by decide +kernel)
theorem wd_564 : (Cond.instanceMethod yGR_hasSlot) ∈ zT := z_mem 564 (by decide +kernel) (by decide +kernel)
theorem wd_565 : (Cond.selects "SpannedCells$Grid" yGR_hasSlot yGR_hasSlot) ∈ zT := z_mem 565 (by decide +kernel) (by decide +kernel)
theorem wd_566 : (Cond.code yGR_hasSlot prog_3_method_13_code (3 : Nat) (Option.some Jvm.ClassFile.FieldType.boolean)) ∈ zT := z_mem 566 (by decide +kernel) (by decide +kernel)
theorem wd_578 : (Cond.classLink "SpannedCellsLaw" (10 : Nat) "SpannedCellsModel") ∈ zT := z_mem 578 (by decide +kernel) (by decide +kernel)
theorem wd_579 : (Cond.instantiable "SpannedCellsModel" (26 : Nat)) ∈ zT := z_mem 579 (by decide +kernel) (by decide +kernel)
theorem wd_580 : (Cond.methodLink "SpannedCellsLaw" (12 : Nat) yMD_init) ∈ zT := z_mem 580 (by decide +kernel) (by decide +kernel)
theorem wd_581 : (Cond.instanceMethod yMD_init) ∈ zT := z_mem 581 (by decide +kernel) (by decide +kernel)
theorem wd_582 : (Cond.code yMD_init prog_8_method_1_code (1 : Nat) (Option.none : Option Jvm.ClassFile.FieldType)) ∈ zT := z_mem 582 (by decide +kernel) (by decide +kernel)
theorem wd_583 : (Cond.methodLink "SpannedCellsModel" (1 : Nat) objectInit) ∈ zT := z_mem 583 (by decide +kernel) (by decide +kernel)
theorem wd_584 : (Cond.fieldLink "SpannedCellsModel" (7 : Nat) "SpannedCellsModel" "groups" "I") ∈ zT := z_mem 584 (by decide +kernel) (by decide +kernel)
theorem wd_585 : (Cond.fieldLink "SpannedCellsModel" (13 : Nat) "SpannedCellsModel" "bases" "[I") ∈ zT := z_mem 585 (by decide +kernel) (by decide +kernel)
theorem wd_586 : (Cond.fieldLink "SpannedCellsModel" (17 : Nat) "SpannedCellsModel" "begun" "[I") ∈ zT := z_mem 586 (by decide +kernel) (by decide +kernel)
theorem wd_587 : (Cond.fieldLink "SpannedCellsModel" (72 : Nat) "SpannedCellsModel" "cells" "I") ∈ zT := z_mem 587 (by decide +kernel) (by decide +kernel)
theorem wd_588 : (Cond.fieldLink "SpannedCellsModel" (20 : Nat) "SpannedCellsModel" "lefts" "[I") ∈ zT := z_mem 588 (by decide +kernel) (by decide +kernel)
theorem wd_589 : (Cond.fieldLink "SpannedCellsModel" (23 : Nat) "SpannedCellsModel" "tops" "[I") ∈ zT := z_mem 589 (by decide +kernel) (by decide +kernel)
theorem wd_590 : (Cond.fieldLink "SpannedCellsModel" (26 : Nat) "SpannedCellsModel" "across" "[I") ∈ zT := z_mem 590 (by decide +kernel) (by decide +kernel)
theorem wd_591 : (Cond.fieldLink "SpannedCellsModel" (29 : Nat) "SpannedCellsModel" "wants" "[I") ∈ zT := z_mem 591 (by decide +kernel) (by decide +kernel)
theorem wd_592 : (Cond.fieldLink "SpannedCellsModel" (32 : Nat) "SpannedCellsModel" "groupOf" "[I") ∈ zT := z_mem 592 (by decide +kernel) (by decide +kernel)
theorem wd_593 : (Cond.fieldLink "SpannedCellsModel" (35 : Nat) "SpannedCellsModel" "leasts" "[I") ∈ zT := z_mem 593 (by decide +kernel) (by decide +kernel)
theorem wd_594 : (Cond.fieldLink "SpannedCellsModel" (38 : Nat) "SpannedCellsModel" "mosts" "[I") ∈ zT := z_mem 594 (by decide +kernel) (by decide +kernel)
theorem wd_595 : (Cond.fieldLink "SpannedCellsModel" (41 : Nat) "SpannedCellsModel" "needs" "[I") ∈ zT := z_mem 595 (by decide +kernel) (by decide +kernel)
theorem wd_596 : (Cond.fieldLink "SpannedCellsModel" (44 : Nat) "SpannedCellsModel" "thick" "[I") ∈ zT := z_mem 596 (by decide +kernel) (by decide +kernel)
theorem wd_597 : (Cond.fieldLink "SpannedCellsModel" (47 : Nat) "SpannedCellsModel" "ranks" "[I") ∈ zT := z_mem 597 (by decide +kernel) (by decide +kernel)
theorem wd_598 : (Cond.fieldLink "SpannedCellsModel" (50 : Nat) "SpannedCellsModel" "rowGroup" "I") ∈ zT := z_mem 598 (by decide +kernel) (by decide +kernel)
theorem wd_599 : (Cond.fieldLink "SpannedCellsModel" (79 : Nat) "SpannedCellsModel" "rowNumber" "I") ∈ zT := z_mem 599 (by decide +kernel) (by decide +kernel)
theorem wd_600 : (Cond.fieldLink "SpannedCellsModel" (82 : Nat) "SpannedCellsModel" "rowEnd" "I") ∈ zT := z_mem 600 (by decide +kernel) (by decide +kernel)
theorem wd_601 : (Cond.fieldLink "SpannedCellsModel" (92 : Nat) "SpannedCellsModel" "space" "I") ∈ zT := z_mem 601 (by decide +kernel) (by decide +kernel)
theorem wd_602 : (Cond.fieldLink "SpannedCellsModel" (95 : Nat) "SpannedCellsModel" "gap" "I") ∈ zT := z_mem 602 (by decide +kernel) (by decide +kernel)
theorem wd_603 : (Cond.fieldLink "SpannedCellsModel" (98 : Nat) "SpannedCellsModel" "fixed" "Z") ∈ zT := z_mem 603 (by decide +kernel) (by decide +kernel)
theorem wd_604 : (Cond.fieldLink "SpannedCellsModel" (53 : Nat) "SpannedCellsModel" "least" "[I") ∈ zT := z_mem 604 (by decide +kernel) (by decide +kernel)
theorem wd_605 : (Cond.fieldLink "SpannedCellsModel" (56 : Nat) "SpannedCellsModel" "most" "[I") ∈ zT := z_mem 605 (by decide +kernel) (by decide +kernel)
theorem wd_606 : (Cond.fieldLink "SpannedCellsModel" (59 : Nat) "SpannedCellsModel" "width" "[I") ∈ zT := z_mem 606 (by decide +kernel) (by decide +kernel)
theorem wd_607 : (Cond.fieldLink "SpannedCellsModel" (62 : Nat) "SpannedCellsModel" "height" "[I") ∈ zT := z_mem 607 (by decide +kernel) (by decide +kernel)
theorem wd_608 : (Cond.fieldLink "SpannedCellsModel" (65 : Nat) "SpannedCellsModel" "given" "[Z") ∈ zT := z_mem 608 (by decide +kernel) (by decide +kernel)
theorem wd_609 : (Cond.fieldLink "SpannedCellsModel" (69 : Nat) "SpannedCellsModel" "weights" "[I") ∈ zT := z_mem 609 (by decide +kernel) (by decide +kernel)
theorem wd_610 : (Cond.lays "SpannedCellsModel" "SpannedCellsModel" "groups" "I") ∈ zT := z_mem 610 (by decide +kernel) (by decide +kernel)
theorem wd_612 : (Cond.laysFinal "SpannedCellsModel" "SpannedCellsModel" "bases" "[I") ∈ zT := z_mem 612 (by decide +kernel) (by decide +kernel)
theorem wd_614 : (Cond.laysFinal "SpannedCellsModel" "SpannedCellsModel" "begun" "[I") ∈ zT := z_mem 614 (by decide +kernel) (by decide +kernel)
theorem wd_616 : (Cond.lays "SpannedCellsModel" "SpannedCellsModel" "cells" "I") ∈ zT := z_mem 616 (by decide +kernel) (by decide +kernel)
theorem wd_618 : (Cond.laysFinal "SpannedCellsModel" "SpannedCellsModel" "lefts" "[I") ∈ zT := z_mem 618 (by decide +kernel) (by decide +kernel)
theorem wd_620 : (Cond.laysFinal "SpannedCellsModel" "SpannedCellsModel" "tops" "[I") ∈ zT := z_mem 620 (by decide +kernel) (by decide +kernel)
theorem wd_622 : (Cond.laysFinal "SpannedCellsModel" "SpannedCellsModel" "across" "[I") ∈ zT := z_mem 622 (by decide +kernel) (by decide +kernel)
theorem wd_624 : (Cond.laysFinal "SpannedCellsModel" "SpannedCellsModel" "wants" "[I") ∈ zT := z_mem 624 (by decide +kernel) (by decide +kernel)
theorem wd_626 : (Cond.laysFinal "SpannedCellsModel" "SpannedCellsModel" "groupOf" "[I") ∈ zT := z_mem 626 (by decide +kernel) (by decide +kernel)
theorem wd_628 : (Cond.laysFinal "SpannedCellsModel" "SpannedCellsModel" "leasts" "[I") ∈ zT := z_mem 628 (by decide +kernel) (by decide +kernel)
theorem wd_630 : (Cond.laysFinal "SpannedCellsModel" "SpannedCellsModel" "mosts" "[I") ∈ zT := z_mem 630 (by decide +kernel) (by decide +kernel)
theorem wd_632 : (Cond.laysFinal "SpannedCellsModel" "SpannedCellsModel" "needs" "[I") ∈ zT := z_mem 632 (by decide +kernel) (by decide +kernel)
theorem wd_634 : (Cond.laysFinal "SpannedCellsModel" "SpannedCellsModel" "thick" "[I") ∈ zT := z_mem 634 (by decide +kernel) (by decide +kernel)
theorem wd_636 : (Cond.laysFinal "SpannedCellsModel" "SpannedCellsModel" "ranks" "[I") ∈ zT := z_mem 636 (by decide +kernel) (by decide +kernel)
theorem wd_638 : (Cond.lays "SpannedCellsModel" "SpannedCellsModel" "rowGroup" "I") ∈ zT := z_mem 638 (by decide +kernel) (by decide +kernel)
theorem wd_640 : (Cond.lays "SpannedCellsModel" "SpannedCellsModel" "rowNumber" "I") ∈ zT := z_mem 640 (by decide +kernel) (by decide +kernel)
theorem wd_642 : (Cond.lays "SpannedCellsModel" "SpannedCellsModel" "rowEnd" "I") ∈ zT := z_mem 642 (by decide +kernel) (by decide +kernel)
theorem wd_644 : (Cond.lays "SpannedCellsModel" "SpannedCellsModel" "space" "I") ∈ zT := z_mem 644 (by decide +kernel) (by decide +kernel)
theorem wd_646 : (Cond.lays "SpannedCellsModel" "SpannedCellsModel" "gap" "I") ∈ zT := z_mem 646 (by decide +kernel) (by decide +kernel)
theorem wd_648 : (Cond.lays "SpannedCellsModel" "SpannedCellsModel" "fixed" "Z") ∈ zT := z_mem 648 (by decide +kernel) (by decide +kernel)
theorem wd_650 : (Cond.laysFinal "SpannedCellsModel" "SpannedCellsModel" "least" "[I") ∈ zT := z_mem 650 (by decide +kernel) (by decide +kernel)
theorem wd_652 : (Cond.laysFinal "SpannedCellsModel" "SpannedCellsModel" "most" "[I") ∈ zT := z_mem 652 (by decide +kernel) (by decide +kernel)
theorem wd_654 : (Cond.laysFinal "SpannedCellsModel" "SpannedCellsModel" "width" "[I") ∈ zT := z_mem 654 (by decide +kernel) (by decide +kernel)
theorem wd_656 : (Cond.laysFinal "SpannedCellsModel" "SpannedCellsModel" "height" "[I") ∈ zT := z_mem 656 (by decide +kernel) (by decide +kernel)
theorem wd_658 : (Cond.laysFinal "SpannedCellsModel" "SpannedCellsModel" "given" "[Z") ∈ zT := z_mem 658 (by decide +kernel) (by decide +kernel)
theorem wd_660 : (Cond.laysFinal "SpannedCellsModel" "SpannedCellsModel" "weights" "[I") ∈ zT := z_mem 660 (by decide +kernel) (by decide +kernel)
theorem wd_663 : (Cond.arrayClass Jvm.ClassFile.FieldType.boolean) ∈ zT := z_mem 663 (by decide +kernel) (by decide +kernel)
theorem wd_664 : (Cond.methodLink "SpannedCellsLaw" (17 : Nat) yMD_group) ∈ zT := z_mem 664 (by decide +kernel) (by decide +kernel)
theorem wd_665 : (Cond.instanceMethod yMD_group) ∈ zT := z_mem 665 (by decide +kernel) (by decide +kernel)
theorem wd_666 : (Cond.selects "SpannedCellsModel" yMD_group yMD_group) ∈ zT := z_mem 666 (by decide +kernel) (by decide +kernel)
theorem wd_667 : (Cond.code yMD_group prog_8_method_3_code (1 : Nat) (Option.some Jvm.ClassFile.FieldType.int)) ∈ zT := z_mem 667 (by decide +kernel) (by decide +kernel)
theorem wd_668 : (Cond.methodLink "SpannedCellsModel" (75 : Nat) yMD_endOf) ∈ zT := z_mem 668 (by decide +kernel) (by decide +kernel)
theorem wd_670 : (Cond.instanceMethod yMD_endOf) ∈ zT := z_mem 670 (by decide +kernel) (by decide +kernel)
theorem wd_671 : (Cond.code yMD_endOf prog_8_method_2_code (5 : Nat) (Option.some Jvm.ClassFile.FieldType.int)) ∈ zT := z_mem 671 (by decide +kernel) (by decide +kernel)
theorem wd_672 : (Cond.methodLink "SpannedCellsLaw" (21 : Nat) yMD_row) ∈ zT := z_mem 672 (by decide +kernel) (by decide +kernel)
theorem wd_673 : (Cond.instanceMethod yMD_row) ∈ zT := z_mem 673 (by decide +kernel) (by decide +kernel)
theorem wd_674 : (Cond.selects "SpannedCellsModel" yMD_row yMD_row) ∈ zT := z_mem 674 (by decide +kernel) (by decide +kernel)
theorem wd_675 : (Cond.code yMD_row prog_8_method_4_code (3 : Nat) (Option.some Jvm.ClassFile.FieldType.int)) ∈ zT := z_mem 675 (by decide +kernel) (by decide +kernel)
theorem wd_676 : (Cond.methodLink "SpannedCellsLaw" (26 : Nat) yMD_cell) ∈ zT := z_mem 676 (by decide +kernel) (by decide +kernel)
theorem wd_677 : (Cond.instanceMethod yMD_cell) ∈ zT := z_mem 677 (by decide +kernel) (by decide +kernel)
theorem wd_678 : (Cond.selects "SpannedCellsModel" yMD_cell yMD_cell) ∈ zT := z_mem 678 (by decide +kernel) (by decide +kernel)
theorem wd_679 : (Cond.code yMD_cell prog_8_method_6_code (9 : Nat) (Option.some Jvm.ClassFile.FieldType.int)) ∈ zT := z_mem 679 (by decide +kernel) (by decide +kernel)
theorem wd_684 : (Cond.methodLink "SpannedCellsLaw" (31 : Nat) yMD_border) ∈ zT := z_mem 684 (by decide +kernel) (by decide +kernel)
theorem wd_685 : (Cond.instanceMethod yMD_border) ∈ zT := z_mem 685 (by decide +kernel) (by decide +kernel)
theorem wd_686 : (Cond.selects "SpannedCellsModel" yMD_border yMD_border) ∈ zT := z_mem 686 (by decide +kernel) (by decide +kernel)
theorem wd_687 : (Cond.code yMD_border prog_8_method_8_code (4 : Nat) (Option.some Jvm.ClassFile.FieldType.boolean)) ∈ zT := z_mem 687 (by decide +kernel) (by decide +kernel)
theorem wd_688 : (Cond.methodLink "SpannedCellsModel" (89 : Nat) yMD_isCell) ∈ zT := z_mem 688 (by decide +kernel) (by decide +kernel)
theorem wd_690 : (Cond.instanceMethod yMD_isCell) ∈ zT := z_mem 690 (by decide +kernel) (by decide +kernel)
theorem wd_691 : (Cond.code yMD_isCell prog_8_method_7_code (2 : Nat) (Option.some Jvm.ClassFile.FieldType.boolean)) ∈ zT := z_mem 691 (by decide +kernel) (by decide +kernel)
theorem wd_692 : (Cond.methodLink "SpannedCellsLaw" (36 : Nat) yMD_layout) ∈ zT := z_mem 692 (by decide +kernel) (by decide +kernel)
theorem wd_693 : (Cond.instanceMethod yMD_layout) ∈ zT := z_mem 693 (by decide +kernel) (by decide +kernel)
theorem wd_694 : (Cond.selects "SpannedCellsModel" yMD_layout yMD_layout) ∈ zT := z_mem 694 (by decide +kernel) (by decide +kernel)
theorem wd_695 : (Cond.code yMD_layout prog_8_method_9_code (4 : Nat) (Option.some Jvm.ClassFile.FieldType.boolean)) ∈ zT := z_mem 695 (by decide +kernel) (by decide +kernel)
theorem wd_696 : (Cond.methodLink "SpannedCellsLaw" (40 : Nat) yMD_clear) ∈ zT := z_mem 696 (by decide +kernel) (by decide +kernel)
theorem wd_697 : (Cond.instanceMethod yMD_clear) ∈ zT := z_mem 697 (by decide +kernel) (by decide +kernel)
theorem wd_698 : (Cond.selects "SpannedCellsModel" yMD_clear yMD_clear) ∈ zT := z_mem 698 (by decide +kernel) (by decide +kernel)
theorem wd_699 : (Cond.code yMD_clear prog_8_method_10_code (2 : Nat) (Option.some Jvm.ClassFile.FieldType.int)) ∈ zT := z_mem 699 (by decide +kernel) (by decide +kernel)
theorem wd_700 : (Cond.methodLink "SpannedCellsLaw" (44 : Nat) yMD_columns) ∈ zT := z_mem 700 (by decide +kernel) (by decide +kernel)
theorem wd_701 : (Cond.instanceMethod yMD_columns) ∈ zT := z_mem 701 (by decide +kernel) (by decide +kernel)
theorem wd_702 : (Cond.selects "SpannedCellsModel" yMD_columns yMD_columns) ∈ zT := z_mem 702 (by decide +kernel) (by decide +kernel)
theorem wd_703 : (Cond.code yMD_columns prog_8_method_11_code (3 : Nat) (Option.some Jvm.ClassFile.FieldType.int)) ∈ zT := z_mem 703 (by decide +kernel) (by decide +kernel)
theorem wd_704 : (Cond.methodLink "SpannedCellsLaw" (48 : Nat) yMD_rows) ∈ zT := z_mem 704 (by decide +kernel) (by decide +kernel)
theorem wd_705 : (Cond.instanceMethod yMD_rows) ∈ zT := z_mem 705 (by decide +kernel) (by decide +kernel)
theorem wd_706 : (Cond.selects "SpannedCellsModel" yMD_rows yMD_rows) ∈ zT := z_mem 706 (by decide +kernel) (by decide +kernel)
theorem wd_707 : (Cond.code yMD_rows prog_8_method_12_code (1 : Nat) (Option.some Jvm.ClassFile.FieldType.int)) ∈ zT := z_mem 707 (by decide +kernel) (by decide +kernel)
theorem wd_708 : (Cond.methodLink "SpannedCellsLaw" (53 : Nat) yMD_slot) ∈ zT := z_mem 708 (by decide +kernel) (by decide +kernel)
theorem wd_709 : (Cond.instanceMethod yMD_slot) ∈ zT := z_mem 709 (by decide +kernel) (by decide +kernel)
theorem wd_710 : (Cond.selects "SpannedCellsModel" yMD_slot yMD_slot) ∈ zT := z_mem 710 (by decide +kernel) (by decide +kernel)
theorem wd_711 : (Cond.code yMD_slot prog_8_method_16_code (5 : Nat) (Option.some Jvm.ClassFile.FieldType.int)) ∈ zT := z_mem 711 (by decide +kernel) (by decide +kernel)
theorem wd_720 : (Cond.methodLink "SpannedCellsLaw" (57 : Nat) yMD_overlaps) ∈ zT := z_mem 720 (by decide +kernel) (by decide +kernel)
theorem wd_721 : (Cond.instanceMethod yMD_overlaps) ∈ zT := z_mem 721 (by decide +kernel) (by decide +kernel)
theorem wd_722 : (Cond.selects "SpannedCellsModel" yMD_overlaps yMD_overlaps) ∈ zT := z_mem 722 (by decide +kernel) (by decide +kernel)
theorem wd_723 : (Cond.code yMD_overlaps prog_8_method_17_code (4 : Nat) (Option.some Jvm.ClassFile.FieldType.int)) ∈ zT := z_mem 723 (by decide +kernel) (by decide +kernel)
theorem wd_724 : (Cond.methodLink "SpannedCellsModel" (109 : Nat) yMD_howMany) ∈ zT := z_mem 724 (by decide +kernel) (by decide +kernel)
theorem wd_726 : (Cond.instanceMethod yMD_howMany) ∈ zT := z_mem 726 (by decide +kernel) (by decide +kernel)
theorem wd_727 : (Cond.code yMD_howMany prog_8_method_15_code (5 : Nat) (Option.some Jvm.ClassFile.FieldType.int)) ∈ zT := z_mem 727 (by decide +kernel) (by decide +kernel)
theorem wd_728 : (Cond.methodLink "SpannedCellsLaw" (61 : Nat) yMD_empties) ∈ zT := z_mem 728 (by decide +kernel) (by decide +kernel)
theorem wd_729 : (Cond.instanceMethod yMD_empties) ∈ zT := z_mem 729 (by decide +kernel) (by decide +kernel)
theorem wd_730 : (Cond.selects "SpannedCellsModel" yMD_empties yMD_empties) ∈ zT := z_mem 730 (by decide +kernel) (by decide +kernel)
theorem wd_731 : (Cond.code yMD_empties prog_8_method_18_code (6 : Nat) (Option.some Jvm.ClassFile.FieldType.int)) ∈ zT := z_mem 731 (by decide +kernel) (by decide +kernel)
theorem wd_732 : (Cond.methodLink "SpannedCellsModel" (113 : Nat) yMD_columns) ∈ zT := z_mem 732 (by decide +kernel) (by decide +kernel)
theorem wd_733 : (Cond.methodLink "SpannedCellsModel" (117 : Nat) yMD_rows) ∈ zT := z_mem 733 (by decide +kernel) (by decide +kernel)
theorem wd_734 : (Cond.methodLink "SpannedCellsLaw" (66 : Nat) yMD_span) ∈ zT := z_mem 734 (by decide +kernel) (by decide +kernel)
theorem wd_735 : (Cond.instanceMethod yMD_span) ∈ zT := z_mem 735 (by decide +kernel) (by decide +kernel)
theorem wd_736 : (Cond.selects "SpannedCellsModel" yMD_span yMD_span) ∈ zT := z_mem 736 (by decide +kernel) (by decide +kernel)
theorem wd_737 : (Cond.code yMD_span prog_8_method_19_code (2 : Nat) (Option.some Jvm.ClassFile.FieldType.int)) ∈ zT := z_mem 737 (by decide +kernel) (by decide +kernel)
theorem wd_739 : (Cond.methodLink "SpannedCellsLaw" (70 : Nat) yMD_wide) ∈ zT := z_mem 739 (by decide +kernel) (by decide +kernel)
theorem wd_740 : (Cond.instanceMethod yMD_wide) ∈ zT := z_mem 740 (by decide +kernel) (by decide +kernel)
theorem wd_741 : (Cond.selects "SpannedCellsModel" yMD_wide yMD_wide) ∈ zT := z_mem 741 (by decide +kernel) (by decide +kernel)
theorem wd_742 : (Cond.code yMD_wide prog_8_method_30_code (3 : Nat) (Option.some Jvm.ClassFile.FieldType.int)) ∈ zT := z_mem 742 (by decide +kernel) (by decide +kernel)
theorem wd_743 : (Cond.methodLink "SpannedCellsModel" (149 : Nat) yMD_findWidths) ∈ zT := z_mem 743 (by decide +kernel) (by decide +kernel)
theorem wd_745 : (Cond.instanceMethod yMD_findWidths) ∈ zT := z_mem 745 (by decide +kernel) (by decide +kernel)
theorem wd_746 : (Cond.code yMD_findWidths prog_8_method_28_code (6 : Nat) (Option.none : Option Jvm.ClassFile.FieldType)) ∈ zT := z_mem 746 (by decide +kernel) (by decide +kernel)
theorem wd_747 : (Cond.methodLink "SpannedCellsModel" (143 : Nat) yMD_measure) ∈ zT := z_mem 747 (by decide +kernel) (by decide +kernel)
theorem wd_749 : (Cond.instanceMethod yMD_measure) ∈ zT := z_mem 749 (by decide +kernel) (by decide +kernel)
theorem wd_750 : (Cond.code yMD_measure prog_8_method_25_code (3 : Nat) (Option.none : Option Jvm.ClassFile.FieldType)) ∈ zT := z_mem 750 (by decide +kernel) (by decide +kernel)
theorem wd_755 : (Cond.methodLink "SpannedCellsModel" (121 : Nat) yMD_greater) ∈ zT := z_mem 755 (by decide +kernel) (by decide +kernel)
theorem wd_756 : (Cond.static yMD_greater) ∈ zT := z_mem 756 (by decide +kernel) (by decide +kernel)
theorem wd_757 : (Cond.code yMD_greater prog_8_method_22_code (2 : Nat) (Option.some Jvm.ClassFile.FieldType.int)) ∈ zT := z_mem 757 (by decide +kernel) (by decide +kernel)
theorem wd_762 : (Cond.methodLink "SpannedCellsModel" (128 : Nat) yMD_sumOf) ∈ zT := z_mem 762 (by decide +kernel) (by decide +kernel)
theorem wd_763 : (Cond.static yMD_sumOf) ∈ zT := z_mem 763 (by decide +kernel) (by decide +kernel)
theorem wd_764 : (Cond.code yMD_sumOf prog_8_method_21_code (5 : Nat) (Option.some Jvm.ClassFile.FieldType.int)) ∈ zT := z_mem 764 (by decide +kernel) (by decide +kernel)
theorem wd_773 : (Cond.methodLink "SpannedCellsModel" (140 : Nat) yMD_room) ∈ zT := z_mem 773 (by decide +kernel) (by decide +kernel)
theorem wd_775 : (Cond.instanceMethod yMD_room) ∈ zT := z_mem 775 (by decide +kernel) (by decide +kernel)
theorem wd_776 : (Cond.code yMD_room prog_8_method_26_code (1 : Nat) (Option.some Jvm.ClassFile.FieldType.int)) ∈ zT := z_mem 776 (by decide +kernel) (by decide +kernel)
theorem wd_777 : (Cond.methodLink "SpannedCellsLaw" (74 : Nat) yMD_high) ∈ zT := z_mem 777 (by decide +kernel) (by decide +kernel)
theorem wd_778 : (Cond.instanceMethod yMD_high) ∈ zT := z_mem 778 (by decide +kernel) (by decide +kernel)
theorem wd_779 : (Cond.selects "SpannedCellsModel" yMD_high yMD_high) ∈ zT := z_mem 779 (by decide +kernel) (by decide +kernel)
theorem wd_780 : (Cond.code yMD_high prog_8_method_31_code (2 : Nat) (Option.some Jvm.ClassFile.FieldType.int)) ∈ zT := z_mem 780 (by decide +kernel) (by decide +kernel)
theorem wd_781 : (Cond.methodLink "SpannedCellsModel" (152 : Nat) yMD_findHeights) ∈ zT := z_mem 781 (by decide +kernel) (by decide +kernel)
theorem wd_783 : (Cond.instanceMethod yMD_findHeights) ∈ zT := z_mem 783 (by decide +kernel) (by decide +kernel)
theorem wd_784 : (Cond.code yMD_findHeights prog_8_method_29_code (5 : Nat) (Option.none : Option Jvm.ClassFile.FieldType)) ∈ zT := z_mem 784 (by decide +kernel) (by decide +kernel)
theorem wd_785 : (Cond.methodLink "SpannedCellsLaw" (78 : Nat) yMD_place) ∈ zT := z_mem 785 (by decide +kernel) (by decide +kernel)
theorem wd_786 : (Cond.instanceMethod yMD_place) ∈ zT := z_mem 786 (by decide +kernel) (by decide +kernel)
theorem wd_787 : (Cond.selects "SpannedCellsModel" yMD_place yMD_place) ∈ zT := z_mem 787 (by decide +kernel) (by decide +kernel)
theorem wd_788 : (Cond.code yMD_place prog_8_method_32_code (7 : Nat) (Option.some Jvm.ClassFile.FieldType.int)) ∈ zT := z_mem 788 (by decide +kernel) (by decide +kernel)
theorem wd_789 : (Cond.methodLink "SpannedCellsLaw" (83 : Nat) yMD_size) ∈ zT := z_mem 789 (by decide +kernel) (by decide +kernel)
theorem wd_790 : (Cond.instanceMethod yMD_size) ∈ zT := z_mem 790 (by decide +kernel) (by decide +kernel)
theorem wd_791 : (Cond.selects "SpannedCellsModel" yMD_size yMD_size) ∈ zT := z_mem 791 (by decide +kernel) (by decide +kernel)
theorem wd_792 : (Cond.code yMD_size prog_8_method_33_code (3 : Nat) (Option.some Jvm.ClassFile.FieldType.int)) ∈ zT := z_mem 792 (by decide +kernel) (by decide +kernel)
theorem wd_793 : (Cond.methodLink "SpannedCellsLaw" (88 : Nat) yMD_edge) ∈ zT := z_mem 793 (by decide +kernel) (by decide +kernel)
theorem wd_794 : (Cond.instanceMethod yMD_edge) ∈ zT := z_mem 794 (by decide +kernel) (by decide +kernel)
theorem wd_795 : (Cond.selects "SpannedCellsModel" yMD_edge yMD_edge) ∈ zT := z_mem 795 (by decide +kernel) (by decide +kernel)
theorem wd_796 : (Cond.code yMD_edge prog_8_method_35_code (6 : Nat) (Option.some Jvm.ClassFile.FieldType.int)) ∈ zT := z_mem 796 (by decide +kernel) (by decide +kernel)
end
section
theorem dAB_init_0 : decode cAB_init 0 = .ok (.aload_n 0, 1) := by decide +kernel
theorem dAB_init_1 : decode cAB_init 1 = .ok (.invokespecial 1, 3) := by decide +kernel
theorem dAB_init_4 : decode cAB_init 4 = .ok (.aload_n 0, 1) := by decide +kernel
theorem dAB_init_5 : decode cAB_init 5 = .ok (.iconst 0, 1) := by decide +kernel
theorem dAB_init_6 : decode cAB_init 6 = .ok (.putfield 7, 3) := by decide +kernel
theorem dAB_init_9 : decode cAB_init 9 = .ok (.return_, 1) := by decide +kernel
theorem dAC_init_0 : decode cAC_init 0 = .ok (.aload_n 0, 1) := by decide +kernel
theorem dAC_init_1 : decode cAC_init 1 = .ok (.invokespecial 1, 3) := by decide +kernel
theorem dAC_init_4 : decode cAC_init 4 = .ok (.return_, 1) := by decide +kernel
theorem dAL_clear_0 : decode cAL_clear 0 = .ok (.aload_n 0, 1) := by decide +kernel
theorem dAL_clear_1 : decode cAL_clear 1 = .ok (.dup, 1) := by decide +kernel
theorem dAL_clear_2 : decode cAL_clear 2 = .ok (.getfield 63, 3) := by decide +kernel
theorem dAL_clear_5 : decode cAL_clear 5 = .ok (.iconst 1, 1) := by decide +kernel
theorem dAL_clear_6 : decode cAL_clear 6 = .ok (.iadd, 1) := by decide +kernel
theorem dAL_clear_7 : decode cAL_clear 7 = .ok (.putfield 63, 3) := by decide +kernel
theorem dAL_clear_10 : decode cAL_clear 10 = .ok (.aload_n 0, 1) := by decide +kernel
theorem dAL_clear_11 : decode cAL_clear 11 = .ok (.getfield 9, 3) := by decide +kernel
theorem dAL_clear_14 : decode cAL_clear 14 = .ok (.astore_n 1, 1) := by decide +kernel
theorem dAL_clear_15 : decode cAL_clear 15 = .ok (.aload_n 0, 1) := by decide +kernel
theorem dAL_clear_16 : decode cAL_clear 16 = .ok (.getfield 48, 3) := by decide +kernel
theorem dAL_clear_19 : decode cAL_clear 19 = .ok (.istore_n 2, 1) := by decide +kernel
theorem dAL_clear_20 : decode cAL_clear 20 = .ok (.aload_n 0, 1) := by decide +kernel
theorem dAL_clear_21 : decode cAL_clear 21 = .ok (.iconst 0, 1) := by decide +kernel
theorem dAL_clear_22 : decode cAL_clear 22 = .ok (.dup_x1, 1) := by decide +kernel
theorem dAL_clear_23 : decode cAL_clear 23 = .ok (.putfield 48, 3) := by decide +kernel
theorem dAL_clear_26 : decode cAL_clear 26 = .ok (.istore_n 3, 1) := by decide +kernel
theorem dAL_clear_27 : decode cAL_clear 27 = .ok (.iload_n 3, 1) := by decide +kernel
theorem dAL_clear_28 : decode cAL_clear 28 = .ok (.iload_n 2, 1) := by decide +kernel
theorem dAL_clear_29 : decode cAL_clear 29 = .ok (.if_icmp .ge 13, 3) := by decide +kernel
theorem dAL_clear_42 : decode cAL_clear 42 = .ok (.return_, 1) := by decide +kernel
theorem dAL_init_0 : decode cAL_init 0 = .ok (.aload_n 0, 1) := by decide +kernel
theorem dAL_init_1 : decode cAL_init 1 = .ok (.invokespecial 1, 3) := by decide +kernel
theorem dAL_init_4 : decode cAL_init 4 = .ok (.aload_n 0, 1) := by decide +kernel
theorem dAL_init_5 : decode cAL_init 5 = .ok (.getstatic 39, 3) := by decide +kernel
theorem dAL_init_8 : decode cAL_init 8 = .ok (.putfield 9, 3) := by decide +kernel
theorem dAL_init_11 : decode cAL_init 11 = .ok (.return_, 1) := by decide +kernel
theorem dAL_size_0 : decode cAL_size 0 = .ok (.aload_n 0, 1) := by decide +kernel
theorem dAL_size_1 : decode cAL_size 1 = .ok (.getfield 48, 3) := by decide +kernel
theorem dAL_size_4 : decode cAL_size 4 = .ok (.ireturn, 1) := by decide +kernel
theorem dGR_beginGroup_0 : decode cGR_beginGroup 0 = .ok (.aload_n 0, 1) := by decide +kernel
theorem dGR_beginGroup_1 : decode cGR_beginGroup 1 = .ok (.getfield 18, 3) := by decide +kernel
theorem dGR_beginGroup_4 : decode cGR_beginGroup 4 = .ok (.bipush 8, 2) := by decide +kernel
theorem dGR_beginGroup_6 : decode cGR_beginGroup 6 = .ok (.if_icmp .ne 5, 3) := by decide +kernel
theorem dGR_beginGroup_11 : decode cGR_beginGroup 11 = .ok (.aload_n 0, 1) := by decide +kernel
theorem dGR_beginGroup_12 : decode cGR_beginGroup 12 = .ok (.dup, 1) := by decide +kernel
theorem dGR_beginGroup_13 : decode cGR_beginGroup 13 = .ok (.getfield 18, 3) := by decide +kernel
theorem dGR_beginGroup_16 : decode cGR_beginGroup 16 = .ok (.iconst 1, 1) := by decide +kernel
theorem dGR_beginGroup_17 : decode cGR_beginGroup 17 = .ok (.iadd, 1) := by decide +kernel
theorem dGR_beginGroup_18 : decode cGR_beginGroup 18 = .ok (.putfield 18, 3) := by decide +kernel
theorem dGR_beginGroup_21 : decode cGR_beginGroup 21 = .ok (.aload_n 0, 1) := by decide +kernel
theorem dGR_beginGroup_22 : decode cGR_beginGroup 22 = .ok (.aload_n 0, 1) := by decide +kernel
theorem dGR_beginGroup_23 : decode cGR_beginGroup 23 = .ok (.getfield 28, 3) := by decide +kernel
theorem dGR_beginGroup_26 : decode cGR_beginGroup 26 = .ok (.putfield 22, 3) := by decide +kernel
theorem dGR_beginGroup_29 : decode cGR_beginGroup 29 = .ok (.aload_n 0, 1) := by decide +kernel
theorem dGR_beginGroup_30 : decode cGR_beginGroup 30 = .ok (.iconst 0, 1) := by decide +kernel
theorem dGR_beginGroup_31 : decode cGR_beginGroup 31 = .ok (.putfield 25, 3) := by decide +kernel
theorem dGR_beginGroup_34 : decode cGR_beginGroup 34 = .ok (.aload_n 0, 1) := by decide +kernel
theorem dGR_beginGroup_35 : decode cGR_beginGroup 35 = .ok (.getfield 18, 3) := by decide +kernel
theorem dGR_beginGroup_38 : decode cGR_beginGroup 38 = .ok (.ireturn, 1) := by decide +kernel
theorem dGR_beginRow_0 : decode cGR_beginRow 0 = .ok (.aload_n 0, 1) := by decide +kernel
theorem dGR_beginRow_1 : decode cGR_beginRow 1 = .ok (.getfield 22, 3) := by decide +kernel
theorem dGR_beginRow_4 : decode cGR_beginRow 4 = .ok (.aload_n 0, 1) := by decide +kernel
theorem dGR_beginRow_5 : decode cGR_beginRow 5 = .ok (.getfield 25, 3) := by decide +kernel
theorem dGR_beginRow_8 : decode cGR_beginRow 8 = .ok (.iadd, 1) := by decide +kernel
theorem dGR_beginRow_9 : decode cGR_beginRow 9 = .ok (.istore_n 1, 1) := by decide +kernel
theorem dGR_beginRow_10 : decode cGR_beginRow 10 = .ok (.iload_n 1, 1) := by decide +kernel
theorem dGR_beginRow_11 : decode cGR_beginRow 11 = .ok (.bipush 12, 2) := by decide +kernel
theorem dGR_beginRow_13 : decode cGR_beginRow 13 = .ok (.if_icmp .lt 5, 3) := by decide +kernel
theorem dGR_beginRow_18 : decode cGR_beginRow 18 = .ok (.aload_n 0, 1) := by decide +kernel
theorem dGR_beginRow_19 : decode cGR_beginRow 19 = .ok (.dup, 1) := by decide +kernel
theorem dGR_beginRow_20 : decode cGR_beginRow 20 = .ok (.getfield 25, 3) := by decide +kernel
theorem dGR_beginRow_23 : decode cGR_beginRow 23 = .ok (.iconst 1, 1) := by decide +kernel
theorem dGR_beginRow_24 : decode cGR_beginRow 24 = .ok (.iadd, 1) := by decide +kernel
theorem dGR_beginRow_25 : decode cGR_beginRow 25 = .ok (.putfield 25, 3) := by decide +kernel
theorem dGR_beginRow_28 : decode cGR_beginRow 28 = .ok (.aload_n 0, 1) := by decide +kernel
theorem dGR_beginRow_29 : decode cGR_beginRow 29 = .ok (.iload_n 1, 1) := by decide +kernel
theorem dGR_beginRow_30 : decode cGR_beginRow 30 = .ok (.iconst 1, 1) := by decide +kernel
theorem dGR_beginRow_31 : decode cGR_beginRow 31 = .ok (.iadd, 1) := by decide +kernel
theorem dGR_beginRow_32 : decode cGR_beginRow 32 = .ok (.invokevirtual 37, 3) := by decide +kernel
theorem dGR_beginRow_35 : decode cGR_beginRow 35 = .ok (.iload_n 1, 1) := by decide +kernel
theorem dGR_beginRow_36 : decode cGR_beginRow 36 = .ok (.ireturn, 1) := by decide +kernel
theorem dGR_cellCount_0 : decode cGR_cellCount 0 = .ok (.aload_n 0, 1) := by decide +kernel
theorem dGR_cellCount_1 : decode cGR_cellCount 1 = .ok (.getfield 12, 3) := by decide +kernel
theorem dGR_cellCount_4 : decode cGR_cellCount 4 = .ok (.invokevirtual 41, 3) := by decide +kernel
theorem dGR_cellCount_7 : decode cGR_cellCount 7 = .ok (.ireturn, 1) := by decide +kernel
theorem dGR_columnCount_0 : decode cGR_columnCount 0 = .ok (.aload_n 0, 1) := by decide +kernel
theorem dGR_columnCount_1 : decode cGR_columnCount 1 = .ok (.getfield 31, 3) := by decide +kernel
theorem dGR_columnCount_4 : decode cGR_columnCount 4 = .ok (.ireturn, 1) := by decide +kernel
theorem dGR_countEmptyColumns_0 : decode cGR_countEmptyColumns 0 = .ok (.iconst 0, 1) := by decide +kernel
theorem dGR_countEmptyColumns_1 : decode cGR_countEmptyColumns 1 = .ok (.istore_n 1, 1) := by decide +kernel
theorem dGR_countEmptyColumns_2 : decode cGR_countEmptyColumns 2 = .ok (.iconst 0, 1) := by decide +kernel
theorem dGR_countEmptyColumns_3 : decode cGR_countEmptyColumns 3 = .ok (.istore_n 2, 1) := by decide +kernel
theorem dGR_countEmptyColumns_4 : decode cGR_countEmptyColumns 4 = .ok (.iload_n 2, 1) := by decide +kernel
theorem dGR_countEmptyColumns_5 : decode cGR_countEmptyColumns 5 = .ok (.aload_n 0, 1) := by decide +kernel
theorem dGR_countEmptyColumns_6 : decode cGR_countEmptyColumns 6 = .ok (.getfield 31, 3) := by decide +kernel
theorem dGR_countEmptyColumns_9 : decode cGR_countEmptyColumns 9 = .ok (.if_icmp .ge 25, 3) := by decide +kernel
theorem dGR_countEmptyColumns_34 : decode cGR_countEmptyColumns 34 = .ok (.iload_n 1, 1) := by decide +kernel
theorem dGR_countEmptyColumns_35 : decode cGR_countEmptyColumns 35 = .ok (.ireturn, 1) := by decide +kernel
theorem dGR_countEmptyRows_0 : decode cGR_countEmptyRows 0 = .ok (.iconst 0, 1) := by decide +kernel
theorem dGR_countEmptyRows_1 : decode cGR_countEmptyRows 1 = .ok (.istore_n 1, 1) := by decide +kernel
theorem dGR_countEmptyRows_2 : decode cGR_countEmptyRows 2 = .ok (.iconst 0, 1) := by decide +kernel
theorem dGR_countEmptyRows_3 : decode cGR_countEmptyRows 3 = .ok (.istore_n 2, 1) := by decide +kernel
theorem dGR_countEmptyRows_4 : decode cGR_countEmptyRows 4 = .ok (.iload_n 2, 1) := by decide +kernel
theorem dGR_countEmptyRows_5 : decode cGR_countEmptyRows 5 = .ok (.aload_n 0, 1) := by decide +kernel
theorem dGR_countEmptyRows_6 : decode cGR_countEmptyRows 6 = .ok (.getfield 28, 3) := by decide +kernel
theorem dGR_countEmptyRows_9 : decode cGR_countEmptyRows 9 = .ok (.if_icmp .ge 25, 3) := by decide +kernel
theorem dGR_countEmptyRows_34 : decode cGR_countEmptyRows 34 = .ok (.iload_n 1, 1) := by decide +kernel
theorem dGR_countEmptyRows_35 : decode cGR_countEmptyRows 35 = .ok (.ireturn, 1) := by decide +kernel
theorem dGR_countOverlaps_0 : decode cGR_countOverlaps 0 = .ok (.iconst 0, 1) := by decide +kernel
theorem dGR_countOverlaps_1 : decode cGR_countOverlaps 1 = .ok (.istore_n 1, 1) := by decide +kernel
theorem dGR_countOverlaps_2 : decode cGR_countOverlaps 2 = .ok (.iconst 0, 1) := by decide +kernel
theorem dGR_countOverlaps_3 : decode cGR_countOverlaps 3 = .ok (.istore_n 2, 1) := by decide +kernel
theorem dGR_countOverlaps_4 : decode cGR_countOverlaps 4 = .ok (.iload_n 2, 1) := by decide +kernel
theorem dGR_countOverlaps_5 : decode cGR_countOverlaps 5 = .ok (.aload_n 0, 1) := by decide +kernel
theorem dGR_countOverlaps_6 : decode cGR_countOverlaps 6 = .ok (.getfield 12, 3) := by decide +kernel
theorem dGR_countOverlaps_9 : decode cGR_countOverlaps 9 = .ok (.invokevirtual 41, 3) := by decide +kernel
theorem dGR_countOverlaps_12 : decode cGR_countOverlaps 12 = .ok (.if_icmp .ge 41, 3) := by decide +kernel
theorem dGR_countOverlaps_53 : decode cGR_countOverlaps 53 = .ok (.iload_n 1, 1) := by decide +kernel
theorem dGR_countOverlaps_54 : decode cGR_countOverlaps 54 = .ok (.aload_n 0, 1) := by decide +kernel
theorem dGR_countOverlaps_55 : decode cGR_countOverlaps 55 = .ok (.invokevirtual 91, 3) := by decide +kernel
end
section
theorem dGR_countOverlaps_58 : decode cGR_countOverlaps 58 = .ok (.isub, 1) := by decide +kernel
theorem dGR_countOverlaps_59 : decode cGR_countOverlaps 59 = .ok (.ireturn, 1) := by decide +kernel
theorem dGR_countOwnedSlots_0 : decode cGR_countOwnedSlots 0 = .ok (.iconst 0, 1) := by decide +kernel
theorem dGR_countOwnedSlots_1 : decode cGR_countOwnedSlots 1 = .ok (.istore_n 1, 1) := by decide +kernel
theorem dGR_countOwnedSlots_2 : decode cGR_countOwnedSlots 2 = .ok (.iconst 0, 1) := by decide +kernel
theorem dGR_countOwnedSlots_3 : decode cGR_countOwnedSlots 3 = .ok (.istore_n 2, 1) := by decide +kernel
theorem dGR_countOwnedSlots_4 : decode cGR_countOwnedSlots 4 = .ok (.iload_n 2, 1) := by decide +kernel
theorem dGR_countOwnedSlots_5 : decode cGR_countOwnedSlots 5 = .ok (.aload_n 0, 1) := by decide +kernel
theorem dGR_countOwnedSlots_6 : decode cGR_countOwnedSlots 6 = .ok (.getfield 28, 3) := by decide +kernel
theorem dGR_countOwnedSlots_9 : decode cGR_countOwnedSlots 9 = .ok (.if_icmp .ge 43, 3) := by decide +kernel
theorem dGR_countOwnedSlots_52 : decode cGR_countOwnedSlots 52 = .ok (.iload_n 1, 1) := by decide +kernel
theorem dGR_countOwnedSlots_53 : decode cGR_countOwnedSlots 53 = .ok (.ireturn, 1) := by decide +kernel
theorem dGR_empty_0 : decode cGR_empty 0 = .ok (.aload_n 0, 1) := by decide +kernel
theorem dGR_empty_1 : decode cGR_empty 1 = .ok (.getfield 12, 3) := by decide +kernel
theorem dGR_empty_4 : decode cGR_empty 4 = .ok (.invokevirtual 34, 3) := by decide +kernel
theorem dGR_empty_7 : decode cGR_empty 7 = .ok (.aload_n 0, 1) := by decide +kernel
theorem dGR_empty_8 : decode cGR_empty 8 = .ok (.iconst 1, 1) := by decide +kernel
theorem dGR_empty_9 : decode cGR_empty 9 = .ok (.putfield 18, 3) := by decide +kernel
theorem dGR_empty_12 : decode cGR_empty 12 = .ok (.aload_n 0, 1) := by decide +kernel
theorem dGR_empty_13 : decode cGR_empty 13 = .ok (.iconst 0, 1) := by decide +kernel
theorem dGR_empty_14 : decode cGR_empty 14 = .ok (.putfield 22, 3) := by decide +kernel
theorem dGR_empty_17 : decode cGR_empty 17 = .ok (.aload_n 0, 1) := by decide +kernel
theorem dGR_empty_18 : decode cGR_empty 18 = .ok (.iconst 0, 1) := by decide +kernel
theorem dGR_empty_19 : decode cGR_empty 19 = .ok (.putfield 25, 3) := by decide +kernel
theorem dGR_empty_22 : decode cGR_empty 22 = .ok (.aload_n 0, 1) := by decide +kernel
theorem dGR_empty_23 : decode cGR_empty 23 = .ok (.iconst 0, 1) := by decide +kernel
theorem dGR_empty_24 : decode cGR_empty 24 = .ok (.putfield 28, 3) := by decide +kernel
theorem dGR_empty_27 : decode cGR_empty 27 = .ok (.aload_n 0, 1) := by decide +kernel
theorem dGR_empty_28 : decode cGR_empty 28 = .ok (.iconst 0, 1) := by decide +kernel
theorem dGR_empty_29 : decode cGR_empty 29 = .ok (.putfield 31, 3) := by decide +kernel
theorem dGR_empty_32 : decode cGR_empty 32 = .ok (.return_, 1) := by decide +kernel
theorem dGR_extendGroupTo_0 : decode cGR_extendGroupTo 0 = .ok (.aload_n 0, 1) := by decide +kernel
theorem dGR_extendGroupTo_1 : decode cGR_extendGroupTo 1 = .ok (.aload_n 0, 1) := by decide +kernel
theorem dGR_extendGroupTo_2 : decode cGR_extendGroupTo 2 = .ok (.getfield 28, 3) := by decide +kernel
theorem dGR_extendGroupTo_5 : decode cGR_extendGroupTo 5 = .ok (.iload_n 1, 1) := by decide +kernel
theorem dGR_extendGroupTo_6 : decode cGR_extendGroupTo 6 = .ok (.invokestatic 58, 3) := by decide +kernel
theorem dGR_extendGroupTo_9 : decode cGR_extendGroupTo 9 = .ok (.putfield 28, 3) := by decide +kernel
theorem dGR_extendGroupTo_12 : decode cGR_extendGroupTo 12 = .ok (.iconst 0, 1) := by decide +kernel
theorem dGR_extendGroupTo_13 : decode cGR_extendGroupTo 13 = .ok (.istore_n 2, 1) := by decide +kernel
theorem dGR_extendGroupTo_14 : decode cGR_extendGroupTo 14 = .ok (.iload_n 2, 1) := by decide +kernel
theorem dGR_extendGroupTo_15 : decode cGR_extendGroupTo 15 = .ok (.aload_n 0, 1) := by decide +kernel
theorem dGR_extendGroupTo_16 : decode cGR_extendGroupTo 16 = .ok (.getfield 12, 3) := by decide +kernel
theorem dGR_extendGroupTo_19 : decode cGR_extendGroupTo 19 = .ok (.invokevirtual 41, 3) := by decide +kernel
theorem dGR_extendGroupTo_22 : decode cGR_extendGroupTo 22 = .ok (.if_icmp .ge 40, 3) := by decide +kernel
theorem dGR_extendGroupTo_62 : decode cGR_extendGroupTo 62 = .ok (.return_, 1) := by decide +kernel
theorem dGR_hasCell_0 : decode cGR_hasCell 0 = .ok (.iconst 0, 1) := by decide +kernel
theorem dGR_hasCell_1 : decode cGR_hasCell 1 = .ok (.iload_n 1, 1) := by decide +kernel
theorem dGR_hasCell_2 : decode cGR_hasCell 2 = .ok (.if_icmp .gt 18, 3) := by decide +kernel
theorem dGR_hasCell_5 : decode cGR_hasCell 5 = .ok (.iload_n 1, 1) := by decide +kernel
theorem dGR_hasCell_6 : decode cGR_hasCell 6 = .ok (.aload_n 0, 1) := by decide +kernel
theorem dGR_hasCell_7 : decode cGR_hasCell 7 = .ok (.getfield 12, 3) := by decide +kernel
theorem dGR_hasCell_10 : decode cGR_hasCell 10 = .ok (.invokevirtual 41, 3) := by decide +kernel
theorem dGR_hasCell_13 : decode cGR_hasCell 13 = .ok (.if_icmp .ge 7, 3) := by decide +kernel
theorem dGR_hasCell_20 : decode cGR_hasCell 20 = .ok (.iconst 0, 1) := by decide +kernel
theorem dGR_hasCell_21 : decode cGR_hasCell 21 = .ok (.ireturn, 1) := by decide +kernel
theorem dGR_hasSlot_0 : decode cGR_hasSlot 0 = .ok (.iload_n 1, 1) := by decide +kernel
theorem dGR_hasSlot_1 : decode cGR_hasSlot 1 = .ok (.iconst 0, 1) := by decide +kernel
theorem dGR_hasSlot_2 : decode cGR_hasSlot 2 = .ok (.aload_n 0, 1) := by decide +kernel
theorem dGR_hasSlot_3 : decode cGR_hasSlot 3 = .ok (.getfield 31, 3) := by decide +kernel
theorem dGR_hasSlot_6 : decode cGR_hasSlot 6 = .ok (.iconst 1, 1) := by decide +kernel
theorem dGR_hasSlot_7 : decode cGR_hasSlot 7 = .ok (.isub, 1) := by decide +kernel
theorem dGR_hasSlot_8 : decode cGR_hasSlot 8 = .ok (.invokestatic 77, 3) := by decide +kernel
theorem dGR_hasSlot_11 : decode cGR_hasSlot 11 = .ok (.ifCond .eq 21, 3) := by decide +kernel
theorem dGR_hasSlot_32 : decode cGR_hasSlot 32 = .ok (.iconst 0, 1) := by decide +kernel
theorem dGR_hasSlot_33 : decode cGR_hasSlot 33 = .ok (.ireturn, 1) := by decide +kernel
theorem dGR_init_0 : decode cGR_init 0 = .ok (.aload_n 0, 1) := by decide +kernel
theorem dGR_init_1 : decode cGR_init 1 = .ok (.invokespecial 3, 3) := by decide +kernel
theorem dGR_init_4 : decode cGR_init 4 = .ok (.aload_n 0, 1) := by decide +kernel
theorem dGR_init_5 : decode cGR_init 5 = .ok (.new 9, 3) := by decide +kernel
theorem dGR_init_8 : decode cGR_init 8 = .ok (.dup, 1) := by decide +kernel
theorem dGR_init_9 : decode cGR_init 9 = .ok (.invokespecial 11, 3) := by decide +kernel
theorem dGR_init_12 : decode cGR_init 12 = .ok (.putfield 12, 3) := by decide +kernel
theorem dGR_init_15 : decode cGR_init 15 = .ok (.aload_n 0, 1) := by decide +kernel
theorem dGR_init_16 : decode cGR_init 16 = .ok (.iconst 1, 1) := by decide +kernel
theorem dGR_init_17 : decode cGR_init 17 = .ok (.putfield 18, 3) := by decide +kernel
theorem dGR_init_20 : decode cGR_init 20 = .ok (.aload_n 0, 1) := by decide +kernel
theorem dGR_init_21 : decode cGR_init 21 = .ok (.iconst 0, 1) := by decide +kernel
theorem dGR_init_22 : decode cGR_init 22 = .ok (.putfield 22, 3) := by decide +kernel
theorem dGR_init_25 : decode cGR_init 25 = .ok (.aload_n 0, 1) := by decide +kernel
theorem dGR_init_26 : decode cGR_init 26 = .ok (.iconst 0, 1) := by decide +kernel
theorem dGR_init_27 : decode cGR_init 27 = .ok (.putfield 25, 3) := by decide +kernel
theorem dGR_init_30 : decode cGR_init 30 = .ok (.aload_n 0, 1) := by decide +kernel
theorem dGR_init_31 : decode cGR_init 31 = .ok (.iconst 0, 1) := by decide +kernel
theorem dGR_init_32 : decode cGR_init 32 = .ok (.putfield 28, 3) := by decide +kernel
theorem dGR_init_35 : decode cGR_init 35 = .ok (.aload_n 0, 1) := by decide +kernel
theorem dGR_init_36 : decode cGR_init 36 = .ok (.iconst 0, 1) := by decide +kernel
theorem dGR_init_37 : decode cGR_init 37 = .ok (.putfield 31, 3) := by decide +kernel
theorem dGR_init_40 : decode cGR_init 40 = .ok (.return_, 1) := by decide +kernel
theorem dGR_ownerOf_0 : decode cGR_ownerOf 0 = .ok (.iconst 0, 1) := by decide +kernel
theorem dGR_ownerOf_1 : decode cGR_ownerOf 1 = .ok (.istore_n 3, 1) := by decide +kernel
theorem dGR_ownerOf_2 : decode cGR_ownerOf 2 = .ok (.iload_n 3, 1) := by decide +kernel
theorem dGR_ownerOf_3 : decode cGR_ownerOf 3 = .ok (.aload_n 0, 1) := by decide +kernel
theorem dGR_ownerOf_4 : decode cGR_ownerOf 4 = .ok (.getfield 12, 3) := by decide +kernel
theorem dGR_ownerOf_7 : decode cGR_ownerOf 7 = .ok (.invokevirtual 41, 3) := by decide +kernel
theorem dGR_ownerOf_10 : decode cGR_ownerOf 10 = .ok (.if_icmp .ge 30, 3) := by decide +kernel
theorem dGR_ownerOf_40 : decode cGR_ownerOf 40 = .ok (.iconst (-1), 1) := by decide +kernel
theorem dGR_ownerOf_41 : decode cGR_ownerOf 41 = .ok (.ireturn, 1) := by decide +kernel
theorem dGR_putCell_0 : decode cGR_putCell 0 = .ok (.aload_n 0, 1) := by decide +kernel
theorem dGR_putCell_1 : decode cGR_putCell 1 = .ok (.getfield 25, 3) := by decide +kernel
theorem dGR_putCell_4 : decode cGR_putCell 4 = .ok (.ifCond .eq 15, 3) := by decide +kernel
theorem dGR_putCell_19 : decode cGR_putCell 19 = .ok (.iconst (-1), 1) := by decide +kernel
theorem dGR_putCell_20 : decode cGR_putCell 20 = .ok (.ireturn, 1) := by decide +kernel
theorem dGR_rowCount_0 : decode cGR_rowCount 0 = .ok (.aload_n 0, 1) := by decide +kernel
theorem dGR_rowCount_1 : decode cGR_rowCount 1 = .ok (.getfield 28, 3) := by decide +kernel
theorem dGR_rowCount_4 : decode cGR_rowCount 4 = .ok (.ireturn, 1) := by decide +kernel
theorem dHE_init_0 : decode cHE_init 0 = .ok (.aload_n 0, 1) := by decide +kernel
theorem dHE_init_1 : decode cHE_init 1 = .ok (.invokespecial 3, 3) := by decide +kernel
theorem dHE_init_4 : decode cHE_init 4 = .ok (.aload_n 0, 1) := by decide +kernel
theorem dHE_init_5 : decode cHE_init 5 = .ok (.new 9, 3) := by decide +kernel
theorem dHE_init_8 : decode cHE_init 8 = .ok (.dup, 1) := by decide +kernel
theorem dHE_init_9 : decode cHE_init 9 = .ok (.invokespecial 11, 3) := by decide +kernel
theorem dHE_init_12 : decode cHE_init 12 = .ok (.putfield 12, 3) := by decide +kernel
theorem dHE_init_15 : decode cHE_init 15 = .ok (.return_, 1) := by decide +kernel
theorem dLI_init_0 : decode cLI_init 0 = .ok (.aload_n 0, 1) := by decide +kernel
theorem dLI_init_1 : decode cLI_init 1 = .ok (.invokespecial 3, 3) := by decide +kernel
theorem dLI_init_4 : decode cLI_init 4 = .ok (.aload_n 0, 1) := by decide +kernel
theorem dLI_init_5 : decode cLI_init 5 = .ok (.bipush 12, 2) := by decide +kernel
theorem dLI_init_7 : decode cLI_init 7 = .ok (.newarray .int, 2) := by decide +kernel
theorem dLI_init_9 : decode cLI_init 9 = .ok (.putfield 9, 3) := by decide +kernel
theorem dLI_init_12 : decode cLI_init 12 = .ok (.return_, 1) := by decide +kernel
end
section
theorem dLW_law_0 : decode cLW_law 0 = .ok (.new 7, 3) := by decide +kernel
theorem dLW_law_3 : decode cLW_law 3 = .ok (.dup, 1) := by decide +kernel
theorem dLW_law_4 : decode cLW_law 4 = .ok (.invokespecial 9, 3) := by decide +kernel
theorem dLW_law_7 : decode cLW_law 7 = .ok (.astore_n 1, 1) := by decide +kernel
theorem dLW_law_8 : decode cLW_law 8 = .ok (.new 10, 3) := by decide +kernel
theorem dLW_law_11 : decode cLW_law 11 = .ok (.dup, 1) := by decide +kernel
theorem dLW_law_12 : decode cLW_law 12 = .ok (.invokespecial 12, 3) := by decide +kernel
theorem dLW_law_15 : decode cLW_law 15 = .ok (.astore_n 2, 1) := by decide +kernel
theorem dLW_law_16 : decode cLW_law 16 = .ok (.iconst 0, 1) := by decide +kernel
theorem dLW_law_17 : decode cLW_law 17 = .ok (.istore_n 3, 1) := by decide +kernel
theorem dLW_law_18 : decode cLW_law 18 = .ok (.iload_n 3, 1) := by decide +kernel
theorem dLW_law_19 : decode cLW_law 19 = .ok (.aload_n 0, 1) := by decide +kernel
theorem dLW_law_20 : decode cLW_law 20 = .ok (.arraylength, 1) := by decide +kernel
theorem dLW_law_21 : decode cLW_law 21 = .ok (.bipush 6, 2) := by decide +kernel
theorem dLW_law_23 : decode cLW_law 23 = .ok (.isub, 1) := by decide +kernel
theorem dLW_law_24 : decode cLW_law 24 = .ok (.if_icmp .gt 597, 3) := by decide +kernel
theorem dLW_law_27 : decode cLW_law 27 = .ok (.aload_n 0, 1) := by decide +kernel
theorem dLW_law_28 : decode cLW_law 28 = .ok (.iload_n 3, 1) := by decide +kernel
theorem dLW_law_29 : decode cLW_law 29 = .ok (.iaload, 1) := by decide +kernel
theorem dLW_law_30 : decode cLW_law 30 = .ok (.bipush 31, 2) := by decide +kernel
theorem dLW_law_32 : decode cLW_law 32 = .ok (.iand, 1) := by decide +kernel
theorem dLW_law_33 : decode cLW_law 33 = .ok (.tableswitch 582 0 16 #[83, 96, 109, 172, 215, 274, 287, 300, 313, 346, 359, 372, 395, 428, 451, 484, 523], 83) := by decide +kernel
theorem dLW_law_116 : decode cLW_law 116 = .ok (.aload_n 1, 1) := by decide +kernel
theorem dLW_law_117 : decode cLW_law 117 = .ok (.invokevirtual 13, 3) := by decide +kernel
theorem dLW_law_120 : decode cLW_law 120 = .ok (.aload_n 2, 1) := by decide +kernel
theorem dLW_law_121 : decode cLW_law 121 = .ok (.invokevirtual 17, 3) := by decide +kernel
theorem dLW_law_124 : decode cLW_law 124 = .ok (.if_icmp .eq 491, 3) := by decide +kernel
theorem dLW_law_129 : decode cLW_law 129 = .ok (.aload_n 1, 1) := by decide +kernel
theorem dLW_law_130 : decode cLW_law 130 = .ok (.invokevirtual 18, 3) := by decide +kernel
theorem dLW_law_133 : decode cLW_law 133 = .ok (.aload_n 2, 1) := by decide +kernel
theorem dLW_law_134 : decode cLW_law 134 = .ok (.invokevirtual 21, 3) := by decide +kernel
theorem dLW_law_137 : decode cLW_law 137 = .ok (.if_icmp .eq 478, 3) := by decide +kernel
theorem dLW_law_142 : decode cLW_law 142 = .ok (.aload_n 1, 1) := by decide +kernel
theorem dLW_law_143 : decode cLW_law 143 = .ok (.aload_n 0, 1) := by decide +kernel
theorem dLW_law_144 : decode cLW_law 144 = .ok (.iload_n 3, 1) := by decide +kernel
theorem dLW_law_145 : decode cLW_law 145 = .ok (.iconst 1, 1) := by decide +kernel
theorem dLW_law_146 : decode cLW_law 146 = .ok (.iadd, 1) := by decide +kernel
theorem dLW_law_147 : decode cLW_law 147 = .ok (.iaload, 1) := by decide +kernel
theorem dLW_law_148 : decode cLW_law 148 = .ok (.aload_n 0, 1) := by decide +kernel
theorem dLW_law_149 : decode cLW_law 149 = .ok (.iload_n 3, 1) := by decide +kernel
theorem dLW_law_150 : decode cLW_law 150 = .ok (.iconst 2, 1) := by decide +kernel
theorem dLW_law_151 : decode cLW_law 151 = .ok (.iadd, 1) := by decide +kernel
theorem dLW_law_152 : decode cLW_law 152 = .ok (.iaload, 1) := by decide +kernel
theorem dLW_law_153 : decode cLW_law 153 = .ok (.aload_n 0, 1) := by decide +kernel
theorem dLW_law_154 : decode cLW_law 154 = .ok (.iload_n 3, 1) := by decide +kernel
theorem dLW_law_155 : decode cLW_law 155 = .ok (.iconst 3, 1) := by decide +kernel
theorem dLW_law_156 : decode cLW_law 156 = .ok (.iadd, 1) := by decide +kernel
theorem dLW_law_157 : decode cLW_law 157 = .ok (.iaload, 1) := by decide +kernel
theorem dLW_law_158 : decode cLW_law 158 = .ok (.aload_n 0, 1) := by decide +kernel
theorem dLW_law_159 : decode cLW_law 159 = .ok (.iload_n 3, 1) := by decide +kernel
theorem dLW_law_160 : decode cLW_law 160 = .ok (.iconst 4, 1) := by decide +kernel
theorem dLW_law_161 : decode cLW_law 161 = .ok (.iadd, 1) := by decide +kernel
theorem dLW_law_162 : decode cLW_law 162 = .ok (.iaload, 1) := by decide +kernel
theorem dLW_law_163 : decode cLW_law 163 = .ok (.aload_n 0, 1) := by decide +kernel
theorem dLW_law_164 : decode cLW_law 164 = .ok (.iload_n 3, 1) := by decide +kernel
theorem dLW_law_165 : decode cLW_law 165 = .ok (.iconst 5, 1) := by decide +kernel
theorem dLW_law_166 : decode cLW_law 166 = .ok (.iadd, 1) := by decide +kernel
theorem dLW_law_167 : decode cLW_law 167 = .ok (.iaload, 1) := by decide +kernel
theorem dLW_law_168 : decode cLW_law 168 = .ok (.invokevirtual 22, 3) := by decide +kernel
theorem dLW_law_171 : decode cLW_law 171 = .ok (.aload_n 2, 1) := by decide +kernel
theorem dLW_law_172 : decode cLW_law 172 = .ok (.aload_n 0, 1) := by decide +kernel
theorem dLW_law_173 : decode cLW_law 173 = .ok (.iload_n 3, 1) := by decide +kernel
theorem dLW_law_174 : decode cLW_law 174 = .ok (.iconst 1, 1) := by decide +kernel
theorem dLW_law_175 : decode cLW_law 175 = .ok (.iadd, 1) := by decide +kernel
theorem dLW_law_176 : decode cLW_law 176 = .ok (.iaload, 1) := by decide +kernel
theorem dLW_law_177 : decode cLW_law 177 = .ok (.aload_n 0, 1) := by decide +kernel
theorem dLW_law_178 : decode cLW_law 178 = .ok (.iload_n 3, 1) := by decide +kernel
theorem dLW_law_179 : decode cLW_law 179 = .ok (.iconst 2, 1) := by decide +kernel
theorem dLW_law_180 : decode cLW_law 180 = .ok (.iadd, 1) := by decide +kernel
theorem dLW_law_181 : decode cLW_law 181 = .ok (.iaload, 1) := by decide +kernel
theorem dLW_law_182 : decode cLW_law 182 = .ok (.aload_n 0, 1) := by decide +kernel
theorem dLW_law_183 : decode cLW_law 183 = .ok (.iload_n 3, 1) := by decide +kernel
theorem dLW_law_184 : decode cLW_law 184 = .ok (.iconst 3, 1) := by decide +kernel
theorem dLW_law_185 : decode cLW_law 185 = .ok (.iadd, 1) := by decide +kernel
theorem dLW_law_186 : decode cLW_law 186 = .ok (.iaload, 1) := by decide +kernel
theorem dLW_law_187 : decode cLW_law 187 = .ok (.aload_n 0, 1) := by decide +kernel
theorem dLW_law_188 : decode cLW_law 188 = .ok (.iload_n 3, 1) := by decide +kernel
theorem dLW_law_189 : decode cLW_law 189 = .ok (.iconst 4, 1) := by decide +kernel
theorem dLW_law_190 : decode cLW_law 190 = .ok (.iadd, 1) := by decide +kernel
theorem dLW_law_191 : decode cLW_law 191 = .ok (.iaload, 1) := by decide +kernel
theorem dLW_law_192 : decode cLW_law 192 = .ok (.aload_n 0, 1) := by decide +kernel
theorem dLW_law_193 : decode cLW_law 193 = .ok (.iload_n 3, 1) := by decide +kernel
theorem dLW_law_194 : decode cLW_law 194 = .ok (.iconst 5, 1) := by decide +kernel
theorem dLW_law_195 : decode cLW_law 195 = .ok (.iadd, 1) := by decide +kernel
theorem dLW_law_196 : decode cLW_law 196 = .ok (.iaload, 1) := by decide +kernel
theorem dLW_law_197 : decode cLW_law 197 = .ok (.invokevirtual 26, 3) := by decide +kernel
theorem dLW_law_200 : decode cLW_law 200 = .ok (.if_icmp .eq 415, 3) := by decide +kernel
theorem dLW_law_205 : decode cLW_law 205 = .ok (.aload_n 1, 1) := by decide +kernel
theorem dLW_law_206 : decode cLW_law 206 = .ok (.aload_n 0, 1) := by decide +kernel
theorem dLW_law_207 : decode cLW_law 207 = .ok (.iload_n 3, 1) := by decide +kernel
theorem dLW_law_208 : decode cLW_law 208 = .ok (.iconst 1, 1) := by decide +kernel
theorem dLW_law_209 : decode cLW_law 209 = .ok (.iadd, 1) := by decide +kernel
theorem dLW_law_210 : decode cLW_law 210 = .ok (.iaload, 1) := by decide +kernel
theorem dLW_law_211 : decode cLW_law 211 = .ok (.aload_n 0, 1) := by decide +kernel
theorem dLW_law_212 : decode cLW_law 212 = .ok (.iload_n 3, 1) := by decide +kernel
theorem dLW_law_213 : decode cLW_law 213 = .ok (.iconst 2, 1) := by decide +kernel
theorem dLW_law_214 : decode cLW_law 214 = .ok (.iadd, 1) := by decide +kernel
theorem dLW_law_215 : decode cLW_law 215 = .ok (.iaload, 1) := by decide +kernel
theorem dLW_law_216 : decode cLW_law 216 = .ok (.aload_n 0, 1) := by decide +kernel
theorem dLW_law_217 : decode cLW_law 217 = .ok (.iload_n 3, 1) := by decide +kernel
theorem dLW_law_218 : decode cLW_law 218 = .ok (.iconst 3, 1) := by decide +kernel
theorem dLW_law_219 : decode cLW_law 219 = .ok (.iadd, 1) := by decide +kernel
theorem dLW_law_220 : decode cLW_law 220 = .ok (.iaload, 1) := by decide +kernel
theorem dLW_law_221 : decode cLW_law 221 = .ok (.invokevirtual 27, 3) := by decide +kernel
theorem dLW_law_224 : decode cLW_law 224 = .ok (.aload_n 2, 1) := by decide +kernel
theorem dLW_law_225 : decode cLW_law 225 = .ok (.aload_n 0, 1) := by decide +kernel
theorem dLW_law_226 : decode cLW_law 226 = .ok (.iload_n 3, 1) := by decide +kernel
theorem dLW_law_227 : decode cLW_law 227 = .ok (.iconst 1, 1) := by decide +kernel
theorem dLW_law_228 : decode cLW_law 228 = .ok (.iadd, 1) := by decide +kernel
theorem dLW_law_229 : decode cLW_law 229 = .ok (.iaload, 1) := by decide +kernel
theorem dLW_law_230 : decode cLW_law 230 = .ok (.aload_n 0, 1) := by decide +kernel
theorem dLW_law_231 : decode cLW_law 231 = .ok (.iload_n 3, 1) := by decide +kernel
theorem dLW_law_232 : decode cLW_law 232 = .ok (.iconst 2, 1) := by decide +kernel
theorem dLW_law_233 : decode cLW_law 233 = .ok (.iadd, 1) := by decide +kernel
theorem dLW_law_234 : decode cLW_law 234 = .ok (.iaload, 1) := by decide +kernel
theorem dLW_law_235 : decode cLW_law 235 = .ok (.aload_n 0, 1) := by decide +kernel
theorem dLW_law_236 : decode cLW_law 236 = .ok (.iload_n 3, 1) := by decide +kernel
theorem dLW_law_237 : decode cLW_law 237 = .ok (.iconst 3, 1) := by decide +kernel
theorem dLW_law_238 : decode cLW_law 238 = .ok (.iadd, 1) := by decide +kernel
theorem dLW_law_239 : decode cLW_law 239 = .ok (.iaload, 1) := by decide +kernel
end
section
theorem dLW_law_240 : decode cLW_law 240 = .ok (.invokevirtual 31, 3) := by decide +kernel
theorem dLW_law_243 : decode cLW_law 243 = .ok (.if_icmp .eq 372, 3) := by decide +kernel
theorem dLW_law_248 : decode cLW_law 248 = .ok (.aload_n 1, 1) := by decide +kernel
theorem dLW_law_249 : decode cLW_law 249 = .ok (.aload_n 0, 1) := by decide +kernel
theorem dLW_law_250 : decode cLW_law 250 = .ok (.iload_n 3, 1) := by decide +kernel
theorem dLW_law_251 : decode cLW_law 251 = .ok (.iconst 1, 1) := by decide +kernel
theorem dLW_law_252 : decode cLW_law 252 = .ok (.iadd, 1) := by decide +kernel
theorem dLW_law_253 : decode cLW_law 253 = .ok (.iaload, 1) := by decide +kernel
theorem dLW_law_254 : decode cLW_law 254 = .ok (.aload_n 0, 1) := by decide +kernel
theorem dLW_law_255 : decode cLW_law 255 = .ok (.iload_n 3, 1) := by decide +kernel
theorem dLW_law_256 : decode cLW_law 256 = .ok (.iconst 2, 1) := by decide +kernel
theorem dLW_law_257 : decode cLW_law 257 = .ok (.iadd, 1) := by decide +kernel
theorem dLW_law_258 : decode cLW_law 258 = .ok (.iaload, 1) := by decide +kernel
theorem dLW_law_259 : decode cLW_law 259 = .ok (.aload_n 0, 1) := by decide +kernel
theorem dLW_law_260 : decode cLW_law 260 = .ok (.iload_n 3, 1) := by decide +kernel
theorem dLW_law_261 : decode cLW_law 261 = .ok (.iconst 3, 1) := by decide +kernel
theorem dLW_law_262 : decode cLW_law 262 = .ok (.iadd, 1) := by decide +kernel
theorem dLW_law_263 : decode cLW_law 263 = .ok (.iaload, 1) := by decide +kernel
theorem dLW_law_264 : decode cLW_law 264 = .ok (.ifCond .eq 7, 3) := by decide +kernel
theorem dLW_law_267 : decode cLW_law 267 = .ok (.iconst 1, 1) := by decide +kernel
theorem dLW_law_268 : decode cLW_law 268 = .ok (.goto 4, 3) := by decide +kernel
theorem dLW_law_271 : decode cLW_law 271 = .ok (.iconst 0, 1) := by decide +kernel
theorem dLW_law_272 : decode cLW_law 272 = .ok (.invokevirtual 32, 3) := by decide +kernel
theorem dLW_law_275 : decode cLW_law 275 = .ok (.aload_n 2, 1) := by decide +kernel
theorem dLW_law_276 : decode cLW_law 276 = .ok (.aload_n 0, 1) := by decide +kernel
theorem dLW_law_277 : decode cLW_law 277 = .ok (.iload_n 3, 1) := by decide +kernel
theorem dLW_law_278 : decode cLW_law 278 = .ok (.iconst 1, 1) := by decide +kernel
theorem dLW_law_279 : decode cLW_law 279 = .ok (.iadd, 1) := by decide +kernel
theorem dLW_law_280 : decode cLW_law 280 = .ok (.iaload, 1) := by decide +kernel
theorem dLW_law_281 : decode cLW_law 281 = .ok (.aload_n 0, 1) := by decide +kernel
theorem dLW_law_282 : decode cLW_law 282 = .ok (.iload_n 3, 1) := by decide +kernel
theorem dLW_law_283 : decode cLW_law 283 = .ok (.iconst 2, 1) := by decide +kernel
theorem dLW_law_284 : decode cLW_law 284 = .ok (.iadd, 1) := by decide +kernel
theorem dLW_law_285 : decode cLW_law 285 = .ok (.iaload, 1) := by decide +kernel
theorem dLW_law_286 : decode cLW_law 286 = .ok (.aload_n 0, 1) := by decide +kernel
theorem dLW_law_287 : decode cLW_law 287 = .ok (.iload_n 3, 1) := by decide +kernel
theorem dLW_law_288 : decode cLW_law 288 = .ok (.iconst 3, 1) := by decide +kernel
theorem dLW_law_289 : decode cLW_law 289 = .ok (.iadd, 1) := by decide +kernel
theorem dLW_law_290 : decode cLW_law 290 = .ok (.iaload, 1) := by decide +kernel
theorem dLW_law_291 : decode cLW_law 291 = .ok (.ifCond .eq 7, 3) := by decide +kernel
theorem dLW_law_294 : decode cLW_law 294 = .ok (.iconst 1, 1) := by decide +kernel
theorem dLW_law_295 : decode cLW_law 295 = .ok (.goto 4, 3) := by decide +kernel
theorem dLW_law_298 : decode cLW_law 298 = .ok (.iconst 0, 1) := by decide +kernel
theorem dLW_law_299 : decode cLW_law 299 = .ok (.invokevirtual 36, 3) := by decide +kernel
theorem dLW_law_302 : decode cLW_law 302 = .ok (.if_icmp .eq 313, 3) := by decide +kernel
theorem dLW_law_307 : decode cLW_law 307 = .ok (.aload_n 1, 1) := by decide +kernel
theorem dLW_law_308 : decode cLW_law 308 = .ok (.invokevirtual 37, 3) := by decide +kernel
theorem dLW_law_311 : decode cLW_law 311 = .ok (.aload_n 2, 1) := by decide +kernel
theorem dLW_law_312 : decode cLW_law 312 = .ok (.invokevirtual 40, 3) := by decide +kernel
theorem dLW_law_315 : decode cLW_law 315 = .ok (.if_icmp .eq 300, 3) := by decide +kernel
theorem dLW_law_320 : decode cLW_law 320 = .ok (.aload_n 1, 1) := by decide +kernel
theorem dLW_law_321 : decode cLW_law 321 = .ok (.invokevirtual 41, 3) := by decide +kernel
theorem dLW_law_324 : decode cLW_law 324 = .ok (.aload_n 2, 1) := by decide +kernel
theorem dLW_law_325 : decode cLW_law 325 = .ok (.invokevirtual 44, 3) := by decide +kernel
theorem dLW_law_328 : decode cLW_law 328 = .ok (.if_icmp .eq 287, 3) := by decide +kernel
theorem dLW_law_333 : decode cLW_law 333 = .ok (.aload_n 1, 1) := by decide +kernel
theorem dLW_law_334 : decode cLW_law 334 = .ok (.invokevirtual 45, 3) := by decide +kernel
theorem dLW_law_337 : decode cLW_law 337 = .ok (.aload_n 2, 1) := by decide +kernel
theorem dLW_law_338 : decode cLW_law 338 = .ok (.invokevirtual 48, 3) := by decide +kernel
theorem dLW_law_341 : decode cLW_law 341 = .ok (.if_icmp .eq 274, 3) := by decide +kernel
theorem dLW_law_346 : decode cLW_law 346 = .ok (.aload_n 1, 1) := by decide +kernel
theorem dLW_law_347 : decode cLW_law 347 = .ok (.aload_n 0, 1) := by decide +kernel
theorem dLW_law_348 : decode cLW_law 348 = .ok (.iload_n 3, 1) := by decide +kernel
theorem dLW_law_349 : decode cLW_law 349 = .ok (.iconst 1, 1) := by decide +kernel
theorem dLW_law_350 : decode cLW_law 350 = .ok (.iadd, 1) := by decide +kernel
theorem dLW_law_351 : decode cLW_law 351 = .ok (.iaload, 1) := by decide +kernel
theorem dLW_law_352 : decode cLW_law 352 = .ok (.aload_n 0, 1) := by decide +kernel
theorem dLW_law_353 : decode cLW_law 353 = .ok (.iload_n 3, 1) := by decide +kernel
theorem dLW_law_354 : decode cLW_law 354 = .ok (.iconst 2, 1) := by decide +kernel
theorem dLW_law_355 : decode cLW_law 355 = .ok (.iadd, 1) := by decide +kernel
theorem dLW_law_356 : decode cLW_law 356 = .ok (.iaload, 1) := by decide +kernel
theorem dLW_law_357 : decode cLW_law 357 = .ok (.invokevirtual 49, 3) := by decide +kernel
theorem dLW_law_360 : decode cLW_law 360 = .ok (.aload_n 2, 1) := by decide +kernel
theorem dLW_law_361 : decode cLW_law 361 = .ok (.aload_n 0, 1) := by decide +kernel
theorem dLW_law_362 : decode cLW_law 362 = .ok (.iload_n 3, 1) := by decide +kernel
theorem dLW_law_363 : decode cLW_law 363 = .ok (.iconst 1, 1) := by decide +kernel
theorem dLW_law_364 : decode cLW_law 364 = .ok (.iadd, 1) := by decide +kernel
theorem dLW_law_365 : decode cLW_law 365 = .ok (.iaload, 1) := by decide +kernel
theorem dLW_law_366 : decode cLW_law 366 = .ok (.aload_n 0, 1) := by decide +kernel
theorem dLW_law_367 : decode cLW_law 367 = .ok (.iload_n 3, 1) := by decide +kernel
theorem dLW_law_368 : decode cLW_law 368 = .ok (.iconst 2, 1) := by decide +kernel
theorem dLW_law_369 : decode cLW_law 369 = .ok (.iadd, 1) := by decide +kernel
theorem dLW_law_370 : decode cLW_law 370 = .ok (.iaload, 1) := by decide +kernel
theorem dLW_law_371 : decode cLW_law 371 = .ok (.invokevirtual 53, 3) := by decide +kernel
theorem dLW_law_374 : decode cLW_law 374 = .ok (.if_icmp .eq 241, 3) := by decide +kernel
theorem dLW_law_379 : decode cLW_law 379 = .ok (.aload_n 1, 1) := by decide +kernel
theorem dLW_law_380 : decode cLW_law 380 = .ok (.invokevirtual 54, 3) := by decide +kernel
theorem dLW_law_383 : decode cLW_law 383 = .ok (.aload_n 2, 1) := by decide +kernel
theorem dLW_law_384 : decode cLW_law 384 = .ok (.invokevirtual 57, 3) := by decide +kernel
theorem dLW_law_387 : decode cLW_law 387 = .ok (.if_icmp .eq 228, 3) := by decide +kernel
theorem dLW_law_392 : decode cLW_law 392 = .ok (.aload_n 1, 1) := by decide +kernel
theorem dLW_law_393 : decode cLW_law 393 = .ok (.invokevirtual 58, 3) := by decide +kernel
theorem dLW_law_396 : decode cLW_law 396 = .ok (.aload_n 2, 1) := by decide +kernel
theorem dLW_law_397 : decode cLW_law 397 = .ok (.invokevirtual 61, 3) := by decide +kernel
theorem dLW_law_400 : decode cLW_law 400 = .ok (.if_icmp .eq 215, 3) := by decide +kernel
theorem dLW_law_405 : decode cLW_law 405 = .ok (.aload_n 1, 1) := by decide +kernel
theorem dLW_law_406 : decode cLW_law 406 = .ok (.aload_n 0, 1) := by decide +kernel
theorem dLW_law_407 : decode cLW_law 407 = .ok (.iload_n 3, 1) := by decide +kernel
theorem dLW_law_408 : decode cLW_law 408 = .ok (.iconst 1, 1) := by decide +kernel
theorem dLW_law_409 : decode cLW_law 409 = .ok (.iadd, 1) := by decide +kernel
theorem dLW_law_410 : decode cLW_law 410 = .ok (.iaload, 1) := by decide +kernel
theorem dLW_law_411 : decode cLW_law 411 = .ok (.invokevirtual 62, 3) := by decide +kernel
theorem dLW_law_414 : decode cLW_law 414 = .ok (.aload_n 2, 1) := by decide +kernel
theorem dLW_law_415 : decode cLW_law 415 = .ok (.aload_n 0, 1) := by decide +kernel
theorem dLW_law_416 : decode cLW_law 416 = .ok (.iload_n 3, 1) := by decide +kernel
theorem dLW_law_417 : decode cLW_law 417 = .ok (.iconst 1, 1) := by decide +kernel
theorem dLW_law_418 : decode cLW_law 418 = .ok (.iadd, 1) := by decide +kernel
theorem dLW_law_419 : decode cLW_law 419 = .ok (.iaload, 1) := by decide +kernel
theorem dLW_law_420 : decode cLW_law 420 = .ok (.invokevirtual 66, 3) := by decide +kernel
theorem dLW_law_423 : decode cLW_law 423 = .ok (.if_icmp .eq 192, 3) := by decide +kernel
theorem dLW_law_428 : decode cLW_law 428 = .ok (.aload_n 1, 1) := by decide +kernel
theorem dLW_law_429 : decode cLW_law 429 = .ok (.aload_n 0, 1) := by decide +kernel
theorem dLW_law_430 : decode cLW_law 430 = .ok (.iload_n 3, 1) := by decide +kernel
theorem dLW_law_431 : decode cLW_law 431 = .ok (.iconst 1, 1) := by decide +kernel
theorem dLW_law_432 : decode cLW_law 432 = .ok (.iadd, 1) := by decide +kernel
theorem dLW_law_433 : decode cLW_law 433 = .ok (.iaload, 1) := by decide +kernel
theorem dLW_law_434 : decode cLW_law 434 = .ok (.aload_n 0, 1) := by decide +kernel
theorem dLW_law_435 : decode cLW_law 435 = .ok (.iload_n 3, 1) := by decide +kernel
theorem dLW_law_436 : decode cLW_law 436 = .ok (.iconst 2, 1) := by decide +kernel
theorem dLW_law_437 : decode cLW_law 437 = .ok (.iadd, 1) := by decide +kernel
end
section
theorem dLW_law_438 : decode cLW_law 438 = .ok (.iaload, 1) := by decide +kernel
theorem dLW_law_439 : decode cLW_law 439 = .ok (.invokevirtual 67, 3) := by decide +kernel
theorem dLW_law_442 : decode cLW_law 442 = .ok (.aload_n 2, 1) := by decide +kernel
theorem dLW_law_443 : decode cLW_law 443 = .ok (.aload_n 0, 1) := by decide +kernel
theorem dLW_law_444 : decode cLW_law 444 = .ok (.iload_n 3, 1) := by decide +kernel
theorem dLW_law_445 : decode cLW_law 445 = .ok (.iconst 1, 1) := by decide +kernel
theorem dLW_law_446 : decode cLW_law 446 = .ok (.iadd, 1) := by decide +kernel
theorem dLW_law_447 : decode cLW_law 447 = .ok (.iaload, 1) := by decide +kernel
theorem dLW_law_448 : decode cLW_law 448 = .ok (.aload_n 0, 1) := by decide +kernel
theorem dLW_law_449 : decode cLW_law 449 = .ok (.iload_n 3, 1) := by decide +kernel
theorem dLW_law_450 : decode cLW_law 450 = .ok (.iconst 2, 1) := by decide +kernel
theorem dLW_law_451 : decode cLW_law 451 = .ok (.iadd, 1) := by decide +kernel
theorem dLW_law_452 : decode cLW_law 452 = .ok (.iaload, 1) := by decide +kernel
theorem dLW_law_453 : decode cLW_law 453 = .ok (.invokevirtual 70, 3) := by decide +kernel
theorem dLW_law_456 : decode cLW_law 456 = .ok (.if_icmp .eq 159, 3) := by decide +kernel
theorem dLW_law_461 : decode cLW_law 461 = .ok (.aload_n 1, 1) := by decide +kernel
theorem dLW_law_462 : decode cLW_law 462 = .ok (.aload_n 0, 1) := by decide +kernel
theorem dLW_law_463 : decode cLW_law 463 = .ok (.iload_n 3, 1) := by decide +kernel
theorem dLW_law_464 : decode cLW_law 464 = .ok (.iconst 1, 1) := by decide +kernel
theorem dLW_law_465 : decode cLW_law 465 = .ok (.iadd, 1) := by decide +kernel
theorem dLW_law_466 : decode cLW_law 466 = .ok (.iaload, 1) := by decide +kernel
theorem dLW_law_467 : decode cLW_law 467 = .ok (.invokevirtual 71, 3) := by decide +kernel
theorem dLW_law_470 : decode cLW_law 470 = .ok (.aload_n 2, 1) := by decide +kernel
theorem dLW_law_471 : decode cLW_law 471 = .ok (.aload_n 0, 1) := by decide +kernel
theorem dLW_law_472 : decode cLW_law 472 = .ok (.iload_n 3, 1) := by decide +kernel
theorem dLW_law_473 : decode cLW_law 473 = .ok (.iconst 1, 1) := by decide +kernel
theorem dLW_law_474 : decode cLW_law 474 = .ok (.iadd, 1) := by decide +kernel
theorem dLW_law_475 : decode cLW_law 475 = .ok (.iaload, 1) := by decide +kernel
theorem dLW_law_476 : decode cLW_law 476 = .ok (.invokevirtual 74, 3) := by decide +kernel
theorem dLW_law_479 : decode cLW_law 479 = .ok (.if_icmp .eq 136, 3) := by decide +kernel
theorem dLW_law_484 : decode cLW_law 484 = .ok (.aload_n 1, 1) := by decide +kernel
theorem dLW_law_485 : decode cLW_law 485 = .ok (.aload_n 0, 1) := by decide +kernel
theorem dLW_law_486 : decode cLW_law 486 = .ok (.iload_n 3, 1) := by decide +kernel
theorem dLW_law_487 : decode cLW_law 487 = .ok (.iconst 1, 1) := by decide +kernel
theorem dLW_law_488 : decode cLW_law 488 = .ok (.iadd, 1) := by decide +kernel
theorem dLW_law_489 : decode cLW_law 489 = .ok (.iaload, 1) := by decide +kernel
theorem dLW_law_490 : decode cLW_law 490 = .ok (.aload_n 0, 1) := by decide +kernel
theorem dLW_law_491 : decode cLW_law 491 = .ok (.iload_n 3, 1) := by decide +kernel
theorem dLW_law_492 : decode cLW_law 492 = .ok (.iconst 2, 1) := by decide +kernel
theorem dLW_law_493 : decode cLW_law 493 = .ok (.iadd, 1) := by decide +kernel
theorem dLW_law_494 : decode cLW_law 494 = .ok (.iaload, 1) := by decide +kernel
theorem dLW_law_495 : decode cLW_law 495 = .ok (.invokevirtual 75, 3) := by decide +kernel
theorem dLW_law_498 : decode cLW_law 498 = .ok (.aload_n 2, 1) := by decide +kernel
theorem dLW_law_499 : decode cLW_law 499 = .ok (.aload_n 0, 1) := by decide +kernel
theorem dLW_law_500 : decode cLW_law 500 = .ok (.iload_n 3, 1) := by decide +kernel
theorem dLW_law_501 : decode cLW_law 501 = .ok (.iconst 1, 1) := by decide +kernel
theorem dLW_law_502 : decode cLW_law 502 = .ok (.iadd, 1) := by decide +kernel
theorem dLW_law_503 : decode cLW_law 503 = .ok (.iaload, 1) := by decide +kernel
theorem dLW_law_504 : decode cLW_law 504 = .ok (.aload_n 0, 1) := by decide +kernel
theorem dLW_law_505 : decode cLW_law 505 = .ok (.iload_n 3, 1) := by decide +kernel
theorem dLW_law_506 : decode cLW_law 506 = .ok (.iconst 2, 1) := by decide +kernel
theorem dLW_law_507 : decode cLW_law 507 = .ok (.iadd, 1) := by decide +kernel
theorem dLW_law_508 : decode cLW_law 508 = .ok (.iaload, 1) := by decide +kernel
theorem dLW_law_509 : decode cLW_law 509 = .ok (.invokevirtual 78, 3) := by decide +kernel
theorem dLW_law_512 : decode cLW_law 512 = .ok (.if_icmp .eq 103, 3) := by decide +kernel
theorem dLW_law_517 : decode cLW_law 517 = .ok (.aload_n 1, 1) := by decide +kernel
theorem dLW_law_518 : decode cLW_law 518 = .ok (.aload_n 0, 1) := by decide +kernel
theorem dLW_law_519 : decode cLW_law 519 = .ok (.iload_n 3, 1) := by decide +kernel
theorem dLW_law_520 : decode cLW_law 520 = .ok (.iconst 1, 1) := by decide +kernel
theorem dLW_law_521 : decode cLW_law 521 = .ok (.iadd, 1) := by decide +kernel
theorem dLW_law_522 : decode cLW_law 522 = .ok (.iaload, 1) := by decide +kernel
theorem dLW_law_523 : decode cLW_law 523 = .ok (.ifCond .eq 7, 3) := by decide +kernel
theorem dLW_law_526 : decode cLW_law 526 = .ok (.iconst 1, 1) := by decide +kernel
theorem dLW_law_527 : decode cLW_law 527 = .ok (.goto 4, 3) := by decide +kernel
theorem dLW_law_530 : decode cLW_law 530 = .ok (.iconst 0, 1) := by decide +kernel
theorem dLW_law_531 : decode cLW_law 531 = .ok (.invokevirtual 79, 3) := by decide +kernel
theorem dLW_law_534 : decode cLW_law 534 = .ok (.aload_n 2, 1) := by decide +kernel
theorem dLW_law_535 : decode cLW_law 535 = .ok (.aload_n 0, 1) := by decide +kernel
theorem dLW_law_536 : decode cLW_law 536 = .ok (.iload_n 3, 1) := by decide +kernel
theorem dLW_law_537 : decode cLW_law 537 = .ok (.iconst 1, 1) := by decide +kernel
theorem dLW_law_538 : decode cLW_law 538 = .ok (.iadd, 1) := by decide +kernel
theorem dLW_law_539 : decode cLW_law 539 = .ok (.iaload, 1) := by decide +kernel
theorem dLW_law_540 : decode cLW_law 540 = .ok (.ifCond .eq 7, 3) := by decide +kernel
theorem dLW_law_543 : decode cLW_law 543 = .ok (.iconst 1, 1) := by decide +kernel
theorem dLW_law_544 : decode cLW_law 544 = .ok (.goto 4, 3) := by decide +kernel
theorem dLW_law_547 : decode cLW_law 547 = .ok (.iconst 0, 1) := by decide +kernel
theorem dLW_law_548 : decode cLW_law 548 = .ok (.invokevirtual 83, 3) := by decide +kernel
theorem dLW_law_551 : decode cLW_law 551 = .ok (.if_icmp .eq 64, 3) := by decide +kernel
theorem dLW_law_556 : decode cLW_law 556 = .ok (.aload_n 1, 1) := by decide +kernel
theorem dLW_law_557 : decode cLW_law 557 = .ok (.aload_n 0, 1) := by decide +kernel
theorem dLW_law_558 : decode cLW_law 558 = .ok (.iload_n 3, 1) := by decide +kernel
theorem dLW_law_559 : decode cLW_law 559 = .ok (.iconst 1, 1) := by decide +kernel
theorem dLW_law_560 : decode cLW_law 560 = .ok (.iadd, 1) := by decide +kernel
theorem dLW_law_561 : decode cLW_law 561 = .ok (.iaload, 1) := by decide +kernel
theorem dLW_law_562 : decode cLW_law 562 = .ok (.aload_n 0, 1) := by decide +kernel
theorem dLW_law_563 : decode cLW_law 563 = .ok (.iload_n 3, 1) := by decide +kernel
theorem dLW_law_564 : decode cLW_law 564 = .ok (.iconst 2, 1) := by decide +kernel
theorem dLW_law_565 : decode cLW_law 565 = .ok (.iadd, 1) := by decide +kernel
theorem dLW_law_566 : decode cLW_law 566 = .ok (.iaload, 1) := by decide +kernel
theorem dLW_law_567 : decode cLW_law 567 = .ok (.aload_n 0, 1) := by decide +kernel
theorem dLW_law_568 : decode cLW_law 568 = .ok (.iload_n 3, 1) := by decide +kernel
theorem dLW_law_569 : decode cLW_law 569 = .ok (.iconst 3, 1) := by decide +kernel
theorem dLW_law_570 : decode cLW_law 570 = .ok (.iadd, 1) := by decide +kernel
theorem dLW_law_571 : decode cLW_law 571 = .ok (.iaload, 1) := by decide +kernel
theorem dLW_law_572 : decode cLW_law 572 = .ok (.ifCond .eq 7, 3) := by decide +kernel
theorem dLW_law_575 : decode cLW_law 575 = .ok (.iconst 1, 1) := by decide +kernel
theorem dLW_law_576 : decode cLW_law 576 = .ok (.goto 4, 3) := by decide +kernel
theorem dLW_law_579 : decode cLW_law 579 = .ok (.iconst 0, 1) := by decide +kernel
theorem dLW_law_580 : decode cLW_law 580 = .ok (.invokevirtual 84, 3) := by decide +kernel
theorem dLW_law_583 : decode cLW_law 583 = .ok (.aload_n 2, 1) := by decide +kernel
theorem dLW_law_584 : decode cLW_law 584 = .ok (.aload_n 0, 1) := by decide +kernel
theorem dLW_law_585 : decode cLW_law 585 = .ok (.iload_n 3, 1) := by decide +kernel
theorem dLW_law_586 : decode cLW_law 586 = .ok (.iconst 1, 1) := by decide +kernel
theorem dLW_law_587 : decode cLW_law 587 = .ok (.iadd, 1) := by decide +kernel
theorem dLW_law_588 : decode cLW_law 588 = .ok (.iaload, 1) := by decide +kernel
theorem dLW_law_589 : decode cLW_law 589 = .ok (.aload_n 0, 1) := by decide +kernel
theorem dLW_law_590 : decode cLW_law 590 = .ok (.iload_n 3, 1) := by decide +kernel
theorem dLW_law_591 : decode cLW_law 591 = .ok (.iconst 2, 1) := by decide +kernel
theorem dLW_law_592 : decode cLW_law 592 = .ok (.iadd, 1) := by decide +kernel
theorem dLW_law_593 : decode cLW_law 593 = .ok (.iaload, 1) := by decide +kernel
theorem dLW_law_594 : decode cLW_law 594 = .ok (.aload_n 0, 1) := by decide +kernel
theorem dLW_law_595 : decode cLW_law 595 = .ok (.iload_n 3, 1) := by decide +kernel
theorem dLW_law_596 : decode cLW_law 596 = .ok (.iconst 3, 1) := by decide +kernel
theorem dLW_law_597 : decode cLW_law 597 = .ok (.iadd, 1) := by decide +kernel
theorem dLW_law_598 : decode cLW_law 598 = .ok (.iaload, 1) := by decide +kernel
theorem dLW_law_599 : decode cLW_law 599 = .ok (.ifCond .eq 7, 3) := by decide +kernel
theorem dLW_law_602 : decode cLW_law 602 = .ok (.iconst 1, 1) := by decide +kernel
theorem dLW_law_603 : decode cLW_law 603 = .ok (.goto 4, 3) := by decide +kernel
theorem dLW_law_606 : decode cLW_law 606 = .ok (.iconst 0, 1) := by decide +kernel
theorem dLW_law_607 : decode cLW_law 607 = .ok (.invokevirtual 88, 3) := by decide +kernel
end
section
theorem dLW_law_610 : decode cLW_law 610 = .ok (.if_icmp .eq 5, 3) := by decide +kernel
theorem dLW_law_615 : decode cLW_law 615 = .ok (.iinc 3 6, 3) := by decide +kernel
theorem dLW_law_618 : decode cLW_law 618 = .ok (.goto (-600), 3) := by decide +kernel
theorem dLW_law_621 : decode cLW_law 621 = .ok (.iconst 1, 1) := by decide +kernel
theorem dLW_law_622 : decode cLW_law 622 = .ok (.ireturn, 1) := by decide +kernel
theorem dMD_border_0 : decode cMD_border 0 = .ok (.aload_n 0, 1) := by decide +kernel
theorem dMD_border_1 : decode cMD_border 1 = .ok (.iload_n 1, 1) := by decide +kernel
theorem dMD_border_2 : decode cMD_border 2 = .ok (.invokevirtual 89, 3) := by decide +kernel
theorem dMD_border_5 : decode cMD_border 5 = .ok (.ifCond .eq 22, 3) := by decide +kernel
theorem dMD_border_27 : decode cMD_border 27 = .ok (.iconst 0, 1) := by decide +kernel
theorem dMD_border_28 : decode cMD_border 28 = .ok (.ireturn, 1) := by decide +kernel
theorem dMD_cell_0 : decode cMD_cell 0 = .ok (.iload_n 1, 1) := by decide +kernel
theorem dMD_cell_1 : decode cMD_cell 1 = .ok (.ifCond .le 54, 3) := by decide +kernel
theorem dMD_cell_4 : decode cMD_cell 4 = .ok (.iload_n 1, 1) := by decide +kernel
theorem dMD_cell_5 : decode cMD_cell 5 = .ok (.bipush 7, 2) := by decide +kernel
theorem dMD_cell_7 : decode cMD_cell 7 = .ok (.if_icmp .ge 48, 3) := by decide +kernel
theorem dMD_cell_10 : decode cMD_cell 10 = .ok (.iload_n 2, 1) := by decide +kernel
theorem dMD_cell_11 : decode cMD_cell 11 = .ok (.ifCond .lt 44, 3) := by decide +kernel
theorem dMD_cell_14 : decode cMD_cell 14 = .ok (.iload_n 2, 1) := by decide +kernel
theorem dMD_cell_15 : decode cMD_cell 15 = .ok (.bipush 7, 2) := by decide +kernel
theorem dMD_cell_17 : decode cMD_cell 17 = .ok (.if_icmp .ge 38, 3) := by decide +kernel
theorem dMD_cell_20 : decode cMD_cell 20 = .ok (.iload_n 3, 1) := by decide +kernel
theorem dMD_cell_21 : decode cMD_cell 21 = .ok (.ifCond .lt 34, 3) := by decide +kernel
theorem dMD_cell_24 : decode cMD_cell 24 = .ok (.iload_n 3, 1) := by decide +kernel
theorem dMD_cell_25 : decode cMD_cell 25 = .ok (.iload 4, 2) := by decide +kernel
theorem dMD_cell_27 : decode cMD_cell 27 = .ok (.if_icmp .gt 28, 3) := by decide +kernel
theorem dMD_cell_30 : decode cMD_cell 30 = .ok (.iload 4, 2) := by decide +kernel
theorem dMD_cell_32 : decode cMD_cell 32 = .ok (.sipush 1000, 3) := by decide +kernel
theorem dMD_cell_35 : decode cMD_cell 35 = .ok (.if_icmp .gt 20, 3) := by decide +kernel
theorem dMD_cell_38 : decode cMD_cell 38 = .ok (.iload 5, 2) := by decide +kernel
theorem dMD_cell_40 : decode cMD_cell 40 = .ok (.ifCond .lt 15, 3) := by decide +kernel
theorem dMD_cell_43 : decode cMD_cell 43 = .ok (.iload 5, 2) := by decide +kernel
theorem dMD_cell_45 : decode cMD_cell 45 = .ok (.sipush 1000, 3) := by decide +kernel
theorem dMD_cell_48 : decode cMD_cell 48 = .ok (.if_icmp .gt 7, 3) := by decide +kernel
theorem dMD_cell_51 : decode cMD_cell 51 = .ok (.iconst 1, 1) := by decide +kernel
theorem dMD_cell_52 : decode cMD_cell 52 = .ok (.goto 4, 3) := by decide +kernel
theorem dMD_cell_55 : decode cMD_cell 55 = .ok (.iconst 0, 1) := by decide +kernel
theorem dMD_cell_56 : decode cMD_cell 56 = .ok (.istore 6, 2) := by decide +kernel
theorem dMD_cell_58 : decode cMD_cell 58 = .ok (.iload 6, 2) := by decide +kernel
theorem dMD_cell_60 : decode cMD_cell 60 = .ok (.ifCond .eq 25, 3) := by decide +kernel
theorem dMD_cell_63 : decode cMD_cell 63 = .ok (.aload_n 0, 1) := by decide +kernel
theorem dMD_cell_64 : decode cMD_cell 64 = .ok (.getfield 50, 3) := by decide +kernel
theorem dMD_cell_67 : decode cMD_cell 67 = .ok (.aload_n 0, 1) := by decide +kernel
theorem dMD_cell_68 : decode cMD_cell 68 = .ok (.getfield 7, 3) := by decide +kernel
theorem dMD_cell_71 : decode cMD_cell 71 = .ok (.iconst 1, 1) := by decide +kernel
theorem dMD_cell_72 : decode cMD_cell 72 = .ok (.isub, 1) := by decide +kernel
theorem dMD_cell_73 : decode cMD_cell 73 = .ok (.if_icmp .ne 12, 3) := by decide +kernel
theorem dMD_cell_85 : decode cMD_cell 85 = .ok (.iconst (-1), 1) := by decide +kernel
theorem dMD_cell_86 : decode cMD_cell 86 = .ok (.ireturn, 1) := by decide +kernel
theorem dMD_clear_0 : decode cMD_clear 0 = .ok (.aload_n 0, 1) := by decide +kernel
theorem dMD_clear_1 : decode cMD_clear 1 = .ok (.getfield 72, 3) := by decide +kernel
theorem dMD_clear_4 : decode cMD_clear 4 = .ok (.istore_n 1, 1) := by decide +kernel
theorem dMD_clear_5 : decode cMD_clear 5 = .ok (.aload_n 0, 1) := by decide +kernel
theorem dMD_clear_6 : decode cMD_clear 6 = .ok (.iconst 0, 1) := by decide +kernel
theorem dMD_clear_7 : decode cMD_clear 7 = .ok (.putfield 72, 3) := by decide +kernel
theorem dMD_clear_10 : decode cMD_clear 10 = .ok (.aload_n 0, 1) := by decide +kernel
theorem dMD_clear_11 : decode cMD_clear 11 = .ok (.iconst 1, 1) := by decide +kernel
theorem dMD_clear_12 : decode cMD_clear 12 = .ok (.putfield 7, 3) := by decide +kernel
theorem dMD_clear_15 : decode cMD_clear 15 = .ok (.aload_n 0, 1) := by decide +kernel
theorem dMD_clear_16 : decode cMD_clear 16 = .ok (.getfield 13, 3) := by decide +kernel
theorem dMD_clear_19 : decode cMD_clear 19 = .ok (.iconst 0, 1) := by decide +kernel
theorem dMD_clear_20 : decode cMD_clear 20 = .ok (.iconst 0, 1) := by decide +kernel
theorem dMD_clear_21 : decode cMD_clear 21 = .ok (.iastore, 1) := by decide +kernel
theorem dMD_clear_22 : decode cMD_clear 22 = .ok (.aload_n 0, 1) := by decide +kernel
theorem dMD_clear_23 : decode cMD_clear 23 = .ok (.getfield 17, 3) := by decide +kernel
theorem dMD_clear_26 : decode cMD_clear 26 = .ok (.iconst 0, 1) := by decide +kernel
theorem dMD_clear_27 : decode cMD_clear 27 = .ok (.iconst 0, 1) := by decide +kernel
theorem dMD_clear_28 : decode cMD_clear 28 = .ok (.iastore, 1) := by decide +kernel
theorem dMD_clear_29 : decode cMD_clear 29 = .ok (.aload_n 0, 1) := by decide +kernel
theorem dMD_clear_30 : decode cMD_clear 30 = .ok (.iconst (-1), 1) := by decide +kernel
theorem dMD_clear_31 : decode cMD_clear 31 = .ok (.putfield 50, 3) := by decide +kernel
theorem dMD_clear_34 : decode cMD_clear 34 = .ok (.iload_n 1, 1) := by decide +kernel
theorem dMD_clear_35 : decode cMD_clear 35 = .ok (.ireturn, 1) := by decide +kernel
theorem dMD_columns_0 : decode cMD_columns 0 = .ok (.iconst 0, 1) := by decide +kernel
theorem dMD_columns_1 : decode cMD_columns 1 = .ok (.istore_n 1, 1) := by decide +kernel
theorem dMD_columns_2 : decode cMD_columns 2 = .ok (.iconst 0, 1) := by decide +kernel
theorem dMD_columns_3 : decode cMD_columns 3 = .ok (.istore_n 2, 1) := by decide +kernel
theorem dMD_columns_4 : decode cMD_columns 4 = .ok (.iload_n 2, 1) := by decide +kernel
theorem dMD_columns_5 : decode cMD_columns 5 = .ok (.aload_n 0, 1) := by decide +kernel
theorem dMD_columns_6 : decode cMD_columns 6 = .ok (.getfield 72, 3) := by decide +kernel
theorem dMD_columns_9 : decode cMD_columns 9 = .ok (.if_icmp .ge 44, 3) := by decide +kernel
theorem dMD_columns_53 : decode cMD_columns 53 = .ok (.iload_n 1, 1) := by decide +kernel
theorem dMD_columns_54 : decode cMD_columns 54 = .ok (.ireturn, 1) := by decide +kernel
theorem dMD_edge_0 : decode cMD_edge 0 = .ok (.iload_n 1, 1) := by decide +kernel
theorem dMD_edge_1 : decode cMD_edge 1 = .ok (.ifCond .lt 23, 3) := by decide +kernel
theorem dMD_edge_4 : decode cMD_edge 4 = .ok (.iload_n 1, 1) := by decide +kernel
theorem dMD_edge_5 : decode cMD_edge 5 = .ok (.aload_n 0, 1) := by decide +kernel
theorem dMD_edge_6 : decode cMD_edge 6 = .ok (.invokevirtual 113, 3) := by decide +kernel
theorem dMD_edge_9 : decode cMD_edge 9 = .ok (.if_icmp .ge 15, 3) := by decide +kernel
theorem dMD_edge_24 : decode cMD_edge 24 = .ok (.iconst (-1), 1) := by decide +kernel
theorem dMD_edge_25 : decode cMD_edge 25 = .ok (.ireturn, 1) := by decide +kernel
theorem dMD_empties_0 : decode cMD_empties 0 = .ok (.iconst 0, 1) := by decide +kernel
theorem dMD_empties_1 : decode cMD_empties 1 = .ok (.istore_n 1, 1) := by decide +kernel
theorem dMD_empties_2 : decode cMD_empties 2 = .ok (.iconst 0, 1) := by decide +kernel
theorem dMD_empties_3 : decode cMD_empties 3 = .ok (.istore_n 2, 1) := by decide +kernel
theorem dMD_empties_4 : decode cMD_empties 4 = .ok (.iload_n 2, 1) := by decide +kernel
theorem dMD_empties_5 : decode cMD_empties 5 = .ok (.bipush 12, 2) := by decide +kernel
theorem dMD_empties_7 : decode cMD_empties 7 = .ok (.if_icmp .ge 124, 3) := by decide +kernel
theorem dMD_empties_10 : decode cMD_empties 10 = .ok (.iload_n 2, 1) := by decide +kernel
theorem dMD_empties_11 : decode cMD_empties 11 = .ok (.aload_n 0, 1) := by decide +kernel
theorem dMD_empties_12 : decode cMD_empties 12 = .ok (.invokevirtual 113, 3) := by decide +kernel
theorem dMD_empties_15 : decode cMD_empties 15 = .ok (.if_icmp .ge 7, 3) := by decide +kernel
theorem dMD_empties_22 : decode cMD_empties 22 = .ok (.iconst 0, 1) := by decide +kernel
theorem dMD_empties_23 : decode cMD_empties 23 = .ok (.istore_n 3, 1) := by decide +kernel
theorem dMD_empties_24 : decode cMD_empties 24 = .ok (.iload_n 2, 1) := by decide +kernel
theorem dMD_empties_25 : decode cMD_empties 25 = .ok (.aload_n 0, 1) := by decide +kernel
theorem dMD_empties_26 : decode cMD_empties 26 = .ok (.invokevirtual 117, 3) := by decide +kernel
theorem dMD_empties_29 : decode cMD_empties 29 = .ok (.if_icmp .ge 7, 3) := by decide +kernel
theorem dMD_empties_36 : decode cMD_empties 36 = .ok (.iconst 0, 1) := by decide +kernel
theorem dMD_empties_37 : decode cMD_empties 37 = .ok (.istore 4, 2) := by decide +kernel
theorem dMD_empties_39 : decode cMD_empties 39 = .ok (.iconst 0, 1) := by decide +kernel
theorem dMD_empties_40 : decode cMD_empties 40 = .ok (.istore 5, 2) := by decide +kernel
theorem dMD_empties_42 : decode cMD_empties 42 = .ok (.iload 5, 2) := by decide +kernel
theorem dMD_empties_44 : decode cMD_empties 44 = .ok (.aload_n 0, 1) := by decide +kernel
theorem dMD_empties_45 : decode cMD_empties 45 = .ok (.getfield 72, 3) := by decide +kernel
theorem dMD_empties_48 : decode cMD_empties 48 = .ok (.if_icmp .ge 53, 3) := by decide +kernel
theorem dMD_empties_101 : decode cMD_empties 101 = .ok (.iload_n 1, 1) := by decide +kernel
theorem dMD_empties_102 : decode cMD_empties 102 = .ok (.iload_n 3, 1) := by decide +kernel
theorem dMD_empties_103 : decode cMD_empties 103 = .ok (.ifCond .eq 7, 3) := by decide +kernel
theorem dMD_empties_110 : decode cMD_empties 110 = .ok (.iconst 0, 1) := by decide +kernel
end
section
theorem dMD_empties_111 : decode cMD_empties 111 = .ok (.iadd, 1) := by decide +kernel
theorem dMD_empties_112 : decode cMD_empties 112 = .ok (.iload 4, 2) := by decide +kernel
theorem dMD_empties_114 : decode cMD_empties 114 = .ok (.ifCond .eq 8, 3) := by decide +kernel
theorem dMD_empties_122 : decode cMD_empties 122 = .ok (.iconst 0, 1) := by decide +kernel
theorem dMD_empties_123 : decode cMD_empties 123 = .ok (.iadd, 1) := by decide +kernel
theorem dMD_empties_124 : decode cMD_empties 124 = .ok (.istore_n 1, 1) := by decide +kernel
theorem dMD_empties_125 : decode cMD_empties 125 = .ok (.iinc 2 1, 3) := by decide +kernel
theorem dMD_empties_128 : decode cMD_empties 128 = .ok (.goto (-124), 3) := by decide +kernel
theorem dMD_empties_131 : decode cMD_empties 131 = .ok (.iload_n 1, 1) := by decide +kernel
theorem dMD_empties_132 : decode cMD_empties 132 = .ok (.ireturn, 1) := by decide +kernel
theorem dMD_endOf_0 : decode cMD_endOf 0 = .ok (.aload_n 0, 1) := by decide +kernel
theorem dMD_endOf_1 : decode cMD_endOf 1 = .ok (.getfield 13, 3) := by decide +kernel
theorem dMD_endOf_4 : decode cMD_endOf 4 = .ok (.iload_n 1, 1) := by decide +kernel
theorem dMD_endOf_5 : decode cMD_endOf 5 = .ok (.iaload, 1) := by decide +kernel
theorem dMD_endOf_6 : decode cMD_endOf 6 = .ok (.aload_n 0, 1) := by decide +kernel
theorem dMD_endOf_7 : decode cMD_endOf 7 = .ok (.getfield 17, 3) := by decide +kernel
theorem dMD_endOf_10 : decode cMD_endOf 10 = .ok (.iload_n 1, 1) := by decide +kernel
theorem dMD_endOf_11 : decode cMD_endOf 11 = .ok (.iaload, 1) := by decide +kernel
theorem dMD_endOf_12 : decode cMD_endOf 12 = .ok (.iadd, 1) := by decide +kernel
theorem dMD_endOf_13 : decode cMD_endOf 13 = .ok (.istore_n 2, 1) := by decide +kernel
theorem dMD_endOf_14 : decode cMD_endOf 14 = .ok (.iconst 0, 1) := by decide +kernel
theorem dMD_endOf_15 : decode cMD_endOf 15 = .ok (.istore_n 3, 1) := by decide +kernel
theorem dMD_endOf_16 : decode cMD_endOf 16 = .ok (.iload_n 3, 1) := by decide +kernel
theorem dMD_endOf_17 : decode cMD_endOf 17 = .ok (.aload_n 0, 1) := by decide +kernel
theorem dMD_endOf_18 : decode cMD_endOf 18 = .ok (.getfield 72, 3) := by decide +kernel
theorem dMD_endOf_21 : decode cMD_endOf 21 = .ok (.if_icmp .ge 60, 3) := by decide +kernel
theorem dMD_endOf_81 : decode cMD_endOf 81 = .ok (.iload_n 2, 1) := by decide +kernel
theorem dMD_endOf_82 : decode cMD_endOf 82 = .ok (.ireturn, 1) := by decide +kernel
theorem dMD_findHeights_0 : decode cMD_findHeights 0 = .ok (.iconst 0, 1) := by decide +kernel
theorem dMD_findHeights_1 : decode cMD_findHeights 1 = .ok (.istore_n 1, 1) := by decide +kernel
theorem dMD_findHeights_2 : decode cMD_findHeights 2 = .ok (.iload_n 1, 1) := by decide +kernel
theorem dMD_findHeights_3 : decode cMD_findHeights 3 = .ok (.bipush 12, 2) := by decide +kernel
theorem dMD_findHeights_5 : decode cMD_findHeights 5 = .ok (.if_icmp .ge 16, 3) := by decide +kernel
theorem dMD_findHeights_8 : decode cMD_findHeights 8 = .ok (.aload_n 0, 1) := by decide +kernel
theorem dMD_findHeights_9 : decode cMD_findHeights 9 = .ok (.getfield 62, 3) := by decide +kernel
theorem dMD_findHeights_12 : decode cMD_findHeights 12 = .ok (.iload_n 1, 1) := by decide +kernel
theorem dMD_findHeights_13 : decode cMD_findHeights 13 = .ok (.iconst 0, 1) := by decide +kernel
theorem dMD_findHeights_14 : decode cMD_findHeights 14 = .ok (.iastore, 1) := by decide +kernel
theorem dMD_findHeights_15 : decode cMD_findHeights 15 = .ok (.iinc 1 1, 3) := by decide +kernel
theorem dMD_findHeights_18 : decode cMD_findHeights 18 = .ok (.goto (-16), 3) := by decide +kernel
theorem dMD_findHeights_21 : decode cMD_findHeights 21 = .ok (.iconst 1, 1) := by decide +kernel
theorem dMD_findHeights_22 : decode cMD_findHeights 22 = .ok (.istore_n 1, 1) := by decide +kernel
theorem dMD_findHeights_23 : decode cMD_findHeights 23 = .ok (.iload_n 1, 1) := by decide +kernel
theorem dMD_findHeights_24 : decode cMD_findHeights 24 = .ok (.bipush 13, 2) := by decide +kernel
theorem dMD_findHeights_26 : decode cMD_findHeights 26 = .ok (.if_icmp .ge 134, 3) := by decide +kernel
theorem dMD_findHeights_29 : decode cMD_findHeights 29 = .ok (.iconst 0, 1) := by decide +kernel
theorem dMD_findHeights_30 : decode cMD_findHeights 30 = .ok (.istore_n 2, 1) := by decide +kernel
theorem dMD_findHeights_31 : decode cMD_findHeights 31 = .ok (.iload_n 2, 1) := by decide +kernel
theorem dMD_findHeights_32 : decode cMD_findHeights 32 = .ok (.aload_n 0, 1) := by decide +kernel
theorem dMD_findHeights_33 : decode cMD_findHeights 33 = .ok (.getfield 72, 3) := by decide +kernel
theorem dMD_findHeights_36 : decode cMD_findHeights 36 = .ok (.if_icmp .ge 118, 3) := by decide +kernel
theorem dMD_findHeights_154 : decode cMD_findHeights 154 = .ok (.iinc 1 1, 3) := by decide +kernel
theorem dMD_findHeights_157 : decode cMD_findHeights 157 = .ok (.goto (-134), 3) := by decide +kernel
theorem dMD_findHeights_160 : decode cMD_findHeights 160 = .ok (.return_, 1) := by decide +kernel
theorem dMD_findWidths_0 : decode cMD_findWidths 0 = .ok (.aload_n 0, 1) := by decide +kernel
theorem dMD_findWidths_1 : decode cMD_findWidths 1 = .ok (.invokevirtual 143, 3) := by decide +kernel
theorem dMD_findWidths_4 : decode cMD_findWidths 4 = .ok (.aload_n 0, 1) := by decide +kernel
theorem dMD_findWidths_5 : decode cMD_findWidths 5 = .ok (.getfield 98, 3) := by decide +kernel
theorem dMD_findWidths_8 : decode cMD_findWidths 8 = .ok (.ifCond .eq 8, 3) := by decide +kernel
theorem dMD_findWidths_16 : decode cMD_findWidths 16 = .ok (.aload_n 0, 1) := by decide +kernel
theorem dMD_findWidths_17 : decode cMD_findWidths 17 = .ok (.invokevirtual 113, 3) := by decide +kernel
theorem dMD_findWidths_20 : decode cMD_findWidths 20 = .ok (.istore_n 1, 1) := by decide +kernel
theorem dMD_findWidths_21 : decode cMD_findWidths 21 = .ok (.aload_n 0, 1) := by decide +kernel
theorem dMD_findWidths_22 : decode cMD_findWidths 22 = .ok (.getfield 53, 3) := by decide +kernel
theorem dMD_findWidths_25 : decode cMD_findWidths 25 = .ok (.iconst 0, 1) := by decide +kernel
theorem dMD_findWidths_26 : decode cMD_findWidths 26 = .ok (.iload_n 1, 1) := by decide +kernel
theorem dMD_findWidths_27 : decode cMD_findWidths 27 = .ok (.invokestatic 128, 3) := by decide +kernel
theorem dMD_findWidths_30 : decode cMD_findWidths 30 = .ok (.istore_n 2, 1) := by decide +kernel
theorem dMD_findWidths_31 : decode cMD_findWidths 31 = .ok (.aload_n 0, 1) := by decide +kernel
theorem dMD_findWidths_32 : decode cMD_findWidths 32 = .ok (.getfield 56, 3) := by decide +kernel
theorem dMD_findWidths_35 : decode cMD_findWidths 35 = .ok (.iconst 0, 1) := by decide +kernel
theorem dMD_findWidths_36 : decode cMD_findWidths 36 = .ok (.iload_n 1, 1) := by decide +kernel
theorem dMD_findWidths_37 : decode cMD_findWidths 37 = .ok (.invokestatic 128, 3) := by decide +kernel
theorem dMD_findWidths_40 : decode cMD_findWidths 40 = .ok (.istore_n 3, 1) := by decide +kernel
theorem dMD_findWidths_41 : decode cMD_findWidths 41 = .ok (.aload_n 0, 1) := by decide +kernel
theorem dMD_findWidths_42 : decode cMD_findWidths 42 = .ok (.invokevirtual 140, 3) := by decide +kernel
theorem dMD_findWidths_45 : decode cMD_findWidths 45 = .ok (.iload_n 3, 1) := by decide +kernel
theorem dMD_findWidths_46 : decode cMD_findWidths 46 = .ok (.if_icmp .le 7, 3) := by decide +kernel
theorem dMD_findWidths_53 : decode cMD_findWidths 53 = .ok (.iconst 0, 1) := by decide +kernel
theorem dMD_findWidths_54 : decode cMD_findWidths 54 = .ok (.istore 4, 2) := by decide +kernel
theorem dMD_findWidths_56 : decode cMD_findWidths 56 = .ok (.iconst 0, 1) := by decide +kernel
theorem dMD_findWidths_57 : decode cMD_findWidths 57 = .ok (.istore 5, 2) := by decide +kernel
theorem dMD_findWidths_59 : decode cMD_findWidths 59 = .ok (.iload 5, 2) := by decide +kernel
theorem dMD_findWidths_61 : decode cMD_findWidths 61 = .ok (.bipush 12, 2) := by decide +kernel
theorem dMD_findWidths_63 : decode cMD_findWidths 63 = .ok (.if_icmp .ge 75, 3) := by decide +kernel
theorem dMD_findWidths_66 : decode cMD_findWidths 66 = .ok (.aload_n 0, 1) := by decide +kernel
theorem dMD_findWidths_67 : decode cMD_findWidths 67 = .ok (.getfield 59, 3) := by decide +kernel
theorem dMD_findWidths_70 : decode cMD_findWidths 70 = .ok (.iload 5, 2) := by decide +kernel
theorem dMD_findWidths_72 : decode cMD_findWidths 72 = .ok (.iload 4, 2) := by decide +kernel
theorem dMD_findWidths_74 : decode cMD_findWidths 74 = .ok (.ifCond .eq 13, 3) := by decide +kernel
theorem dMD_findWidths_87 : decode cMD_findWidths 87 = .ok (.aload_n 0, 1) := by decide +kernel
theorem dMD_findWidths_88 : decode cMD_findWidths 88 = .ok (.getfield 53, 3) := by decide +kernel
theorem dMD_findWidths_91 : decode cMD_findWidths 91 = .ok (.iload 5, 2) := by decide +kernel
theorem dMD_findWidths_93 : decode cMD_findWidths 93 = .ok (.iaload, 1) := by decide +kernel
theorem dMD_findWidths_94 : decode cMD_findWidths 94 = .ok (.iastore, 1) := by decide +kernel
theorem dMD_findWidths_95 : decode cMD_findWidths 95 = .ok (.aload_n 0, 1) := by decide +kernel
theorem dMD_findWidths_96 : decode cMD_findWidths 96 = .ok (.getfield 69, 3) := by decide +kernel
theorem dMD_findWidths_99 : decode cMD_findWidths 99 = .ok (.iload 5, 2) := by decide +kernel
theorem dMD_findWidths_101 : decode cMD_findWidths 101 = .ok (.iload 4, 2) := by decide +kernel
theorem dMD_findWidths_103 : decode cMD_findWidths 103 = .ok (.ifCond .eq 13, 3) := by decide +kernel
theorem dMD_findWidths_116 : decode cMD_findWidths 116 = .ok (.aload_n 0, 1) := by decide +kernel
theorem dMD_findWidths_117 : decode cMD_findWidths 117 = .ok (.getfield 56, 3) := by decide +kernel
theorem dMD_findWidths_120 : decode cMD_findWidths 120 = .ok (.iload 5, 2) := by decide +kernel
theorem dMD_findWidths_122 : decode cMD_findWidths 122 = .ok (.iaload, 1) := by decide +kernel
theorem dMD_findWidths_123 : decode cMD_findWidths 123 = .ok (.aload_n 0, 1) := by decide +kernel
theorem dMD_findWidths_124 : decode cMD_findWidths 124 = .ok (.getfield 53, 3) := by decide +kernel
theorem dMD_findWidths_127 : decode cMD_findWidths 127 = .ok (.iload 5, 2) := by decide +kernel
theorem dMD_findWidths_129 : decode cMD_findWidths 129 = .ok (.iaload, 1) := by decide +kernel
theorem dMD_findWidths_130 : decode cMD_findWidths 130 = .ok (.isub, 1) := by decide +kernel
theorem dMD_findWidths_131 : decode cMD_findWidths 131 = .ok (.iastore, 1) := by decide +kernel
theorem dMD_findWidths_132 : decode cMD_findWidths 132 = .ok (.iinc 5 1, 3) := by decide +kernel
theorem dMD_findWidths_135 : decode cMD_findWidths 135 = .ok (.goto (-76), 3) := by decide +kernel
theorem dMD_findWidths_138 : decode cMD_findWidths 138 = .ok (.aload_n 0, 1) := by decide +kernel
theorem dMD_findWidths_139 : decode cMD_findWidths 139 = .ok (.invokevirtual 140, 3) := by decide +kernel
theorem dMD_findWidths_142 : decode cMD_findWidths 142 = .ok (.iload_n 2, 1) := by decide +kernel
theorem dMD_findWidths_143 : decode cMD_findWidths 143 = .ok (.if_icmp .le 28, 3) := by decide +kernel
theorem dMD_findWidths_171 : decode cMD_findWidths 171 = .ok (.return_, 1) := by decide +kernel
theorem dMD_greater_0 : decode cMD_greater 0 = .ok (.iload_n 0, 1) := by decide +kernel
theorem dMD_greater_1 : decode cMD_greater 1 = .ok (.iload_n 1, 1) := by decide +kernel
theorem dMD_greater_2 : decode cMD_greater 2 = .ok (.if_icmp .le 7, 3) := by decide +kernel
end
section
theorem dMD_greater_9 : decode cMD_greater 9 = .ok (.iload_n 1, 1) := by decide +kernel
theorem dMD_greater_10 : decode cMD_greater 10 = .ok (.ireturn, 1) := by decide +kernel
theorem dMD_group_0 : decode cMD_group 0 = .ok (.aload_n 0, 1) := by decide +kernel
theorem dMD_group_1 : decode cMD_group 1 = .ok (.getfield 7, 3) := by decide +kernel
theorem dMD_group_4 : decode cMD_group 4 = .ok (.bipush 8, 2) := by decide +kernel
theorem dMD_group_6 : decode cMD_group 6 = .ok (.if_icmp .ne 5, 3) := by decide +kernel
theorem dMD_group_11 : decode cMD_group 11 = .ok (.aload_n 0, 1) := by decide +kernel
theorem dMD_group_12 : decode cMD_group 12 = .ok (.getfield 13, 3) := by decide +kernel
theorem dMD_group_15 : decode cMD_group 15 = .ok (.aload_n 0, 1) := by decide +kernel
theorem dMD_group_16 : decode cMD_group 16 = .ok (.getfield 7, 3) := by decide +kernel
theorem dMD_group_19 : decode cMD_group 19 = .ok (.aload_n 0, 1) := by decide +kernel
theorem dMD_group_20 : decode cMD_group 20 = .ok (.aload_n 0, 1) := by decide +kernel
theorem dMD_group_21 : decode cMD_group 21 = .ok (.getfield 7, 3) := by decide +kernel
theorem dMD_group_24 : decode cMD_group 24 = .ok (.iconst 1, 1) := by decide +kernel
theorem dMD_group_25 : decode cMD_group 25 = .ok (.isub, 1) := by decide +kernel
theorem dMD_group_26 : decode cMD_group 26 = .ok (.invokevirtual 75, 3) := by decide +kernel
theorem dMD_group_29 : decode cMD_group 29 = .ok (.iastore, 1) := by decide +kernel
theorem dMD_group_30 : decode cMD_group 30 = .ok (.aload_n 0, 1) := by decide +kernel
theorem dMD_group_31 : decode cMD_group 31 = .ok (.getfield 17, 3) := by decide +kernel
theorem dMD_group_34 : decode cMD_group 34 = .ok (.aload_n 0, 1) := by decide +kernel
theorem dMD_group_35 : decode cMD_group 35 = .ok (.getfield 7, 3) := by decide +kernel
theorem dMD_group_38 : decode cMD_group 38 = .ok (.iconst 0, 1) := by decide +kernel
theorem dMD_group_39 : decode cMD_group 39 = .ok (.iastore, 1) := by decide +kernel
theorem dMD_group_40 : decode cMD_group 40 = .ok (.aload_n 0, 1) := by decide +kernel
theorem dMD_group_41 : decode cMD_group 41 = .ok (.aload_n 0, 1) := by decide +kernel
theorem dMD_group_42 : decode cMD_group 42 = .ok (.getfield 7, 3) := by decide +kernel
theorem dMD_group_45 : decode cMD_group 45 = .ok (.iconst 1, 1) := by decide +kernel
theorem dMD_group_46 : decode cMD_group 46 = .ok (.iadd, 1) := by decide +kernel
theorem dMD_group_47 : decode cMD_group 47 = .ok (.putfield 7, 3) := by decide +kernel
theorem dMD_group_50 : decode cMD_group 50 = .ok (.aload_n 0, 1) := by decide +kernel
theorem dMD_group_51 : decode cMD_group 51 = .ok (.getfield 7, 3) := by decide +kernel
theorem dMD_group_54 : decode cMD_group 54 = .ok (.ireturn, 1) := by decide +kernel
theorem dMD_high_0 : decode cMD_high 0 = .ok (.iload_n 1, 1) := by decide +kernel
theorem dMD_high_1 : decode cMD_high 1 = .ok (.ifCond .lt 11, 3) := by decide +kernel
theorem dMD_high_4 : decode cMD_high 4 = .ok (.iload_n 1, 1) := by decide +kernel
theorem dMD_high_5 : decode cMD_high 5 = .ok (.aload_n 0, 1) := by decide +kernel
theorem dMD_high_6 : decode cMD_high 6 = .ok (.invokevirtual 117, 3) := by decide +kernel
theorem dMD_high_9 : decode cMD_high 9 = .ok (.if_icmp .lt 5, 3) := by decide +kernel
theorem dMD_high_12 : decode cMD_high 12 = .ok (.iconst (-1), 1) := by decide +kernel
theorem dMD_high_13 : decode cMD_high 13 = .ok (.ireturn, 1) := by decide +kernel
theorem dMD_howMany_0 : decode cMD_howMany 0 = .ok (.iconst 0, 1) := by decide +kernel
theorem dMD_howMany_1 : decode cMD_howMany 1 = .ok (.istore_n 3, 1) := by decide +kernel
theorem dMD_howMany_2 : decode cMD_howMany 2 = .ok (.iconst 0, 1) := by decide +kernel
theorem dMD_howMany_3 : decode cMD_howMany 3 = .ok (.istore 4, 2) := by decide +kernel
theorem dMD_howMany_5 : decode cMD_howMany 5 = .ok (.iload 4, 2) := by decide +kernel
theorem dMD_howMany_7 : decode cMD_howMany 7 = .ok (.aload_n 0, 1) := by decide +kernel
theorem dMD_howMany_8 : decode cMD_howMany 8 = .ok (.getfield 72, 3) := by decide +kernel
theorem dMD_howMany_11 : decode cMD_howMany 11 = .ok (.if_icmp .ge 28, 3) := by decide +kernel
theorem dMD_howMany_39 : decode cMD_howMany 39 = .ok (.iload_n 3, 1) := by decide +kernel
theorem dMD_howMany_40 : decode cMD_howMany 40 = .ok (.ireturn, 1) := by decide +kernel
theorem dMD_init_0 : decode cMD_init 0 = .ok (.aload_n 0, 1) := by decide +kernel
theorem dMD_init_1 : decode cMD_init 1 = .ok (.invokespecial 1, 3) := by decide +kernel
theorem dMD_init_4 : decode cMD_init 4 = .ok (.aload_n 0, 1) := by decide +kernel
theorem dMD_init_5 : decode cMD_init 5 = .ok (.iconst 1, 1) := by decide +kernel
theorem dMD_init_6 : decode cMD_init 6 = .ok (.putfield 7, 3) := by decide +kernel
theorem dMD_init_9 : decode cMD_init 9 = .ok (.aload_n 0, 1) := by decide +kernel
theorem dMD_init_10 : decode cMD_init 10 = .ok (.bipush 8, 2) := by decide +kernel
theorem dMD_init_12 : decode cMD_init 12 = .ok (.newarray .int, 2) := by decide +kernel
theorem dMD_init_14 : decode cMD_init 14 = .ok (.putfield 13, 3) := by decide +kernel
theorem dMD_init_17 : decode cMD_init 17 = .ok (.aload_n 0, 1) := by decide +kernel
theorem dMD_init_18 : decode cMD_init 18 = .ok (.bipush 8, 2) := by decide +kernel
theorem dMD_init_20 : decode cMD_init 20 = .ok (.newarray .int, 2) := by decide +kernel
theorem dMD_init_22 : decode cMD_init 22 = .ok (.putfield 17, 3) := by decide +kernel
theorem dMD_init_25 : decode cMD_init 25 = .ok (.aload_n 0, 1) := by decide +kernel
theorem dMD_init_26 : decode cMD_init 26 = .ok (.bipush 40, 2) := by decide +kernel
theorem dMD_init_28 : decode cMD_init 28 = .ok (.newarray .int, 2) := by decide +kernel
theorem dMD_init_30 : decode cMD_init 30 = .ok (.putfield 20, 3) := by decide +kernel
theorem dMD_init_33 : decode cMD_init 33 = .ok (.aload_n 0, 1) := by decide +kernel
theorem dMD_init_34 : decode cMD_init 34 = .ok (.bipush 40, 2) := by decide +kernel
theorem dMD_init_36 : decode cMD_init 36 = .ok (.newarray .int, 2) := by decide +kernel
theorem dMD_init_38 : decode cMD_init 38 = .ok (.putfield 23, 3) := by decide +kernel
theorem dMD_init_41 : decode cMD_init 41 = .ok (.aload_n 0, 1) := by decide +kernel
theorem dMD_init_42 : decode cMD_init 42 = .ok (.bipush 40, 2) := by decide +kernel
theorem dMD_init_44 : decode cMD_init 44 = .ok (.newarray .int, 2) := by decide +kernel
theorem dMD_init_46 : decode cMD_init 46 = .ok (.putfield 26, 3) := by decide +kernel
theorem dMD_init_49 : decode cMD_init 49 = .ok (.aload_n 0, 1) := by decide +kernel
theorem dMD_init_50 : decode cMD_init 50 = .ok (.bipush 40, 2) := by decide +kernel
theorem dMD_init_52 : decode cMD_init 52 = .ok (.newarray .int, 2) := by decide +kernel
theorem dMD_init_54 : decode cMD_init 54 = .ok (.putfield 29, 3) := by decide +kernel
theorem dMD_init_57 : decode cMD_init 57 = .ok (.aload_n 0, 1) := by decide +kernel
theorem dMD_init_58 : decode cMD_init 58 = .ok (.bipush 40, 2) := by decide +kernel
theorem dMD_init_60 : decode cMD_init 60 = .ok (.newarray .int, 2) := by decide +kernel
theorem dMD_init_62 : decode cMD_init 62 = .ok (.putfield 32, 3) := by decide +kernel
theorem dMD_init_65 : decode cMD_init 65 = .ok (.aload_n 0, 1) := by decide +kernel
theorem dMD_init_66 : decode cMD_init 66 = .ok (.bipush 40, 2) := by decide +kernel
theorem dMD_init_68 : decode cMD_init 68 = .ok (.newarray .int, 2) := by decide +kernel
theorem dMD_init_70 : decode cMD_init 70 = .ok (.putfield 35, 3) := by decide +kernel
theorem dMD_init_73 : decode cMD_init 73 = .ok (.aload_n 0, 1) := by decide +kernel
theorem dMD_init_74 : decode cMD_init 74 = .ok (.bipush 40, 2) := by decide +kernel
theorem dMD_init_76 : decode cMD_init 76 = .ok (.newarray .int, 2) := by decide +kernel
theorem dMD_init_78 : decode cMD_init 78 = .ok (.putfield 38, 3) := by decide +kernel
theorem dMD_init_81 : decode cMD_init 81 = .ok (.aload_n 0, 1) := by decide +kernel
theorem dMD_init_82 : decode cMD_init 82 = .ok (.bipush 40, 2) := by decide +kernel
theorem dMD_init_84 : decode cMD_init 84 = .ok (.newarray .int, 2) := by decide +kernel
theorem dMD_init_86 : decode cMD_init 86 = .ok (.putfield 41, 3) := by decide +kernel
theorem dMD_init_89 : decode cMD_init 89 = .ok (.aload_n 0, 1) := by decide +kernel
theorem dMD_init_90 : decode cMD_init 90 = .ok (.bipush 40, 2) := by decide +kernel
theorem dMD_init_92 : decode cMD_init 92 = .ok (.newarray .int, 2) := by decide +kernel
theorem dMD_init_94 : decode cMD_init 94 = .ok (.putfield 44, 3) := by decide +kernel
theorem dMD_init_97 : decode cMD_init 97 = .ok (.aload_n 0, 1) := by decide +kernel
theorem dMD_init_98 : decode cMD_init 98 = .ok (.bipush 40, 2) := by decide +kernel
theorem dMD_init_100 : decode cMD_init 100 = .ok (.newarray .int, 2) := by decide +kernel
theorem dMD_init_102 : decode cMD_init 102 = .ok (.putfield 47, 3) := by decide +kernel
theorem dMD_init_105 : decode cMD_init 105 = .ok (.aload_n 0, 1) := by decide +kernel
theorem dMD_init_106 : decode cMD_init 106 = .ok (.iconst (-1), 1) := by decide +kernel
theorem dMD_init_107 : decode cMD_init 107 = .ok (.putfield 50, 3) := by decide +kernel
theorem dMD_init_110 : decode cMD_init 110 = .ok (.aload_n 0, 1) := by decide +kernel
theorem dMD_init_111 : decode cMD_init 111 = .ok (.bipush 12, 2) := by decide +kernel
theorem dMD_init_113 : decode cMD_init 113 = .ok (.newarray .int, 2) := by decide +kernel
theorem dMD_init_115 : decode cMD_init 115 = .ok (.putfield 53, 3) := by decide +kernel
theorem dMD_init_118 : decode cMD_init 118 = .ok (.aload_n 0, 1) := by decide +kernel
theorem dMD_init_119 : decode cMD_init 119 = .ok (.bipush 12, 2) := by decide +kernel
theorem dMD_init_121 : decode cMD_init 121 = .ok (.newarray .int, 2) := by decide +kernel
theorem dMD_init_123 : decode cMD_init 123 = .ok (.putfield 56, 3) := by decide +kernel
theorem dMD_init_126 : decode cMD_init 126 = .ok (.aload_n 0, 1) := by decide +kernel
theorem dMD_init_127 : decode cMD_init 127 = .ok (.bipush 12, 2) := by decide +kernel
theorem dMD_init_129 : decode cMD_init 129 = .ok (.newarray .int, 2) := by decide +kernel
theorem dMD_init_131 : decode cMD_init 131 = .ok (.putfield 59, 3) := by decide +kernel
theorem dMD_init_134 : decode cMD_init 134 = .ok (.aload_n 0, 1) := by decide +kernel
theorem dMD_init_135 : decode cMD_init 135 = .ok (.bipush 12, 2) := by decide +kernel
end
section
theorem dMD_init_137 : decode cMD_init 137 = .ok (.newarray .int, 2) := by decide +kernel
theorem dMD_init_139 : decode cMD_init 139 = .ok (.putfield 62, 3) := by decide +kernel
theorem dMD_init_142 : decode cMD_init 142 = .ok (.aload_n 0, 1) := by decide +kernel
theorem dMD_init_143 : decode cMD_init 143 = .ok (.bipush 12, 2) := by decide +kernel
theorem dMD_init_145 : decode cMD_init 145 = .ok (.newarray .boolean, 2) := by decide +kernel
theorem dMD_init_147 : decode cMD_init 147 = .ok (.putfield 65, 3) := by decide +kernel
theorem dMD_init_150 : decode cMD_init 150 = .ok (.aload_n 0, 1) := by decide +kernel
theorem dMD_init_151 : decode cMD_init 151 = .ok (.bipush 12, 2) := by decide +kernel
theorem dMD_init_153 : decode cMD_init 153 = .ok (.newarray .int, 2) := by decide +kernel
theorem dMD_init_155 : decode cMD_init 155 = .ok (.putfield 69, 3) := by decide +kernel
theorem dMD_init_158 : decode cMD_init 158 = .ok (.return_, 1) := by decide +kernel
theorem dMD_isCell_0 : decode cMD_isCell 0 = .ok (.iload_n 1, 1) := by decide +kernel
theorem dMD_isCell_1 : decode cMD_isCell 1 = .ok (.ifCond .lt 15, 3) := by decide +kernel
theorem dMD_isCell_4 : decode cMD_isCell 4 = .ok (.iload_n 1, 1) := by decide +kernel
theorem dMD_isCell_5 : decode cMD_isCell 5 = .ok (.aload_n 0, 1) := by decide +kernel
theorem dMD_isCell_6 : decode cMD_isCell 6 = .ok (.getfield 72, 3) := by decide +kernel
theorem dMD_isCell_9 : decode cMD_isCell 9 = .ok (.if_icmp .ge 7, 3) := by decide +kernel
theorem dMD_isCell_16 : decode cMD_isCell 16 = .ok (.iconst 0, 1) := by decide +kernel
theorem dMD_isCell_17 : decode cMD_isCell 17 = .ok (.ireturn, 1) := by decide +kernel
theorem dMD_layout_0 : decode cMD_layout 0 = .ok (.iload_n 1, 1) := by decide +kernel
theorem dMD_layout_1 : decode cMD_layout 1 = .ok (.ifCond .lt 20, 3) := by decide +kernel
theorem dMD_layout_4 : decode cMD_layout 4 = .ok (.iload_n 1, 1) := by decide +kernel
theorem dMD_layout_5 : decode cMD_layout 5 = .ok (.sipush 10000, 3) := by decide +kernel
theorem dMD_layout_8 : decode cMD_layout 8 = .ok (.if_icmp .gt 13, 3) := by decide +kernel
theorem dMD_layout_11 : decode cMD_layout 11 = .ok (.iload_n 2, 1) := by decide +kernel
theorem dMD_layout_12 : decode cMD_layout 12 = .ok (.ifCond .lt 9, 3) := by decide +kernel
theorem dMD_layout_15 : decode cMD_layout 15 = .ok (.iload_n 2, 1) := by decide +kernel
theorem dMD_layout_16 : decode cMD_layout 16 = .ok (.bipush 20, 2) := by decide +kernel
theorem dMD_layout_18 : decode cMD_layout 18 = .ok (.if_icmp .le 5, 3) := by decide +kernel
theorem dMD_layout_21 : decode cMD_layout 21 = .ok (.iconst 0, 1) := by decide +kernel
theorem dMD_layout_22 : decode cMD_layout 22 = .ok (.ireturn, 1) := by decide +kernel
theorem dMD_layout_23 : decode cMD_layout 23 = .ok (.aload_n 0, 1) := by decide +kernel
theorem dMD_layout_24 : decode cMD_layout 24 = .ok (.iload_n 1, 1) := by decide +kernel
theorem dMD_layout_25 : decode cMD_layout 25 = .ok (.putfield 92, 3) := by decide +kernel
theorem dMD_layout_28 : decode cMD_layout 28 = .ok (.aload_n 0, 1) := by decide +kernel
theorem dMD_layout_29 : decode cMD_layout 29 = .ok (.iload_n 2, 1) := by decide +kernel
theorem dMD_layout_30 : decode cMD_layout 30 = .ok (.putfield 95, 3) := by decide +kernel
theorem dMD_layout_33 : decode cMD_layout 33 = .ok (.aload_n 0, 1) := by decide +kernel
theorem dMD_layout_34 : decode cMD_layout 34 = .ok (.iload_n 3, 1) := by decide +kernel
theorem dMD_layout_35 : decode cMD_layout 35 = .ok (.putfield 98, 3) := by decide +kernel
theorem dMD_layout_38 : decode cMD_layout 38 = .ok (.iconst 1, 1) := by decide +kernel
theorem dMD_layout_39 : decode cMD_layout 39 = .ok (.ireturn, 1) := by decide +kernel
theorem dMD_measure_0 : decode cMD_measure 0 = .ok (.iconst 0, 1) := by decide +kernel
theorem dMD_measure_1 : decode cMD_measure 1 = .ok (.istore_n 1, 1) := by decide +kernel
theorem dMD_measure_2 : decode cMD_measure 2 = .ok (.iload_n 1, 1) := by decide +kernel
theorem dMD_measure_3 : decode cMD_measure 3 = .ok (.bipush 12, 2) := by decide +kernel
theorem dMD_measure_5 : decode cMD_measure 5 = .ok (.if_icmp .ge 23, 3) := by decide +kernel
theorem dMD_measure_8 : decode cMD_measure 8 = .ok (.aload_n 0, 1) := by decide +kernel
theorem dMD_measure_9 : decode cMD_measure 9 = .ok (.getfield 53, 3) := by decide +kernel
theorem dMD_measure_12 : decode cMD_measure 12 = .ok (.iload_n 1, 1) := by decide +kernel
theorem dMD_measure_13 : decode cMD_measure 13 = .ok (.iconst 0, 1) := by decide +kernel
theorem dMD_measure_14 : decode cMD_measure 14 = .ok (.iastore, 1) := by decide +kernel
theorem dMD_measure_15 : decode cMD_measure 15 = .ok (.aload_n 0, 1) := by decide +kernel
theorem dMD_measure_16 : decode cMD_measure 16 = .ok (.getfield 56, 3) := by decide +kernel
theorem dMD_measure_19 : decode cMD_measure 19 = .ok (.iload_n 1, 1) := by decide +kernel
theorem dMD_measure_20 : decode cMD_measure 20 = .ok (.iconst 0, 1) := by decide +kernel
theorem dMD_measure_21 : decode cMD_measure 21 = .ok (.iastore, 1) := by decide +kernel
theorem dMD_measure_22 : decode cMD_measure 22 = .ok (.iinc 1 1, 3) := by decide +kernel
theorem dMD_measure_25 : decode cMD_measure 25 = .ok (.goto (-23), 3) := by decide +kernel
theorem dMD_measure_28 : decode cMD_measure 28 = .ok (.iconst 1, 1) := by decide +kernel
theorem dMD_measure_29 : decode cMD_measure 29 = .ok (.istore_n 1, 1) := by decide +kernel
theorem dMD_measure_30 : decode cMD_measure 30 = .ok (.iload_n 1, 1) := by decide +kernel
theorem dMD_measure_31 : decode cMD_measure 31 = .ok (.bipush 7, 2) := by decide +kernel
theorem dMD_measure_33 : decode cMD_measure 33 = .ok (.if_icmp .ge 40, 3) := by decide +kernel
theorem dMD_measure_36 : decode cMD_measure 36 = .ok (.iconst 0, 1) := by decide +kernel
theorem dMD_measure_37 : decode cMD_measure 37 = .ok (.istore_n 2, 1) := by decide +kernel
theorem dMD_measure_38 : decode cMD_measure 38 = .ok (.iload_n 2, 1) := by decide +kernel
theorem dMD_measure_39 : decode cMD_measure 39 = .ok (.aload_n 0, 1) := by decide +kernel
theorem dMD_measure_40 : decode cMD_measure 40 = .ok (.getfield 72, 3) := by decide +kernel
theorem dMD_measure_43 : decode cMD_measure 43 = .ok (.if_icmp .ge 24, 3) := by decide +kernel
theorem dMD_measure_67 : decode cMD_measure 67 = .ok (.iinc 1 1, 3) := by decide +kernel
theorem dMD_measure_70 : decode cMD_measure 70 = .ok (.goto (-40), 3) := by decide +kernel
theorem dMD_measure_73 : decode cMD_measure 73 = .ok (.return_, 1) := by decide +kernel
theorem dMD_overlaps_0 : decode cMD_overlaps 0 = .ok (.iconst 0, 1) := by decide +kernel
theorem dMD_overlaps_1 : decode cMD_overlaps 1 = .ok (.istore_n 1, 1) := by decide +kernel
theorem dMD_overlaps_2 : decode cMD_overlaps 2 = .ok (.iconst 0, 1) := by decide +kernel
theorem dMD_overlaps_3 : decode cMD_overlaps 3 = .ok (.istore_n 2, 1) := by decide +kernel
theorem dMD_overlaps_4 : decode cMD_overlaps 4 = .ok (.iload_n 2, 1) := by decide +kernel
theorem dMD_overlaps_5 : decode cMD_overlaps 5 = .ok (.sipush 144, 3) := by decide +kernel
theorem dMD_overlaps_8 : decode cMD_overlaps 8 = .ok (.if_icmp .ge 37, 3) := by decide +kernel
theorem dMD_overlaps_11 : decode cMD_overlaps 11 = .ok (.aload_n 0, 1) := by decide +kernel
theorem dMD_overlaps_12 : decode cMD_overlaps 12 = .ok (.iload_n 2, 1) := by decide +kernel
theorem dMD_overlaps_13 : decode cMD_overlaps 13 = .ok (.bipush 12, 2) := by decide +kernel
theorem dMD_overlaps_15 : decode cMD_overlaps 15 = .ok (.irem, 1) := by decide +kernel
theorem dMD_overlaps_16 : decode cMD_overlaps 16 = .ok (.iload_n 2, 1) := by decide +kernel
theorem dMD_overlaps_17 : decode cMD_overlaps 17 = .ok (.bipush 12, 2) := by decide +kernel
theorem dMD_overlaps_19 : decode cMD_overlaps 19 = .ok (.idiv, 1) := by decide +kernel
theorem dMD_overlaps_20 : decode cMD_overlaps 20 = .ok (.invokevirtual 109, 3) := by decide +kernel
theorem dMD_overlaps_23 : decode cMD_overlaps 23 = .ok (.istore_n 3, 1) := by decide +kernel
theorem dMD_overlaps_24 : decode cMD_overlaps 24 = .ok (.iload_n 3, 1) := by decide +kernel
theorem dMD_overlaps_25 : decode cMD_overlaps 25 = .ok (.iconst 1, 1) := by decide +kernel
theorem dMD_overlaps_26 : decode cMD_overlaps 26 = .ok (.if_icmp .le 11, 3) := by decide +kernel
theorem dMD_overlaps_37 : decode cMD_overlaps 37 = .ok (.iload_n 1, 1) := by decide +kernel
theorem dMD_overlaps_38 : decode cMD_overlaps 38 = .ok (.istore_n 1, 1) := by decide +kernel
theorem dMD_overlaps_39 : decode cMD_overlaps 39 = .ok (.iinc 2 1, 3) := by decide +kernel
theorem dMD_overlaps_42 : decode cMD_overlaps 42 = .ok (.goto (-38), 3) := by decide +kernel
theorem dMD_overlaps_45 : decode cMD_overlaps 45 = .ok (.iload_n 1, 1) := by decide +kernel
theorem dMD_overlaps_46 : decode cMD_overlaps 46 = .ok (.ireturn, 1) := by decide +kernel
theorem dMD_place_0 : decode cMD_place 0 = .ok (.aload_n 0, 1) := by decide +kernel
theorem dMD_place_1 : decode cMD_place 1 = .ok (.iload_n 1, 1) := by decide +kernel
theorem dMD_place_2 : decode cMD_place 2 = .ok (.invokevirtual 89, 3) := by decide +kernel
theorem dMD_place_5 : decode cMD_place 5 = .ok (.ifCond .eq 12, 3) := by decide +kernel
theorem dMD_place_17 : decode cMD_place 17 = .ok (.iconst (-1), 1) := by decide +kernel
theorem dMD_place_18 : decode cMD_place 18 = .ok (.ireturn, 1) := by decide +kernel
theorem dMD_room_0 : decode cMD_room 0 = .ok (.iconst 0, 1) := by decide +kernel
theorem dMD_room_1 : decode cMD_room 1 = .ok (.aload_n 0, 1) := by decide +kernel
theorem dMD_room_2 : decode cMD_room 2 = .ok (.getfield 92, 3) := by decide +kernel
theorem dMD_room_5 : decode cMD_room 5 = .ok (.aload_n 0, 1) := by decide +kernel
theorem dMD_room_6 : decode cMD_room 6 = .ok (.getfield 95, 3) := by decide +kernel
theorem dMD_room_9 : decode cMD_room 9 = .ok (.aload_n 0, 1) := by decide +kernel
theorem dMD_room_10 : decode cMD_room 10 = .ok (.invokevirtual 113, 3) := by decide +kernel
theorem dMD_room_13 : decode cMD_room 13 = .ok (.iconst 1, 1) := by decide +kernel
theorem dMD_room_14 : decode cMD_room 14 = .ok (.iadd, 1) := by decide +kernel
theorem dMD_room_15 : decode cMD_room 15 = .ok (.imul, 1) := by decide +kernel
theorem dMD_room_16 : decode cMD_room 16 = .ok (.isub, 1) := by decide +kernel
theorem dMD_room_17 : decode cMD_room 17 = .ok (.invokestatic 121, 3) := by decide +kernel
theorem dMD_room_20 : decode cMD_room 20 = .ok (.ireturn, 1) := by decide +kernel
theorem dMD_row_0 : decode cMD_row 0 = .ok (.aload_n 0, 1) := by decide +kernel
theorem dMD_row_1 : decode cMD_row 1 = .ok (.getfield 7, 3) := by decide +kernel
theorem dMD_row_4 : decode cMD_row 4 = .ok (.iconst 1, 1) := by decide +kernel
end
section
theorem dMD_row_5 : decode cMD_row 5 = .ok (.isub, 1) := by decide +kernel
theorem dMD_row_6 : decode cMD_row 6 = .ok (.istore_n 1, 1) := by decide +kernel
theorem dMD_row_7 : decode cMD_row 7 = .ok (.aload_n 0, 1) := by decide +kernel
theorem dMD_row_8 : decode cMD_row 8 = .ok (.getfield 13, 3) := by decide +kernel
theorem dMD_row_11 : decode cMD_row 11 = .ok (.iload_n 1, 1) := by decide +kernel
theorem dMD_row_12 : decode cMD_row 12 = .ok (.iaload, 1) := by decide +kernel
theorem dMD_row_13 : decode cMD_row 13 = .ok (.aload_n 0, 1) := by decide +kernel
theorem dMD_row_14 : decode cMD_row 14 = .ok (.getfield 17, 3) := by decide +kernel
theorem dMD_row_17 : decode cMD_row 17 = .ok (.iload_n 1, 1) := by decide +kernel
theorem dMD_row_18 : decode cMD_row 18 = .ok (.iaload, 1) := by decide +kernel
theorem dMD_row_19 : decode cMD_row 19 = .ok (.iadd, 1) := by decide +kernel
theorem dMD_row_20 : decode cMD_row 20 = .ok (.istore_n 2, 1) := by decide +kernel
theorem dMD_row_21 : decode cMD_row 21 = .ok (.iload_n 2, 1) := by decide +kernel
theorem dMD_row_22 : decode cMD_row 22 = .ok (.bipush 11, 2) := by decide +kernel
theorem dMD_row_24 : decode cMD_row 24 = .ok (.if_icmp .le 5, 3) := by decide +kernel
theorem dMD_row_29 : decode cMD_row 29 = .ok (.aload_n 0, 1) := by decide +kernel
theorem dMD_row_30 : decode cMD_row 30 = .ok (.getfield 17, 3) := by decide +kernel
theorem dMD_row_33 : decode cMD_row 33 = .ok (.iload_n 1, 1) := by decide +kernel
theorem dMD_row_34 : decode cMD_row 34 = .ok (.aload_n 0, 1) := by decide +kernel
theorem dMD_row_35 : decode cMD_row 35 = .ok (.getfield 17, 3) := by decide +kernel
theorem dMD_row_38 : decode cMD_row 38 = .ok (.iload_n 1, 1) := by decide +kernel
theorem dMD_row_39 : decode cMD_row 39 = .ok (.iaload, 1) := by decide +kernel
theorem dMD_row_40 : decode cMD_row 40 = .ok (.iconst 1, 1) := by decide +kernel
theorem dMD_row_41 : decode cMD_row 41 = .ok (.iadd, 1) := by decide +kernel
theorem dMD_row_42 : decode cMD_row 42 = .ok (.iastore, 1) := by decide +kernel
theorem dMD_row_43 : decode cMD_row 43 = .ok (.aload_n 0, 1) := by decide +kernel
theorem dMD_row_44 : decode cMD_row 44 = .ok (.iload_n 1, 1) := by decide +kernel
theorem dMD_row_45 : decode cMD_row 45 = .ok (.putfield 50, 3) := by decide +kernel
theorem dMD_row_48 : decode cMD_row 48 = .ok (.aload_n 0, 1) := by decide +kernel
theorem dMD_row_49 : decode cMD_row 49 = .ok (.iload_n 2, 1) := by decide +kernel
theorem dMD_row_50 : decode cMD_row 50 = .ok (.putfield 79, 3) := by decide +kernel
theorem dMD_row_53 : decode cMD_row 53 = .ok (.aload_n 0, 1) := by decide +kernel
theorem dMD_row_54 : decode cMD_row 54 = .ok (.iconst 0, 1) := by decide +kernel
theorem dMD_row_55 : decode cMD_row 55 = .ok (.putfield 82, 3) := by decide +kernel
theorem dMD_row_58 : decode cMD_row 58 = .ok (.iload_n 2, 1) := by decide +kernel
theorem dMD_row_59 : decode cMD_row 59 = .ok (.ireturn, 1) := by decide +kernel
theorem dMD_rows_0 : decode cMD_rows 0 = .ok (.aload_n 0, 1) := by decide +kernel
theorem dMD_rows_1 : decode cMD_rows 1 = .ok (.aload_n 0, 1) := by decide +kernel
theorem dMD_rows_2 : decode cMD_rows 2 = .ok (.getfield 7, 3) := by decide +kernel
theorem dMD_rows_5 : decode cMD_rows 5 = .ok (.iconst 1, 1) := by decide +kernel
theorem dMD_rows_6 : decode cMD_rows 6 = .ok (.isub, 1) := by decide +kernel
theorem dMD_rows_7 : decode cMD_rows 7 = .ok (.invokevirtual 75, 3) := by decide +kernel
theorem dMD_rows_10 : decode cMD_rows 10 = .ok (.ireturn, 1) := by decide +kernel
theorem dMD_size_0 : decode cMD_size 0 = .ok (.iload_n 1, 1) := by decide +kernel
theorem dMD_size_1 : decode cMD_size 1 = .ok (.ifCond .eq 10, 3) := by decide +kernel
theorem dMD_size_4 : decode cMD_size 4 = .ok (.aload_n 0, 1) := by decide +kernel
theorem dMD_size_5 : decode cMD_size 5 = .ok (.invokevirtual 117, 3) := by decide +kernel
theorem dMD_size_8 : decode cMD_size 8 = .ok (.goto 7, 3) := by decide +kernel
theorem dMD_size_11 : decode cMD_size 11 = .ok (.aload_n 0, 1) := by decide +kernel
theorem dMD_size_12 : decode cMD_size 12 = .ok (.invokevirtual 113, 3) := by decide +kernel
theorem dMD_size_15 : decode cMD_size 15 = .ok (.istore_n 2, 1) := by decide +kernel
theorem dMD_size_16 : decode cMD_size 16 = .ok (.aload_n 0, 1) := by decide +kernel
theorem dMD_size_17 : decode cMD_size 17 = .ok (.invokevirtual 149, 3) := by decide +kernel
theorem dMD_size_20 : decode cMD_size 20 = .ok (.aload_n 0, 1) := by decide +kernel
theorem dMD_size_21 : decode cMD_size 21 = .ok (.invokevirtual 152, 3) := by decide +kernel
theorem dMD_size_24 : decode cMD_size 24 = .ok (.iload_n 2, 1) := by decide +kernel
theorem dMD_size_25 : decode cMD_size 25 = .ok (.ifCond .ne 7, 3) := by decide +kernel
theorem dMD_size_28 : decode cMD_size 28 = .ok (.iconst 0, 1) := by decide +kernel
theorem dMD_size_29 : decode cMD_size 29 = .ok (.goto 37, 3) := by decide +kernel
theorem dMD_size_66 : decode cMD_size 66 = .ok (.ireturn, 1) := by decide +kernel
theorem dMD_slot_0 : decode cMD_slot 0 = .ok (.iconst (-1), 1) := by decide +kernel
theorem dMD_slot_1 : decode cMD_slot 1 = .ok (.istore_n 3, 1) := by decide +kernel
theorem dMD_slot_2 : decode cMD_slot 2 = .ok (.aload_n 0, 1) := by decide +kernel
theorem dMD_slot_3 : decode cMD_slot 3 = .ok (.getfield 72, 3) := by decide +kernel
theorem dMD_slot_6 : decode cMD_slot 6 = .ok (.iconst 1, 1) := by decide +kernel
theorem dMD_slot_7 : decode cMD_slot 7 = .ok (.isub, 1) := by decide +kernel
theorem dMD_slot_8 : decode cMD_slot 8 = .ok (.istore 4, 2) := by decide +kernel
theorem dMD_slot_10 : decode cMD_slot 10 = .ok (.iload 4, 2) := by decide +kernel
theorem dMD_slot_12 : decode cMD_slot 12 = .ok (.ifCond .lt 27, 3) := by decide +kernel
theorem dMD_slot_39 : decode cMD_slot 39 = .ok (.iload_n 3, 1) := by decide +kernel
theorem dMD_slot_40 : decode cMD_slot 40 = .ok (.ireturn, 1) := by decide +kernel
theorem dMD_span_0 : decode cMD_span 0 = .ok (.aload_n 0, 1) := by decide +kernel
theorem dMD_span_1 : decode cMD_span 1 = .ok (.iload_n 1, 1) := by decide +kernel
theorem dMD_span_2 : decode cMD_span 2 = .ok (.invokevirtual 89, 3) := by decide +kernel
theorem dMD_span_5 : decode cMD_span 5 = .ok (.ifCond .eq 42, 3) := by decide +kernel
theorem dMD_span_47 : decode cMD_span 47 = .ok (.iconst (-1), 1) := by decide +kernel
theorem dMD_span_48 : decode cMD_span 48 = .ok (.ireturn, 1) := by decide +kernel
theorem dMD_sumOf_0 : decode cMD_sumOf 0 = .ok (.iconst 0, 1) := by decide +kernel
theorem dMD_sumOf_1 : decode cMD_sumOf 1 = .ok (.istore_n 3, 1) := by decide +kernel
theorem dMD_sumOf_2 : decode cMD_sumOf 2 = .ok (.iload_n 1, 1) := by decide +kernel
theorem dMD_sumOf_3 : decode cMD_sumOf 3 = .ok (.istore 4, 2) := by decide +kernel
theorem dMD_sumOf_5 : decode cMD_sumOf 5 = .ok (.iload 4, 2) := by decide +kernel
theorem dMD_sumOf_7 : decode cMD_sumOf 7 = .ok (.iload_n 2, 1) := by decide +kernel
theorem dMD_sumOf_8 : decode cMD_sumOf 8 = .ok (.if_icmp .ge 16, 3) := by decide +kernel
theorem dMD_sumOf_24 : decode cMD_sumOf 24 = .ok (.iload_n 3, 1) := by decide +kernel
theorem dMD_sumOf_25 : decode cMD_sumOf 25 = .ok (.ireturn, 1) := by decide +kernel
theorem dMD_wide_0 : decode cMD_wide 0 = .ok (.iload_n 1, 1) := by decide +kernel
theorem dMD_wide_1 : decode cMD_wide 1 = .ok (.ifCond .lt 11, 3) := by decide +kernel
theorem dMD_wide_4 : decode cMD_wide 4 = .ok (.iload_n 1, 1) := by decide +kernel
theorem dMD_wide_5 : decode cMD_wide 5 = .ok (.aload_n 0, 1) := by decide +kernel
theorem dMD_wide_6 : decode cMD_wide 6 = .ok (.invokevirtual 113, 3) := by decide +kernel
theorem dMD_wide_9 : decode cMD_wide 9 = .ok (.if_icmp .lt 5, 3) := by decide +kernel
theorem dMD_wide_12 : decode cMD_wide 12 = .ok (.iconst (-1), 1) := by decide +kernel
theorem dMD_wide_13 : decode cMD_wide 13 = .ok (.ireturn, 1) := by decide +kernel
theorem dSC_border_0 : decode cSC_border 0 = .ok (.aload_n 0, 1) := by decide +kernel
theorem dSC_border_1 : decode cSC_border 1 = .ok (.getfield 10, 3) := by decide +kernel
theorem dSC_border_4 : decode cSC_border 4 = .ok (.iload_n 1, 1) := by decide +kernel
theorem dSC_border_5 : decode cSC_border 5 = .ok (.invokevirtual 56, 3) := by decide +kernel
theorem dSC_border_8 : decode cSC_border 8 = .ok (.ifCond .eq 22, 3) := by decide +kernel
theorem dSC_border_30 : decode cSC_border 30 = .ok (.iconst 0, 1) := by decide +kernel
theorem dSC_border_31 : decode cSC_border 31 = .ok (.ireturn, 1) := by decide +kernel
theorem dSC_cell_0 : decode cSC_cell 0 = .ok (.iload_n 1, 1) := by decide +kernel
theorem dSC_cell_1 : decode cSC_cell 1 = .ok (.iconst 1, 1) := by decide +kernel
theorem dSC_cell_2 : decode cSC_cell 2 = .ok (.bipush 6, 2) := by decide +kernel
theorem dSC_cell_4 : decode cSC_cell 4 = .ok (.invokestatic 48, 3) := by decide +kernel
theorem dSC_cell_7 : decode cSC_cell 7 = .ok (.ifCond .eq 17, 3) := by decide +kernel
theorem dSC_cell_10 : decode cSC_cell 10 = .ok (.iload_n 2, 1) := by decide +kernel
theorem dSC_cell_11 : decode cSC_cell 11 = .ok (.iconst 0, 1) := by decide +kernel
theorem dSC_cell_12 : decode cSC_cell 12 = .ok (.bipush 6, 2) := by decide +kernel
theorem dSC_cell_14 : decode cSC_cell 14 = .ok (.invokestatic 48, 3) := by decide +kernel
theorem dSC_cell_17 : decode cSC_cell 17 = .ok (.ifCond .eq 7, 3) := by decide +kernel
theorem dSC_cell_20 : decode cSC_cell 20 = .ok (.iconst 1, 1) := by decide +kernel
theorem dSC_cell_21 : decode cSC_cell 21 = .ok (.goto 4, 3) := by decide +kernel
theorem dSC_cell_24 : decode cSC_cell 24 = .ok (.iconst 0, 1) := by decide +kernel
theorem dSC_cell_25 : decode cSC_cell 25 = .ok (.istore 6, 2) := by decide +kernel
theorem dSC_cell_27 : decode cSC_cell 27 = .ok (.iload 4, 2) := by decide +kernel
theorem dSC_cell_29 : decode cSC_cell 29 = .ok (.iconst 0, 1) := by decide +kernel
theorem dSC_cell_30 : decode cSC_cell 30 = .ok (.sipush 1000, 3) := by decide +kernel
theorem dSC_cell_33 : decode cSC_cell 33 = .ok (.invokestatic 48, 3) := by decide +kernel
theorem dSC_cell_36 : decode cSC_cell 36 = .ok (.ifCond .eq 17, 3) := by decide +kernel
end
section
theorem dSC_cell_39 : decode cSC_cell 39 = .ok (.iload_n 3, 1) := by decide +kernel
theorem dSC_cell_40 : decode cSC_cell 40 = .ok (.iconst 0, 1) := by decide +kernel
theorem dSC_cell_41 : decode cSC_cell 41 = .ok (.iload 4, 2) := by decide +kernel
theorem dSC_cell_43 : decode cSC_cell 43 = .ok (.invokestatic 48, 3) := by decide +kernel
theorem dSC_cell_46 : decode cSC_cell 46 = .ok (.ifCond .eq 7, 3) := by decide +kernel
theorem dSC_cell_49 : decode cSC_cell 49 = .ok (.iconst 1, 1) := by decide +kernel
theorem dSC_cell_50 : decode cSC_cell 50 = .ok (.goto 4, 3) := by decide +kernel
theorem dSC_cell_53 : decode cSC_cell 53 = .ok (.iconst 0, 1) := by decide +kernel
theorem dSC_cell_54 : decode cSC_cell 54 = .ok (.istore 7, 2) := by decide +kernel
theorem dSC_cell_56 : decode cSC_cell 56 = .ok (.iload 5, 2) := by decide +kernel
theorem dSC_cell_58 : decode cSC_cell 58 = .ok (.iconst 0, 1) := by decide +kernel
theorem dSC_cell_59 : decode cSC_cell 59 = .ok (.sipush 1000, 3) := by decide +kernel
theorem dSC_cell_62 : decode cSC_cell 62 = .ok (.invokestatic 48, 3) := by decide +kernel
theorem dSC_cell_65 : decode cSC_cell 65 = .ok (.istore 8, 2) := by decide +kernel
theorem dSC_cell_67 : decode cSC_cell 67 = .ok (.iload 6, 2) := by decide +kernel
theorem dSC_cell_69 : decode cSC_cell 69 = .ok (.ifCond .eq 13, 3) := by decide +kernel
theorem dSC_cell_72 : decode cSC_cell 72 = .ok (.iload 7, 2) := by decide +kernel
theorem dSC_cell_74 : decode cSC_cell 74 = .ok (.ifCond .eq 8, 3) := by decide +kernel
theorem dSC_cell_77 : decode cSC_cell 77 = .ok (.iload 8, 2) := by decide +kernel
theorem dSC_cell_79 : decode cSC_cell 79 = .ok (.ifCond .ne 5, 3) := by decide +kernel
theorem dSC_cell_82 : decode cSC_cell 82 = .ok (.iconst (-1), 1) := by decide +kernel
theorem dSC_cell_83 : decode cSC_cell 83 = .ok (.ireturn, 1) := by decide +kernel
theorem dSC_cell_84 : decode cSC_cell 84 = .ok (.aload_n 0, 1) := by decide +kernel
theorem dSC_cell_85 : decode cSC_cell 85 = .ok (.getfield 10, 3) := by decide +kernel
theorem dSC_cell_88 : decode cSC_cell 88 = .ok (.iload_n 1, 1) := by decide +kernel
theorem dSC_cell_89 : decode cSC_cell 89 = .ok (.iload_n 2, 1) := by decide +kernel
theorem dSC_cell_90 : decode cSC_cell 90 = .ok (.iload_n 3, 1) := by decide +kernel
theorem dSC_cell_91 : decode cSC_cell 91 = .ok (.iload 4, 2) := by decide +kernel
theorem dSC_cell_93 : decode cSC_cell 93 = .ok (.iload 5, 2) := by decide +kernel
theorem dSC_cell_95 : decode cSC_cell 95 = .ok (.invokevirtual 52, 3) := by decide +kernel
theorem dSC_cell_98 : decode cSC_cell 98 = .ok (.ireturn, 1) := by decide +kernel
theorem dSC_clear_0 : decode cSC_clear 0 = .ok (.aload_n 0, 1) := by decide +kernel
theorem dSC_clear_1 : decode cSC_clear 1 = .ok (.getfield 10, 3) := by decide +kernel
theorem dSC_clear_4 : decode cSC_clear 4 = .ok (.invokevirtual 70, 3) := by decide +kernel
theorem dSC_clear_7 : decode cSC_clear 7 = .ok (.istore_n 1, 1) := by decide +kernel
theorem dSC_clear_8 : decode cSC_clear 8 = .ok (.aload_n 0, 1) := by decide +kernel
theorem dSC_clear_9 : decode cSC_clear 9 = .ok (.getfield 10, 3) := by decide +kernel
theorem dSC_clear_12 : decode cSC_clear 12 = .ok (.invokevirtual 73, 3) := by decide +kernel
theorem dSC_clear_15 : decode cSC_clear 15 = .ok (.iload_n 1, 1) := by decide +kernel
theorem dSC_clear_16 : decode cSC_clear 16 = .ok (.ireturn, 1) := by decide +kernel
theorem dSC_columns_0 : decode cSC_columns 0 = .ok (.aload_n 0, 1) := by decide +kernel
theorem dSC_columns_1 : decode cSC_columns 1 = .ok (.getfield 10, 3) := by decide +kernel
theorem dSC_columns_4 : decode cSC_columns 4 = .ok (.invokevirtual 76, 3) := by decide +kernel
theorem dSC_columns_7 : decode cSC_columns 7 = .ok (.ireturn, 1) := by decide +kernel
theorem dSC_edge_0 : decode cSC_edge 0 = .ok (.aload_n 0, 1) := by decide +kernel
theorem dSC_edge_1 : decode cSC_edge 1 = .ok (.getfield 10, 3) := by decide +kernel
theorem dSC_edge_4 : decode cSC_edge 4 = .ok (.iload_n 1, 1) := by decide +kernel
theorem dSC_edge_5 : decode cSC_edge 5 = .ok (.iload_n 2, 1) := by decide +kernel
theorem dSC_edge_6 : decode cSC_edge 6 = .ok (.invokevirtual 145, 3) := by decide +kernel
theorem dSC_edge_9 : decode cSC_edge 9 = .ok (.ifCond .ne 5, 3) := by decide +kernel
theorem dSC_edge_12 : decode cSC_edge 12 = .ok (.iconst (-1), 1) := by decide +kernel
theorem dSC_edge_13 : decode cSC_edge 13 = .ok (.ireturn, 1) := by decide +kernel
theorem dSC_empties_0 : decode cSC_empties 0 = .ok (.aload_n 0, 1) := by decide +kernel
theorem dSC_empties_1 : decode cSC_empties 1 = .ok (.getfield 10, 3) := by decide +kernel
theorem dSC_empties_4 : decode cSC_empties 4 = .ok (.invokevirtual 89, 3) := by decide +kernel
theorem dSC_empties_7 : decode cSC_empties 7 = .ok (.bipush 100, 2) := by decide +kernel
theorem dSC_empties_9 : decode cSC_empties 9 = .ok (.aload_n 0, 1) := by decide +kernel
theorem dSC_empties_10 : decode cSC_empties 10 = .ok (.getfield 10, 3) := by decide +kernel
theorem dSC_empties_13 : decode cSC_empties 13 = .ok (.invokevirtual 92, 3) := by decide +kernel
theorem dSC_empties_16 : decode cSC_empties 16 = .ok (.imul, 1) := by decide +kernel
theorem dSC_empties_17 : decode cSC_empties 17 = .ok (.iadd, 1) := by decide +kernel
theorem dSC_empties_18 : decode cSC_empties 18 = .ok (.ireturn, 1) := by decide +kernel
theorem dSC_group_0 : decode cSC_group 0 = .ok (.aload_n 0, 1) := by decide +kernel
theorem dSC_group_1 : decode cSC_group 1 = .ok (.getfield 10, 3) := by decide +kernel
theorem dSC_group_4 : decode cSC_group 4 = .ok (.invokevirtual 41, 3) := by decide +kernel
theorem dSC_group_7 : decode cSC_group 7 = .ok (.ireturn, 1) := by decide +kernel
theorem dSC_high_0 : decode cSC_high 0 = .ok (.iload_n 1, 1) := by decide +kernel
theorem dSC_high_1 : decode cSC_high 1 = .ok (.iconst 0, 1) := by decide +kernel
theorem dSC_high_2 : decode cSC_high 2 = .ok (.aload_n 0, 1) := by decide +kernel
theorem dSC_high_3 : decode cSC_high 3 = .ok (.getfield 10, 3) := by decide +kernel
theorem dSC_high_6 : decode cSC_high 6 = .ok (.invokevirtual 79, 3) := by decide +kernel
theorem dSC_high_9 : decode cSC_high 9 = .ok (.iconst 1, 1) := by decide +kernel
theorem dSC_high_10 : decode cSC_high 10 = .ok (.isub, 1) := by decide +kernel
theorem dSC_high_11 : decode cSC_high 11 = .ok (.invokestatic 48, 3) := by decide +kernel
theorem dSC_high_14 : decode cSC_high 14 = .ok (.ifCond .ne 5, 3) := by decide +kernel
theorem dSC_high_17 : decode cSC_high 17 = .ok (.iconst (-1), 1) := by decide +kernel
theorem dSC_high_18 : decode cSC_high 18 = .ok (.ireturn, 1) := by decide +kernel
theorem dSC_init_0 : decode cSC_init 0 = .ok (.aload_n 0, 1) := by decide +kernel
theorem dSC_init_1 : decode cSC_init 1 = .ok (.invokespecial 1, 3) := by decide +kernel
theorem dSC_init_4 : decode cSC_init 4 = .ok (.aload_n 0, 1) := by decide +kernel
theorem dSC_init_5 : decode cSC_init 5 = .ok (.new 7, 3) := by decide +kernel
theorem dSC_init_8 : decode cSC_init 8 = .ok (.dup, 1) := by decide +kernel
theorem dSC_init_9 : decode cSC_init 9 = .ok (.invokespecial 9, 3) := by decide +kernel
theorem dSC_init_12 : decode cSC_init 12 = .ok (.putfield 10, 3) := by decide +kernel
theorem dSC_init_15 : decode cSC_init 15 = .ok (.aload_n 0, 1) := by decide +kernel
theorem dSC_init_16 : decode cSC_init 16 = .ok (.new 16, 3) := by decide +kernel
theorem dSC_init_19 : decode cSC_init 19 = .ok (.dup, 1) := by decide +kernel
theorem dSC_init_20 : decode cSC_init 20 = .ok (.invokespecial 18, 3) := by decide +kernel
theorem dSC_init_23 : decode cSC_init 23 = .ok (.putfield 19, 3) := by decide +kernel
theorem dSC_init_26 : decode cSC_init 26 = .ok (.aload_n 0, 1) := by decide +kernel
theorem dSC_init_27 : decode cSC_init 27 = .ok (.new 23, 3) := by decide +kernel
theorem dSC_init_30 : decode cSC_init 30 = .ok (.dup, 1) := by decide +kernel
theorem dSC_init_31 : decode cSC_init 31 = .ok (.invokespecial 25, 3) := by decide +kernel
theorem dSC_init_34 : decode cSC_init 34 = .ok (.putfield 26, 3) := by decide +kernel
theorem dSC_init_37 : decode cSC_init 37 = .ok (.aload_n 0, 1) := by decide +kernel
theorem dSC_init_38 : decode cSC_init 38 = .ok (.iconst 0, 1) := by decide +kernel
theorem dSC_init_39 : decode cSC_init 39 = .ok (.putfield 30, 3) := by decide +kernel
theorem dSC_init_42 : decode cSC_init 42 = .ok (.aload_n 0, 1) := by decide +kernel
theorem dSC_init_43 : decode cSC_init 43 = .ok (.iconst 0, 1) := by decide +kernel
theorem dSC_init_44 : decode cSC_init 44 = .ok (.putfield 34, 3) := by decide +kernel
theorem dSC_init_47 : decode cSC_init 47 = .ok (.aload_n 0, 1) := by decide +kernel
theorem dSC_init_48 : decode cSC_init 48 = .ok (.iconst 0, 1) := by decide +kernel
theorem dSC_init_49 : decode cSC_init 49 = .ok (.putfield 37, 3) := by decide +kernel
theorem dSC_init_52 : decode cSC_init 52 = .ok (.return_, 1) := by decide +kernel
theorem dSC_layout_0 : decode cSC_layout 0 = .ok (.iload_n 1, 1) := by decide +kernel
theorem dSC_layout_1 : decode cSC_layout 1 = .ok (.iconst 0, 1) := by decide +kernel
theorem dSC_layout_2 : decode cSC_layout 2 = .ok (.sipush 10000, 3) := by decide +kernel
theorem dSC_layout_5 : decode cSC_layout 5 = .ok (.invokestatic 48, 3) := by decide +kernel
theorem dSC_layout_8 : decode cSC_layout 8 = .ok (.ifCond .eq 13, 3) := by decide +kernel
theorem dSC_layout_11 : decode cSC_layout 11 = .ok (.iload_n 2, 1) := by decide +kernel
theorem dSC_layout_12 : decode cSC_layout 12 = .ok (.iconst 0, 1) := by decide +kernel
theorem dSC_layout_13 : decode cSC_layout 13 = .ok (.bipush 20, 2) := by decide +kernel
theorem dSC_layout_15 : decode cSC_layout 15 = .ok (.invokestatic 48, 3) := by decide +kernel
theorem dSC_layout_18 : decode cSC_layout 18 = .ok (.ifCond .ne 5, 3) := by decide +kernel
theorem dSC_layout_21 : decode cSC_layout 21 = .ok (.iconst 0, 1) := by decide +kernel
theorem dSC_layout_22 : decode cSC_layout 22 = .ok (.ireturn, 1) := by decide +kernel
theorem dSC_layout_23 : decode cSC_layout 23 = .ok (.aload_n 0, 1) := by decide +kernel
theorem dSC_layout_24 : decode cSC_layout 24 = .ok (.iload_n 1, 1) := by decide +kernel
theorem dSC_layout_25 : decode cSC_layout 25 = .ok (.putfield 30, 3) := by decide +kernel
theorem dSC_layout_28 : decode cSC_layout 28 = .ok (.aload_n 0, 1) := by decide +kernel
end
section
theorem dSC_layout_29 : decode cSC_layout 29 = .ok (.iload_n 2, 1) := by decide +kernel
theorem dSC_layout_30 : decode cSC_layout 30 = .ok (.putfield 34, 3) := by decide +kernel
theorem dSC_layout_33 : decode cSC_layout 33 = .ok (.aload_n 0, 1) := by decide +kernel
theorem dSC_layout_34 : decode cSC_layout 34 = .ok (.iload_n 3, 1) := by decide +kernel
theorem dSC_layout_35 : decode cSC_layout 35 = .ok (.putfield 37, 3) := by decide +kernel
theorem dSC_layout_38 : decode cSC_layout 38 = .ok (.iconst 1, 1) := by decide +kernel
theorem dSC_layout_39 : decode cSC_layout 39 = .ok (.ireturn, 1) := by decide +kernel
theorem dSC_overlaps_0 : decode cSC_overlaps 0 = .ok (.aload_n 0, 1) := by decide +kernel
theorem dSC_overlaps_1 : decode cSC_overlaps 1 = .ok (.getfield 10, 3) := by decide +kernel
theorem dSC_overlaps_4 : decode cSC_overlaps 4 = .ok (.invokevirtual 86, 3) := by decide +kernel
theorem dSC_overlaps_7 : decode cSC_overlaps 7 = .ok (.ireturn, 1) := by decide +kernel
theorem dSC_place_0 : decode cSC_place 0 = .ok (.aload_n 0, 1) := by decide +kernel
theorem dSC_place_1 : decode cSC_place 1 = .ok (.getfield 10, 3) := by decide +kernel
theorem dSC_place_4 : decode cSC_place 4 = .ok (.iload_n 1, 1) := by decide +kernel
theorem dSC_place_5 : decode cSC_place 5 = .ok (.invokevirtual 56, 3) := by decide +kernel
theorem dSC_place_8 : decode cSC_place 8 = .ok (.ifCond .ne 5, 3) := by decide +kernel
theorem dSC_place_11 : decode cSC_place 11 = .ok (.iconst (-1), 1) := by decide +kernel
theorem dSC_place_12 : decode cSC_place 12 = .ok (.ireturn, 1) := by decide +kernel
theorem dSC_row_0 : decode cSC_row 0 = .ok (.aload_n 0, 1) := by decide +kernel
theorem dSC_row_1 : decode cSC_row 1 = .ok (.getfield 10, 3) := by decide +kernel
theorem dSC_row_4 : decode cSC_row 4 = .ok (.invokevirtual 45, 3) := by decide +kernel
theorem dSC_row_7 : decode cSC_row 7 = .ok (.ireturn, 1) := by decide +kernel
theorem dSC_rows_0 : decode cSC_rows 0 = .ok (.aload_n 0, 1) := by decide +kernel
theorem dSC_rows_1 : decode cSC_rows 1 = .ok (.getfield 10, 3) := by decide +kernel
theorem dSC_rows_4 : decode cSC_rows 4 = .ok (.invokevirtual 79, 3) := by decide +kernel
theorem dSC_rows_7 : decode cSC_rows 7 = .ok (.ireturn, 1) := by decide +kernel
theorem dSC_size_0 : decode cSC_size 0 = .ok (.aload_n 0, 1) := by decide +kernel
theorem dSC_size_1 : decode cSC_size 1 = .ok (.getfield 10, 3) := by decide +kernel
theorem dSC_size_4 : decode cSC_size 4 = .ok (.invokevirtual 76, 3) := by decide +kernel
theorem dSC_size_7 : decode cSC_size 7 = .ok (.ifCond .eq 13, 3) := by decide +kernel
theorem dSC_size_20 : decode cSC_size 20 = .ok (.iconst 0, 1) := by decide +kernel
theorem dSC_size_21 : decode cSC_size 21 = .ok (.ireturn, 1) := by decide +kernel
theorem dSC_slot_0 : decode cSC_slot 0 = .ok (.aload_n 0, 1) := by decide +kernel
theorem dSC_slot_1 : decode cSC_slot 1 = .ok (.getfield 10, 3) := by decide +kernel
theorem dSC_slot_4 : decode cSC_slot 4 = .ok (.iload_n 1, 1) := by decide +kernel
theorem dSC_slot_5 : decode cSC_slot 5 = .ok (.iload_n 2, 1) := by decide +kernel
theorem dSC_slot_6 : decode cSC_slot 6 = .ok (.invokevirtual 82, 3) := by decide +kernel
theorem dSC_slot_9 : decode cSC_slot 9 = .ok (.ireturn, 1) := by decide +kernel
theorem dSC_span_0 : decode cSC_span 0 = .ok (.aload_n 0, 1) := by decide +kernel
theorem dSC_span_1 : decode cSC_span 1 = .ok (.getfield 10, 3) := by decide +kernel
theorem dSC_span_4 : decode cSC_span 4 = .ok (.iload_n 1, 1) := by decide +kernel
theorem dSC_span_5 : decode cSC_span 5 = .ok (.invokevirtual 56, 3) := by decide +kernel
theorem dSC_span_8 : decode cSC_span 8 = .ok (.ifCond .ne 5, 3) := by decide +kernel
theorem dSC_span_11 : decode cSC_span 11 = .ok (.iconst (-1), 1) := by decide +kernel
theorem dSC_span_12 : decode cSC_span 12 = .ok (.ireturn, 1) := by decide +kernel
theorem dSC_wide_0 : decode cSC_wide 0 = .ok (.iload_n 1, 1) := by decide +kernel
theorem dSC_wide_1 : decode cSC_wide 1 = .ok (.iconst 0, 1) := by decide +kernel
theorem dSC_wide_2 : decode cSC_wide 2 = .ok (.aload_n 0, 1) := by decide +kernel
theorem dSC_wide_3 : decode cSC_wide 3 = .ok (.getfield 10, 3) := by decide +kernel
theorem dSC_wide_6 : decode cSC_wide 6 = .ok (.invokevirtual 76, 3) := by decide +kernel
theorem dSC_wide_9 : decode cSC_wide 9 = .ok (.iconst 1, 1) := by decide +kernel
theorem dSC_wide_10 : decode cSC_wide 10 = .ok (.isub, 1) := by decide +kernel
theorem dSC_wide_11 : decode cSC_wide 11 = .ok (.invokestatic 48, 3) := by decide +kernel
theorem dSC_wide_14 : decode cSC_wide 14 = .ok (.ifCond .ne 5, 3) := by decide +kernel
theorem dSC_wide_17 : decode cSC_wide 17 = .ok (.iconst (-1), 1) := by decide +kernel
theorem dSC_wide_18 : decode cSC_wide 18 = .ok (.ireturn, 1) := by decide +kernel
theorem dSC_within_0 : decode cSC_within 0 = .ok (.iload_n 1, 1) := by decide +kernel
theorem dSC_within_1 : decode cSC_within 1 = .ok (.iload_n 0, 1) := by decide +kernel
theorem dSC_within_2 : decode cSC_within 2 = .ok (.if_icmp .gt 12, 3) := by decide +kernel
theorem dSC_within_5 : decode cSC_within 5 = .ok (.iload_n 0, 1) := by decide +kernel
theorem dSC_within_6 : decode cSC_within 6 = .ok (.iload_n 2, 1) := by decide +kernel
theorem dSC_within_7 : decode cSC_within 7 = .ok (.if_icmp .gt 7, 3) := by decide +kernel
theorem dSC_within_10 : decode cSC_within 10 = .ok (.iconst 1, 1) := by decide +kernel
theorem dSC_within_11 : decode cSC_within 11 = .ok (.goto 4, 3) := by decide +kernel
theorem dSC_within_14 : decode cSC_within 14 = .ok (.iconst 0, 1) := by decide +kernel
theorem dSC_within_15 : decode cSC_within 15 = .ok (.ireturn, 1) := by decide +kernel
theorem dWI_init_0 : decode cWI_init 0 = .ok (.aload_n 0, 1) := by decide +kernel
theorem dWI_init_1 : decode cWI_init 1 = .ok (.invokespecial 3, 3) := by decide +kernel
theorem dWI_init_4 : decode cWI_init 4 = .ok (.aload_n 0, 1) := by decide +kernel
theorem dWI_init_5 : decode cWI_init 5 = .ok (.new 9, 3) := by decide +kernel
theorem dWI_init_8 : decode cWI_init 8 = .ok (.dup, 1) := by decide +kernel
theorem dWI_init_9 : decode cWI_init 9 = .ok (.invokespecial 11, 3) := by decide +kernel
theorem dWI_init_12 : decode cWI_init 12 = .ok (.putfield 12, 3) := by decide +kernel
theorem dWI_init_15 : decode cWI_init 15 = .ok (.aload_n 0, 1) := by decide +kernel
theorem dWI_init_16 : decode cWI_init 16 = .ok (.new 9, 3) := by decide +kernel
theorem dWI_init_19 : decode cWI_init 19 = .ok (.dup, 1) := by decide +kernel
theorem dWI_init_20 : decode cWI_init 20 = .ok (.invokespecial 11, 3) := by decide +kernel
theorem dWI_init_23 : decode cWI_init 23 = .ok (.putfield 18, 3) := by decide +kernel
theorem dWI_init_26 : decode cWI_init 26 = .ok (.aload_n 0, 1) := by decide +kernel
theorem dWI_init_27 : decode cWI_init 27 = .ok (.new 9, 3) := by decide +kernel
theorem dWI_init_30 : decode cWI_init 30 = .ok (.dup, 1) := by decide +kernel
theorem dWI_init_31 : decode cWI_init 31 = .ok (.invokespecial 11, 3) := by decide +kernel
theorem dWI_init_34 : decode cWI_init 34 = .ok (.putfield 21, 3) := by decide +kernel
theorem dWI_init_37 : decode cWI_init 37 = .ok (.aload_n 0, 1) := by decide +kernel
theorem dWI_init_38 : decode cWI_init 38 = .ok (.new 9, 3) := by decide +kernel
theorem dWI_init_41 : decode cWI_init 41 = .ok (.dup, 1) := by decide +kernel
theorem dWI_init_42 : decode cWI_init 42 = .ok (.invokespecial 11, 3) := by decide +kernel
theorem dWI_init_45 : decode cWI_init 45 = .ok (.putfield 24, 3) := by decide +kernel
theorem dWI_init_48 : decode cWI_init 48 = .ok (.return_, 1) := by decide +kernel
end
section
/-! ===== my own rows: contracts of readers (zp_) and of writers (zw_), their heads, ends and calls ===== -/
/-- a reader's start -/
def zp_pre (D : va_G) (cl : List vw_C) (wc : va_W) (tc : List (ClassId × FieldType)) (X : State → Prop) (U : State) : Prop := va_P D cl wc U.heap ∧ va_K D cl tc U ∧ X U
/-- a reader: it answers an int, and nothing changes -/
abbrev zp_M (l : Launch) (y : MethodName) (ws : List Cond) (rm : Room) (av : List Value) (D : va_G) (cl : List vw_C) (wc : va_W) (tc : List (ClassId × FieldType)) (X : State → Prop) (post : Int32 → Prop) : Prop :=
  Met l y ws rm (va_Pc av (zp_pre D cl wc tc X)) (vp_Si post) 0 0 (fun _ => False)
/-- a writer's start -/
def zw_pre (D : va_G) (cl : List vw_C) (wc : va_W) (tc : List (ClassId × FieldType)) (X : (Nat → Prop) → State → Prop) (sz : Nat) (U : State) : Prop := U.heap.size = sz ∧ va_P D cl wc U.heap ∧ va_K D cl tc U ∧ va_D (fun _ => True) wc ∧ X (va_A wc sz) U
/-- the world behind a writer -/
def zw_B {S : Type} (D : va_G) (cl : List vw_C) (A : Nat → Prop) (w1 : S → va_W) (t1 : S → List (ClassId × FieldType)) (u : S) (t : State) : Prop := va_P D cl (w1 u) t.heap ∧ va_K D cl (t1 u) t ∧ va_D A (w1 u)
abbrev zw_Mi {S : Type} (l : Launch) (y : MethodName) (ws : List Cond) (rm : Room) (av : List Value) (D : va_G) (cl : List vw_C) (wc : va_W) (tc : List (ClassId × FieldType)) (X : (Nat → Prop) → State → Prop) (post : Int32 → S → Prop) (w1 : S → va_W) (t1 : S → List (ClassId × FieldType)) (mc ms : Nat) : Prop :=
  ∀ sz : Nat, Met l y ws rm (va_Pc av (zw_pre D cl wc tc X sz)) (va_Qi post (zw_B D cl (va_A wc sz) w1 t1) (va_A wc sz)) mc ms (va_A wc sz)
abbrev zw_Mv {S : Type} (l : Launch) (y : MethodName) (ws : List Cond) (rm : Room) (av : List Value) (D : va_G) (cl : List vw_C) (wc : va_W) (tc : List (ClassId × FieldType)) (X : (Nat → Prop) → State → Prop) (post : S → Prop) (w1 : S → va_W) (t1 : S → List (ClassId × FieldType)) (mc ms : Nat) : Prop :=
  ∀ sz : Nat, Met l y ws rm (va_Pc av (zw_pre D cl wc tc X sz)) (va_Qv post (zw_B D cl (va_A wc sz) w1 t1) (va_A wc sz)) mc ms (va_A wc sz)
/-- what every walk stands on -/
def z_Fix (p : Program) (m : MethodId) (meth : Method) (c : Code) (cc : ByteArray) (nL : Nat) (ret : Option FieldType) (s : State) (args : Array Value) (Ts : List Cond) (own : String) : Prop :=
  p.tables.exec = Jvm.exec ∧ c.code = cc ∧ c.maxLocals = nL ∧ meth.sig.returnType = ret ∧ meth.locks = false ∧ s.vm.findClass own = some m.cls ∧ ∀ w ∈ Ts, w.before args s = true
theorem z_fm {α β : Type} {f : α → Option β} : ∀ (l : List α) (w : List β), l.map f = w.map some → l.filterMap f = w := by
  intro l
  induction l with
  | nil =>
    intro w h
    cases w with
    | nil => rfl
    | cons b w => cases h
  | cons a l ih =>
    intro w h
    cases w with
    | nil => cases h
    | cons b w =>
      rw [List.map_cons, List.map_cons, List.cons.injEq] at h
      rw [List.filterMap_cons, h.1, ih w h.2]
section ZHEAD
variable {l : Launch} {y : MethodName} {ws ws' : List Cond} {rm : Room} {av : List Value} {D : va_G} {cl : List vw_C} {wc : va_W} {tc : List (ClassId × FieldType)} {cc : ByteArray} {maxL : Nat} {ret : Option FieldType}
theorem zp_head {X : State → Prop} {post : Int32 → Prop} (hy : plainName y.cls = true) (hw : ws = Cond.code y cc maxL ret :: ws') (hlen : (lg_sl av).length ≤ maxL)
    (body : ∀ (p : Program) (e : Env) (s : State) (m : MethodId) (below : List Frame) (meth : Method) (c : Code) (ls : Array Slot), z_Fix p m meth c cc maxL ret s av.toArray ws y.cls → va_P D cl wc s.heap → va_K D cl tc s → X s → lv_has ls maxL (lv_args 0 av) →
      W p l e rm s m av.toArray below meth c s.heap [] 0 0 (MQ below (vp_Si post) av.toArray s 0 0 (fun _ => False)) (F0 m 0 ls [])) : zp_M l y ws rm av D cl wc tc X post := by
  refine Met.ofW (cc := cc) (maxL := maxL) (ret := ret) hy hw ?_
  intro p e s m args below meth c s₁ B hml hv
  obtain ⟨rfl, hP, hK, hX⟩ := hv
  rw [lg_entry_eq]
  exact body p e s m below meth c _ ⟨B.exec, B.bytes, hml, B.returns, B.notSynchronized, findClass_of_methodNamed B.named, atoms_spec (ws := ws) B.pre⟩ hP hK hX (lv_entry av hlen)
theorem zw_headi {S : Type} {X : (Nat → Prop) → State → Prop} {post : Int32 → S → Prop} {w1 : S → va_W} {t1 : S → List (ClassId × FieldType)} {mc ms : Nat} (hy : plainName y.cls = true) (hw : ws = Cond.code y cc maxL ret :: ws') (hlen : (lg_sl av).length ≤ maxL)
    (body : ∀ (p : Program) (e : Env) (s : State) (m : MethodId) (below : List Frame) (meth : Method) (c : Code) (ls : Array Slot) (A : Nat → Prop), z_Fix p m meth c cc maxL ret s av.toArray ws y.cls → (∀ q : Nat, s.heap.size ≤ q → A q) → va_P D cl wc s.heap → va_K D cl tc s → va_D A wc → va_S A s.heap s.heap [] → X A s → lv_has ls maxL (lv_args 0 av) →
      W p l e rm s m av.toArray below meth c s.heap [] 0 0 (MQ below (va_Qi post (zw_B D cl A w1 t1) A) av.toArray s mc ms A) (F0 m 0 ls [])) : zw_Mi l y ws rm av D cl wc tc X post w1 t1 mc ms := by
  intro sz
  refine Met.ofW (cc := cc) (maxL := maxL) (ret := ret) hy hw ?_
  intro p e s m args below meth c s₁ B hml hv
  obtain ⟨rfl, hsz, hP, hK, hD0, hX⟩ := hv
  subst hsz
  rw [lg_entry_eq]
  exact body p e s m below meth c _ (va_A wc s.heap.size) ⟨B.exec, B.bytes, hml, B.returns, B.notSynchronized, findClass_of_methodNamed B.named, atoms_spec (ws := ws) B.pre⟩ (fun q h => Or.inr h) hP hK hD0.self va_S.rf hX (lv_entry av hlen)
theorem zw_headv {S : Type} {X : (Nat → Prop) → State → Prop} {post : S → Prop} {w1 : S → va_W} {t1 : S → List (ClassId × FieldType)} {mc ms : Nat} (hy : plainName y.cls = true) (hw : ws = Cond.code y cc maxL ret :: ws') (hlen : (lg_sl av).length ≤ maxL)
    (body : ∀ (p : Program) (e : Env) (s : State) (m : MethodId) (below : List Frame) (meth : Method) (c : Code) (ls : Array Slot) (A : Nat → Prop), z_Fix p m meth c cc maxL ret s av.toArray ws y.cls → (meth.name = y.name) → (∀ q : Nat, s.heap.size ≤ q → A q) → va_P D cl wc s.heap → va_K D cl tc s → va_D A wc → va_S A s.heap s.heap [] → X A s → lv_has ls maxL (lv_args 0 av) →
      W p l e rm s m av.toArray below meth c s.heap [] 0 0 (MQ below (va_Qv post (zw_B D cl A w1 t1) A) av.toArray s mc ms A) (F0 m 0 ls [])) : zw_Mv l y ws rm av D cl wc tc X post w1 t1 mc ms := by
  intro sz
  refine Met.ofW (cc := cc) (maxL := maxL) (ret := ret) hy hw ?_
  intro p e s m args below meth c s₁ B hml hv
  obtain ⟨rfl, hsz, hP, hK, hD0, hX⟩ := hv
  subst hsz
  rw [lg_entry_eq]
  exact body p e s m below meth c _ (va_A wc s.heap.size) ⟨B.exec, B.bytes, hml, B.returns, B.notSynchronized, findClass_of_methodNamed B.named, atoms_spec (ws := ws) B.pre⟩ (name_of_methodNamed B.named B.method).1 (fun q h => Or.inr h) hP hK hD0.self va_S.rf hX (lv_entry av hlen)
end ZHEAD
section ZEND
variable {p : Program} {l : Launch} {e : Env} {R : Room} {s : State} {m : MethodId} {args : Array Value} {below : List Frame} {meth : Method} {c : Code} {H : Heap} {locs : List Loc} {cells slots : Nat}
variable {cc : ByteArray} {pc : Nat} {ls : Array Slot} {D : va_G} {cl : List vw_C} {A : Nat → Prop}
/-- a reader's end -/
theorem zp_iret {post : Int32 → Prop} {v : Int32} (hx : p.tables.exec = Jvm.exec) (hb : c.code = cc) (hr : meth.sig.returnType = some .int) (hlocks : meth.locks = false) (hq : post v) (hdg : decode cc pc = .ok (.ireturn, 1)) :
    W p l e R s m args below meth c s.heap [] 0 0 (MQ below (vp_Si post) args s 0 0 (fun _ => False)) (F0 m pc ls [.int v]) :=
  W.iret (free := fun _ => False) hx hb hr (fun t ht _ => ⟨v, rfl, hq, ht⟩) (fun q h => by cases h) hdg hlocks
theorem zp_zret {post : Int32 → Prop} {v : Int32} (hx : p.tables.exec = Jvm.exec) (hb : c.code = cc) (hr : meth.sig.returnType = some .boolean) (hlocks : meth.locks = false) (hn : v = 0 ∨ v = 1) (hq : post v) (hdg : decode cc pc = .ok (.ireturn, 1)) :
    W p l e R s m args below meth c s.heap [] 0 0 (MQ below (vp_Si post) args s 0 0 (fun _ => False)) (F0 m pc ls [.int v]) :=
  W.zret (free := fun _ => False) hx hb hr (by rcases hn with rfl | rfl <;> rfl) (fun t ht _ => ⟨v, rfl, hq, ht⟩) (fun q h => by cases h) hdg hlocks
/-- a writer's end -/
theorem zw_iret {S : Type} {post : Int32 → S → Prop} {w1 : S → va_W} {t1 : S → List (ClassId × FieldType)} {v : Int32} (u : S) (hx : p.tables.exec = Jvm.exec) (hb : c.code = cc) (hr : meth.sig.returnType = some .int) (hlocks : meth.locks = false) (hq : post v u) (hP : va_P D cl (w1 u) H) (hK : va_K D cl (t1 u) s) (hD : va_D A (w1 u)) (hS : va_S A s.heap H locs) (hdg : decode cc pc = .ok (.ireturn, 1)) :
    W p l e R s m args below meth c H locs cells slots (MQ below (va_Qi post (zw_B D cl A w1 t1) A) args s cells slots A) (F0 m pc ls [.int v]) :=
  W.iret (free := A) hx hb hr (fun t ht hW => ⟨⟨v, u, rfl, hq, by rw [ht]; exact hP, va_K.moved hW.alike hK, hD⟩, hS.F ht⟩) hS.2.2 hdg hlocks
theorem zw_zret {S : Type} {post : Int32 → S → Prop} {w1 : S → va_W} {t1 : S → List (ClassId × FieldType)} {v : Int32} (u : S) (hx : p.tables.exec = Jvm.exec) (hb : c.code = cc) (hr : meth.sig.returnType = some .boolean) (hlocks : meth.locks = false) (hn : v = 0 ∨ v = 1) (hq : post v u) (hP : va_P D cl (w1 u) H) (hK : va_K D cl (t1 u) s) (hD : va_D A (w1 u)) (hS : va_S A s.heap H locs) (hdg : decode cc pc = .ok (.ireturn, 1)) :
    W p l e R s m args below meth c H locs cells slots (MQ below (va_Qi post (zw_B D cl A w1 t1) A) args s cells slots A) (F0 m pc ls [.int v]) :=
  W.zret (free := A) hx hb hr (by rcases hn with rfl | rfl <;> rfl) (fun t ht hW => ⟨⟨v, u, rfl, hq, by rw [ht]; exact hP, va_K.moved hW.alike hK, hD⟩, hS.F ht⟩) hS.2.2 hdg hlocks
theorem zw_vret {S : Type} {post : S → Prop} {w1 : S → va_W} {t1 : S → List (ClassId × FieldType)} (u : S) (hx : p.tables.exec = Jvm.exec) (hb : c.code = cc) (hr : meth.sig.returnType = none) (hlocks : meth.locks = false) (hq : post u) (hP : va_P D cl (w1 u) H) (hK : va_K D cl (t1 u) s) (hD : va_D A (w1 u)) (hS : va_S A s.heap H locs) (hdg : decode cc pc = .ok (.return_, 1)) :
    W p l e R s m args below meth c H locs cells slots (MQ below (va_Qv post (zw_B D cl A w1 t1) A) args s cells slots A) (F0 m pc ls []) :=
  W.vret (free := A) hx hb hr (fun t ht hW => ⟨⟨u, rfl, hq, by rw [ht]; exact hP, va_K.moved hW.alike hK, hD⟩, hS.F ht⟩) hS.2.2 hdg hlocks
end ZEND
section ZCALL
variable {p : Program} {l : Launch} {e : Env} {R : Room} {s : State} {m : MethodId} {args : Array Value} {below : List Frame} {meth : Method} {c : Code} {H : Heap} {locs : List Loc} {cells slots : Nat} {Q : State → Prop}
variable {pc : Nat} {ls : Array Slot} {rest st0 : List Value} {a : Array Value} {A : Nat → Prop} {H0 : Heap} {mc ms : Nat} {D : va_G} {cl : List vw_C} {tys tc : List (ClassId × FieldType)} {ws wc wr : va_W} {av : List Value}
def z_blind (X : State → Prop) : Prop := ∀ (a : Array Value) (U : State) (g : JFrame) (mk : MethodId), X U → X (U.calling g mk a)
theorem zp_preS {X : State → Prop} (hK : va_K D cl tys s) (hP : va_P D cl ws H) (isC : List Nat) (hC : isC.filterMap (fun i => ws[i]?) = wc) (isT : List Nat) (hT : isT.filterMap (fun i => tys[i]?) = tc) (hXb : z_blind X) (hX : ∀ U : State, U.heap = H → s.WarmedH U.vm → X U) : PreS s H (va_Pc av (zp_pre D cl wc tc X)) av :=
  ⟨fun a U g mk q => by obtain ⟨q0, qP, qK, qX⟩ := q; exact ⟨q0, qP, va_K.moved (u := U) (U := U.calling g mk a) (Vm.Alike.refl U.vm) qK, hXb a U g mk qX⟩,
   fun U hU hW => ⟨rfl, by rw [hU]; exact hP.sub isC hC, va_K.moved hW.alike (hK.sub isT hT), hX U hU hW⟩⟩
theorem zp_preV {X : State → Prop} {b q0 ci : Nat} {q : vw_C} {fs As : List Value} (hK : va_K D cl tys s) (hP : va_P D cl ws H) (he : ws[q0]? = some (b, .inr (ci, fs))) (hc : cl[ci]? = some q) (isC : List Nat) (hC : isC.filterMap (fun i => ws[i]?) = wc) (isT : List Nat) (hT : isT.filterMap (fun i => tys[i]?) = tc) (hXb : z_blind X) (hX : ∀ U : State, U.heap = H → s.WarmedH U.vm → X U) : PreV s H q.1 b (va_Pc (.ref b :: As) (zp_pre D cl wc tc X)) As :=
  ⟨(zp_preS (av := .ref b :: As) hK hP isC hC isT hT hXb hX).1, va_recv hK hP hc he, (zp_preS (av := .ref b :: As) hK hP isC hC isT hT hXb hX).2⟩
theorem zw_preS {X : (Nat → Prop) → State → Prop} (hK : va_K D cl tys s) (hP : va_P D cl ws H) (hD : va_D A ws) (isC : List Nat) (hnC : va_nd isC = true) (hC : isC.map (fun i => ws[i]?) = wc.map some) (isT : List Nat) (hT : isT.filterMap (fun i => tys[i]?) = tc) (hXb : z_blind (X (va_A wc H.size))) (hX : ∀ U : State, U.heap = H → s.WarmedH U.vm → X (va_A wc H.size) U) : PreS s H (va_Pc av (zw_pre D cl wc tc X H.size)) av :=
  ⟨fun a U g mk q => by obtain ⟨q0, q1, qP, qK, qD, qX⟩ := q; exact ⟨q0, q1, qP, va_K.moved (u := U) (U := U.calling g mk a) (Vm.Alike.refl U.vm) qK, qD, hXb a U g mk qX⟩,
   fun U hU hW => ⟨rfl, by rw [hU], by rw [hU]; exact hP.sub isC (z_fm isC wc hC), va_K.moved hW.alike (hK.sub isT hT), (hD.sub isC hnC hC).weaken (fun _ _ _ _ => trivial), hX U hU hW⟩⟩
theorem zw_preV {X : (Nat → Prop) → State → Prop} {b q0 ci : Nat} {q : vw_C} {fs As : List Value} (hK : va_K D cl tys s) (hP : va_P D cl ws H) (hD : va_D A ws) (he : ws[q0]? = some (b, .inr (ci, fs))) (hc : cl[ci]? = some q) (isC : List Nat) (hnC : va_nd isC = true) (hC : isC.map (fun i => ws[i]?) = wc.map some) (isT : List Nat) (hT : isT.filterMap (fun i => tys[i]?) = tc) (hXb : z_blind (X (va_A wc H.size))) (hX : ∀ U : State, U.heap = H → s.WarmedH U.vm → X (va_A wc H.size) U) : PreV s H q.1 b (va_Pc (.ref b :: As) (zw_pre D cl wc tc X H.size)) As :=
  ⟨(zw_preS (av := .ref b :: As) hK hP hD isC hnC hC isT hT hXb hX).1, va_recv hK hP hc he, (zw_preS (av := .ref b :: As) hK hP hD isC hnC hC isT hT hXb hX).2⟩
theorem zw_calli {S : Type} {post : Int32 → S → Prop} {w1 : S → va_W} {t1 : S → List (ClassId × FieldType)} (hK : va_K D cl tys s) (hP : va_P D cl ws H) (hD : va_D A ws) (hS : va_S A H0 H locs) (hA : ∀ q, H0.size ≤ q → A q) (isC isR : List Nat) (hC : isC.map (fun i => ws[i]?) = wc.map some) (hR : isR.map (fun i => ws[i]?) = wr.map some) (hn : va_nd isR = true) (hdis : ∀ i ∈ isR, i ∉ isC)
    (hr : va_Run p l e R s m args below meth c H locs cells slots mc ms (F0 m pc ls st0) rest (va_Qi post (zw_B D cl (va_A wc H.size) w1 t1) (va_A wc H.size) a) (va_A wc H.size))
    (kk : ∀ (r : Int32) (u : S) (H1 : Heap) (locs1 : List Loc), post r u → va_P D cl (wr ++ w1 u) H1 → va_D A (wr ++ w1 u) → va_K D cl (tys ++ t1 u) s → va_S A H0 H1 locs1 → W p l e R s m args below meth c H1 locs1 (cells + mc) (slots + ms) Q (F0 m (pc + 3) ls (.int r :: rest))) : W p l e R s m args below meth c H locs cells slots Q (F0 m pc ls st0) := by
  have hFc := va_free (wc := wc) hD hS hA isC hC
  refine va_calli hr hS (fun q _ h => hFc q h) hFc (fun r u t H1 locs1 ht hvm hw hB hz1 hk1 hS1 => ?_)
  obtain ⟨hP1, hK1, hD1⟩ := hB
  rw [ht] at hP1
  obtain ⟨hP2, hD2⟩ := va_join (wr := wr) (w1 := w1 u) hP hD isC isR hC hR hn hdis hk1 hFc hP1 hD1
  exact kk r u H1 locs1 hw hP2 hD2 (hK.app (va_K.moved hvm.symm hK1)) hS1
theorem zw_callv {S : Type} {post : S → Prop} {w1 : S → va_W} {t1 : S → List (ClassId × FieldType)} (hK : va_K D cl tys s) (hP : va_P D cl ws H) (hD : va_D A ws) (hS : va_S A H0 H locs) (hA : ∀ q, H0.size ≤ q → A q) (isC isR : List Nat) (hC : isC.map (fun i => ws[i]?) = wc.map some) (hR : isR.map (fun i => ws[i]?) = wr.map some) (hn : va_nd isR = true) (hdis : ∀ i ∈ isR, i ∉ isC)
    (hr : va_Run p l e R s m args below meth c H locs cells slots mc ms (F0 m pc ls st0) rest (va_Qv post (zw_B D cl (va_A wc H.size) w1 t1) (va_A wc H.size) a) (va_A wc H.size))
    (kk : ∀ (u : S) (H1 : Heap) (locs1 : List Loc), post u → va_P D cl (wr ++ w1 u) H1 → va_D A (wr ++ w1 u) → va_K D cl (tys ++ t1 u) s → va_S A H0 H1 locs1 → W p l e R s m args below meth c H1 locs1 (cells + mc) (slots + ms) Q (F0 m (pc + 3) ls rest)) : W p l e R s m args below meth c H locs cells slots Q (F0 m pc ls st0) := by
  have hFc := va_free (wc := wc) hD hS hA isC hC
  refine va_callv hr hS (fun q _ h => hFc q h) hFc (fun u t H1 locs1 ht hvm hw hB hz1 hk1 hS1 => ?_)
  obtain ⟨hP1, hK1, hD1⟩ := hB
  rw [ht] at hP1
  obtain ⟨hP2, hD2⟩ := va_join (wr := wr) (w1 := w1 u) hP hD isC isR hC hR hn hdis hk1 hFc hP1 hD1
  exact kk u H1 locs1 hw hP2 hD2 (hK.app (va_K.moved hvm.symm hK1)) hS1
end ZCALL
section ZLOOP
variable {p : Program} {l : Launch} {e : Env} {R : Room} {s : State} {m : MethodId} {args : Array Value} {below : List Frame} {meth : Method} {c : Code} {cells slots : Nat} {Q : State → Prop} {pc : Nat} {st : List Value}
/-- a counted loop over a heap that stays -/
theorem zl_up {H : Heap} {locs : List Loc} {σ : Type} (n : Nat) (I : Nat → σ → Array Slot → Prop) (hex : ∀ (x : σ) (ls : Array Slot), I n x ls → W p l e R s m args below meth c H locs cells slots Q (F0 m pc ls st))
    (hst : ∀ i, i < n → (∀ (x : σ) (ls : Array Slot), I (i + 1) x ls → W p l e R s m args below meth c H locs cells slots Q (F0 m pc ls st)) → ∀ (x : σ) (ls : Array Slot), I i x ls → W p l e R s m args below meth c H locs cells slots Q (F0 m pc ls st)) :
    ∀ (i : Nat), i ≤ n → ∀ (x : σ) (ls : Array Slot), I i x ls → W p l e R s m args below meth c H locs cells slots Q (F0 m pc ls st) := by
  have h : ∀ k i, i + k = n → ∀ (x : σ) (ls : Array Slot), I i x ls → W p l e R s m args below meth c H locs cells slots Q (F0 m pc ls st) := by
    intro k
    induction k with
    | zero => intro i hi x ls h; have : i = n := by omega
              subst this; exact hex x ls h
    | succ k ih => intro i hi x ls h; exact hst i (by omega) (fun x ls h => ih (i + 1) (by omega) x ls h) x ls h
  intro i hi x ls hI
  exact h (n - i) i (by omega) x ls hI
/-- a counted loop that writes: x is what changes -/
theorem zl_upW {σ : Type} (n : Nat) (I : Nat → σ → Array Slot → Heap → List Loc → Prop) (hex : ∀ (x : σ) (ls : Array Slot) (H : Heap) (locs : List Loc), I n x ls H locs → W p l e R s m args below meth c H locs cells slots Q (F0 m pc ls st))
    (hst : ∀ i, i < n → (∀ (x : σ) (ls : Array Slot) (H : Heap) (locs : List Loc), I (i + 1) x ls H locs → W p l e R s m args below meth c H locs cells slots Q (F0 m pc ls st)) → ∀ (x : σ) (ls : Array Slot) (H : Heap) (locs : List Loc), I i x ls H locs → W p l e R s m args below meth c H locs cells slots Q (F0 m pc ls st)) :
    ∀ (i : Nat), i ≤ n → ∀ (x : σ) (ls : Array Slot) (H : Heap) (locs : List Loc), I i x ls H locs → W p l e R s m args below meth c H locs cells slots Q (F0 m pc ls st) := by
  have h : ∀ k i, i + k = n → ∀ (x : σ) (ls : Array Slot) (H : Heap) (locs : List Loc), I i x ls H locs → W p l e R s m args below meth c H locs cells slots Q (F0 m pc ls st) := by
    intro k
    induction k with
    | zero => intro i hi x ls H locs h; have : i = n := by omega
              subst this; exact hex x ls H locs h
    | succ k ih => intro i hi x ls H locs h; exact hst i (by omega) (fun x ls H locs h => ih (i + 1) (by omega) x ls H locs h) x ls H locs h
  intro i hi x ls H locs hI
  exact h (n - i) i (by omega) x ls H locs hI
end ZLOOP
section ZQ
variable {p : Program} {l : Launch} {e : Env} {R : Room} {s : State} {m : MethodId} {args : Array Value} {below : List Frame} {meth : Method} {c : Code} {H : Heap} {locs : List Loc} {cells slots : Nat} {Q0 : State → Prop} {g : JFrame}
/-- the end gets a name -/
theorem z_q (k : ∀ Q : State → Prop, Q = Q0 → W p l e R s m args below meth c H locs cells slots Q g) : W p l e R s m args below meth c H locs cells slots Q0 g := k Q0 rfl
/-- a place where roads meet -/
theorem z_join {α : Type} {G : Prop} (P : α → Prop) (T : α → Prop) (k : ∀ v, P v → T v) (h : (∀ v, P v → T v) → G) : G := h k
end ZQ
theorem z_true : z_blind (fun _ => True) := fun _ _ _ _ _ => trivial
end
section
theorem in_SC : ∀ w ∈ u_ws RSC TSC 6, w ∈ zT := by
  intro w hw
  obtain ⟨k, hk, rfl⟩ := List.mem_map.mp hw
  have hk := List.mem_range.mp hk
  match k, hk with
  | 0, _ => exact wd_156
  | 1, _ => exact wd_158
  | 2, _ => exact wd_160
  | 3, _ => exact wd_162
  | 4, _ => exact wd_164
  | 5, _ => exact wd_166
  | (j + 6), h => exact absurd h (by omega)
theorem in_GR : ∀ w ∈ u_ws RGR TGR 6, w ∈ zT := by
  intro w hw
  obtain ⟨k, hk, rfl⟩ := List.mem_map.mp hw
  have hk := List.mem_range.mp hk
  match k, hk with
  | 0, _ => exact wd_91
  | 1, _ => exact wd_93
  | 2, _ => exact wd_95
  | 3, _ => exact wd_97
  | 4, _ => exact wd_99
  | 5, _ => exact wd_101
  | (j + 6), h => exact absurd h (by omega)
theorem in_AL : ∀ w ∈ u_ws RAL TAL 3, w ∈ zT := by
  intro w hw
  obtain ⟨k, hk, rfl⟩ := List.mem_map.mp hw
  have hk := List.mem_range.mp hk
  match k, hk with
  | 0, _ => exact wd_78
  | 1, _ => exact wd_80
  | 2, _ => exact wd_82
  | (j + 3), h => exact absurd h (by omega)
theorem in_WI : ∀ w ∈ u_ws RWI TWI 4, w ∈ zT := by
  intro w hw
  obtain ⟨k, hk, rfl⟩ := List.mem_map.mp hw
  have hk := List.mem_range.mp hk
  match k, hk with
  | 0, _ => exact wd_128
  | 1, _ => exact wd_130
  | 2, _ => exact wd_132
  | 3, _ => exact wd_134
  | (j + 4), h => exact absurd h (by omega)
theorem in_LI : ∀ w ∈ u_ws RLI TLI 1, w ∈ zT := by
  intro w hw
  obtain ⟨k, hk, rfl⟩ := List.mem_map.mp hw
  have hk := List.mem_range.mp hk
  match k, hk with
  | 0, _ => exact wd_117
  | (j + 1), h => exact absurd h (by omega)
theorem in_HE : ∀ w ∈ u_ws RHE THE 1, w ∈ zT := by
  intro w hw
  obtain ⟨k, hk, rfl⟩ := List.mem_map.mp hw
  have hk := List.mem_range.mp hk
  match k, hk with
  | 0, _ => exact wd_147
  | (j + 1), h => exact absurd h (by omega)
theorem in_MD : ∀ w ∈ u_ws RMD TMD 26, w ∈ zT := by
  intro w hw
  obtain ⟨k, hk, rfl⟩ := List.mem_map.mp hw
  have hk := List.mem_range.mp hk
  match k, hk with
  | 0, _ => exact wd_610
  | 1, _ => exact wd_612
  | 2, _ => exact wd_614
  | 3, _ => exact wd_616
  | 4, _ => exact wd_618
  | 5, _ => exact wd_620
  | 6, _ => exact wd_622
  | 7, _ => exact wd_624
  | 8, _ => exact wd_626
  | 9, _ => exact wd_628
  | 10, _ => exact wd_630
  | 11, _ => exact wd_632
  | 12, _ => exact wd_634
  | 13, _ => exact wd_636
  | 14, _ => exact wd_638
  | 15, _ => exact wd_640
  | 16, _ => exact wd_642
  | 17, _ => exact wd_644
  | 18, _ => exact wd_646
  | 19, _ => exact wd_648
  | 20, _ => exact wd_650
  | 21, _ => exact wd_652
  | 22, _ => exact wd_654
  | 23, _ => exact wd_656
  | 24, _ => exact wd_658
  | 25, _ => exact wd_660
  | (j + 26), h => exact absurd h (by omega)
theorem in_CE : ∀ w ∈ u_ws RCE TCE 10, w ∈ zT := by
  intro w hw
  obtain ⟨k, hk, rfl⟩ := List.mem_map.mp hw
  have hk := List.mem_range.mp hk
  match k, hk with
  | 0, _ => exact wd_277
  | 1, _ => exact wd_279
  | 2, _ => exact wd_281
  | 3, _ => exact wd_283
  | 4, _ => exact wd_285
  | 5, _ => exact wd_287
  | 6, _ => exact wd_289
  | 7, _ => exact wd_291
  | 8, _ => exact wd_293
  | 9, _ => exact wd_295
  | (j + 10), h => exact absurd h (by omega)
theorem z_gV {own C : String} {idx maxL : Nat} {y : MethodName} {cc : ByteArray} {ret : Option FieldType} (h1 : Cond.methodLink own idx y ∈ zT) (h2 : Cond.instanceMethod y ∈ zT) (h3 : Cond.selects C y y ∈ zT) (h4 : Cond.initialized C ∈ zT) (h5 : Cond.code y cc maxL ret ∈ zT) : GoodIn zT (wsV own idx C y (.code y cc maxL ret :: zT)) := by
  have hg := zT_good (Ts := zT) (fun _ h => h)
  intro w hw
  unfold wsV at hw
  rcases List.mem_append.mp hw with h | h
  · simp only [List.mem_cons, List.not_mem_nil, or_false] at h
    rcases h with rfl | rfl | rfl | rfl
    · exact hg _ h1
    · exact hg _ h2
    · exact hg _ h3
    · exact hg _ h4
  · rcases List.mem_cons.mp h with rfl | h
    · exact hg _ h5
    · exact hg _ h
theorem z_gS {own : String} {idx maxL : Nat} {y : MethodName} {cc : ByteArray} {ret : Option FieldType} (h1 : Cond.methodLink own idx y ∈ zT) (h2 : Cond.static y ∈ zT) (h4 : Cond.initialized y.cls ∈ zT) (h5 : Cond.code y cc maxL ret ∈ zT) : GoodIn zT (va_wsS own idx y (.code y cc maxL ret :: zT)) := by
  have hg := zT_good (Ts := zT) (fun _ h => h)
  intro w hw
  unfold va_wsS at hw
  rcases List.mem_append.mp hw with h | h
  · simp only [List.mem_cons, List.not_mem_nil, or_false] at h
    rcases h with rfl | rfl | rfl
    · exact hg _ h1
    · exact hg _ h2
    · exact hg _ h4
  · rcases List.mem_cons.mp h with rfl | h
    · exact hg _ h5
    · exact hg _ h
theorem z_gI {maxL : Nat} {y : MethodName} {cc : ByteArray} {ret : Option FieldType} (h5 : Cond.code y cc maxL ret ∈ zT) : GoodIn zT (.code y cc maxL ret :: zT) := by
  have hg := zT_good (Ts := zT) (fun _ h => h)
  intro w hw
  rcases List.mem_cons.mp hw with rfl | h
  · exact hg _ h5
  · exact hg _ h
def zN (U : State) : Prop := ∀ q ∈ zNest, va_Nw (.methodLinkNest q.1 q.2.1 q.2.2.1 q.2.2.2) U
theorem zN_warm {s U : State} (hW : s.WarmedH U.vm) (h : zN s) : zN U := fun q hq => va_Nw.warmM hW (h q hq)
theorem zN_blind : z_blind zN := fun _ U _ _ h q hq => va_Nw.same (u := U) rfl rfl (h q hq)
def zX (t : Nat) (A : Nat → Prop) (U : State) : Prop := zN U ∧ va_Z "java/util/ArrayList" "DEFAULTCAPACITY_EMPTY_ELEMENTDATA" "[Ljava/lang/Object;" (.ref t) A U U.heap
theorem zX_blind {t : Nat} {A : Nat → Prop} : z_blind (zX t A) := fun a U g mk h => ⟨zN_blind a U g mk h.1, va_Z.moved (u := U) (U := U.calling g mk a) (Vm.Alike.refl U.vm) h.2⟩
theorem zX_call {t : Nat} {A : Nat → Prop} {s : State} {H : Heap} {locs : List Loc} {wc : va_W} (h : zX t A s) (hS : va_S A s.heap H locs) (hF : ∀ q, va_A wc H.size q → A q) : ∀ U : State, U.heap = H → s.WarmedH U.vm → zX t (va_A wc H.size) U := by
  intro U hU hW
  refine ⟨zN_warm hW h.1, ?_⟩
  have h2 := ((h.2.kept hS.2.1).moved hW.alike).narrow hF
  rw [hU]
  exact h2
theorem zN_call {s : State} {H : Heap} (h : zN s) : ∀ U : State, U.heap = H → s.WarmedH U.vm → zN U := fun _ _ hW => zN_warm hW h
theorem z_within_none {r v : Int32} (h : (r = 1 ∧ (0 ≤ v ∧ v ≤ (-1))) ∨ (r = 0 ∧ ¬ (0 ≤ v ∧ v ≤ (-1)))) : r = 0 := by
  rcases h with ⟨-, h1, h2⟩ | ⟨h, -⟩
  · exact absurd (Int32.le_trans h1 h2) (by decide)
  · exact h
theorem z_wT {r : Int32} {P : Prop} (h : (r = 1 ∧ P) ∨ (r = 0 ∧ ¬ P)) (h0 : ¬ r = 0) : P := by
  rcases h with ⟨-, h⟩ | ⟨h, -⟩
  · exact h
  · exact absurd h h0
theorem z_wF {r : Int32} {P : Prop} (h : (r = 1 ∧ P) ∨ (r = 0 ∧ ¬ P)) (h0 : r = 0) : ¬ P := by
  rcases h with ⟨h, -⟩ | ⟨-, h⟩
  · subst h0; exact absurd h (by decide)
  · exact h
theorem z_ltN {i n : Nat} {N : Int32} (h : i < n) (hn : n < 2 ^ 31) (e : N = nI n) : ¬ N ≤ nI i := by
  rw [e]
  exact nI_ge h hn
end
section
set_option maxHeartbeats 4000000 in
set_option maxRecDepth 100000 in
theorem c_SC_within (l : Launch) (dC : Nat → ClassId) (dI : Nat → Nat → Nat) (v : Int32) (lo : Int32) (hi : Int32) : zp_M l ySC_within wSC_within ({ frames := 0, cells := 0, slots := 0, locals := 0 }) [.int v, .int lo, .int hi] (dC, dI) vwCl [] [] (fun _ => True) (fun r => (r = 1 ∧ (lo ≤ v ∧ v ≤ hi)) ∨ (r = 0 ∧ ¬ (lo ≤ v ∧ v ≤ hi))) := by
  refine zp_head (cc := cSC_within) (maxL := 3) (ret := (some .boolean)) (by decide +kernel) rfl (Nat.le_of_ble_eq_true rfl) ?_
  intro p e s m below meth c ls F hP hK hX hl
  obtain ⟨hx, hb, hml, hr, hlocks, hown, hts⟩ := F
  have hown : s.vm.findClass "SpannedCells" = some m.cls := hown
  have hz : ∀ w9 ∈ zT, w9.before [.int v, .int lo, .int hi].toArray s = true := fun w9 h => hts w9 (List.mem_cons_of_mem _ h)
  have hl : lv_has ls 3 [(0, .int v), (1, .int lo), (2, .int hi)] := hl
  refine z_q (fun Q hQ => ?_)
  refine lv_iload_n hx hb dSC_within_0 rfl (lv_at hl 1 rfl) ?_
  refine lv_iload_n hx hb dSC_within_1 rfl (lv_at hl 0 rfl) ?_
  refine lv_icmp_gt (tgt := 14) hx hb dSC_within_2 rfl (fun h1 => ?_) (fun h1 => ?_)
  · refine lv_iconst (v := 0) hx hb dSC_within_14 (by decide) ?_
    subst hQ
    exact zp_zret hx hb hr hlocks (Or.inl rfl) (Or.inr ⟨rfl, fun h => absurd h1 (Int32.not_lt.mpr h.1)⟩) dSC_within_15
  · refine lv_iload_n hx hb dSC_within_5 rfl (lv_at hl 0 rfl) ?_
    refine lv_iload_n hx hb dSC_within_6 rfl (lv_at hl 2 rfl) ?_
    refine lv_icmp_gt (tgt := 14) hx hb dSC_within_7 rfl (fun h2 => ?_) (fun h2 => ?_)
    · refine lv_iconst (v := 0) hx hb dSC_within_14 (by decide) ?_
      subst hQ
      exact zp_zret hx hb hr hlocks (Or.inl rfl) (Or.inr ⟨rfl, fun h => absurd h2 (Int32.not_lt.mpr h.2)⟩) dSC_within_15
    · refine lv_iconst (v := 1) hx hb dSC_within_10 (by decide) ?_
      refine lv_goto (tgt := 15) hx hb dSC_within_11 rfl ?_
      subst hQ
      exact zp_zret hx hb hr hlocks (Or.inr rfl) (Or.inl ⟨rfl, Int32.not_lt.mp h1, Int32.not_lt.mp h2⟩) dSC_within_15

set_option maxHeartbeats 4000000 in
set_option maxRecDepth 100000 in
theorem c_AL_size (l : Launch) (dC : Nat → ClassId) (dI : Nat → Nat → Nat) (al : Nat) (ed : Nat) (n : Int32) (mo : Int32) : zp_M l yAL_size wAL_size ({ frames := 0, cells := 0, slots := 0, locals := 0 }) [.ref al] (dC, dI) vwCl [(al, .inr (2, [.ref ed, .int n, .int mo]))] [] (fun _ => True) (fun r => r = n) := by
  refine zp_head (cc := cAL_size) (maxL := 1) (ret := (some .int)) (by decide +kernel) rfl (Nat.le_of_ble_eq_true rfl) ?_
  intro p e s m below meth c ls F hP hK hX hl
  obtain ⟨hx, hb, hml, hr, hlocks, hown, hts⟩ := F
  have hown : s.vm.findClass "java/util/ArrayList" = some m.cls := hown
  have hz : ∀ w9 ∈ zT, w9.before [.ref al].toArray s = true := fun w9 h => hts w9 (List.mem_cons_of_mem _ h)
  have hl : lv_has ls 1 [(0, .ref al)] := hl
  refine z_q (fun Q hQ => ?_)
  refine lv_aload_n hx hb dAL_size_0 rfl (lv_at hl 0 rfl) ?_
  refine va_get (D := (dC, dI)) (ci := 2) (v := .int n) (C := RAL) (T := TAL) (N := 3) hx hb hz in_AL hown hK hP 0 rfl rfl 1 (by decide) (hz _ wd_74) (fun _ h9 => h9) rfl dAL_size_1 ?_
  subst hQ
  exact zp_iret hx hb hr hlocks (rfl) dAL_size_4

set_option maxHeartbeats 4000000 in
set_option maxRecDepth 100000 in
theorem c_GR_cellCount (l : Launch) (dC : Nat → ClassId) (dI : Nat → Nat → Nat) (g : Nat) (al : Nat) (ed : Nat) (n : Int32) (mo : Int32) (gr : Int32) (gs : Int32) (bg : Int32) (re : Int32) (ce : Int32) : zp_M l yGR_cellCount wGR_cellCount ({ frames := 1, cells := 0, slots := 0, locals := 20 }) [.ref g] (dC, dI) vwCl [(g, .inr (1, [.ref al, .int gr, .int gs, .int bg, .int re, .int ce])), (al, .inr (2, [.ref ed, .int n, .int mo]))] [] (fun _ => True) (fun r => r = n) := by
  refine zp_head (cc := cGR_cellCount) (maxL := 1) (ret := (some .int)) (by decide +kernel) rfl (Nat.le_of_ble_eq_true rfl) ?_
  intro p e s m below meth c ls F hP hK hX hl
  obtain ⟨hx, hb, hml, hr, hlocks, hown, hts⟩ := F
  have hown : s.vm.findClass "SpannedCells$Grid" = some m.cls := hown
  have hz : ∀ w9 ∈ zT, w9.before [.ref g].toArray s = true := fun w9 h => hts w9 (List.mem_cons_of_mem _ h)
  have hl : lv_has ls 1 [(0, .ref g)] := hl
  refine z_q (fun Q hQ => ?_)
  refine lv_aload_n hx hb dGR_cellCount_0 rfl (lv_at hl 0 rfl) ?_
  refine va_get (D := (dC, dI)) (ci := 1) (v := .ref al) (C := RGR) (T := TGR) (N := 6) hx hb hz in_GR hown hK hP 0 rfl rfl 0 (by decide) (hz _ wd_85) (fun _ h9 => h9) rfl dGR_cellCount_1 ?_
  refine vp_callSi (W.runV (As := []) (rest := []) ⟨hx, hb, hml, hown, hz⟩ (c_AL_size l dC dI al ed n mo ) (cwV 0 hz (z_gV wd_192 wd_193 wd_194 wd_33 wd_195) rfl rfl rfl (by decide +kernel) ⟨Nat.le_of_ble_eq_true rfl, Nat.le_of_ble_eq_true rfl⟩) (zp_preV (q0 := 1) (q := (RAL, TAL, 3)) hK hP rfl rfl [1] rfl [] rfl z_true (fun _ _ _ => trivial)) rfl rfl hl.1 rfl (lv_room (Nat.le_of_ble_eq_true rfl)) dGR_cellCount_4 ⟨Nat.le_of_ble_eq_true rfl, Nat.le_of_ble_eq_true rfl⟩) (fun r1 h_r1 => ?_)
  have h_r1 : r1 = n := h_r1
  subst h_r1
  subst hQ
  exact zp_iret hx hb hr hlocks (rfl) dGR_cellCount_7

set_option maxHeartbeats 4000000 in
set_option maxRecDepth 100000 in
theorem c_GR_columnCount (l : Launch) (dC : Nat → ClassId) (dI : Nat → Nat → Nat) (g : Nat) (al : Nat) (ed : Nat) (n : Int32) (mo : Int32) (gr : Int32) (gs : Int32) (bg : Int32) (re : Int32) (ce : Int32) : zp_M l yGR_columnCount wGR_columnCount ({ frames := 0, cells := 0, slots := 0, locals := 0 }) [.ref g] (dC, dI) vwCl [(g, .inr (1, [.ref al, .int gr, .int gs, .int bg, .int re, .int ce])), (al, .inr (2, [.ref ed, .int n, .int mo]))] [] (fun _ => True) (fun r => r = ce) := by
  refine zp_head (cc := cGR_columnCount) (maxL := 1) (ret := (some .int)) (by decide +kernel) rfl (Nat.le_of_ble_eq_true rfl) ?_
  intro p e s m below meth c ls F hP hK hX hl
  obtain ⟨hx, hb, hml, hr, hlocks, hown, hts⟩ := F
  have hown : s.vm.findClass "SpannedCells$Grid" = some m.cls := hown
  have hz : ∀ w9 ∈ zT, w9.before [.ref g].toArray s = true := fun w9 h => hts w9 (List.mem_cons_of_mem _ h)
  have hl : lv_has ls 1 [(0, .ref g)] := hl
  refine z_q (fun Q hQ => ?_)
  refine lv_aload_n hx hb dGR_columnCount_0 rfl (lv_at hl 0 rfl) ?_
  refine va_get (D := (dC, dI)) (ci := 1) (v := .int ce) (C := RGR) (T := TGR) (N := 6) hx hb hz in_GR hown hK hP 0 rfl rfl 5 (by decide) (hz _ wd_90) (fun _ h9 => h9) rfl dGR_columnCount_1 ?_
  subst hQ
  exact zp_iret hx hb hr hlocks (rfl) dGR_columnCount_4

set_option maxHeartbeats 4000000 in
set_option maxRecDepth 100000 in
theorem c_GR_rowCount (l : Launch) (dC : Nat → ClassId) (dI : Nat → Nat → Nat) (g : Nat) (al : Nat) (ed : Nat) (n : Int32) (mo : Int32) (gr : Int32) (gs : Int32) (bg : Int32) (re : Int32) (ce : Int32) : zp_M l yGR_rowCount wGR_rowCount ({ frames := 0, cells := 0, slots := 0, locals := 0 }) [.ref g] (dC, dI) vwCl [(g, .inr (1, [.ref al, .int gr, .int gs, .int bg, .int re, .int ce])), (al, .inr (2, [.ref ed, .int n, .int mo]))] [] (fun _ => True) (fun r => r = re) := by
  refine zp_head (cc := cGR_rowCount) (maxL := 1) (ret := (some .int)) (by decide +kernel) rfl (Nat.le_of_ble_eq_true rfl) ?_
  intro p e s m below meth c ls F hP hK hX hl
  obtain ⟨hx, hb, hml, hr, hlocks, hown, hts⟩ := F
  have hown : s.vm.findClass "SpannedCells$Grid" = some m.cls := hown
  have hz : ∀ w9 ∈ zT, w9.before [.ref g].toArray s = true := fun w9 h => hts w9 (List.mem_cons_of_mem _ h)
  have hl : lv_has ls 1 [(0, .ref g)] := hl
  refine z_q (fun Q hQ => ?_)
  refine lv_aload_n hx hb dGR_rowCount_0 rfl (lv_at hl 0 rfl) ?_
  refine va_get (D := (dC, dI)) (ci := 1) (v := .int re) (C := RGR) (T := TGR) (N := 6) hx hb hz in_GR hown hK hP 0 rfl rfl 4 (by decide) (hz _ wd_89) (fun _ h9 => h9) rfl dGR_rowCount_1 ?_
  subst hQ
  exact zp_iret hx hb hr hlocks (rfl) dGR_rowCount_4

set_option maxHeartbeats 4000000 in
set_option maxRecDepth 100000 in
theorem c_GR_hasCell (l : Launch) (dC : Nat → ClassId) (dI : Nat → Nat → Nat) (g : Nat) (al : Nat) (ed : Nat) (mo : Int32) (k : Int32) : zp_M l yGR_hasCell wGR_hasCell ({ frames := 1, cells := 0, slots := 0, locals := 20 }) [.ref g, .int k] (dC, dI) vwCl [(g, .inr (1, [.ref al, .int 1, .int 0, .int 0, .int 0, .int 0])), (al, .inr (2, [.ref ed, .int 0, .int mo]))] [] (fun _ => True) (fun r => r = 0) := by
  refine zp_head (cc := cGR_hasCell) (maxL := 2) (ret := (some .boolean)) (by decide +kernel) rfl (Nat.le_of_ble_eq_true rfl) ?_
  intro p e s m below meth c ls F hP hK hX hl
  obtain ⟨hx, hb, hml, hr, hlocks, hown, hts⟩ := F
  have hown : s.vm.findClass "SpannedCells$Grid" = some m.cls := hown
  have hz : ∀ w9 ∈ zT, w9.before [.ref g, .int k].toArray s = true := fun w9 h => hts w9 (List.mem_cons_of_mem _ h)
  have hl : lv_has ls 2 [(0, .ref g), (1, .int k)] := hl
  refine z_q (fun Q hQ => ?_)
  refine lv_iconst (v := 0) hx hb dGR_hasCell_0 (by decide) ?_
  refine lv_iload_n hx hb dGR_hasCell_1 rfl (lv_at hl 1 rfl) ?_
  refine lv_icmp_gt (tgt := 20) hx hb dGR_hasCell_2 rfl (fun h1 => ?_) (fun h1 => ?_)
  · refine lv_iconst (v := 0) hx hb dGR_hasCell_20 (by decide) ?_
    subst hQ
    exact zp_zret hx hb hr hlocks (Or.inl rfl) (rfl) dGR_hasCell_21
  · refine lv_iload_n hx hb dGR_hasCell_5 rfl (lv_at hl 1 rfl) ?_
    refine lv_aload_n hx hb dGR_hasCell_6 rfl (lv_at hl 0 rfl) ?_
    refine va_get (D := (dC, dI)) (ci := 1) (v := .ref al) (C := RGR) (T := TGR) (N := 6) hx hb hz in_GR hown hK hP 0 rfl rfl 0 (by decide) (hz _ wd_85) (fun _ h9 => h9) rfl dGR_hasCell_7 ?_
    refine vp_callSi (W.runV (As := []) (rest := [.int k]) ⟨hx, hb, hml, hown, hz⟩ (c_AL_size l dC dI al ed 0 mo ) (cwV 0 hz (z_gV wd_192 wd_193 wd_194 wd_33 wd_195) rfl rfl rfl (by decide +kernel) ⟨Nat.le_of_ble_eq_true rfl, Nat.le_of_ble_eq_true rfl⟩) (zp_preV (q0 := 1) (q := (RAL, TAL, 3)) hK hP rfl rfl [1] rfl [] rfl z_true (fun _ _ _ => trivial)) rfl rfl hl.1 rfl (lv_room (Nat.le_of_ble_eq_true rfl)) dGR_hasCell_10 ⟨Nat.le_of_ble_eq_true rfl, Nat.le_of_ble_eq_true rfl⟩) (fun r2 h_r2 => ?_)
    have h_r2 : r2 = 0 := h_r2
    subst h_r2
    refine lv_icmp_ge (tgt := 20) hx hb dGR_hasCell_13 rfl (fun _ => ?_) (fun h => absurd (Int32.not_lt.mp h1) h)
    refine lv_iconst (v := 0) hx hb dGR_hasCell_20 (by decide) ?_
    subst hQ
    exact zp_zret hx hb hr hlocks (Or.inl rfl) (rfl) dGR_hasCell_21
end
section
set_option maxHeartbeats 4000000 in
set_option maxRecDepth 100000 in
theorem c_GR_ownerOf (l : Launch) (dC : Nat → ClassId) (dI : Nat → Nat → Nat) (g : Nat) (al : Nat) (ed : Nat) (mo : Int32) (x : Int32) (y : Int32) : zp_M l yGR_ownerOf wGR_ownerOf ({ frames := 1, cells := 0, slots := 0, locals := 20 }) [.ref g, .int x, .int y] (dC, dI) vwCl [(g, .inr (1, [.ref al, .int 1, .int 0, .int 0, .int 0, .int 0])), (al, .inr (2, [.ref ed, .int 0, .int mo]))] [] (fun _ => True) (fun r => r = (-1)) := by
  refine zp_head (cc := cGR_ownerOf) (maxL := 4) (ret := (some .int)) (by decide +kernel) rfl (Nat.le_of_ble_eq_true rfl) ?_
  intro p e s m below meth c ls F hP hK hX hl
  obtain ⟨hx, hb, hml, hr, hlocks, hown, hts⟩ := F
  have hown : s.vm.findClass "SpannedCells$Grid" = some m.cls := hown
  have hz : ∀ w9 ∈ zT, w9.before [.ref g, .int x, .int y].toArray s = true := fun w9 h => hts w9 (List.mem_cons_of_mem _ h)
  have hl : lv_has ls 4 [(0, .ref g), (1, .int x), (2, .int y)] := hl
  refine z_q (fun Q hQ => ?_)
  refine lv_iconst (v := 0) hx hb dGR_ownerOf_0 (by decide) ?_
  refine lv_istore_n hx hb dGR_ownerOf_1 rfl hl (Nat.le_of_ble_eq_true rfl) rfl (fun ls hl => ?_)
  have hl : lv_has ls 4 [(3, .int 0), (0, .ref g), (1, .int x), (2, .int y)] := hl
  refine lv_iload_n hx hb dGR_ownerOf_2 rfl (lv_at hl 0 rfl) ?_
  refine lv_aload_n hx hb dGR_ownerOf_3 rfl (lv_at hl 1 rfl) ?_
  refine va_get (D := (dC, dI)) (ci := 1) (v := .ref al) (C := RGR) (T := TGR) (N := 6) hx hb hz in_GR hown hK hP 0 rfl rfl 0 (by decide) (hz _ wd_85) (fun _ h9 => h9) rfl dGR_ownerOf_4 ?_
  refine vp_callSi (W.runV (As := []) (rest := [.int 0]) ⟨hx, hb, hml, hown, hz⟩ (c_AL_size l dC dI al ed 0 mo ) (cwV 0 hz (z_gV wd_192 wd_193 wd_194 wd_33 wd_195) rfl rfl rfl (by decide +kernel) ⟨Nat.le_of_ble_eq_true rfl, Nat.le_of_ble_eq_true rfl⟩) (zp_preV (q0 := 1) (q := (RAL, TAL, 3)) hK hP rfl rfl [1] rfl [] rfl z_true (fun _ _ _ => trivial)) rfl rfl hl.1 rfl (lv_room (Nat.le_of_ble_eq_true rfl)) dGR_ownerOf_7 ⟨Nat.le_of_ble_eq_true rfl, Nat.le_of_ble_eq_true rfl⟩) (fun r1 h_r1 => ?_)
  have h_r1 : r1 = 0 := h_r1
  subst h_r1
  refine lv_icmp_ge (tgt := 40) hx hb dGR_ownerOf_10 rfl (fun _ => ?_) (fun h => absurd (by decide) h)
  refine lv_iconst (v := (-1)) hx hb dGR_ownerOf_40 (by decide) ?_
  subst hQ
  exact zp_iret hx hb hr hlocks (rfl) dGR_ownerOf_41

set_option maxHeartbeats 4000000 in
set_option maxRecDepth 100000 in
theorem c_GR_countOwnedSlots (l : Launch) (dC : Nat → ClassId) (dI : Nat → Nat → Nat) (g : Nat) (al : Nat) (ed : Nat) (mo : Int32) : zp_M l yGR_countOwnedSlots wGR_countOwnedSlots ({ frames := 0, cells := 0, slots := 0, locals := 0 }) [.ref g] (dC, dI) vwCl [(g, .inr (1, [.ref al, .int 1, .int 0, .int 0, .int 0, .int 0])), (al, .inr (2, [.ref ed, .int 0, .int mo]))] [] (fun _ => True) (fun r => r = 0) := by
  refine zp_head (cc := cGR_countOwnedSlots) (maxL := 4) (ret := (some .int)) (by decide +kernel) rfl (Nat.le_of_ble_eq_true rfl) ?_
  intro p e s m below meth c ls F hP hK hX hl
  obtain ⟨hx, hb, hml, hr, hlocks, hown, hts⟩ := F
  have hown : s.vm.findClass "SpannedCells$Grid" = some m.cls := hown
  have hz : ∀ w9 ∈ zT, w9.before [.ref g].toArray s = true := fun w9 h => hts w9 (List.mem_cons_of_mem _ h)
  have hl : lv_has ls 4 [(0, .ref g)] := hl
  refine z_q (fun Q hQ => ?_)
  refine lv_iconst (v := 0) hx hb dGR_countOwnedSlots_0 (by decide) ?_
  refine lv_istore_n hx hb dGR_countOwnedSlots_1 rfl hl (Nat.le_of_ble_eq_true rfl) rfl (fun ls hl => ?_)
  have hl : lv_has ls 4 [(1, .int 0), (0, .ref g)] := hl
  refine lv_iconst (v := 0) hx hb dGR_countOwnedSlots_2 (by decide) ?_
  refine lv_istore_n hx hb dGR_countOwnedSlots_3 rfl hl (Nat.le_of_ble_eq_true rfl) rfl (fun ls hl => ?_)
  have hl : lv_has ls 4 [(2, .int 0), (1, .int 0), (0, .ref g)] := hl
  refine lv_iload_n hx hb dGR_countOwnedSlots_4 rfl (lv_at hl 0 rfl) ?_
  refine lv_aload_n hx hb dGR_countOwnedSlots_5 rfl (lv_at hl 2 rfl) ?_
  refine va_get (D := (dC, dI)) (ci := 1) (v := .int 0) (C := RGR) (T := TGR) (N := 6) hx hb hz in_GR hown hK hP 0 rfl rfl 4 (by decide) (hz _ wd_89) (fun _ h9 => h9) rfl dGR_countOwnedSlots_6 ?_
  refine lv_icmp_ge (tgt := 52) hx hb dGR_countOwnedSlots_9 rfl (fun _ => ?_) (fun h => absurd (by decide) h)
  refine lv_iload_n hx hb dGR_countOwnedSlots_52 rfl (lv_at hl 1 rfl) ?_
  subst hQ
  exact zp_iret hx hb hr hlocks (rfl) dGR_countOwnedSlots_53

set_option maxHeartbeats 4000000 in
set_option maxRecDepth 100000 in
theorem c_GR_countOverlaps (l : Launch) (dC : Nat → ClassId) (dI : Nat → Nat → Nat) (g : Nat) (al : Nat) (ed : Nat) (mo : Int32) : zp_M l yGR_countOverlaps wGR_countOverlaps ({ frames := 1, cells := 0, slots := 0, locals := 23 }) [.ref g] (dC, dI) vwCl [(g, .inr (1, [.ref al, .int 1, .int 0, .int 0, .int 0, .int 0])), (al, .inr (2, [.ref ed, .int 0, .int mo]))] [] (fun _ => True) (fun r => r = 0) := by
  refine zp_head (cc := cGR_countOverlaps) (maxL := 3) (ret := (some .int)) (by decide +kernel) rfl (Nat.le_of_ble_eq_true rfl) ?_
  intro p e s m below meth c ls F hP hK hX hl
  obtain ⟨hx, hb, hml, hr, hlocks, hown, hts⟩ := F
  have hown : s.vm.findClass "SpannedCells$Grid" = some m.cls := hown
  have hz : ∀ w9 ∈ zT, w9.before [.ref g].toArray s = true := fun w9 h => hts w9 (List.mem_cons_of_mem _ h)
  have hl : lv_has ls 3 [(0, .ref g)] := hl
  refine z_q (fun Q hQ => ?_)
  refine lv_iconst (v := 0) hx hb dGR_countOverlaps_0 (by decide) ?_
  refine lv_istore_n hx hb dGR_countOverlaps_1 rfl hl (Nat.le_of_ble_eq_true rfl) rfl (fun ls hl => ?_)
  have hl : lv_has ls 3 [(1, .int 0), (0, .ref g)] := hl
  refine lv_iconst (v := 0) hx hb dGR_countOverlaps_2 (by decide) ?_
  refine lv_istore_n hx hb dGR_countOverlaps_3 rfl hl (Nat.le_of_ble_eq_true rfl) rfl (fun ls hl => ?_)
  have hl : lv_has ls 3 [(2, .int 0), (1, .int 0), (0, .ref g)] := hl
  refine lv_iload_n hx hb dGR_countOverlaps_4 rfl (lv_at hl 0 rfl) ?_
  refine lv_aload_n hx hb dGR_countOverlaps_5 rfl (lv_at hl 2 rfl) ?_
  refine va_get (D := (dC, dI)) (ci := 1) (v := .ref al) (C := RGR) (T := TGR) (N := 6) hx hb hz in_GR hown hK hP 0 rfl rfl 0 (by decide) (hz _ wd_85) (fun _ h9 => h9) rfl dGR_countOverlaps_6 ?_
  refine vp_callSi (W.runV (As := []) (rest := [.int 0]) ⟨hx, hb, hml, hown, hz⟩ (c_AL_size l dC dI al ed 0 mo ) (cwV 0 hz (z_gV wd_192 wd_193 wd_194 wd_33 wd_195) rfl rfl rfl (by decide +kernel) ⟨Nat.le_of_ble_eq_true rfl, Nat.le_of_ble_eq_true rfl⟩) (zp_preV (q0 := 1) (q := (RAL, TAL, 3)) hK hP rfl rfl [1] rfl [] rfl z_true (fun _ _ _ => trivial)) rfl rfl hl.1 rfl (lv_room (Nat.le_of_ble_eq_true rfl)) dGR_countOverlaps_9 ⟨Nat.le_of_ble_eq_true rfl, Nat.le_of_ble_eq_true rfl⟩) (fun r1 h_r1 => ?_)
  have h_r1 : r1 = 0 := h_r1
  subst h_r1
  refine lv_icmp_ge (tgt := 53) hx hb dGR_countOverlaps_12 rfl (fun _ => ?_) (fun h => absurd (by decide) h)
  refine lv_iload_n hx hb dGR_countOverlaps_53 rfl (lv_at hl 1 rfl) ?_
  refine lv_aload_n hx hb dGR_countOverlaps_54 rfl (lv_at hl 2 rfl) ?_
  refine vp_callSi (W.runV (As := []) (rest := [.int 0]) ⟨hx, hb, hml, hown, hz⟩ (c_GR_countOwnedSlots l dC dI g al ed mo ) (cwV 0 hz (z_gV wd_416 wd_418 wd_5 wd_30 wd_419) rfl rfl rfl (by decide +kernel) ⟨Nat.le_of_ble_eq_true rfl, Nat.le_of_ble_eq_true rfl⟩) (zp_preV (q0 := 0) (q := (RGR, TGR, 6)) hK hP rfl rfl [0, 1] rfl [] rfl z_true (fun _ _ _ => trivial)) rfl rfl hl.1 rfl (lv_room (Nat.le_of_ble_eq_true rfl)) dGR_countOverlaps_55 ⟨Nat.le_of_ble_eq_true rfl, Nat.le_of_ble_eq_true rfl⟩) (fun r2 h_r2 => ?_)
  have h_r2 : r2 = 0 := h_r2
  subst h_r2
  refine lv_isub hx hb dGR_countOverlaps_58 ?_
  refine lv_topi (fun x3 e4 => ?_)
  have e4 : x3 = 0 := e4.trans (by decide)
  subst e4
  subst hQ
  exact zp_iret hx hb hr hlocks (rfl) dGR_countOverlaps_59

set_option maxHeartbeats 4000000 in
set_option maxRecDepth 100000 in
theorem c_GR_countEmptyColumns (l : Launch) (dC : Nat → ClassId) (dI : Nat → Nat → Nat) (g : Nat) (al : Nat) (ed : Nat) (mo : Int32) : zp_M l yGR_countEmptyColumns wGR_countEmptyColumns ({ frames := 0, cells := 0, slots := 0, locals := 0 }) [.ref g] (dC, dI) vwCl [(g, .inr (1, [.ref al, .int 1, .int 0, .int 0, .int 0, .int 0])), (al, .inr (2, [.ref ed, .int 0, .int mo]))] [] (fun _ => True) (fun r => r = 0) := by
  refine zp_head (cc := cGR_countEmptyColumns) (maxL := 3) (ret := (some .int)) (by decide +kernel) rfl (Nat.le_of_ble_eq_true rfl) ?_
  intro p e s m below meth c ls F hP hK hX hl
  obtain ⟨hx, hb, hml, hr, hlocks, hown, hts⟩ := F
  have hown : s.vm.findClass "SpannedCells$Grid" = some m.cls := hown
  have hz : ∀ w9 ∈ zT, w9.before [.ref g].toArray s = true := fun w9 h => hts w9 (List.mem_cons_of_mem _ h)
  have hl : lv_has ls 3 [(0, .ref g)] := hl
  refine z_q (fun Q hQ => ?_)
  refine lv_iconst (v := 0) hx hb dGR_countEmptyColumns_0 (by decide) ?_
  refine lv_istore_n hx hb dGR_countEmptyColumns_1 rfl hl (Nat.le_of_ble_eq_true rfl) rfl (fun ls hl => ?_)
  have hl : lv_has ls 3 [(1, .int 0), (0, .ref g)] := hl
  refine lv_iconst (v := 0) hx hb dGR_countEmptyColumns_2 (by decide) ?_
  refine lv_istore_n hx hb dGR_countEmptyColumns_3 rfl hl (Nat.le_of_ble_eq_true rfl) rfl (fun ls hl => ?_)
  have hl : lv_has ls 3 [(2, .int 0), (1, .int 0), (0, .ref g)] := hl
  refine lv_iload_n hx hb dGR_countEmptyColumns_4 rfl (lv_at hl 0 rfl) ?_
  refine lv_aload_n hx hb dGR_countEmptyColumns_5 rfl (lv_at hl 2 rfl) ?_
  refine va_get (D := (dC, dI)) (ci := 1) (v := .int 0) (C := RGR) (T := TGR) (N := 6) hx hb hz in_GR hown hK hP 0 rfl rfl 5 (by decide) (hz _ wd_90) (fun _ h9 => h9) rfl dGR_countEmptyColumns_6 ?_
  refine lv_icmp_ge (tgt := 34) hx hb dGR_countEmptyColumns_9 rfl (fun _ => ?_) (fun h => absurd (by decide) h)
  refine lv_iload_n hx hb dGR_countEmptyColumns_34 rfl (lv_at hl 1 rfl) ?_
  subst hQ
  exact zp_iret hx hb hr hlocks (rfl) dGR_countEmptyColumns_35

set_option maxHeartbeats 4000000 in
set_option maxRecDepth 100000 in
theorem c_GR_countEmptyRows (l : Launch) (dC : Nat → ClassId) (dI : Nat → Nat → Nat) (g : Nat) (al : Nat) (ed : Nat) (mo : Int32) : zp_M l yGR_countEmptyRows wGR_countEmptyRows ({ frames := 0, cells := 0, slots := 0, locals := 0 }) [.ref g] (dC, dI) vwCl [(g, .inr (1, [.ref al, .int 1, .int 0, .int 0, .int 0, .int 0])), (al, .inr (2, [.ref ed, .int 0, .int mo]))] [] (fun _ => True) (fun r => r = 0) := by
  refine zp_head (cc := cGR_countEmptyRows) (maxL := 3) (ret := (some .int)) (by decide +kernel) rfl (Nat.le_of_ble_eq_true rfl) ?_
  intro p e s m below meth c ls F hP hK hX hl
  obtain ⟨hx, hb, hml, hr, hlocks, hown, hts⟩ := F
  have hown : s.vm.findClass "SpannedCells$Grid" = some m.cls := hown
  have hz : ∀ w9 ∈ zT, w9.before [.ref g].toArray s = true := fun w9 h => hts w9 (List.mem_cons_of_mem _ h)
  have hl : lv_has ls 3 [(0, .ref g)] := hl
  refine z_q (fun Q hQ => ?_)
  refine lv_iconst (v := 0) hx hb dGR_countEmptyRows_0 (by decide) ?_
  refine lv_istore_n hx hb dGR_countEmptyRows_1 rfl hl (Nat.le_of_ble_eq_true rfl) rfl (fun ls hl => ?_)
  have hl : lv_has ls 3 [(1, .int 0), (0, .ref g)] := hl
  refine lv_iconst (v := 0) hx hb dGR_countEmptyRows_2 (by decide) ?_
  refine lv_istore_n hx hb dGR_countEmptyRows_3 rfl hl (Nat.le_of_ble_eq_true rfl) rfl (fun ls hl => ?_)
  have hl : lv_has ls 3 [(2, .int 0), (1, .int 0), (0, .ref g)] := hl
  refine lv_iload_n hx hb dGR_countEmptyRows_4 rfl (lv_at hl 0 rfl) ?_
  refine lv_aload_n hx hb dGR_countEmptyRows_5 rfl (lv_at hl 2 rfl) ?_
  refine va_get (D := (dC, dI)) (ci := 1) (v := .int 0) (C := RGR) (T := TGR) (N := 6) hx hb hz in_GR hown hK hP 0 rfl rfl 4 (by decide) (hz _ wd_89) (fun _ h9 => h9) rfl dGR_countEmptyRows_6 ?_
  refine lv_icmp_ge (tgt := 34) hx hb dGR_countEmptyRows_9 rfl (fun _ => ?_) (fun h => absurd (by decide) h)
  refine lv_iload_n hx hb dGR_countEmptyRows_34 rfl (lv_at hl 1 rfl) ?_
  subst hQ
  exact zp_iret hx hb hr hlocks (rfl) dGR_countEmptyRows_35

set_option maxHeartbeats 4000000 in
set_option maxRecDepth 100000 in
theorem c_GR_putCell (l : Launch) (dC : Nat → ClassId) (dI : Nat → Nat → Nat) (g : Nat) (al : Nat) (ed : Nat) (mo : Int32) (a : Int32) (b : Int32) (c1 : Int32) (d : Int32) (e1 : Int32) : zp_M l yGR_putCell wGR_putCell ({ frames := 0, cells := 0, slots := 0, locals := 0 }) [.ref g, .int a, .int b, .int c1, .int d, .int e1] (dC, dI) vwCl [(g, .inr (1, [.ref al, .int 1, .int 0, .int 0, .int 0, .int 0])), (al, .inr (2, [.ref ed, .int 0, .int mo]))] [] (fun _ => True) (fun r => r = (-1)) := by
  refine zp_head (cc := cGR_putCell) (maxL := 8) (ret := (some .int)) (by decide +kernel) rfl (Nat.le_of_ble_eq_true rfl) ?_
  intro p e s m below meth c ls F hP hK hX hl
  obtain ⟨hx, hb, hml, hr, hlocks, hown, hts⟩ := F
  have hown : s.vm.findClass "SpannedCells$Grid" = some m.cls := hown
  have hz : ∀ w9 ∈ zT, w9.before [.ref g, .int a, .int b, .int c1, .int d, .int e1].toArray s = true := fun w9 h => hts w9 (List.mem_cons_of_mem _ h)
  have hl : lv_has ls 8 [(0, .ref g), (1, .int a), (2, .int b), (3, .int c1), (4, .int d), (5, .int e1)] := hl
  refine z_q (fun Q hQ => ?_)
  refine lv_aload_n hx hb dGR_putCell_0 rfl (lv_at hl 0 rfl) ?_
  refine va_get (D := (dC, dI)) (ci := 1) (v := .int 0) (C := RGR) (T := TGR) (N := 6) hx hb hz in_GR hown hK hP 0 rfl rfl 3 (by decide) (hz _ wd_88) (fun _ h9 => h9) rfl dGR_putCell_1 ?_
  refine lv_if_eq (tgt := 19) hx hb dGR_putCell_4 rfl (fun _ => ?_) (fun h => absurd (by decide) h)
  refine lv_iconst (v := (-1)) hx hb dGR_putCell_19 (by decide) ?_
  subst hQ
  exact zp_iret hx hb hr hlocks (rfl) dGR_putCell_20

set_option maxHeartbeats 4000000 in
set_option maxRecDepth 100000 in
theorem c_GR_hasSlot (l : Launch) (dC : Nat → ClassId) (dI : Nat → Nat → Nat) (g : Nat) (al : Nat) (ed : Nat) (mo : Int32) (x : Int32) (y : Int32) : zp_M l yGR_hasSlot wGR_hasSlot ({ frames := 1, cells := 0, slots := 0, locals := 22 }) [.ref g, .int x, .int y] (dC, dI) vwCl [(g, .inr (1, [.ref al, .int 1, .int 0, .int 0, .int 0, .int 0])), (al, .inr (2, [.ref ed, .int 0, .int mo]))] [] zN (fun r => r = 0) := by
  refine zp_head (cc := cGR_hasSlot) (maxL := 3) (ret := (some .boolean)) (by decide +kernel) rfl (Nat.le_of_ble_eq_true rfl) ?_
  intro p e s m below meth c ls F hP hK hX hl
  obtain ⟨hx, hb, hml, hr, hlocks, hown, hts⟩ := F
  have hown : s.vm.findClass "SpannedCells$Grid" = some m.cls := hown
  have hz : ∀ w9 ∈ zT, w9.before [.ref g, .int x, .int y].toArray s = true := fun w9 h => hts w9 (List.mem_cons_of_mem _ h)
  have hl : lv_has ls 3 [(0, .ref g), (1, .int x), (2, .int y)] := hl
  have hN := hX
  refine z_q (fun Q hQ => ?_)
  refine lv_iload_n hx hb dGR_hasSlot_0 rfl (lv_at hl 1 rfl) ?_
  refine lv_iconst (v := 0) hx hb dGR_hasSlot_1 (by decide) ?_
  refine lv_aload_n hx hb dGR_hasSlot_2 rfl (lv_at hl 0 rfl) ?_
  refine va_get (D := (dC, dI)) (ci := 1) (v := .int 0) (C := RGR) (T := TGR) (N := 6) hx hb hz in_GR hown hK hP 0 rfl rfl 5 (by decide) (hz _ wd_90) (fun _ h9 => h9) rfl dGR_hasSlot_3 ?_
  refine lv_iconst (v := 1) hx hb dGR_hasSlot_6 (by decide) ?_
  refine lv_isub hx hb dGR_hasSlot_7 ?_
  refine lv_topi (fun x1 e2 => ?_)
  have e2 : x1 = (-1) := e2.trans (by decide)
  subst e2
  refine vp_callSi (va_Run.run (va_runSN (As := [.int x, .int 0, .int (-1)]) (rest := []) ⟨hx, hb, hml, hown, hz⟩ (c_SC_within l dC dI x 0 (-1) ) ⟨va_cnB 3 hz (z_gI wd_221) rfl rfl rfl (hN ("SpannedCells$Grid", 77, ySC_within, "SpannedCells") (List.mem_of_getElem? (i := 5) rfl)) (hz _ wd_29) (by decide +kernel) ⟨Nat.le_of_ble_eq_true rfl, Nat.le_of_ble_eq_true rfl⟩, (hz _ wd_220), trivial⟩ (zp_preS hK hP [] rfl [] rfl z_true (fun _ _ _ => trivial)) rfl rfl hl.1 rfl (lv_room (Nat.le_of_ble_eq_true rfl)) dGR_hasSlot_8 ⟨Nat.le_of_ble_eq_true rfl, Nat.le_of_ble_eq_true rfl⟩)) (fun r3 h_r3 => ?_)
  have h_r3 : r3 = 0 := (z_within_none h_r3)
  subst h_r3
  refine lv_if_eq (tgt := 32) hx hb dGR_hasSlot_11 rfl (fun _ => ?_) (fun h => absurd (by decide) h)
  refine lv_iconst (v := 0) hx hb dGR_hasSlot_32 (by decide) ?_
  subst hQ
  exact zp_zret hx hb hr hlocks (Or.inl rfl) (rfl) dGR_hasSlot_33

set_option maxHeartbeats 4000000 in
set_option maxRecDepth 100000 in
theorem c_SC_columns (l : Launch) (dC : Nat → ClassId) (dI : Nat → Nat → Nat) (h0 : Nat) (g : Nat) (wd : Nat) (hh : Nat) (al : Nat) (ed : Nat) (mo : Int32) : zp_M l ySC_columns wSC_columns ({ frames := 1, cells := 0, slots := 0, locals := 20 }) [.ref h0] (dC, dI) vwCl [(h0, .inr (0, [.ref g, .ref wd, .ref hh, .int 0, .int 0, .int 0])), (g, .inr (1, [.ref al, .int 1, .int 0, .int 0, .int 0, .int 0])), (al, .inr (2, [.ref ed, .int 0, .int mo]))] [] (fun _ => True) (fun r => r = 0) := by
  refine zp_head (cc := cSC_columns) (maxL := 1) (ret := (some .int)) (by decide +kernel) rfl (Nat.le_of_ble_eq_true rfl) ?_
  intro p e s m below meth c ls F hP hK hX hl
  obtain ⟨hx, hb, hml, hr, hlocks, hown, hts⟩ := F
  have hown : s.vm.findClass "SpannedCells" = some m.cls := hown
  have hz : ∀ w9 ∈ zT, w9.before [.ref h0].toArray s = true := fun w9 h => hts w9 (List.mem_cons_of_mem _ h)
  have hl : lv_has ls 1 [(0, .ref h0)] := hl
  refine z_q (fun Q hQ => ?_)
  refine lv_aload_n hx hb dSC_columns_0 rfl (lv_at hl 0 rfl) ?_
  refine va_get (D := (dC, dI)) (ci := 0) (v := .ref g) (C := RSC) (T := TSC) (N := 6) hx hb hz in_SC hown hK hP 0 rfl rfl 0 (by decide) (hz _ wd_150) (fun _ h9 => h9) rfl dSC_columns_1 ?_
  refine vp_callSi (W.runV (As := []) (rest := []) ⟨hx, hb, hml, hown, hz⟩ (c_GR_columnCount l dC dI g al ed 0 mo 1 0 0 0 0 ) (cwV 0 hz (z_gV wd_391 wd_392 wd_393 wd_30 wd_394) rfl rfl rfl (by decide +kernel) ⟨Nat.le_of_ble_eq_true rfl, Nat.le_of_ble_eq_true rfl⟩) (zp_preV (q0 := 1) (q := (RGR, TGR, 6)) hK hP rfl rfl [1, 2] rfl [] rfl z_true (fun _ _ _ => trivial)) rfl rfl hl.1 rfl (lv_room (Nat.le_of_ble_eq_true rfl)) dSC_columns_4 ⟨Nat.le_of_ble_eq_true rfl, Nat.le_of_ble_eq_true rfl⟩) (fun r1 h_r1 => ?_)
  have h_r1 : r1 = 0 := h_r1
  subst h_r1
  subst hQ
  exact zp_iret hx hb hr hlocks (rfl) dSC_columns_7

set_option maxHeartbeats 4000000 in
set_option maxRecDepth 100000 in
theorem c_SC_rows (l : Launch) (dC : Nat → ClassId) (dI : Nat → Nat → Nat) (h0 : Nat) (g : Nat) (wd : Nat) (hh : Nat) (al : Nat) (ed : Nat) (mo : Int32) : zp_M l ySC_rows wSC_rows ({ frames := 1, cells := 0, slots := 0, locals := 20 }) [.ref h0] (dC, dI) vwCl [(h0, .inr (0, [.ref g, .ref wd, .ref hh, .int 0, .int 0, .int 0])), (g, .inr (1, [.ref al, .int 1, .int 0, .int 0, .int 0, .int 0])), (al, .inr (2, [.ref ed, .int 0, .int mo]))] [] (fun _ => True) (fun r => r = 0) := by
  refine zp_head (cc := cSC_rows) (maxL := 1) (ret := (some .int)) (by decide +kernel) rfl (Nat.le_of_ble_eq_true rfl) ?_
  intro p e s m below meth c ls F hP hK hX hl
  obtain ⟨hx, hb, hml, hr, hlocks, hown, hts⟩ := F
  have hown : s.vm.findClass "SpannedCells" = some m.cls := hown
  have hz : ∀ w9 ∈ zT, w9.before [.ref h0].toArray s = true := fun w9 h => hts w9 (List.mem_cons_of_mem _ h)
  have hl : lv_has ls 1 [(0, .ref h0)] := hl
  refine z_q (fun Q hQ => ?_)
  refine lv_aload_n hx hb dSC_rows_0 rfl (lv_at hl 0 rfl) ?_
  refine va_get (D := (dC, dI)) (ci := 0) (v := .ref g) (C := RSC) (T := TSC) (N := 6) hx hb hz in_SC hown hK hP 0 rfl rfl 0 (by decide) (hz _ wd_150) (fun _ h9 => h9) rfl dSC_rows_1 ?_
  refine vp_callSi (W.runV (As := []) (rest := []) ⟨hx, hb, hml, hown, hz⟩ (c_GR_rowCount l dC dI g al ed 0 mo 1 0 0 0 0 ) (cwV 0 hz (z_gV wd_399 wd_400 wd_401 wd_30 wd_402) rfl rfl rfl (by decide +kernel) ⟨Nat.le_of_ble_eq_true rfl, Nat.le_of_ble_eq_true rfl⟩) (zp_preV (q0 := 1) (q := (RGR, TGR, 6)) hK hP rfl rfl [1, 2] rfl [] rfl z_true (fun _ _ _ => trivial)) rfl rfl hl.1 rfl (lv_room (Nat.le_of_ble_eq_true rfl)) dSC_rows_4 ⟨Nat.le_of_ble_eq_true rfl, Nat.le_of_ble_eq_true rfl⟩) (fun r1 h_r1 => ?_)
  have h_r1 : r1 = 0 := h_r1
  subst h_r1
  subst hQ
  exact zp_iret hx hb hr hlocks (rfl) dSC_rows_7

set_option maxHeartbeats 4000000 in
set_option maxRecDepth 100000 in
theorem c_SC_overlaps (l : Launch) (dC : Nat → ClassId) (dI : Nat → Nat → Nat) (h0 : Nat) (g : Nat) (wd : Nat) (hh : Nat) (al : Nat) (ed : Nat) (mo : Int32) : zp_M l ySC_overlaps wSC_overlaps ({ frames := 2, cells := 0, slots := 0, locals := 45 }) [.ref h0] (dC, dI) vwCl [(h0, .inr (0, [.ref g, .ref wd, .ref hh, .int 0, .int 0, .int 0])), (g, .inr (1, [.ref al, .int 1, .int 0, .int 0, .int 0, .int 0])), (al, .inr (2, [.ref ed, .int 0, .int mo]))] [] (fun _ => True) (fun r => r = 0) := by
  refine zp_head (cc := cSC_overlaps) (maxL := 1) (ret := (some .int)) (by decide +kernel) rfl (Nat.le_of_ble_eq_true rfl) ?_
  intro p e s m below meth c ls F hP hK hX hl
  obtain ⟨hx, hb, hml, hr, hlocks, hown, hts⟩ := F
  have hown : s.vm.findClass "SpannedCells" = some m.cls := hown
  have hz : ∀ w9 ∈ zT, w9.before [.ref h0].toArray s = true := fun w9 h => hts w9 (List.mem_cons_of_mem _ h)
  have hl : lv_has ls 1 [(0, .ref h0)] := hl
  refine z_q (fun Q hQ => ?_)
  refine lv_aload_n hx hb dSC_overlaps_0 rfl (lv_at hl 0 rfl) ?_
  refine va_get (D := (dC, dI)) (ci := 0) (v := .ref g) (C := RSC) (T := TSC) (N := 6) hx hb hz in_SC hown hK hP 0 rfl rfl 0 (by decide) (hz _ wd_150) (fun _ h9 => h9) rfl dSC_overlaps_1 ?_
  refine vp_callSi (W.runV (As := []) (rest := []) ⟨hx, hb, hml, hown, hz⟩ (c_GR_countOverlaps l dC dI g al ed mo ) (cwV 0 hz (z_gV wd_412 wd_413 wd_414 wd_30 wd_415) rfl rfl rfl (by decide +kernel) ⟨Nat.le_of_ble_eq_true rfl, Nat.le_of_ble_eq_true rfl⟩) (zp_preV (q0 := 1) (q := (RGR, TGR, 6)) hK hP rfl rfl [1, 2] rfl [] rfl z_true (fun _ _ _ => trivial)) rfl rfl hl.1 rfl (lv_room (Nat.le_of_ble_eq_true rfl)) dSC_overlaps_4 ⟨Nat.le_of_ble_eq_true rfl, Nat.le_of_ble_eq_true rfl⟩) (fun r1 h_r1 => ?_)
  have h_r1 : r1 = 0 := h_r1
  subst h_r1
  subst hQ
  exact zp_iret hx hb hr hlocks (rfl) dSC_overlaps_7

set_option maxHeartbeats 4000000 in
set_option maxRecDepth 100000 in
theorem c_SC_empties (l : Launch) (dC : Nat → ClassId) (dI : Nat → Nat → Nat) (h0 : Nat) (g : Nat) (wd : Nat) (hh : Nat) (al : Nat) (ed : Nat) (mo : Int32) : zp_M l ySC_empties wSC_empties ({ frames := 1, cells := 0, slots := 0, locals := 22 }) [.ref h0] (dC, dI) vwCl [(h0, .inr (0, [.ref g, .ref wd, .ref hh, .int 0, .int 0, .int 0])), (g, .inr (1, [.ref al, .int 1, .int 0, .int 0, .int 0, .int 0])), (al, .inr (2, [.ref ed, .int 0, .int mo]))] [] (fun _ => True) (fun r => r = 0) := by
  refine zp_head (cc := cSC_empties) (maxL := 1) (ret := (some .int)) (by decide +kernel) rfl (Nat.le_of_ble_eq_true rfl) ?_
  intro p e s m below meth c ls F hP hK hX hl
  obtain ⟨hx, hb, hml, hr, hlocks, hown, hts⟩ := F
  have hown : s.vm.findClass "SpannedCells" = some m.cls := hown
  have hz : ∀ w9 ∈ zT, w9.before [.ref h0].toArray s = true := fun w9 h => hts w9 (List.mem_cons_of_mem _ h)
  have hl : lv_has ls 1 [(0, .ref h0)] := hl
  refine z_q (fun Q hQ => ?_)
  refine lv_aload_n hx hb dSC_empties_0 rfl (lv_at hl 0 rfl) ?_
  refine va_get (D := (dC, dI)) (ci := 0) (v := .ref g) (C := RSC) (T := TSC) (N := 6) hx hb hz in_SC hown hK hP 0 rfl rfl 0 (by decide) (hz _ wd_150) (fun _ h9 => h9) rfl dSC_empties_1 ?_
  refine vp_callSi (W.runV (As := []) (rest := []) ⟨hx, hb, hml, hown, hz⟩ (c_GR_countEmptyColumns l dC dI g al ed mo ) (cwV 0 hz (z_gV wd_424 wd_425 wd_426 wd_30 wd_427) rfl rfl rfl (by decide +kernel) ⟨Nat.le_of_ble_eq_true rfl, Nat.le_of_ble_eq_true rfl⟩) (zp_preV (q0 := 1) (q := (RGR, TGR, 6)) hK hP rfl rfl [1, 2] rfl [] rfl z_true (fun _ _ _ => trivial)) rfl rfl hl.1 rfl (lv_room (Nat.le_of_ble_eq_true rfl)) dSC_empties_4 ⟨Nat.le_of_ble_eq_true rfl, Nat.le_of_ble_eq_true rfl⟩) (fun r1 h_r1 => ?_)
  have h_r1 : r1 = 0 := h_r1
  subst h_r1
  refine lv_bipush (v := 100) hx hb dSC_empties_7 (by decide) ?_
  refine lv_aload_n hx hb dSC_empties_9 rfl (lv_at hl 0 rfl) ?_
  refine va_get (D := (dC, dI)) (ci := 0) (v := .ref g) (C := RSC) (T := TSC) (N := 6) hx hb hz in_SC hown hK hP 0 rfl rfl 0 (by decide) (hz _ wd_150) (fun _ h9 => h9) rfl dSC_empties_10 ?_
  refine vp_callSi (W.runV (As := []) (rest := [.int 100, .int 0]) ⟨hx, hb, hml, hown, hz⟩ (c_GR_countEmptyRows l dC dI g al ed mo ) (cwV 0 hz (z_gV wd_432 wd_433 wd_434 wd_30 wd_435) rfl rfl rfl (by decide +kernel) ⟨Nat.le_of_ble_eq_true rfl, Nat.le_of_ble_eq_true rfl⟩) (zp_preV (q0 := 1) (q := (RGR, TGR, 6)) hK hP rfl rfl [1, 2] rfl [] rfl z_true (fun _ _ _ => trivial)) rfl rfl hl.1 rfl (lv_room (Nat.le_of_ble_eq_true rfl)) dSC_empties_13 ⟨Nat.le_of_ble_eq_true rfl, Nat.le_of_ble_eq_true rfl⟩) (fun r2 h_r2 => ?_)
  have h_r2 : r2 = 0 := h_r2
  subst h_r2
  refine lv_imul hx hb dSC_empties_16 ?_
  refine lv_topi (fun x3 e4 => ?_)
  have e4 : x3 = 0 := e4.trans (by decide)
  subst e4
  refine lv_iadd hx hb dSC_empties_17 ?_
  refine lv_topi (fun x5 e6 => ?_)
  have e6 : x5 = 0 := e6.trans (by decide)
  subst e6
  subst hQ
  exact zp_iret hx hb hr hlocks (rfl) dSC_empties_18

set_option maxHeartbeats 4000000 in
set_option maxRecDepth 100000 in
theorem c_SC_slot (l : Launch) (dC : Nat → ClassId) (dI : Nat → Nat → Nat) (h0 : Nat) (g : Nat) (wd : Nat) (hh : Nat) (al : Nat) (ed : Nat) (mo : Int32) (x : Int32) (y : Int32) : zp_M l ySC_slot wSC_slot ({ frames := 2, cells := 0, slots := 0, locals := 43 }) [.ref h0, .int x, .int y] (dC, dI) vwCl [(h0, .inr (0, [.ref g, .ref wd, .ref hh, .int 0, .int 0, .int 0])), (g, .inr (1, [.ref al, .int 1, .int 0, .int 0, .int 0, .int 0])), (al, .inr (2, [.ref ed, .int 0, .int mo]))] [] (fun _ => True) (fun r => r = (-1)) := by
  refine zp_head (cc := cSC_slot) (maxL := 3) (ret := (some .int)) (by decide +kernel) rfl (Nat.le_of_ble_eq_true rfl) ?_
  intro p e s m below meth c ls F hP hK hX hl
  obtain ⟨hx, hb, hml, hr, hlocks, hown, hts⟩ := F
  have hown : s.vm.findClass "SpannedCells" = some m.cls := hown
  have hz : ∀ w9 ∈ zT, w9.before [.ref h0, .int x, .int y].toArray s = true := fun w9 h => hts w9 (List.mem_cons_of_mem _ h)
  have hl : lv_has ls 3 [(0, .ref h0), (1, .int x), (2, .int y)] := hl
  refine z_q (fun Q hQ => ?_)
  refine lv_aload_n hx hb dSC_slot_0 rfl (lv_at hl 0 rfl) ?_
  refine va_get (D := (dC, dI)) (ci := 0) (v := .ref g) (C := RSC) (T := TSC) (N := 6) hx hb hz in_SC hown hK hP 0 rfl rfl 0 (by decide) (hz _ wd_150) (fun _ h9 => h9) rfl dSC_slot_1 ?_
  refine lv_iload_n hx hb dSC_slot_4 rfl (lv_at hl 1 rfl) ?_
  refine lv_iload_n hx hb dSC_slot_5 rfl (lv_at hl 2 rfl) ?_
  refine vp_callSi (W.runV (As := [.int x, .int y]) (rest := []) ⟨hx, hb, hml, hown, hz⟩ (c_GR_ownerOf l dC dI g al ed mo x y ) (cwV 2 hz (z_gV wd_407 wd_231 wd_232 wd_30 wd_233) rfl rfl rfl (by decide +kernel) ⟨Nat.le_of_ble_eq_true rfl, Nat.le_of_ble_eq_true rfl⟩) (zp_preV (q0 := 1) (q := (RGR, TGR, 6)) hK hP rfl rfl [1, 2] rfl [] rfl z_true (fun _ _ _ => trivial)) rfl rfl hl.1 rfl (lv_room (Nat.le_of_ble_eq_true rfl)) dSC_slot_6 ⟨Nat.le_of_ble_eq_true rfl, Nat.le_of_ble_eq_true rfl⟩) (fun r1 h_r1 => ?_)
  have h_r1 : r1 = (-1) := h_r1
  subst h_r1
  subst hQ
  exact zp_iret hx hb hr hlocks (rfl) dSC_slot_9

set_option maxHeartbeats 4000000 in
set_option maxRecDepth 100000 in
theorem c_SC_span (l : Launch) (dC : Nat → ClassId) (dI : Nat → Nat → Nat) (h0 : Nat) (g : Nat) (wd : Nat) (hh : Nat) (al : Nat) (ed : Nat) (mo : Int32) (k : Int32) : zp_M l ySC_span wSC_span ({ frames := 2, cells := 0, slots := 0, locals := 41 }) [.ref h0, .int k] (dC, dI) vwCl [(h0, .inr (0, [.ref g, .ref wd, .ref hh, .int 0, .int 0, .int 0])), (g, .inr (1, [.ref al, .int 1, .int 0, .int 0, .int 0, .int 0])), (al, .inr (2, [.ref ed, .int 0, .int mo]))] [] (fun _ => True) (fun r => r = (-1)) := by
  refine zp_head (cc := cSC_span) (maxL := 3) (ret := (some .int)) (by decide +kernel) rfl (Nat.le_of_ble_eq_true rfl) ?_
  intro p e s m below meth c ls F hP hK hX hl
  obtain ⟨hx, hb, hml, hr, hlocks, hown, hts⟩ := F
  have hown : s.vm.findClass "SpannedCells" = some m.cls := hown
  have hz : ∀ w9 ∈ zT, w9.before [.ref h0, .int k].toArray s = true := fun w9 h => hts w9 (List.mem_cons_of_mem _ h)
  have hl : lv_has ls 3 [(0, .ref h0), (1, .int k)] := hl
  refine z_q (fun Q hQ => ?_)
  refine lv_aload_n hx hb dSC_span_0 rfl (lv_at hl 0 rfl) ?_
  refine va_get (D := (dC, dI)) (ci := 0) (v := .ref g) (C := RSC) (T := TSC) (N := 6) hx hb hz in_SC hown hK hP 0 rfl rfl 0 (by decide) (hz _ wd_150) (fun _ h9 => h9) rfl dSC_span_1 ?_
  refine lv_iload_n hx hb dSC_span_4 rfl (lv_at hl 1 rfl) ?_
  refine vp_callSi (W.runV (As := [.int k]) (rest := []) ⟨hx, hb, hml, hown, hz⟩ (c_GR_hasCell l dC dI g al ed mo k ) (cwV 1 hz (z_gV wd_355 wd_356 wd_357 wd_30 wd_358) rfl rfl rfl (by decide +kernel) ⟨Nat.le_of_ble_eq_true rfl, Nat.le_of_ble_eq_true rfl⟩) (zp_preV (q0 := 1) (q := (RGR, TGR, 6)) hK hP rfl rfl [1, 2] rfl [] rfl z_true (fun _ _ _ => trivial)) rfl rfl hl.1 rfl (lv_room (Nat.le_of_ble_eq_true rfl)) dSC_span_5 ⟨Nat.le_of_ble_eq_true rfl, Nat.le_of_ble_eq_true rfl⟩) (fun r1 h_r1 => ?_)
  have h_r1 : r1 = 0 := h_r1
  subst h_r1
  refine lv_if_ne (tgt := 13) hx hb dSC_span_8 rfl (fun h => absurd (by decide) h) (fun _ => ?_)
  refine lv_iconst (v := (-1)) hx hb dSC_span_11 (by decide) ?_
  subst hQ
  exact zp_iret hx hb hr hlocks (rfl) dSC_span_12

set_option maxHeartbeats 4000000 in
set_option maxRecDepth 100000 in
theorem c_SC_wide (l : Launch) (dC : Nat → ClassId) (dI : Nat → Nat → Nat) (h0 : Nat) (g : Nat) (wd : Nat) (hh : Nat) (al : Nat) (ed : Nat) (mo : Int32) (x : Int32) (w : Int32) : zp_M l ySC_wide wSC_wide ({ frames := 1, cells := 0, slots := 0, locals := 22 }) [.ref h0, .int x, .int w] (dC, dI) vwCl [(h0, .inr (0, [.ref g, .ref wd, .ref hh, .int 0, .int 0, .int 0])), (g, .inr (1, [.ref al, .int 1, .int 0, .int 0, .int 0, .int 0])), (al, .inr (2, [.ref ed, .int 0, .int mo]))] [] (fun _ => True) (fun r => r = (-1)) := by
  refine zp_head (cc := cSC_wide) (maxL := 3) (ret := (some .int)) (by decide +kernel) rfl (Nat.le_of_ble_eq_true rfl) ?_
  intro p e s m below meth c ls F hP hK hX hl
  obtain ⟨hx, hb, hml, hr, hlocks, hown, hts⟩ := F
  have hown : s.vm.findClass "SpannedCells" = some m.cls := hown
  have hz : ∀ w9 ∈ zT, w9.before [.ref h0, .int x, .int w].toArray s = true := fun w9 h => hts w9 (List.mem_cons_of_mem _ h)
  have hl : lv_has ls 3 [(0, .ref h0), (1, .int x), (2, .int w)] := hl
  refine z_q (fun Q hQ => ?_)
  refine lv_iload_n hx hb dSC_wide_0 rfl (lv_at hl 1 rfl) ?_
  refine lv_iconst (v := 0) hx hb dSC_wide_1 (by decide) ?_
  refine lv_aload_n hx hb dSC_wide_2 rfl (lv_at hl 0 rfl) ?_
  refine va_get (D := (dC, dI)) (ci := 0) (v := .ref g) (C := RSC) (T := TSC) (N := 6) hx hb hz in_SC hown hK hP 0 rfl rfl 0 (by decide) (hz _ wd_150) (fun _ h9 => h9) rfl dSC_wide_3 ?_
  refine vp_callSi (W.runV (As := []) (rest := [.int 0, .int x]) ⟨hx, hb, hml, hown, hz⟩ (c_GR_columnCount l dC dI g al ed 0 mo 1 0 0 0 0 ) (cwV 0 hz (z_gV wd_391 wd_392 wd_393 wd_30 wd_394) rfl rfl rfl (by decide +kernel) ⟨Nat.le_of_ble_eq_true rfl, Nat.le_of_ble_eq_true rfl⟩) (zp_preV (q0 := 1) (q := (RGR, TGR, 6)) hK hP rfl rfl [1, 2] rfl [] rfl z_true (fun _ _ _ => trivial)) rfl rfl hl.1 rfl (lv_room (Nat.le_of_ble_eq_true rfl)) dSC_wide_6 ⟨Nat.le_of_ble_eq_true rfl, Nat.le_of_ble_eq_true rfl⟩) (fun r1 h_r1 => ?_)
  have h_r1 : r1 = 0 := h_r1
  subst h_r1
  refine lv_iconst (v := 1) hx hb dSC_wide_9 (by decide) ?_
  refine lv_isub hx hb dSC_wide_10 ?_
  refine lv_topi (fun x2 e3 => ?_)
  have e3 : x2 = (-1) := e3.trans (by decide)
  subst e3
  refine vp_callSi (W.runS (As := [.int x, .int 0, .int (-1)]) (rest := []) ⟨hx, hb, hml, hown, hz⟩ (c_SC_within l dC dI x 0 (-1) ) (va_cwS 3 hz (z_gS wd_219 wd_220 wd_29 wd_221) rfl rfl rfl (by decide +kernel) ⟨Nat.le_of_ble_eq_true rfl, Nat.le_of_ble_eq_true rfl⟩) (zp_preS hK hP [] rfl [] rfl z_true (fun _ _ _ => trivial)) rfl rfl hl.1 rfl (lv_room (Nat.le_of_ble_eq_true rfl)) dSC_wide_11 ⟨Nat.le_of_ble_eq_true rfl, Nat.le_of_ble_eq_true rfl⟩) (fun r4 h_r4 => ?_)
  have h_r4 : r4 = 0 := (z_within_none h_r4)
  subst h_r4
  refine lv_if_ne (tgt := 19) hx hb dSC_wide_14 rfl (fun h => absurd (by decide) h) (fun _ => ?_)
  refine lv_iconst (v := (-1)) hx hb dSC_wide_17 (by decide) ?_
  subst hQ
  exact zp_iret hx hb hr hlocks (rfl) dSC_wide_18

set_option maxHeartbeats 4000000 in
set_option maxRecDepth 100000 in
theorem c_SC_high (l : Launch) (dC : Nat → ClassId) (dI : Nat → Nat → Nat) (h0 : Nat) (g : Nat) (wd : Nat) (hh : Nat) (al : Nat) (ed : Nat) (mo : Int32) (y : Int32) : zp_M l ySC_high wSC_high ({ frames := 1, cells := 0, slots := 0, locals := 22 }) [.ref h0, .int y] (dC, dI) vwCl [(h0, .inr (0, [.ref g, .ref wd, .ref hh, .int 0, .int 0, .int 0])), (g, .inr (1, [.ref al, .int 1, .int 0, .int 0, .int 0, .int 0])), (al, .inr (2, [.ref ed, .int 0, .int mo]))] [] (fun _ => True) (fun r => r = (-1)) := by
  refine zp_head (cc := cSC_high) (maxL := 2) (ret := (some .int)) (by decide +kernel) rfl (Nat.le_of_ble_eq_true rfl) ?_
  intro p e s m below meth c ls F hP hK hX hl
  obtain ⟨hx, hb, hml, hr, hlocks, hown, hts⟩ := F
  have hown : s.vm.findClass "SpannedCells" = some m.cls := hown
  have hz : ∀ w9 ∈ zT, w9.before [.ref h0, .int y].toArray s = true := fun w9 h => hts w9 (List.mem_cons_of_mem _ h)
  have hl : lv_has ls 2 [(0, .ref h0), (1, .int y)] := hl
  refine z_q (fun Q hQ => ?_)
  refine lv_iload_n hx hb dSC_high_0 rfl (lv_at hl 1 rfl) ?_
  refine lv_iconst (v := 0) hx hb dSC_high_1 (by decide) ?_
  refine lv_aload_n hx hb dSC_high_2 rfl (lv_at hl 0 rfl) ?_
  refine va_get (D := (dC, dI)) (ci := 0) (v := .ref g) (C := RSC) (T := TSC) (N := 6) hx hb hz in_SC hown hK hP 0 rfl rfl 0 (by decide) (hz _ wd_150) (fun _ h9 => h9) rfl dSC_high_3 ?_
  refine vp_callSi (W.runV (As := []) (rest := [.int 0, .int y]) ⟨hx, hb, hml, hown, hz⟩ (c_GR_rowCount l dC dI g al ed 0 mo 1 0 0 0 0 ) (cwV 0 hz (z_gV wd_399 wd_400 wd_401 wd_30 wd_402) rfl rfl rfl (by decide +kernel) ⟨Nat.le_of_ble_eq_true rfl, Nat.le_of_ble_eq_true rfl⟩) (zp_preV (q0 := 1) (q := (RGR, TGR, 6)) hK hP rfl rfl [1, 2] rfl [] rfl z_true (fun _ _ _ => trivial)) rfl rfl hl.1 rfl (lv_room (Nat.le_of_ble_eq_true rfl)) dSC_high_6 ⟨Nat.le_of_ble_eq_true rfl, Nat.le_of_ble_eq_true rfl⟩) (fun r1 h_r1 => ?_)
  have h_r1 : r1 = 0 := h_r1
  subst h_r1
  refine lv_iconst (v := 1) hx hb dSC_high_9 (by decide) ?_
  refine lv_isub hx hb dSC_high_10 ?_
  refine lv_topi (fun x2 e3 => ?_)
  have e3 : x2 = (-1) := e3.trans (by decide)
  subst e3
  refine vp_callSi (W.runS (As := [.int y, .int 0, .int (-1)]) (rest := []) ⟨hx, hb, hml, hown, hz⟩ (c_SC_within l dC dI y 0 (-1) ) (va_cwS 3 hz (z_gS wd_219 wd_220 wd_29 wd_221) rfl rfl rfl (by decide +kernel) ⟨Nat.le_of_ble_eq_true rfl, Nat.le_of_ble_eq_true rfl⟩) (zp_preS hK hP [] rfl [] rfl z_true (fun _ _ _ => trivial)) rfl rfl hl.1 rfl (lv_room (Nat.le_of_ble_eq_true rfl)) dSC_high_11 ⟨Nat.le_of_ble_eq_true rfl, Nat.le_of_ble_eq_true rfl⟩) (fun r4 h_r4 => ?_)
  have h_r4 : r4 = 0 := (z_within_none h_r4)
  subst h_r4
  refine lv_if_ne (tgt := 19) hx hb dSC_high_14 rfl (fun h => absurd (by decide) h) (fun _ => ?_)
  refine lv_iconst (v := (-1)) hx hb dSC_high_17 (by decide) ?_
  subst hQ
  exact zp_iret hx hb hr hlocks (rfl) dSC_high_18

set_option maxHeartbeats 4000000 in
set_option maxRecDepth 100000 in
theorem c_SC_place (l : Launch) (dC : Nat → ClassId) (dI : Nat → Nat → Nat) (h0 : Nat) (g : Nat) (wd : Nat) (hh : Nat) (al : Nat) (ed : Nat) (mo : Int32) (k : Int32) (w : Int32) : zp_M l ySC_place wSC_place ({ frames := 2, cells := 0, slots := 0, locals := 41 }) [.ref h0, .int k, .int w] (dC, dI) vwCl [(h0, .inr (0, [.ref g, .ref wd, .ref hh, .int 0, .int 0, .int 0])), (g, .inr (1, [.ref al, .int 1, .int 0, .int 0, .int 0, .int 0])), (al, .inr (2, [.ref ed, .int 0, .int mo]))] [] (fun _ => True) (fun r => r = (-1)) := by
  refine zp_head (cc := cSC_place) (maxL := 4) (ret := (some .int)) (by decide +kernel) rfl (Nat.le_of_ble_eq_true rfl) ?_
  intro p e s m below meth c ls F hP hK hX hl
  obtain ⟨hx, hb, hml, hr, hlocks, hown, hts⟩ := F
  have hown : s.vm.findClass "SpannedCells" = some m.cls := hown
  have hz : ∀ w9 ∈ zT, w9.before [.ref h0, .int k, .int w].toArray s = true := fun w9 h => hts w9 (List.mem_cons_of_mem _ h)
  have hl : lv_has ls 4 [(0, .ref h0), (1, .int k), (2, .int w)] := hl
  refine z_q (fun Q hQ => ?_)
  refine lv_aload_n hx hb dSC_place_0 rfl (lv_at hl 0 rfl) ?_
  refine va_get (D := (dC, dI)) (ci := 0) (v := .ref g) (C := RSC) (T := TSC) (N := 6) hx hb hz in_SC hown hK hP 0 rfl rfl 0 (by decide) (hz _ wd_150) (fun _ h9 => h9) rfl dSC_place_1 ?_
  refine lv_iload_n hx hb dSC_place_4 rfl (lv_at hl 1 rfl) ?_
  refine vp_callSi (W.runV (As := [.int k]) (rest := []) ⟨hx, hb, hml, hown, hz⟩ (c_GR_hasCell l dC dI g al ed mo k ) (cwV 1 hz (z_gV wd_355 wd_356 wd_357 wd_30 wd_358) rfl rfl rfl (by decide +kernel) ⟨Nat.le_of_ble_eq_true rfl, Nat.le_of_ble_eq_true rfl⟩) (zp_preV (q0 := 1) (q := (RGR, TGR, 6)) hK hP rfl rfl [1, 2] rfl [] rfl z_true (fun _ _ _ => trivial)) rfl rfl hl.1 rfl (lv_room (Nat.le_of_ble_eq_true rfl)) dSC_place_5 ⟨Nat.le_of_ble_eq_true rfl, Nat.le_of_ble_eq_true rfl⟩) (fun r1 h_r1 => ?_)
  have h_r1 : r1 = 0 := h_r1
  subst h_r1
  refine lv_if_ne (tgt := 13) hx hb dSC_place_8 rfl (fun h => absurd (by decide) h) (fun _ => ?_)
  refine lv_iconst (v := (-1)) hx hb dSC_place_11 (by decide) ?_
  subst hQ
  exact zp_iret hx hb hr hlocks (rfl) dSC_place_12

set_option maxHeartbeats 4000000 in
set_option maxRecDepth 100000 in
theorem c_SC_size (l : Launch) (dC : Nat → ClassId) (dI : Nat → Nat → Nat) (h0 : Nat) (g : Nat) (wd : Nat) (hh : Nat) (al : Nat) (ed : Nat) (mo : Int32) (f : Int32) : zp_M l ySC_size wSC_size ({ frames := 1, cells := 0, slots := 0, locals := 20 }) [.ref h0, .int f] (dC, dI) vwCl [(h0, .inr (0, [.ref g, .ref wd, .ref hh, .int 0, .int 0, .int 0])), (g, .inr (1, [.ref al, .int 1, .int 0, .int 0, .int 0, .int 0])), (al, .inr (2, [.ref ed, .int 0, .int mo]))] [] (fun _ => True) (fun r => r = 0) := by
  refine zp_head (cc := cSC_size) (maxL := 2) (ret := (some .int)) (by decide +kernel) rfl (Nat.le_of_ble_eq_true rfl) ?_
  intro p e s m below meth c ls F hP hK hX hl
  obtain ⟨hx, hb, hml, hr, hlocks, hown, hts⟩ := F
  have hown : s.vm.findClass "SpannedCells" = some m.cls := hown
  have hz : ∀ w9 ∈ zT, w9.before [.ref h0, .int f].toArray s = true := fun w9 h => hts w9 (List.mem_cons_of_mem _ h)
  have hl : lv_has ls 2 [(0, .ref h0), (1, .int f)] := hl
  refine z_q (fun Q hQ => ?_)
  refine lv_aload_n hx hb dSC_size_0 rfl (lv_at hl 0 rfl) ?_
  refine va_get (D := (dC, dI)) (ci := 0) (v := .ref g) (C := RSC) (T := TSC) (N := 6) hx hb hz in_SC hown hK hP 0 rfl rfl 0 (by decide) (hz _ wd_150) (fun _ h9 => h9) rfl dSC_size_1 ?_
  refine vp_callSi (W.runV (As := []) (rest := []) ⟨hx, hb, hml, hown, hz⟩ (c_GR_columnCount l dC dI g al ed 0 mo 1 0 0 0 0 ) (cwV 0 hz (z_gV wd_391 wd_392 wd_393 wd_30 wd_394) rfl rfl rfl (by decide +kernel) ⟨Nat.le_of_ble_eq_true rfl, Nat.le_of_ble_eq_true rfl⟩) (zp_preV (q0 := 1) (q := (RGR, TGR, 6)) hK hP rfl rfl [1, 2] rfl [] rfl z_true (fun _ _ _ => trivial)) rfl rfl hl.1 rfl (lv_room (Nat.le_of_ble_eq_true rfl)) dSC_size_4 ⟨Nat.le_of_ble_eq_true rfl, Nat.le_of_ble_eq_true rfl⟩) (fun r1 h_r1 => ?_)
  have h_r1 : r1 = 0 := h_r1
  subst h_r1
  refine lv_if_eq (tgt := 20) hx hb dSC_size_7 rfl (fun _ => ?_) (fun h => absurd (by decide) h)
  refine lv_iconst (v := 0) hx hb dSC_size_20 (by decide) ?_
  subst hQ
  exact zp_iret hx hb hr hlocks (rfl) dSC_size_21

set_option maxHeartbeats 4000000 in
set_option maxRecDepth 100000 in
theorem c_SC_edge (l : Launch) (dC : Nat → ClassId) (dI : Nat → Nat → Nat) (h0 : Nat) (g : Nat) (wd : Nat) (hh : Nat) (al : Nat) (ed : Nat) (mo : Int32) (x : Int32) (y : Int32) (f : Int32) : zp_M l ySC_edge wSC_edge ({ frames := 2, cells := 0, slots := 0, locals := 44 }) [.ref h0, .int x, .int y, .int f] (dC, dI) vwCl [(h0, .inr (0, [.ref g, .ref wd, .ref hh, .int 0, .int 0, .int 0])), (g, .inr (1, [.ref al, .int 1, .int 0, .int 0, .int 0, .int 0])), (al, .inr (2, [.ref ed, .int 0, .int mo]))] [] zN (fun r => r = (-1)) := by
  refine zp_head (cc := cSC_edge) (maxL := 5) (ret := (some .int)) (by decide +kernel) rfl (Nat.le_of_ble_eq_true rfl) ?_
  intro p e s m below meth c ls F hP hK hX hl
  obtain ⟨hx, hb, hml, hr, hlocks, hown, hts⟩ := F
  have hown : s.vm.findClass "SpannedCells" = some m.cls := hown
  have hz : ∀ w9 ∈ zT, w9.before [.ref h0, .int x, .int y, .int f].toArray s = true := fun w9 h => hts w9 (List.mem_cons_of_mem _ h)
  have hl : lv_has ls 5 [(0, .ref h0), (1, .int x), (2, .int y), (3, .int f)] := hl
  have hN := hX
  refine z_q (fun Q hQ => ?_)
  refine lv_aload_n hx hb dSC_edge_0 rfl (lv_at hl 0 rfl) ?_
  refine va_get (D := (dC, dI)) (ci := 0) (v := .ref g) (C := RSC) (T := TSC) (N := 6) hx hb hz in_SC hown hK hP 0 rfl rfl 0 (by decide) (hz _ wd_150) (fun _ h9 => h9) rfl dSC_edge_1 ?_
  refine lv_iload_n hx hb dSC_edge_4 rfl (lv_at hl 1 rfl) ?_
  refine lv_iload_n hx hb dSC_edge_5 rfl (lv_at hl 2 rfl) ?_
  refine vp_callSi (W.runV (As := [.int x, .int y]) (rest := []) ⟨hx, hb, hml, hown, hz⟩ (c_GR_hasSlot l dC dI g al ed mo x y ) (cwV 2 hz (z_gV wd_563 wd_564 wd_565 wd_30 wd_566) rfl rfl rfl (by decide +kernel) ⟨Nat.le_of_ble_eq_true rfl, Nat.le_of_ble_eq_true rfl⟩) (zp_preV (q0 := 1) (q := (RGR, TGR, 6)) hK hP rfl rfl [1, 2] rfl [] rfl zN_blind (zN_call hX)) rfl rfl hl.1 rfl (lv_room (Nat.le_of_ble_eq_true rfl)) dSC_edge_6 ⟨Nat.le_of_ble_eq_true rfl, Nat.le_of_ble_eq_true rfl⟩) (fun r1 h_r1 => ?_)
  have h_r1 : r1 = 0 := h_r1
  subst h_r1
  refine lv_if_ne (tgt := 14) hx hb dSC_edge_9 rfl (fun h => absurd (by decide) h) (fun _ => ?_)
  refine lv_iconst (v := (-1)) hx hb dSC_edge_12 (by decide) ?_
  subst hQ
  exact zp_iret hx hb hr hlocks (rfl) dSC_edge_13

set_option maxHeartbeats 4000000 in
set_option maxRecDepth 100000 in
theorem c_SC_border (l : Launch) (dC : Nat → ClassId) (dI : Nat → Nat → Nat) (h0 : Nat) (g : Nat) (wd : Nat) (hh : Nat) (al : Nat) (ed : Nat) (mo : Int32) (k : Int32) (t : Int32) (w : Int32) : zp_M l ySC_border wSC_border ({ frames := 2, cells := 0, slots := 0, locals := 41 }) [.ref h0, .int k, .int t, .int w] (dC, dI) vwCl [(h0, .inr (0, [.ref g, .ref wd, .ref hh, .int 0, .int 0, .int 0])), (g, .inr (1, [.ref al, .int 1, .int 0, .int 0, .int 0, .int 0])), (al, .inr (2, [.ref ed, .int 0, .int mo]))] [] (fun _ => True) (fun r => r = 0) := by
  refine zp_head (cc := cSC_border) (maxL := 4) (ret := (some .boolean)) (by decide +kernel) rfl (Nat.le_of_ble_eq_true rfl) ?_
  intro p e s m below meth c ls F hP hK hX hl
  obtain ⟨hx, hb, hml, hr, hlocks, hown, hts⟩ := F
  have hown : s.vm.findClass "SpannedCells" = some m.cls := hown
  have hz : ∀ w9 ∈ zT, w9.before [.ref h0, .int k, .int t, .int w].toArray s = true := fun w9 h => hts w9 (List.mem_cons_of_mem _ h)
  have hl : lv_has ls 4 [(0, .ref h0), (1, .int k), (2, .int t), (3, .int w)] := hl
  refine z_q (fun Q hQ => ?_)
  refine lv_aload_n hx hb dSC_border_0 rfl (lv_at hl 0 rfl) ?_
  refine va_get (D := (dC, dI)) (ci := 0) (v := .ref g) (C := RSC) (T := TSC) (N := 6) hx hb hz in_SC hown hK hP 0 rfl rfl 0 (by decide) (hz _ wd_150) (fun _ h9 => h9) rfl dSC_border_1 ?_
  refine lv_iload_n hx hb dSC_border_4 rfl (lv_at hl 1 rfl) ?_
  refine vp_callSi (W.runV (As := [.int k]) (rest := []) ⟨hx, hb, hml, hown, hz⟩ (c_GR_hasCell l dC dI g al ed mo k ) (cwV 1 hz (z_gV wd_355 wd_356 wd_357 wd_30 wd_358) rfl rfl rfl (by decide +kernel) ⟨Nat.le_of_ble_eq_true rfl, Nat.le_of_ble_eq_true rfl⟩) (zp_preV (q0 := 1) (q := (RGR, TGR, 6)) hK hP rfl rfl [1, 2] rfl [] rfl z_true (fun _ _ _ => trivial)) rfl rfl hl.1 rfl (lv_room (Nat.le_of_ble_eq_true rfl)) dSC_border_5 ⟨Nat.le_of_ble_eq_true rfl, Nat.le_of_ble_eq_true rfl⟩) (fun r1 h_r1 => ?_)
  have h_r1 : r1 = 0 := h_r1
  subst h_r1
  refine lv_if_eq (tgt := 30) hx hb dSC_border_8 rfl (fun _ => ?_) (fun h => absurd (by decide) h)
  refine lv_iconst (v := 0) hx hb dSC_border_30 (by decide) ?_
  subst hQ
  exact zp_zret hx hb hr hlocks (Or.inl rfl) (rfl) dSC_border_31

set_option maxHeartbeats 4000000 in
set_option maxRecDepth 100000 in
theorem c_SC_cell (l : Launch) (dC : Nat → ClassId) (dI : Nat → Nat → Nat) (h0 : Nat) (g : Nat) (wd : Nat) (hh : Nat) (al : Nat) (ed : Nat) (mo : Int32) (a : Int32) (b : Int32) (c1 : Int32) (d : Int32) (e1 : Int32) : zp_M l ySC_cell wSC_cell ({ frames := 1, cells := 0, slots := 0, locals := 27 }) [.ref h0, .int a, .int b, .int c1, .int d, .int e1] (dC, dI) vwCl [(h0, .inr (0, [.ref g, .ref wd, .ref hh, .int 0, .int 0, .int 0])), (g, .inr (1, [.ref al, .int 1, .int 0, .int 0, .int 0, .int 0])), (al, .inr (2, [.ref ed, .int 0, .int mo]))] [] (fun _ => True) (fun r => r = (-1)) := by
  refine zp_head (cc := cSC_cell) (maxL := 9) (ret := (some .int)) (by decide +kernel) rfl (Nat.le_of_ble_eq_true rfl) ?_
  intro p e s m below meth c ls F hP hK hX hl
  obtain ⟨hx, hb, hml, hr, hlocks, hown, hts⟩ := F
  have hown : s.vm.findClass "SpannedCells" = some m.cls := hown
  have hz : ∀ w9 ∈ zT, w9.before [.ref h0, .int a, .int b, .int c1, .int d, .int e1].toArray s = true := fun w9 h => hts w9 (List.mem_cons_of_mem _ h)
  have hl : lv_has ls 9 [(0, .ref h0), (1, .int a), (2, .int b), (3, .int c1), (4, .int d), (5, .int e1)] := hl
  refine z_q (fun Q hQ => ?_)
  refine z_join (fun v1 : Int32 => True) (fun v1 => W p l e ({ frames := 1, cells := 0, slots := 0, locals := 27 }) s m [.ref h0, .int a, .int b, .int c1, .int d, .int e1].toArray below meth c s.heap [] 0 0 Q (F0 m 25 ls (.int v1 :: []))) (fun v1 hv1 => ?_) (fun J25 => ?_)
  · refine lv_istore hx hb dSC_cell_25 hl (Nat.le_of_ble_eq_true rfl) rfl (fun ls hl => ?_)
    have hl : lv_has ls 9 [(6, .int v1), (0, .ref h0), (1, .int a), (2, .int b), (3, .int c1), (4, .int d), (5, .int e1)] := hl
    refine z_join (fun v2 : Int32 => True) (fun v2 => W p l e ({ frames := 1, cells := 0, slots := 0, locals := 27 }) s m [.ref h0, .int a, .int b, .int c1, .int d, .int e1].toArray below meth c s.heap [] 0 0 Q (F0 m 54 ls (.int v2 :: []))) (fun v2 hv2 => ?_) (fun J54 => ?_)
    · refine lv_istore hx hb dSC_cell_54 hl (Nat.le_of_ble_eq_true rfl) rfl (fun ls hl => ?_)
      have hl : lv_has ls 9 [(7, .int v2), (6, .int v1), (0, .ref h0), (1, .int a), (2, .int b), (3, .int c1), (4, .int d), (5, .int e1)] := hl
      refine lv_iload hx hb dSC_cell_56 (lv_at hl 7 rfl) ?_
      refine lv_iconst (v := 0) hx hb dSC_cell_58 (by decide) ?_
      refine lv_sipush (v := 1000) hx hb dSC_cell_59 (by decide) ?_
      refine vp_callSi (W.runS (As := [.int e1, .int 0, .int 1000]) (rest := []) ⟨hx, hb, hml, hown, hz⟩ (c_SC_within l dC dI e1 0 1000 ) (va_cwS 3 hz (z_gS wd_219 wd_220 wd_29 wd_221) rfl rfl rfl (by decide +kernel) ⟨Nat.le_of_ble_eq_true rfl, Nat.le_of_ble_eq_true rfl⟩) (zp_preS hK hP [] rfl [] rfl z_true (fun _ _ _ => trivial)) rfl rfl hl.1 rfl (lv_room (Nat.le_of_ble_eq_true rfl)) dSC_cell_62 ⟨Nat.le_of_ble_eq_true rfl, Nat.le_of_ble_eq_true rfl⟩) (fun r1 h_r1 => ?_)
      refine lv_istore hx hb dSC_cell_65 hl (Nat.le_of_ble_eq_true rfl) rfl (fun ls hl => ?_)
      have hl : lv_has ls 9 [(8, .int r1), (7, .int v2), (6, .int v1), (0, .ref h0), (1, .int a), (2, .int b), (3, .int c1), (4, .int d), (5, .int e1)] := hl
      refine lv_iload hx hb dSC_cell_67 (lv_at hl 2 rfl) ?_
      refine lv_if_eq (tgt := 82) hx hb dSC_cell_69 rfl (fun h2 => ?_) (fun h2 => ?_)
      · refine lv_iconst (v := (-1)) hx hb dSC_cell_82 (by decide) ?_
        subst hQ
        exact zp_iret hx hb hr hlocks (rfl) dSC_cell_83
      · refine lv_iload hx hb dSC_cell_72 (lv_at hl 1 rfl) ?_
        refine lv_if_eq (tgt := 82) hx hb dSC_cell_74 rfl (fun h3 => ?_) (fun h3 => ?_)
        · refine lv_iconst (v := (-1)) hx hb dSC_cell_82 (by decide) ?_
          subst hQ
          exact zp_iret hx hb hr hlocks (rfl) dSC_cell_83
        · refine lv_iload hx hb dSC_cell_77 (lv_at hl 0 rfl) ?_
          refine lv_if_ne (tgt := 84) hx hb dSC_cell_79 rfl (fun h4 => ?_) (fun h4 => ?_)
          · refine lv_aload_n hx hb dSC_cell_84 rfl (lv_at hl 3 rfl) ?_
            refine va_get (D := (dC, dI)) (ci := 0) (v := .ref g) (C := RSC) (T := TSC) (N := 6) hx hb hz in_SC hown hK hP 0 rfl rfl 0 (by decide) (hz _ wd_150) (fun _ h9 => h9) rfl dSC_cell_85 ?_
            refine lv_iload_n hx hb dSC_cell_88 rfl (lv_at hl 4 rfl) ?_
            refine lv_iload_n hx hb dSC_cell_89 rfl (lv_at hl 5 rfl) ?_
            refine lv_iload_n hx hb dSC_cell_90 rfl (lv_at hl 6 rfl) ?_
            refine lv_iload hx hb dSC_cell_91 (lv_at hl 7 rfl) ?_
            refine lv_iload hx hb dSC_cell_93 (lv_at hl 8 rfl) ?_
            refine vp_callSi (W.runV (As := [.int a, .int b, .int c1, .int d, .int e1]) (rest := []) ⟨hx, hb, hml, hown, hz⟩ (c_GR_putCell l dC dI g al ed mo a b c1 d e1 ) (cwV 5 hz (z_gV wd_222 wd_223 wd_224 wd_30 wd_225) rfl rfl rfl (by decide +kernel) ⟨Nat.le_of_ble_eq_true rfl, Nat.le_of_ble_eq_true rfl⟩) (zp_preV (q0 := 1) (q := (RGR, TGR, 6)) hK hP rfl rfl [1, 2] rfl [] rfl z_true (fun _ _ _ => trivial)) rfl rfl hl.1 rfl (lv_room (Nat.le_of_ble_eq_true rfl)) dSC_cell_95 ⟨Nat.le_of_ble_eq_true rfl, Nat.le_of_ble_eq_true rfl⟩) (fun r5 h_r5 => ?_)
            have h_r5 : r5 = (-1) := h_r5
            subst h_r5
            subst hQ
            exact zp_iret hx hb hr hlocks (rfl) dSC_cell_98
          · refine lv_iconst (v := (-1)) hx hb dSC_cell_82 (by decide) ?_
            subst hQ
            exact zp_iret hx hb hr hlocks (rfl) dSC_cell_83
    · refine lv_iload hx hb dSC_cell_27 (lv_at hl 5 rfl) ?_
      refine lv_iconst (v := 0) hx hb dSC_cell_29 (by decide) ?_
      refine lv_sipush (v := 1000) hx hb dSC_cell_30 (by decide) ?_
      refine vp_callSi (W.runS (As := [.int d, .int 0, .int 1000]) (rest := []) ⟨hx, hb, hml, hown, hz⟩ (c_SC_within l dC dI d 0 1000 ) (va_cwS 3 hz (z_gS wd_219 wd_220 wd_29 wd_221) rfl rfl rfl (by decide +kernel) ⟨Nat.le_of_ble_eq_true rfl, Nat.le_of_ble_eq_true rfl⟩) (zp_preS hK hP [] rfl [] rfl z_true (fun _ _ _ => trivial)) rfl rfl hl.1 rfl (lv_room (Nat.le_of_ble_eq_true rfl)) dSC_cell_33 ⟨Nat.le_of_ble_eq_true rfl, Nat.le_of_ble_eq_true rfl⟩) (fun r6 h_r6 => ?_)
      refine lv_if_eq (tgt := 53) hx hb dSC_cell_36 rfl (fun h7 => ?_) (fun h7 => ?_)
      · refine lv_iconst (v := 0) hx hb dSC_cell_53 (by decide) ?_
        exact J54 _ (trivial)
      · refine lv_iload_n hx hb dSC_cell_39 rfl (lv_at hl 4 rfl) ?_
        refine lv_iconst (v := 0) hx hb dSC_cell_40 (by decide) ?_
        refine lv_iload hx hb dSC_cell_41 (lv_at hl 5 rfl) ?_
        refine vp_callSi (W.runS (As := [.int c1, .int 0, .int d]) (rest := []) ⟨hx, hb, hml, hown, hz⟩ (c_SC_within l dC dI c1 0 d ) (va_cwS 3 hz (z_gS wd_219 wd_220 wd_29 wd_221) rfl rfl rfl (by decide +kernel) ⟨Nat.le_of_ble_eq_true rfl, Nat.le_of_ble_eq_true rfl⟩) (zp_preS hK hP [] rfl [] rfl z_true (fun _ _ _ => trivial)) rfl rfl hl.1 rfl (lv_room (Nat.le_of_ble_eq_true rfl)) dSC_cell_43 ⟨Nat.le_of_ble_eq_true rfl, Nat.le_of_ble_eq_true rfl⟩) (fun r8 h_r8 => ?_)
        refine lv_if_eq (tgt := 53) hx hb dSC_cell_46 rfl (fun h9 => ?_) (fun h9 => ?_)
        · refine lv_iconst (v := 0) hx hb dSC_cell_53 (by decide) ?_
          exact J54 _ (trivial)
        · refine lv_iconst (v := 1) hx hb dSC_cell_49 (by decide) ?_
          refine lv_goto (tgt := 54) hx hb dSC_cell_50 rfl ?_
          exact J54 _ (trivial)
  · refine lv_iload_n hx hb dSC_cell_0 rfl (lv_at hl 1 rfl) ?_
    refine lv_iconst (v := 1) hx hb dSC_cell_1 (by decide) ?_
    refine lv_bipush (v := 6) hx hb dSC_cell_2 (by decide) ?_
    refine vp_callSi (W.runS (As := [.int a, .int 1, .int 6]) (rest := []) ⟨hx, hb, hml, hown, hz⟩ (c_SC_within l dC dI a 1 6 ) (va_cwS 3 hz (z_gS wd_219 wd_220 wd_29 wd_221) rfl rfl rfl (by decide +kernel) ⟨Nat.le_of_ble_eq_true rfl, Nat.le_of_ble_eq_true rfl⟩) (zp_preS hK hP [] rfl [] rfl z_true (fun _ _ _ => trivial)) rfl rfl hl.1 rfl (lv_room (Nat.le_of_ble_eq_true rfl)) dSC_cell_4 ⟨Nat.le_of_ble_eq_true rfl, Nat.le_of_ble_eq_true rfl⟩) (fun r10 h_r10 => ?_)
    refine lv_if_eq (tgt := 24) hx hb dSC_cell_7 rfl (fun h11 => ?_) (fun h11 => ?_)
    · refine lv_iconst (v := 0) hx hb dSC_cell_24 (by decide) ?_
      exact J25 _ (trivial)
    · refine lv_iload_n hx hb dSC_cell_10 rfl (lv_at hl 2 rfl) ?_
      refine lv_iconst (v := 0) hx hb dSC_cell_11 (by decide) ?_
      refine lv_bipush (v := 6) hx hb dSC_cell_12 (by decide) ?_
      refine vp_callSi (W.runS (As := [.int b, .int 0, .int 6]) (rest := []) ⟨hx, hb, hml, hown, hz⟩ (c_SC_within l dC dI b 0 6 ) (va_cwS 3 hz (z_gS wd_219 wd_220 wd_29 wd_221) rfl rfl rfl (by decide +kernel) ⟨Nat.le_of_ble_eq_true rfl, Nat.le_of_ble_eq_true rfl⟩) (zp_preS hK hP [] rfl [] rfl z_true (fun _ _ _ => trivial)) rfl rfl hl.1 rfl (lv_room (Nat.le_of_ble_eq_true rfl)) dSC_cell_14 ⟨Nat.le_of_ble_eq_true rfl, Nat.le_of_ble_eq_true rfl⟩) (fun r12 h_r12 => ?_)
      refine lv_if_eq (tgt := 24) hx hb dSC_cell_17 rfl (fun h13 => ?_) (fun h13 => ?_)
      · refine lv_iconst (v := 0) hx hb dSC_cell_24 (by decide) ?_
        exact J25 _ (trivial)
      · refine lv_iconst (v := 1) hx hb dSC_cell_20 (by decide) ?_
        refine lv_goto (tgt := 25) hx hb dSC_cell_21 rfl ?_
        exact J25 _ (trivial)
end
section
set_option maxHeartbeats 4000000 in
set_option maxRecDepth 100000 in
theorem c_GR_beginGroup (l : Launch) (dC : Nat → ClassId) (dI : Nat → Nat → Nat) (g : Nat) (al : Nat) (ed : Nat) (mo : Int32) : zw_Mi (S := Unit) l yGR_beginGroup wGR_beginGroup ({ frames := 0, cells := 0, slots := 0, locals := 0 }) [.ref g] (dC, dI) vwCl [(g, .inr (1, [.ref al, .int 1, .int 0, .int 0, .int 0, .int 0])), (al, .inr (2, [.ref ed, .int 0, .int mo]))] [] (fun _ _ => True) (fun r (_ : Unit) => r = 2) (fun (_ : Unit) => []) (fun (_ : Unit) => []) 0 0 := by
  refine zw_headi (cc := cGR_beginGroup) (maxL := 1) (ret := (some .int)) (by decide +kernel) rfl (Nat.le_of_ble_eq_true rfl) ?_
  intro p e s m below meth c ls A F hA hP hK hD hS hX hl
  obtain ⟨hx, hb, hml, hr, hlocks, hown, hts⟩ := F
  have hown : s.vm.findClass "SpannedCells$Grid" = some m.cls := hown
  have hz : ∀ w9 ∈ zT, w9.before [.ref g].toArray s = true := fun w9 h => hts w9 (List.mem_cons_of_mem _ h)
  have hl : lv_has ls 1 [(0, .ref g)] := hl
  refine z_q (fun Q hQ => ?_)
  refine lv_aload_n hx hb dGR_beginGroup_0 rfl (lv_at hl 0 rfl) ?_
  refine va_get (D := (dC, dI)) (ci := 1) (v := .int 1) (C := RGR) (T := TGR) (N := 6) hx hb hz in_GR hown hK hP 0 rfl rfl 1 (by decide) (hz _ wd_86) (fun _ h9 => h9) rfl dGR_beginGroup_1 ?_
  refine lv_bipush (v := 8) hx hb dGR_beginGroup_4 (by decide) ?_
  refine lv_icmp_ne (tgt := 11) hx hb dGR_beginGroup_6 rfl (fun _ => ?_) (fun h => absurd h (by decide))
  refine lv_aload_n hx hb dGR_beginGroup_11 rfl (lv_at hl 0 rfl) ?_
  refine lv_dup hx hb dGR_beginGroup_12 rfl ?_
  refine va_get (D := (dC, dI)) (ci := 1) (v := .int 1) (C := RGR) (T := TGR) (N := 6) hx hb hz in_GR hown hK hP 0 rfl rfl 1 (by decide) (hz _ wd_86) (fun _ h9 => h9) rfl dGR_beginGroup_13 ?_
  refine lv_iconst (v := 1) hx hb dGR_beginGroup_16 (by decide) ?_
  refine lv_iadd hx hb dGR_beginGroup_17 ?_
  refine lv_topi (fun x1 e2 => ?_)
  have e2 : x1 = 2 := e2.trans (by decide)
  subst e2
  refine va_put (D := (dC, dI)) (ci := 1) (v := .int 2) (ty := .int) (C := RGR) (T := TGR) (N := 6) hx hb hz in_GR tyGR tokGR nokGR hown hK hP hD hS 0 rfl rfl 1 (by decide) (hz _ wd_86) (fun _ h9 => h9) rfl (by decide +kernel) rfl rfl (Nat.le_of_ble_eq_true rfl) dGR_beginGroup_18 (fun H locs hP hD hS => ?_)
  have hP : va_P (dC, dI) vwCl [(g, .inr (1, [.ref al, .int 2, .int 0, .int 0, .int 0, .int 0])), (al, .inr (2, [.ref ed, .int 0, .int mo]))] H := hP
  have hD : va_D A [(g, .inr (1, [.ref al, .int 2, .int 0, .int 0, .int 0, .int 0])), (al, .inr (2, [.ref ed, .int 0, .int mo]))] := hD
  refine lv_aload_n hx hb dGR_beginGroup_21 rfl (lv_at hl 0 rfl) ?_
  refine lv_aload_n hx hb dGR_beginGroup_22 rfl (lv_at hl 0 rfl) ?_
  refine va_get (D := (dC, dI)) (ci := 1) (v := .int 0) (C := RGR) (T := TGR) (N := 6) hx hb hz in_GR hown hK hP 0 rfl rfl 4 (by decide) (hz _ wd_89) (fun _ h9 => h9) rfl dGR_beginGroup_23 ?_
  refine va_put (D := (dC, dI)) (ci := 1) (v := .int 0) (ty := .int) (C := RGR) (T := TGR) (N := 6) hx hb hz in_GR tyGR tokGR nokGR hown hK hP hD hS 0 rfl rfl 2 (by decide) (hz _ wd_87) (fun _ h9 => h9) rfl (by decide +kernel) rfl rfl (Nat.le_of_ble_eq_true rfl) dGR_beginGroup_26 (fun H locs hP hD hS => ?_)
  have hP : va_P (dC, dI) vwCl [(g, .inr (1, [.ref al, .int 2, .int 0, .int 0, .int 0, .int 0])), (al, .inr (2, [.ref ed, .int 0, .int mo]))] H := hP
  have hD : va_D A [(g, .inr (1, [.ref al, .int 2, .int 0, .int 0, .int 0, .int 0])), (al, .inr (2, [.ref ed, .int 0, .int mo]))] := hD
  refine lv_aload_n hx hb dGR_beginGroup_29 rfl (lv_at hl 0 rfl) ?_
  refine lv_iconst (v := 0) hx hb dGR_beginGroup_30 (by decide) ?_
  refine va_put (D := (dC, dI)) (ci := 1) (v := .int 0) (ty := .int) (C := RGR) (T := TGR) (N := 6) hx hb hz in_GR tyGR tokGR nokGR hown hK hP hD hS 0 rfl rfl 3 (by decide) (hz _ wd_88) (fun _ h9 => h9) rfl (by decide +kernel) rfl rfl (Nat.le_of_ble_eq_true rfl) dGR_beginGroup_31 (fun H locs hP hD hS => ?_)
  have hP : va_P (dC, dI) vwCl [(g, .inr (1, [.ref al, .int 2, .int 0, .int 0, .int 0, .int 0])), (al, .inr (2, [.ref ed, .int 0, .int mo]))] H := hP
  have hD : va_D A [(g, .inr (1, [.ref al, .int 2, .int 0, .int 0, .int 0, .int 0])), (al, .inr (2, [.ref ed, .int 0, .int mo]))] := hD
  refine lv_aload_n hx hb dGR_beginGroup_34 rfl (lv_at hl 0 rfl) ?_
  refine va_get (D := (dC, dI)) (ci := 1) (v := .int 2) (C := RGR) (T := TGR) (N := 6) hx hb hz in_GR hown hK hP 0 rfl rfl 1 (by decide) (hz _ wd_86) (fun _ h9 => h9) rfl dGR_beginGroup_35 ?_
  subst hQ
  exact zw_iret (D := (dC, dI)) (cl := vwCl) (A := A) () hx hb hr hlocks (rfl) (hP.sub [] rfl) (hK.sub [] rfl) (hD.sub [] (by decide) rfl) hS dGR_beginGroup_38

set_option maxHeartbeats 4000000 in
set_option maxRecDepth 100000 in
theorem c_SC_group (l : Launch) (dC : Nat → ClassId) (dI : Nat → Nat → Nat) (h0 : Nat) (g : Nat) (wd : Nat) (hh : Nat) (al : Nat) (ed : Nat) (mo : Int32) : zw_Mi (S := Unit) l ySC_group wSC_group ({ frames := 1, cells := 0, slots := 0, locals := 20 }) [.ref h0] (dC, dI) vwCl [(h0, .inr (0, [.ref g, .ref wd, .ref hh, .int 0, .int 0, .int 0])), (g, .inr (1, [.ref al, .int 1, .int 0, .int 0, .int 0, .int 0])), (al, .inr (2, [.ref ed, .int 0, .int mo]))] [] (fun _ _ => True) (fun r (_ : Unit) => r = 2) (fun (_ : Unit) => []) (fun (_ : Unit) => []) 0 0 := by
  refine zw_headi (cc := cSC_group) (maxL := 1) (ret := (some .int)) (by decide +kernel) rfl (Nat.le_of_ble_eq_true rfl) ?_
  intro p e s m below meth c ls A F hA hP hK hD hS hX hl
  obtain ⟨hx, hb, hml, hr, hlocks, hown, hts⟩ := F
  have hown : s.vm.findClass "SpannedCells" = some m.cls := hown
  have hz : ∀ w9 ∈ zT, w9.before [.ref h0].toArray s = true := fun w9 h => hts w9 (List.mem_cons_of_mem _ h)
  have hl : lv_has ls 1 [(0, .ref h0)] := hl
  refine z_q (fun Q hQ => ?_)
  refine lv_aload_n hx hb dSC_group_0 rfl (lv_at hl 0 rfl) ?_
  refine va_get (D := (dC, dI)) (ci := 0) (v := .ref g) (C := RSC) (T := TSC) (N := 6) hx hb hz in_SC hown hK hP 0 rfl rfl 0 (by decide) (hz _ wd_150) (fun _ h9 => h9) rfl dSC_group_1 ?_
  refine zw_calli (wr := [(h0, .inr (0, [.ref g, .ref wd, .ref hh, .int 0, .int 0, .int 0]))]) hK hP hD hS hA [1, 2] [0] rfl rfl (by decide) (by decide) (va_runV (As := []) (rest := []) ⟨hx, hb, hml, hown, hz⟩ ((c_GR_beginGroup l dC dI g al ed mo ) s.heap.size) (cwV 0 hz (z_gV wd_173 wd_174 wd_175 wd_30 wd_176) rfl rfl rfl (by decide +kernel) ⟨Nat.le_of_ble_eq_true rfl, Nat.le_of_ble_eq_true rfl⟩) (zw_preV (q0 := 1) (q := (RGR, TGR, 6)) hK hP hD rfl rfl [1, 2] (by decide) rfl [] rfl z_true (fun _ _ _ => trivial)) rfl rfl hl.1 rfl (lv_room (Nat.le_of_ble_eq_true rfl)) dSC_group_4 ⟨Nat.le_of_ble_eq_true rfl, Nat.le_of_ble_eq_true rfl⟩) (fun r1 u H locs h_r1 hP hD hK hS => ?_)
  have hP : va_P (dC, dI) vwCl [(h0, .inr (0, [.ref g, .ref wd, .ref hh, .int 0, .int 0, .int 0]))] H := hP.sub [0] rfl
  have hD : va_D A [(h0, .inr (0, [.ref g, .ref wd, .ref hh, .int 0, .int 0, .int 0]))] := hD.sub [0] (by decide) rfl
  have hK : va_K (dC, dI) vwCl [] s := hK
  have h_r1 : r1 = 2 := h_r1
  subst h_r1
  subst hQ
  exact zw_iret (D := (dC, dI)) (cl := vwCl) (A := A) () hx hb hr hlocks (rfl) (hP.sub [] rfl) (hK.sub [] rfl) (hD.sub [] (by decide) rfl) hS dSC_group_7

set_option maxHeartbeats 4000000 in
set_option maxRecDepth 100000 in
theorem c_GR_extendGroupTo (l : Launch) (dC : Nat → ClassId) (dI : Nat → Nat → Nat) (g : Nat) (al : Nat) (ed : Nat) (mo : Int32) : zw_Mv (S := Unit) l yGR_extendGroupTo wGR_extendGroupTo ({ frames := 1, cells := 0, slots := 0, locals := 20 }) [.ref g, .int 1] (dC, dI) vwCl [(g, .inr (1, [.ref al, .int 1, .int 0, .int 1, .int 0, .int 0])), (al, .inr (2, [.ref ed, .int 0, .int mo]))] [] (fun _ _ => True) (fun (_ : Unit) => True) (fun (_ : Unit) => []) (fun (_ : Unit) => []) 0 0 := by
  refine zw_headv (cc := cGR_extendGroupTo) (maxL := 4) (ret := none) (by decide +kernel) rfl (Nat.le_of_ble_eq_true rfl) ?_
  intro p e s m below meth c ls A F hnm hA hP hK hD hS hX hl
  obtain ⟨hx, hb, hml, hr, hlocks, hown, hts⟩ := F
  have hown : s.vm.findClass "SpannedCells$Grid" = some m.cls := hown
  have hz : ∀ w9 ∈ zT, w9.before [.ref g, .int 1].toArray s = true := fun w9 h => hts w9 (List.mem_cons_of_mem _ h)
  have hl : lv_has ls 4 [(0, .ref g), (1, .int 1)] := hl
  refine z_q (fun Q hQ => ?_)
  refine lv_aload_n hx hb dGR_extendGroupTo_0 rfl (lv_at hl 0 rfl) ?_
  refine lv_aload_n hx hb dGR_extendGroupTo_1 rfl (lv_at hl 0 rfl) ?_
  refine va_get (D := (dC, dI)) (ci := 1) (v := .int 0) (C := RGR) (T := TGR) (N := 6) hx hb hz in_GR hown hK hP 0 rfl rfl 4 (by decide) (hz _ wd_89) (fun _ h9 => h9) rfl dGR_extendGroupTo_2 ?_
  refine lv_iload_n hx hb dGR_extendGroupTo_5 rfl (lv_at hl 1 rfl) ?_
  refine va_mmax hx hb (hml.trans hl.1.symm) hown (hz _ wd_189) (hz _ wd_190) (hz _ wd_38) (hz _ wd_191) (Nat.le_of_ble_eq_true rfl) (Nat.le_of_ble_eq_true rfl) (Nat.le_of_ble_eq_true rfl) (Nat.le_of_ble_eq_true rfl) dGR_extendGroupTo_6 ?_
  refine lv_topi (fun x1 e2 => ?_)
  have e2 : x1 = 1 := e2.trans (by decide)
  subst e2
  refine va_put (D := (dC, dI)) (ci := 1) (v := .int 1) (ty := .int) (C := RGR) (T := TGR) (N := 6) hx hb hz in_GR tyGR tokGR nokGR hown hK hP hD hS 0 rfl rfl 4 (by decide) (hz _ wd_89) (fun _ h9 => h9) rfl (by decide +kernel) rfl rfl (Nat.le_of_ble_eq_true rfl) dGR_extendGroupTo_9 (fun H locs hP hD hS => ?_)
  have hP : va_P (dC, dI) vwCl [(g, .inr (1, [.ref al, .int 1, .int 0, .int 1, .int 1, .int 0])), (al, .inr (2, [.ref ed, .int 0, .int mo]))] H := hP
  have hD : va_D A [(g, .inr (1, [.ref al, .int 1, .int 0, .int 1, .int 1, .int 0])), (al, .inr (2, [.ref ed, .int 0, .int mo]))] := hD
  refine lv_iconst (v := 0) hx hb dGR_extendGroupTo_12 (by decide) ?_
  refine lv_istore_n hx hb dGR_extendGroupTo_13 rfl hl (Nat.le_of_ble_eq_true rfl) rfl (fun ls hl => ?_)
  have hl : lv_has ls 4 [(2, .int 0), (0, .ref g), (1, .int 1)] := hl
  refine lv_iload_n hx hb dGR_extendGroupTo_14 rfl (lv_at hl 0 rfl) ?_
  refine lv_aload_n hx hb dGR_extendGroupTo_15 rfl (lv_at hl 1 rfl) ?_
  refine va_get (D := (dC, dI)) (ci := 1) (v := .ref al) (C := RGR) (T := TGR) (N := 6) hx hb hz in_GR hown hK hP 0 rfl rfl 0 (by decide) (hz _ wd_85) (fun _ h9 => h9) rfl dGR_extendGroupTo_16 ?_
  refine vp_callSi (W.runV (As := []) (rest := [.int 0]) ⟨hx, hb, hml, hown, hz⟩ (c_AL_size l dC dI al ed 0 mo ) (cwV 0 hz (z_gV wd_192 wd_193 wd_194 wd_33 wd_195) rfl rfl rfl (by decide +kernel) ⟨Nat.le_of_ble_eq_true rfl, Nat.le_of_ble_eq_true rfl⟩) (zp_preV (q0 := 1) (q := (RAL, TAL, 3)) hK hP rfl rfl [1] rfl [] rfl z_true (fun _ _ _ => trivial)) rfl rfl hl.1 rfl (lv_room (Nat.le_of_ble_eq_true rfl)) dGR_extendGroupTo_19 ⟨Nat.le_of_ble_eq_true rfl, Nat.le_of_ble_eq_true rfl⟩) (fun r3 h_r3 => ?_)
  have h_r3 : r3 = 0 := h_r3
  subst h_r3
  refine lv_icmp_ge (tgt := 62) hx hb dGR_extendGroupTo_22 rfl (fun _ => ?_) (fun h => absurd (by decide) h)
  subst hQ
  exact zw_vret (D := (dC, dI)) (cl := vwCl) (A := A) () hx hb hr hlocks (trivial) (hP.sub [] rfl) (hK.sub [] rfl) (hD.sub [] (by decide) rfl) hS dGR_extendGroupTo_62

set_option maxHeartbeats 4000000 in
set_option maxRecDepth 100000 in
theorem c_GR_beginRow (l : Launch) (dC : Nat → ClassId) (dI : Nat → Nat → Nat) (g : Nat) (al : Nat) (ed : Nat) (mo : Int32) : zw_Mi (S := Unit) l yGR_beginRow wGR_beginRow ({ frames := 2, cells := 0, slots := 0, locals := 43 }) [.ref g] (dC, dI) vwCl [(g, .inr (1, [.ref al, .int 1, .int 0, .int 0, .int 0, .int 0])), (al, .inr (2, [.ref ed, .int 0, .int mo]))] [] (fun _ _ => True) (fun r (_ : Unit) => r = 0) (fun (_ : Unit) => []) (fun (_ : Unit) => []) 0 0 := by
  refine zw_headi (cc := cGR_beginRow) (maxL := 2) (ret := (some .int)) (by decide +kernel) rfl (Nat.le_of_ble_eq_true rfl) ?_
  intro p e s m below meth c ls A F hA hP hK hD hS hX hl
  obtain ⟨hx, hb, hml, hr, hlocks, hown, hts⟩ := F
  have hown : s.vm.findClass "SpannedCells$Grid" = some m.cls := hown
  have hz : ∀ w9 ∈ zT, w9.before [.ref g].toArray s = true := fun w9 h => hts w9 (List.mem_cons_of_mem _ h)
  have hl : lv_has ls 2 [(0, .ref g)] := hl
  refine z_q (fun Q hQ => ?_)
  refine lv_aload_n hx hb dGR_beginRow_0 rfl (lv_at hl 0 rfl) ?_
  refine va_get (D := (dC, dI)) (ci := 1) (v := .int 0) (C := RGR) (T := TGR) (N := 6) hx hb hz in_GR hown hK hP 0 rfl rfl 2 (by decide) (hz _ wd_87) (fun _ h9 => h9) rfl dGR_beginRow_1 ?_
  refine lv_aload_n hx hb dGR_beginRow_4 rfl (lv_at hl 0 rfl) ?_
  refine va_get (D := (dC, dI)) (ci := 1) (v := .int 0) (C := RGR) (T := TGR) (N := 6) hx hb hz in_GR hown hK hP 0 rfl rfl 3 (by decide) (hz _ wd_88) (fun _ h9 => h9) rfl dGR_beginRow_5 ?_
  refine lv_iadd hx hb dGR_beginRow_8 ?_
  refine lv_topi (fun x1 e2 => ?_)
  have e2 : x1 = 0 := e2.trans (by decide)
  subst e2
  refine lv_istore_n hx hb dGR_beginRow_9 rfl hl (Nat.le_of_ble_eq_true rfl) rfl (fun ls hl => ?_)
  have hl : lv_has ls 2 [(1, .int 0), (0, .ref g)] := hl
  refine lv_iload_n hx hb dGR_beginRow_10 rfl (lv_at hl 0 rfl) ?_
  refine lv_bipush (v := 12) hx hb dGR_beginRow_11 (by decide) ?_
  refine lv_icmp_lt (tgt := 18) hx hb dGR_beginRow_13 rfl (fun _ => ?_) (fun h => absurd (by decide) h)
  refine lv_aload_n hx hb dGR_beginRow_18 rfl (lv_at hl 1 rfl) ?_
  refine lv_dup hx hb dGR_beginRow_19 rfl ?_
  refine va_get (D := (dC, dI)) (ci := 1) (v := .int 0) (C := RGR) (T := TGR) (N := 6) hx hb hz in_GR hown hK hP 0 rfl rfl 3 (by decide) (hz _ wd_88) (fun _ h9 => h9) rfl dGR_beginRow_20 ?_
  refine lv_iconst (v := 1) hx hb dGR_beginRow_23 (by decide) ?_
  refine lv_iadd hx hb dGR_beginRow_24 ?_
  refine lv_topi (fun x3 e4 => ?_)
  have e4 : x3 = 1 := e4.trans (by decide)
  subst e4
  refine va_put (D := (dC, dI)) (ci := 1) (v := .int 1) (ty := .int) (C := RGR) (T := TGR) (N := 6) hx hb hz in_GR tyGR tokGR nokGR hown hK hP hD hS 0 rfl rfl 3 (by decide) (hz _ wd_88) (fun _ h9 => h9) rfl (by decide +kernel) rfl rfl (Nat.le_of_ble_eq_true rfl) dGR_beginRow_25 (fun H locs hP hD hS => ?_)
  have hP : va_P (dC, dI) vwCl [(g, .inr (1, [.ref al, .int 1, .int 0, .int 1, .int 0, .int 0])), (al, .inr (2, [.ref ed, .int 0, .int mo]))] H := hP
  have hD : va_D A [(g, .inr (1, [.ref al, .int 1, .int 0, .int 1, .int 0, .int 0])), (al, .inr (2, [.ref ed, .int 0, .int mo]))] := hD
  refine lv_aload_n hx hb dGR_beginRow_28 rfl (lv_at hl 1 rfl) ?_
  refine lv_iload_n hx hb dGR_beginRow_29 rfl (lv_at hl 0 rfl) ?_
  refine lv_iconst (v := 1) hx hb dGR_beginRow_30 (by decide) ?_
  refine lv_iadd hx hb dGR_beginRow_31 ?_
  refine lv_topi (fun x5 e6 => ?_)
  have e6 : x5 = 1 := e6.trans (by decide)
  subst e6
  refine zw_callv (wr := []) hK hP hD hS hA [0, 1] [] rfl rfl (by decide) (by decide) (va_runV (As := [.int 1]) (rest := []) ⟨hx, hb, hml, hown, hz⟩ ((c_GR_extendGroupTo l dC dI g al ed mo ) H.size) (cwV 1 hz (z_gV wd_185 wd_187 wd_0 wd_30 wd_188) rfl rfl rfl (by decide +kernel) ⟨Nat.le_of_ble_eq_true rfl, Nat.le_of_ble_eq_true rfl⟩) (zw_preV (q0 := 0) (q := (RGR, TGR, 6)) hK hP hD rfl rfl [0, 1] (by decide) rfl [] rfl z_true (fun _ _ _ => trivial)) rfl rfl hl.1 rfl (lv_room (Nat.le_of_ble_eq_true rfl)) dGR_beginRow_32 ⟨Nat.le_of_ble_eq_true rfl, Nat.le_of_ble_eq_true rfl⟩) (fun u H locs h_r7 hP hD hK hS => ?_)
  have hP : va_P (dC, dI) vwCl [] H := hP.sub [] rfl
  have hD : va_D A [] := hD.sub [] (by decide) rfl
  have hK : va_K (dC, dI) vwCl [] s := hK
  refine lv_iload_n hx hb dGR_beginRow_35 rfl (lv_at hl 0 rfl) ?_
  subst hQ
  exact zw_iret (D := (dC, dI)) (cl := vwCl) (A := A) () hx hb hr hlocks (rfl) (hP.sub [] rfl) (hK.sub [] rfl) (hD.sub [] (by decide) rfl) hS dGR_beginRow_36

set_option maxHeartbeats 4000000 in
set_option maxRecDepth 100000 in
theorem c_SC_row (l : Launch) (dC : Nat → ClassId) (dI : Nat → Nat → Nat) (h0 : Nat) (g : Nat) (wd : Nat) (hh : Nat) (al : Nat) (ed : Nat) (mo : Int32) : zw_Mi (S := Unit) l ySC_row wSC_row ({ frames := 3, cells := 0, slots := 0, locals := 64 }) [.ref h0] (dC, dI) vwCl [(h0, .inr (0, [.ref g, .ref wd, .ref hh, .int 0, .int 0, .int 0])), (g, .inr (1, [.ref al, .int 1, .int 0, .int 0, .int 0, .int 0])), (al, .inr (2, [.ref ed, .int 0, .int mo]))] [] (fun _ _ => True) (fun r (_ : Unit) => r = 0) (fun (_ : Unit) => []) (fun (_ : Unit) => []) 0 0 := by
  refine zw_headi (cc := cSC_row) (maxL := 1) (ret := (some .int)) (by decide +kernel) rfl (Nat.le_of_ble_eq_true rfl) ?_
  intro p e s m below meth c ls A F hA hP hK hD hS hX hl
  obtain ⟨hx, hb, hml, hr, hlocks, hown, hts⟩ := F
  have hown : s.vm.findClass "SpannedCells" = some m.cls := hown
  have hz : ∀ w9 ∈ zT, w9.before [.ref h0].toArray s = true := fun w9 h => hts w9 (List.mem_cons_of_mem _ h)
  have hl : lv_has ls 1 [(0, .ref h0)] := hl
  refine z_q (fun Q hQ => ?_)
  refine lv_aload_n hx hb dSC_row_0 rfl (lv_at hl 0 rfl) ?_
  refine va_get (D := (dC, dI)) (ci := 0) (v := .ref g) (C := RSC) (T := TSC) (N := 6) hx hb hz in_SC hown hK hP 0 rfl rfl 0 (by decide) (hz _ wd_150) (fun _ h9 => h9) rfl dSC_row_1 ?_
  refine zw_calli (wr := [(h0, .inr (0, [.ref g, .ref wd, .ref hh, .int 0, .int 0, .int 0]))]) hK hP hD hS hA [1, 2] [0] rfl rfl (by decide) (by decide) (va_runV (As := []) (rest := []) ⟨hx, hb, hml, hown, hz⟩ ((c_GR_beginRow l dC dI g al ed mo ) s.heap.size) (cwV 0 hz (z_gV wd_181 wd_182 wd_183 wd_30 wd_184) rfl rfl rfl (by decide +kernel) ⟨Nat.le_of_ble_eq_true rfl, Nat.le_of_ble_eq_true rfl⟩) (zw_preV (q0 := 1) (q := (RGR, TGR, 6)) hK hP hD rfl rfl [1, 2] (by decide) rfl [] rfl z_true (fun _ _ _ => trivial)) rfl rfl hl.1 rfl (lv_room (Nat.le_of_ble_eq_true rfl)) dSC_row_4 ⟨Nat.le_of_ble_eq_true rfl, Nat.le_of_ble_eq_true rfl⟩) (fun r1 u H locs h_r1 hP hD hK hS => ?_)
  have hP : va_P (dC, dI) vwCl [(h0, .inr (0, [.ref g, .ref wd, .ref hh, .int 0, .int 0, .int 0]))] H := hP.sub [0] rfl
  have hD : va_D A [(h0, .inr (0, [.ref g, .ref wd, .ref hh, .int 0, .int 0, .int 0]))] := hD.sub [0] (by decide) rfl
  have hK : va_K (dC, dI) vwCl [] s := hK
  have h_r1 : r1 = 0 := h_r1
  subst h_r1
  subst hQ
  exact zw_iret (D := (dC, dI)) (cl := vwCl) (A := A) () hx hb hr hlocks (rfl) (hP.sub [] rfl) (hK.sub [] rfl) (hD.sub [] (by decide) rfl) hS dSC_row_7

set_option maxHeartbeats 4000000 in
set_option maxRecDepth 100000 in
theorem c_AL_clear (l : Launch) (dC : Nat → ClassId) (dI : Nat → Nat → Nat) (al : Nat) (ed : Nat) (mo : Int32) : zw_Mv (S := Unit) l yAL_clear wAL_clear ({ frames := 0, cells := 0, slots := 0, locals := 0 }) [.ref al] (dC, dI) vwCl [(al, .inr (2, [.ref ed, .int 0, .int mo]))] [] (fun _ _ => True) (fun (_ : Unit) => True) (fun (_ : Unit) => []) (fun (_ : Unit) => []) 0 0 := by
  refine zw_headv (cc := cAL_clear) (maxL := 4) (ret := none) (by decide +kernel) rfl (Nat.le_of_ble_eq_true rfl) ?_
  intro p e s m below meth c ls A F hnm hA hP hK hD hS hX hl
  obtain ⟨hx, hb, hml, hr, hlocks, hown, hts⟩ := F
  have hown : s.vm.findClass "java/util/ArrayList" = some m.cls := hown
  have hz : ∀ w9 ∈ zT, w9.before [.ref al].toArray s = true := fun w9 h => hts w9 (List.mem_cons_of_mem _ h)
  have hl : lv_has ls 4 [(0, .ref al)] := hl
  refine z_q (fun Q hQ => ?_)
  refine lv_aload_n hx hb dAL_clear_0 rfl (lv_at hl 0 rfl) ?_
  refine lv_dup hx hb dAL_clear_1 rfl ?_
  refine va_get (D := (dC, dI)) (ci := 2) (v := .int mo) (C := RAL) (T := TAL) (N := 3) hx hb hz in_AL hown hK hP 0 rfl rfl 2 (by decide) (hz _ wd_76) (fun x9 h9 => u_same (hz _ wd_77) x9 h9) rfl dAL_clear_2 ?_
  refine lv_iconst (v := 1) hx hb dAL_clear_5 (by decide) ?_
  refine lv_iadd hx hb dAL_clear_6 ?_
  refine va_put (D := (dC, dI)) (ci := 2) (v := .int (mo + 1)) (ty := .int) (C := RAL) (T := TAL) (N := 3) hx hb hz in_AL tyAL tokAL nokAL hown hK hP hD hS 0 rfl rfl 2 (by decide) (hz _ wd_76) (fun x9 h9 => u_same (hz _ wd_77) x9 h9) rfl (by decide +kernel) rfl rfl (Nat.le_of_ble_eq_true rfl) dAL_clear_7 (fun H locs hP hD hS => ?_)
  have hP : va_P (dC, dI) vwCl [(al, .inr (2, [.ref ed, .int 0, .int (mo + 1)]))] H := hP
  have hD : va_D A [(al, .inr (2, [.ref ed, .int 0, .int (mo + 1)]))] := hD
  refine lv_aload_n hx hb dAL_clear_10 rfl (lv_at hl 0 rfl) ?_
  refine va_get (D := (dC, dI)) (ci := 2) (v := .ref ed) (C := RAL) (T := TAL) (N := 3) hx hb hz in_AL hown hK hP 0 rfl rfl 0 (by decide) (hz _ wd_73) (fun _ h9 => h9) rfl dAL_clear_11 ?_
  refine lv_astore_n hx hb dAL_clear_14 rfl hl (Nat.le_of_ble_eq_true rfl) rfl (fun ls hl => ?_)
  have hl : lv_has ls 4 [(1, .ref ed), (0, .ref al)] := hl
  refine lv_aload_n hx hb dAL_clear_15 rfl (lv_at hl 1 rfl) ?_
  refine va_get (D := (dC, dI)) (ci := 2) (v := .int 0) (C := RAL) (T := TAL) (N := 3) hx hb hz in_AL hown hK hP 0 rfl rfl 1 (by decide) (hz _ wd_74) (fun _ h9 => h9) rfl dAL_clear_16 ?_
  refine lv_istore_n hx hb dAL_clear_19 rfl hl (Nat.le_of_ble_eq_true rfl) rfl (fun ls hl => ?_)
  have hl : lv_has ls 4 [(2, .int 0), (1, .ref ed), (0, .ref al)] := hl
  refine lv_aload_n hx hb dAL_clear_20 rfl (lv_at hl 2 rfl) ?_
  refine lv_iconst (v := 0) hx hb dAL_clear_21 (by decide) ?_
  refine lv_dup_x1 hx hb dAL_clear_22 rfl rfl ?_
  refine va_put (D := (dC, dI)) (ci := 2) (v := .int 0) (ty := .int) (C := RAL) (T := TAL) (N := 3) hx hb hz in_AL tyAL tokAL nokAL hown hK hP hD hS 0 rfl rfl 1 (by decide) (hz _ wd_74) (fun _ h9 => h9) rfl (by decide +kernel) rfl rfl (Nat.le_of_ble_eq_true rfl) dAL_clear_23 (fun H locs hP hD hS => ?_)
  have hP : va_P (dC, dI) vwCl [(al, .inr (2, [.ref ed, .int 0, .int (mo + 1)]))] H := hP
  have hD : va_D A [(al, .inr (2, [.ref ed, .int 0, .int (mo + 1)]))] := hD
  refine lv_istore_n hx hb dAL_clear_26 rfl hl (Nat.le_of_ble_eq_true rfl) rfl (fun ls hl => ?_)
  have hl : lv_has ls 4 [(3, .int 0), (2, .int 0), (1, .ref ed), (0, .ref al)] := hl
  refine lv_iload_n hx hb dAL_clear_27 rfl (lv_at hl 0 rfl) ?_
  refine lv_iload_n hx hb dAL_clear_28 rfl (lv_at hl 1 rfl) ?_
  refine lv_icmp_ge (tgt := 42) hx hb dAL_clear_29 rfl (fun _ => ?_) (fun h => absurd (by decide) h)
  subst hQ
  exact zw_vret (D := (dC, dI)) (cl := vwCl) (A := A) () hx hb hr hlocks (trivial) (hP.sub [] rfl) (hK.sub [] rfl) (hD.sub [] (by decide) rfl) hS dAL_clear_42

set_option maxHeartbeats 4000000 in
set_option maxRecDepth 100000 in
theorem c_GR_empty (l : Launch) (dC : Nat → ClassId) (dI : Nat → Nat → Nat) (g : Nat) (al : Nat) (ed : Nat) (mo : Int32) : zw_Mv (S := Unit) l yGR_empty wGR_empty ({ frames := 1, cells := 0, slots := 0, locals := 23 }) [.ref g] (dC, dI) vwCl [(g, .inr (1, [.ref al, .int 1, .int 0, .int 0, .int 0, .int 0])), (al, .inr (2, [.ref ed, .int 0, .int mo]))] [] (fun _ _ => True) (fun (_ : Unit) => True) (fun (_ : Unit) => []) (fun (_ : Unit) => []) 0 0 := by
  refine zw_headv (cc := cGR_empty) (maxL := 1) (ret := none) (by decide +kernel) rfl (Nat.le_of_ble_eq_true rfl) ?_
  intro p e s m below meth c ls A F hnm hA hP hK hD hS hX hl
  obtain ⟨hx, hb, hml, hr, hlocks, hown, hts⟩ := F
  have hown : s.vm.findClass "SpannedCells$Grid" = some m.cls := hown
  have hz : ∀ w9 ∈ zT, w9.before [.ref g].toArray s = true := fun w9 h => hts w9 (List.mem_cons_of_mem _ h)
  have hl : lv_has ls 1 [(0, .ref g)] := hl
  refine z_q (fun Q hQ => ?_)
  refine lv_aload_n hx hb dGR_empty_0 rfl (lv_at hl 0 rfl) ?_
  refine va_get (D := (dC, dI)) (ci := 1) (v := .ref al) (C := RGR) (T := TGR) (N := 6) hx hb hz in_GR hown hK hP 0 rfl rfl 0 (by decide) (hz _ wd_85) (fun _ h9 => h9) rfl dGR_empty_1 ?_
  refine zw_callv (wr := [(g, .inr (1, [.ref al, .int 1, .int 0, .int 0, .int 0, .int 0]))]) hK hP hD hS hA [1] [0] rfl rfl (by decide) (by decide) (va_runV (As := []) (rest := []) ⟨hx, hb, hml, hown, hz⟩ ((c_AL_clear l dC dI al ed mo ) s.heap.size) (cwV 0 hz (z_gV wd_383 wd_384 wd_385 wd_33 wd_386) rfl rfl rfl (by decide +kernel) ⟨Nat.le_of_ble_eq_true rfl, Nat.le_of_ble_eq_true rfl⟩) (zw_preV (q0 := 1) (q := (RAL, TAL, 3)) hK hP hD rfl rfl [1] (by decide) rfl [] rfl z_true (fun _ _ _ => trivial)) rfl rfl hl.1 rfl (lv_room (Nat.le_of_ble_eq_true rfl)) dGR_empty_4 ⟨Nat.le_of_ble_eq_true rfl, Nat.le_of_ble_eq_true rfl⟩) (fun u H locs h_r1 hP hD hK hS => ?_)
  have hP : va_P (dC, dI) vwCl [(g, .inr (1, [.ref al, .int 1, .int 0, .int 0, .int 0, .int 0]))] H := hP.sub [0] rfl
  have hD : va_D A [(g, .inr (1, [.ref al, .int 1, .int 0, .int 0, .int 0, .int 0]))] := hD.sub [0] (by decide) rfl
  have hK : va_K (dC, dI) vwCl [] s := hK
  refine lv_aload_n hx hb dGR_empty_7 rfl (lv_at hl 0 rfl) ?_
  refine lv_iconst (v := 1) hx hb dGR_empty_8 (by decide) ?_
  refine va_put (D := (dC, dI)) (ci := 1) (v := .int 1) (ty := .int) (C := RGR) (T := TGR) (N := 6) hx hb hz in_GR tyGR tokGR nokGR hown hK hP hD hS 0 rfl rfl 1 (by decide) (hz _ wd_86) (fun _ h9 => h9) rfl (by decide +kernel) rfl rfl (Nat.le_of_ble_eq_true rfl) dGR_empty_9 (fun H locs hP hD hS => ?_)
  have hP : va_P (dC, dI) vwCl [(g, .inr (1, [.ref al, .int 1, .int 0, .int 0, .int 0, .int 0]))] H := hP
  have hD : va_D A [(g, .inr (1, [.ref al, .int 1, .int 0, .int 0, .int 0, .int 0]))] := hD
  refine lv_aload_n hx hb dGR_empty_12 rfl (lv_at hl 0 rfl) ?_
  refine lv_iconst (v := 0) hx hb dGR_empty_13 (by decide) ?_
  refine va_put (D := (dC, dI)) (ci := 1) (v := .int 0) (ty := .int) (C := RGR) (T := TGR) (N := 6) hx hb hz in_GR tyGR tokGR nokGR hown hK hP hD hS 0 rfl rfl 2 (by decide) (hz _ wd_87) (fun _ h9 => h9) rfl (by decide +kernel) rfl rfl (Nat.le_of_ble_eq_true rfl) dGR_empty_14 (fun H locs hP hD hS => ?_)
  have hP : va_P (dC, dI) vwCl [(g, .inr (1, [.ref al, .int 1, .int 0, .int 0, .int 0, .int 0]))] H := hP
  have hD : va_D A [(g, .inr (1, [.ref al, .int 1, .int 0, .int 0, .int 0, .int 0]))] := hD
  refine lv_aload_n hx hb dGR_empty_17 rfl (lv_at hl 0 rfl) ?_
  refine lv_iconst (v := 0) hx hb dGR_empty_18 (by decide) ?_
  refine va_put (D := (dC, dI)) (ci := 1) (v := .int 0) (ty := .int) (C := RGR) (T := TGR) (N := 6) hx hb hz in_GR tyGR tokGR nokGR hown hK hP hD hS 0 rfl rfl 3 (by decide) (hz _ wd_88) (fun _ h9 => h9) rfl (by decide +kernel) rfl rfl (Nat.le_of_ble_eq_true rfl) dGR_empty_19 (fun H locs hP hD hS => ?_)
  have hP : va_P (dC, dI) vwCl [(g, .inr (1, [.ref al, .int 1, .int 0, .int 0, .int 0, .int 0]))] H := hP
  have hD : va_D A [(g, .inr (1, [.ref al, .int 1, .int 0, .int 0, .int 0, .int 0]))] := hD
  refine lv_aload_n hx hb dGR_empty_22 rfl (lv_at hl 0 rfl) ?_
  refine lv_iconst (v := 0) hx hb dGR_empty_23 (by decide) ?_
  refine va_put (D := (dC, dI)) (ci := 1) (v := .int 0) (ty := .int) (C := RGR) (T := TGR) (N := 6) hx hb hz in_GR tyGR tokGR nokGR hown hK hP hD hS 0 rfl rfl 4 (by decide) (hz _ wd_89) (fun _ h9 => h9) rfl (by decide +kernel) rfl rfl (Nat.le_of_ble_eq_true rfl) dGR_empty_24 (fun H locs hP hD hS => ?_)
  have hP : va_P (dC, dI) vwCl [(g, .inr (1, [.ref al, .int 1, .int 0, .int 0, .int 0, .int 0]))] H := hP
  have hD : va_D A [(g, .inr (1, [.ref al, .int 1, .int 0, .int 0, .int 0, .int 0]))] := hD
  refine lv_aload_n hx hb dGR_empty_27 rfl (lv_at hl 0 rfl) ?_
  refine lv_iconst (v := 0) hx hb dGR_empty_28 (by decide) ?_
  refine va_put (D := (dC, dI)) (ci := 1) (v := .int 0) (ty := .int) (C := RGR) (T := TGR) (N := 6) hx hb hz in_GR tyGR tokGR nokGR hown hK hP hD hS 0 rfl rfl 5 (by decide) (hz _ wd_90) (fun _ h9 => h9) rfl (by decide +kernel) rfl rfl (Nat.le_of_ble_eq_true rfl) dGR_empty_29 (fun H locs hP hD hS => ?_)
  have hP : va_P (dC, dI) vwCl [(g, .inr (1, [.ref al, .int 1, .int 0, .int 0, .int 0, .int 0]))] H := hP
  have hD : va_D A [(g, .inr (1, [.ref al, .int 1, .int 0, .int 0, .int 0, .int 0]))] := hD
  subst hQ
  exact zw_vret (D := (dC, dI)) (cl := vwCl) (A := A) () hx hb hr hlocks (trivial) (hP.sub [] rfl) (hK.sub [] rfl) (hD.sub [] (by decide) rfl) hS dGR_empty_32

set_option maxHeartbeats 4000000 in
set_option maxRecDepth 100000 in
theorem c_SC_clear (l : Launch) (dC : Nat → ClassId) (dI : Nat → Nat → Nat) (h0 : Nat) (g : Nat) (wd : Nat) (hh : Nat) (al : Nat) (ed : Nat) (mo : Int32) : zw_Mi (S := Unit) l ySC_clear wSC_clear ({ frames := 2, cells := 0, slots := 0, locals := 43 }) [.ref h0] (dC, dI) vwCl [(h0, .inr (0, [.ref g, .ref wd, .ref hh, .int 0, .int 0, .int 0])), (g, .inr (1, [.ref al, .int 1, .int 0, .int 0, .int 0, .int 0])), (al, .inr (2, [.ref ed, .int 0, .int mo]))] [] (fun _ _ => True) (fun r (_ : Unit) => r = 0) (fun (_ : Unit) => []) (fun (_ : Unit) => []) 0 0 := by
  refine zw_headi (cc := cSC_clear) (maxL := 2) (ret := (some .int)) (by decide +kernel) rfl (Nat.le_of_ble_eq_true rfl) ?_
  intro p e s m below meth c ls A F hA hP hK hD hS hX hl
  obtain ⟨hx, hb, hml, hr, hlocks, hown, hts⟩ := F
  have hown : s.vm.findClass "SpannedCells" = some m.cls := hown
  have hz : ∀ w9 ∈ zT, w9.before [.ref h0].toArray s = true := fun w9 h => hts w9 (List.mem_cons_of_mem _ h)
  have hl : lv_has ls 2 [(0, .ref h0)] := hl
  refine z_q (fun Q hQ => ?_)
  refine lv_aload_n hx hb dSC_clear_0 rfl (lv_at hl 0 rfl) ?_
  refine va_get (D := (dC, dI)) (ci := 0) (v := .ref g) (C := RSC) (T := TSC) (N := 6) hx hb hz in_SC hown hK hP 0 rfl rfl 0 (by decide) (hz _ wd_150) (fun _ h9 => h9) rfl dSC_clear_1 ?_
  refine vp_callSi (W.runV (As := []) (rest := []) ⟨hx, hb, hml, hown, hz⟩ (c_GR_cellCount l dC dI g al ed 0 mo 1 0 0 0 0 ) (cwV 0 hz (z_gV wd_375 wd_376 wd_377 wd_30 wd_378) rfl rfl rfl (by decide +kernel) ⟨Nat.le_of_ble_eq_true rfl, Nat.le_of_ble_eq_true rfl⟩) (zp_preV (q0 := 1) (q := (RGR, TGR, 6)) hK hP rfl rfl [1, 2] rfl [] rfl z_true (fun _ _ _ => trivial)) rfl rfl hl.1 rfl (lv_room (Nat.le_of_ble_eq_true rfl)) dSC_clear_4 ⟨Nat.le_of_ble_eq_true rfl, Nat.le_of_ble_eq_true rfl⟩) (fun r1 h_r1 => ?_)
  have h_r1 : r1 = 0 := h_r1
  subst h_r1
  refine lv_istore_n hx hb dSC_clear_7 rfl hl (Nat.le_of_ble_eq_true rfl) rfl (fun ls hl => ?_)
  have hl : lv_has ls 2 [(1, .int 0), (0, .ref h0)] := hl
  refine lv_aload_n hx hb dSC_clear_8 rfl (lv_at hl 1 rfl) ?_
  refine va_get (D := (dC, dI)) (ci := 0) (v := .ref g) (C := RSC) (T := TSC) (N := 6) hx hb hz in_SC hown hK hP 0 rfl rfl 0 (by decide) (hz _ wd_150) (fun _ h9 => h9) rfl dSC_clear_9 ?_
  refine zw_callv (wr := [(h0, .inr (0, [.ref g, .ref wd, .ref hh, .int 0, .int 0, .int 0]))]) hK hP hD hS hA [1, 2] [0] rfl rfl (by decide) (by decide) (va_runV (As := []) (rest := []) ⟨hx, hb, hml, hown, hz⟩ ((c_GR_empty l dC dI g al ed mo ) s.heap.size) (cwV 0 hz (z_gV wd_379 wd_380 wd_381 wd_30 wd_382) rfl rfl rfl (by decide +kernel) ⟨Nat.le_of_ble_eq_true rfl, Nat.le_of_ble_eq_true rfl⟩) (zw_preV (q0 := 1) (q := (RGR, TGR, 6)) hK hP hD rfl rfl [1, 2] (by decide) rfl [] rfl z_true (fun _ _ _ => trivial)) rfl rfl hl.1 rfl (lv_room (Nat.le_of_ble_eq_true rfl)) dSC_clear_12 ⟨Nat.le_of_ble_eq_true rfl, Nat.le_of_ble_eq_true rfl⟩) (fun u H locs h_r2 hP hD hK hS => ?_)
  have hP : va_P (dC, dI) vwCl [(h0, .inr (0, [.ref g, .ref wd, .ref hh, .int 0, .int 0, .int 0]))] H := hP.sub [0] rfl
  have hD : va_D A [(h0, .inr (0, [.ref g, .ref wd, .ref hh, .int 0, .int 0, .int 0]))] := hD.sub [0] (by decide) rfl
  have hK : va_K (dC, dI) vwCl [] s := hK
  refine lv_iload_n hx hb dSC_clear_15 rfl (lv_at hl 0 rfl) ?_
  subst hQ
  exact zw_iret (D := (dC, dI)) (cl := vwCl) (A := A) () hx hb hr hlocks (rfl) (hP.sub [] rfl) (hK.sub [] rfl) (hD.sub [] (by decide) rfl) hS dSC_clear_16

set_option maxHeartbeats 4000000 in
set_option maxRecDepth 100000 in
theorem c_SC_layout (l : Launch) (dC : Nat → ClassId) (dI : Nat → Nat → Nat) (h0 : Nat) (g : Nat) (wd : Nat) (hh : Nat) (al : Nat) (ed : Nat) (mo : Int32) (a : Int32) (b : Int32) (f : Int32) (hf : f = 0 ∨ f = 1) : zw_Mi (S := Unit) l ySC_layout wSC_layout ({ frames := 1, cells := 0, slots := 0, locals := 22 }) [.ref h0, .int a, .int b, .int f] (dC, dI) vwCl [(h0, .inr (0, [.ref g, .ref wd, .ref hh, .int 0, .int 0, .int 0])), (g, .inr (1, [.ref al, .int 1, .int 0, .int 0, .int 0, .int 0])), (al, .inr (2, [.ref ed, .int 0, .int mo]))] [] (fun _ _ => True) (fun r (_ : Unit) => (r = 1 ∧ ((0 ≤ a ∧ a ≤ 10000) ∧ (0 ≤ b ∧ b ≤ 20))) ∨ (r = 0 ∧ ¬ ((0 ≤ a ∧ a ≤ 10000) ∧ (0 ≤ b ∧ b ≤ 20)))) (fun (_ : Unit) => []) (fun (_ : Unit) => []) 0 0 := by
  refine zw_headi (cc := cSC_layout) (maxL := 4) (ret := (some .boolean)) (by decide +kernel) rfl (Nat.le_of_ble_eq_true rfl) ?_
  intro p e s m below meth c ls A F hA hP hK hD hS hX hl
  obtain ⟨hx, hb, hml, hr, hlocks, hown, hts⟩ := F
  have hown : s.vm.findClass "SpannedCells" = some m.cls := hown
  have hz : ∀ w9 ∈ zT, w9.before [.ref h0, .int a, .int b, .int f].toArray s = true := fun w9 h => hts w9 (List.mem_cons_of_mem _ h)
  have hl : lv_has ls 4 [(0, .ref h0), (1, .int a), (2, .int b), (3, .int f)] := hl
  refine z_q (fun Q hQ => ?_)
  refine lv_iload_n hx hb dSC_layout_0 rfl (lv_at hl 1 rfl) ?_
  refine lv_iconst (v := 0) hx hb dSC_layout_1 (by decide) ?_
  refine lv_sipush (v := 10000) hx hb dSC_layout_2 (by decide) ?_
  refine vp_callSi (W.runS (As := [.int a, .int 0, .int 10000]) (rest := []) ⟨hx, hb, hml, hown, hz⟩ (c_SC_within l dC dI a 0 10000 ) (va_cwS 3 hz (z_gS wd_219 wd_220 wd_29 wd_221) rfl rfl rfl (by decide +kernel) ⟨Nat.le_of_ble_eq_true rfl, Nat.le_of_ble_eq_true rfl⟩) (zp_preS hK hP [] rfl [] rfl z_true (fun _ _ _ => trivial)) rfl rfl hl.1 rfl (lv_room (Nat.le_of_ble_eq_true rfl)) dSC_layout_5 ⟨Nat.le_of_ble_eq_true rfl, Nat.le_of_ble_eq_true rfl⟩) (fun ra h_ra => ?_)
  refine lv_if_eq (tgt := 21) hx hb dSC_layout_8 rfl (fun h1 => ?_) (fun h1 => ?_)
  · refine lv_iconst (v := 0) hx hb dSC_layout_21 (by decide) ?_
    subst hQ
    exact zw_zret (D := (dC, dI)) (cl := vwCl) (A := A) () hx hb hr hlocks (Or.inl rfl) (Or.inr ⟨rfl, fun h => z_wF h_ra h1 h.1⟩) (hP.sub [] rfl) (hK.sub [] rfl) (hD.sub [] (by decide) rfl) hS dSC_layout_22
  · refine lv_iload_n hx hb dSC_layout_11 rfl (lv_at hl 2 rfl) ?_
    refine lv_iconst (v := 0) hx hb dSC_layout_12 (by decide) ?_
    refine lv_bipush (v := 20) hx hb dSC_layout_13 (by decide) ?_
    refine vp_callSi (W.runS (As := [.int b, .int 0, .int 20]) (rest := []) ⟨hx, hb, hml, hown, hz⟩ (c_SC_within l dC dI b 0 20 ) (va_cwS 3 hz (z_gS wd_219 wd_220 wd_29 wd_221) rfl rfl rfl (by decide +kernel) ⟨Nat.le_of_ble_eq_true rfl, Nat.le_of_ble_eq_true rfl⟩) (zp_preS hK hP [] rfl [] rfl z_true (fun _ _ _ => trivial)) rfl rfl hl.1 rfl (lv_room (Nat.le_of_ble_eq_true rfl)) dSC_layout_15 ⟨Nat.le_of_ble_eq_true rfl, Nat.le_of_ble_eq_true rfl⟩) (fun rb h_rb => ?_)
    refine lv_if_ne (tgt := 23) hx hb dSC_layout_18 rfl (fun h2 => ?_) (fun h2 => ?_)
    · refine lv_aload_n hx hb dSC_layout_23 rfl (lv_at hl 0 rfl) ?_
      refine lv_iload_n hx hb dSC_layout_24 rfl (lv_at hl 1 rfl) ?_
      refine va_put (D := (dC, dI)) (ci := 0) (v := .int a) (ty := .int) (C := RSC) (T := TSC) (N := 6) hx hb hz in_SC tySC tokSC nokSC hown hK hP hD hS 0 rfl rfl 3 (by decide) (hz _ wd_153) (fun _ h9 => h9) rfl (by decide +kernel) rfl rfl (Nat.le_of_ble_eq_true rfl) dSC_layout_25 (fun H locs hP hD hS => ?_)
      have hP : va_P (dC, dI) vwCl [(h0, .inr (0, [.ref g, .ref wd, .ref hh, .int a, .int 0, .int 0])), (g, .inr (1, [.ref al, .int 1, .int 0, .int 0, .int 0, .int 0])), (al, .inr (2, [.ref ed, .int 0, .int mo]))] H := hP
      have hD : va_D A [(h0, .inr (0, [.ref g, .ref wd, .ref hh, .int a, .int 0, .int 0])), (g, .inr (1, [.ref al, .int 1, .int 0, .int 0, .int 0, .int 0])), (al, .inr (2, [.ref ed, .int 0, .int mo]))] := hD
      refine lv_aload_n hx hb dSC_layout_28 rfl (lv_at hl 0 rfl) ?_
      refine lv_iload_n hx hb dSC_layout_29 rfl (lv_at hl 2 rfl) ?_
      refine va_put (D := (dC, dI)) (ci := 0) (v := .int b) (ty := .int) (C := RSC) (T := TSC) (N := 6) hx hb hz in_SC tySC tokSC nokSC hown hK hP hD hS 0 rfl rfl 4 (by decide) (hz _ wd_154) (fun _ h9 => h9) rfl (by decide +kernel) rfl rfl (Nat.le_of_ble_eq_true rfl) dSC_layout_30 (fun H locs hP hD hS => ?_)
      have hP : va_P (dC, dI) vwCl [(h0, .inr (0, [.ref g, .ref wd, .ref hh, .int a, .int b, .int 0])), (g, .inr (1, [.ref al, .int 1, .int 0, .int 0, .int 0, .int 0])), (al, .inr (2, [.ref ed, .int 0, .int mo]))] H := hP
      have hD : va_D A [(h0, .inr (0, [.ref g, .ref wd, .ref hh, .int a, .int b, .int 0])), (g, .inr (1, [.ref al, .int 1, .int 0, .int 0, .int 0, .int 0])), (al, .inr (2, [.ref ed, .int 0, .int mo]))] := hD
      refine lv_aload_n hx hb dSC_layout_33 rfl (lv_at hl 0 rfl) ?_
      refine lv_iload_n hx hb dSC_layout_34 rfl (lv_at hl 3 rfl) ?_
      refine va_put (D := (dC, dI)) (ci := 0) (v := .int f) (ty := .boolean) (C := RSC) (T := TSC) (N := 6) hx hb hz in_SC tySC tokSC nokSC hown hK hP hD hS 0 rfl rfl 5 (by decide) (hz _ wd_155) (fun _ h9 => h9) rfl (by decide +kernel) (by rcases hf with h | h <;> (subst h; rfl)) (by rcases hf with h | h <;> (subst h; rfl)) (Nat.le_of_ble_eq_true rfl) dSC_layout_35 (fun H locs hP hD hS => ?_)
      have hP : va_P (dC, dI) vwCl [(h0, .inr (0, [.ref g, .ref wd, .ref hh, .int a, .int b, .int f])), (g, .inr (1, [.ref al, .int 1, .int 0, .int 0, .int 0, .int 0])), (al, .inr (2, [.ref ed, .int 0, .int mo]))] H := hP
      have hD : va_D A [(h0, .inr (0, [.ref g, .ref wd, .ref hh, .int a, .int b, .int f])), (g, .inr (1, [.ref al, .int 1, .int 0, .int 0, .int 0, .int 0])), (al, .inr (2, [.ref ed, .int 0, .int mo]))] := hD
      refine lv_iconst (v := 1) hx hb dSC_layout_38 (by decide) ?_
      subst hQ
      exact zw_zret (D := (dC, dI)) (cl := vwCl) (A := A) () hx hb hr hlocks (Or.inr rfl) (Or.inl ⟨rfl, z_wT h_ra h1, z_wT h_rb h2⟩) (hP.sub [] rfl) (hK.sub [] rfl) (hD.sub [] (by decide) rfl) hS dSC_layout_39
    · refine lv_iconst (v := 0) hx hb dSC_layout_21 (by decide) ?_
      subst hQ
      exact zw_zret (D := (dC, dI)) (cl := vwCl) (A := A) () hx hb hr hlocks (Or.inl rfl) (Or.inr ⟨rfl, fun h => z_wF h_rb h2 h.2⟩) (hP.sub [] rfl) (hK.sub [] rfl) (hD.sub [] (by decide) rfl) hS dSC_layout_22
end
section
set_option maxHeartbeats 4000000 in
set_option maxRecDepth 100000 in
theorem c_AC_init (l : Launch) (dC : Nat → ClassId) (dI : Nat → Nat → Nat) (a : Nat) : zw_Mv (S := Unit) l yAC_init wAC_init ({ frames := 1, cells := 0, slots := 0, locals := 12 }) [.ref a] (dC, dI) vwCl [(a, .inr (2, [.null, .int 0, .int 0]))] [] (fun _ _ => True) (fun (_ : Unit) => True) (fun (_ : Unit) => [(a, .inr (2, [.null, .int 0, .int 0]))]) (fun (_ : Unit) => []) 0 0 := by
  refine zw_headv (cc := cAC_init) (maxL := 1) (ret := none) (by decide +kernel) rfl (Nat.le_of_ble_eq_true rfl) ?_
  intro p e s m below meth c ls A F hnm hA hP hK hD hS hX hl
  obtain ⟨hx, hb, hml, hr, hlocks, hown, hts⟩ := F
  have hown : s.vm.findClass "java/util/AbstractCollection" = some m.cls := hown
  have hz : ∀ w9 ∈ zT, w9.before [.ref a].toArray s = true := fun w9 h => hts w9 (List.mem_cons_of_mem _ h)
  have hin : meth.name = "<init>" := hnm
  have hl : lv_has ls 1 [(0, .ref a)] := hl
  refine z_q (fun Q hQ => ?_)
  refine lv_aload_n hx hb dAC_init_0 rfl (lv_at hl 0 rfl) ?_
  refine W.objInit hx hb hown (hz _ wd_70) (hz _ wd_51) (hz _ wd_52) rfl (by rw [hml]; exact hl.1) rfl dAC_init_1 (Nat.le_of_ble_eq_true rfl) (Nat.le_of_ble_eq_true rfl) ?_
  refine W.eq (g2 := F0 m 4 ls []) rfl ?_
  subst hQ
  exact zw_vret (D := (dC, dI)) (cl := vwCl) (A := A) () hx hb hr hlocks (trivial) (hP.sub [0] rfl) (hK.sub [] rfl) (hD.sub [0] (by decide) rfl) hS dAC_init_4

set_option maxHeartbeats 4000000 in
set_option maxRecDepth 100000 in
theorem c_AB_init (l : Launch) (dC : Nat → ClassId) (dI : Nat → Nat → Nat) (a : Nat) : zw_Mv (S := Unit) l yAB_init wAB_init ({ frames := 2, cells := 0, slots := 0, locals := 32 }) [.ref a] (dC, dI) vwCl [(a, .inr (2, [.null, .int 0, .int 0]))] [] (fun _ _ => True) (fun (_ : Unit) => True) (fun (_ : Unit) => [(a, .inr (2, [.null, .int 0, .int 0]))]) (fun (_ : Unit) => []) 0 0 := by
  refine zw_headv (cc := cAB_init) (maxL := 1) (ret := none) (by decide +kernel) rfl (Nat.le_of_ble_eq_true rfl) ?_
  intro p e s m below meth c ls A F hnm hA hP hK hD hS hX hl
  obtain ⟨hx, hb, hml, hr, hlocks, hown, hts⟩ := F
  have hown : s.vm.findClass "java/util/AbstractList" = some m.cls := hown
  have hz : ∀ w9 ∈ zT, w9.before [.ref a].toArray s = true := fun w9 h => hts w9 (List.mem_cons_of_mem _ h)
  have hin : meth.name = "<init>" := hnm
  have hl : lv_has ls 1 [(0, .ref a)] := hl
  refine z_q (fun Q hQ => ?_)
  refine lv_aload_n hx hb dAB_init_0 rfl (lv_at hl 0 rfl) ?_
  refine zw_callv (wr := []) hK hP hD hS hA [0] [] rfl rfl (by decide) (by decide) (va_runI (As := []) (rest := []) ⟨hx, hb, hml, hown, hz⟩ ((c_AC_init l dC dI a ) s.heap.size) (cwI 0 hz (z_gI wd_69) rfl rfl rfl (hz _ wd_31) (hz _ wd_67) (hz _ wd_68) rfl (by decide +kernel) ⟨Nat.le_of_ble_eq_true rfl, Nat.le_of_ble_eq_true rfl⟩) (zw_preS hK hP hD [0] (by decide) rfl [] rfl z_true (fun _ _ _ => trivial)) rfl rfl hl.1 rfl (lv_room (Nat.le_of_ble_eq_true rfl)) dAB_init_1 ⟨Nat.le_of_ble_eq_true rfl, Nat.le_of_ble_eq_true rfl⟩) (fun u H locs h_r1 hP hD hK hS => ?_)
  have hP : va_P (dC, dI) vwCl [(a, .inr (2, [.null, .int 0, .int 0]))] H := hP.sub [0] rfl
  have hD : va_D A [(a, .inr (2, [.null, .int 0, .int 0]))] := hD.sub [0] (by decide) rfl
  have hK : va_K (dC, dI) vwCl [] s := hK
  refine lv_aload_n hx hb dAB_init_4 rfl (lv_at hl 0 rfl) ?_
  refine lv_iconst (v := 0) hx hb dAB_init_5 (by decide) ?_
  refine va_put (D := (dC, dI)) (ci := 2) (v := .int 0) (ty := .int) (C := RAL) (T := TAL) (N := 3) hx hb hz in_AL tyAL tokAL nokAL hown hK hP hD hS 0 rfl rfl 2 (by decide) (hz _ wd_75) (fun _ h9 => h9) rfl (by decide +kernel) rfl rfl (Nat.le_of_ble_eq_true rfl) dAB_init_6 (fun H locs hP hD hS => ?_)
  have hP : va_P (dC, dI) vwCl [(a, .inr (2, [.null, .int 0, .int 0]))] H := hP
  have hD : va_D A [(a, .inr (2, [.null, .int 0, .int 0]))] := hD
  subst hQ
  exact zw_vret (D := (dC, dI)) (cl := vwCl) (A := A) () hx hb hr hlocks (trivial) (hP.sub [0] rfl) (hK.sub [] rfl) (hD.sub [0] (by decide) rfl) hS dAB_init_9

set_option maxHeartbeats 4000000 in
set_option maxRecDepth 100000 in
theorem c_AL_init (l : Launch) (dC : Nat → ClassId) (dI : Nat → Nat → Nat) (a : Nat) (t : Nat) : zw_Mv (S := Unit) l yAL_init wAL_init ({ frames := 3, cells := 0, slots := 0, locals := 52 }) [.ref a] (dC, dI) vwCl [(a, .inr (2, [.null, .int 0, .int 0]))] [] (zX t) (fun (_ : Unit) => True) (fun (_ : Unit) => [(a, .inr (2, [.ref t, .int 0, .int 0]))]) (fun (_ : Unit) => []) 0 0 := by
  refine zw_headv (cc := cAL_init) (maxL := 1) (ret := none) (by decide +kernel) rfl (Nat.le_of_ble_eq_true rfl) ?_
  intro p e s m below meth c ls A F hnm hA hP hK hD hS hX hl
  obtain ⟨hx, hb, hml, hr, hlocks, hown, hts⟩ := F
  have hown : s.vm.findClass "java/util/ArrayList" = some m.cls := hown
  have hz : ∀ w9 ∈ zT, w9.before [.ref a].toArray s = true := fun w9 h => hts w9 (List.mem_cons_of_mem _ h)
  have hin : meth.name = "<init>" := hnm
  have hl : lv_has ls 1 [(0, .ref a)] := hl
  have hN := hX.1
  refine z_q (fun Q hQ => ?_)
  refine lv_aload_n hx hb dAL_init_0 rfl (lv_at hl 0 rfl) ?_
  refine zw_callv (wr := []) hK hP hD hS hA [0] [] rfl rfl (by decide) (by decide) (va_runI (As := []) (rest := []) ⟨hx, hb, hml, hown, hz⟩ ((c_AB_init l dC dI a ) s.heap.size) (cwI 0 hz (z_gI wd_66) rfl rfl rfl (hz _ wd_32) (hz _ wd_64) (hz _ wd_65) rfl (by decide +kernel) ⟨Nat.le_of_ble_eq_true rfl, Nat.le_of_ble_eq_true rfl⟩) (zw_preS hK hP hD [0] (by decide) rfl [] rfl z_true (fun _ _ _ => trivial)) rfl rfl hl.1 rfl (lv_room (Nat.le_of_ble_eq_true rfl)) dAL_init_1 ⟨Nat.le_of_ble_eq_true rfl, Nat.le_of_ble_eq_true rfl⟩) (fun u H locs h_r1 hP hD hK hS => ?_)
  have hP : va_P (dC, dI) vwCl [(a, .inr (2, [.null, .int 0, .int 0]))] H := hP.sub [0] rfl
  have hD : va_D A [(a, .inr (2, [.null, .int 0, .int 0]))] := hD.sub [0] (by decide) rfl
  have hK : va_K (dC, dI) vwCl [] s := hK
  refine lv_aload_n hx hb dAL_init_4 rfl (lv_at hl 0 rfl) ?_
  refine va_gets (v := .ref t) hx hb hX.2 hS hown (hz _ wd_71) (fun _ h9 => h9) dAL_init_5 ?_
  refine va_put (D := (dC, dI)) (ci := 2) (v := .ref t) (ty := .array (.object "java/lang/Object")) (C := RAL) (T := TAL) (N := 3) hx hb hz in_AL tyAL tokAL nokAL hown hK hP hD hS 0 rfl rfl 0 (by decide) (hz _ wd_73) (fun _ h9 => h9) rfl (by decide +kernel) rfl rfl (Nat.le_of_ble_eq_true rfl) dAL_init_8 (fun H locs hP hD hS => ?_)
  have hP : va_P (dC, dI) vwCl [(a, .inr (2, [.ref t, .int 0, .int 0]))] H := hP
  have hD : va_D A [(a, .inr (2, [.ref t, .int 0, .int 0]))] := hD
  subst hQ
  exact zw_vret (D := (dC, dI)) (cl := vwCl) (A := A) () hx hb hr hlocks (trivial) (hP.sub [0] rfl) (hK.sub [] rfl) (hD.sub [0] (by decide) rfl) hS dAL_init_11

set_option maxHeartbeats 4000000 in
set_option maxRecDepth 100000 in
theorem c_GR_init (l : Launch) (dC : Nat → ClassId) (dI : Nat → Nat → Nat) (g : Nat) (t : Nat) : zw_Mv (S := (Nat)) l yGR_init wGR_init ({ frames := 4, cells := 1, slots := 3, locals := 72 }) [.ref g] (dC, dI) vwCl [(g, .inr (1, [.null, .int 0, .int 0, .int 0, .int 0, .int 0]))] [] (zX t) (fun (al : Nat) => True) (fun (al : Nat) => [(g, .inr (1, [.ref al, .int 1, .int 0, .int 0, .int 0, .int 0])), (al, .inr (2, [.ref t, .int 0, .int 0]))]) (fun (al : Nat) => []) 1 3 := by
  refine zw_headv (cc := cGR_init) (maxL := 1) (ret := none) (by decide +kernel) rfl (Nat.le_of_ble_eq_true rfl) ?_
  intro p e s m below meth c ls A F hnm hA hP hK hD hS hX hl
  obtain ⟨hx, hb, hml, hr, hlocks, hown, hts⟩ := F
  have hown : s.vm.findClass "SpannedCells$Grid" = some m.cls := hown
  have hz : ∀ w9 ∈ zT, w9.before [.ref g].toArray s = true := fun w9 h => hts w9 (List.mem_cons_of_mem _ h)
  have hin : meth.name = "<init>" := hnm
  have hl : lv_has ls 1 [(0, .ref g)] := hl
  have hN := hX.1
  refine z_q (fun Q hQ => ?_)
  refine lv_aload_n hx hb dGR_init_0 rfl (lv_at hl 0 rfl) ?_
  refine W.objInit hx hb hown (hz _ wd_58) (hz _ wd_51) (hz _ wd_52) rfl (by rw [hml]; exact hl.1) rfl dGR_init_1 (Nat.le_of_ble_eq_true rfl) (Nat.le_of_ble_eq_true rfl) ?_
  refine W.eq (g2 := F0 m 4 ls []) rfl ?_
  refine lv_aload_n hx hb dGR_init_4 rfl (lv_at hl 0 rfl) ?_
  refine va_new (ci := 2) (fs := [.null, .int 0, .int 0]) (C := RAL) (T := TAL) (N := 3) hx hb hz in_AL tyAL tokAL hown (hz _ wd_59) (hz _ wd_60) (hz _ wd_33) hK hP hD hS hA rfl (by decide +kernel) (Nat.le_of_ble_eq_true rfl) (Nat.le_of_ble_eq_true rfl) dGR_init_5 (fun q1 H hP hD hS => ?_)
  have hP : va_P (dC, dI) vwCl [(g, .inr (1, [.null, .int 0, .int 0, .int 0, .int 0, .int 0])), (q1, .inr (2, [.null, .int 0, .int 0]))] H := hP
  have hD : va_D A [(g, .inr (1, [.null, .int 0, .int 0, .int 0, .int 0, .int 0])), (q1, .inr (2, [.null, .int 0, .int 0]))] := hD
  refine W.widen (k := 1) (n := 3) (Nat.le_of_ble_eq_true rfl) (Nat.le_of_ble_eq_true rfl) ?_
  refine lv_dup hx hb dGR_init_8 rfl ?_
  refine zw_callv (wr := [(g, .inr (1, [.null, .int 0, .int 0, .int 0, .int 0, .int 0]))]) hK hP hD hS hA [1] [0] rfl rfl (by decide) (by decide) (va_runI (As := []) (rest := [.ref q1, .ref g]) ⟨hx, hb, hml, hown, hz⟩ ((c_AL_init l dC dI q1 t ) H.size) (cwI 0 hz (z_gI wd_63) rfl rfl rfl (hz _ wd_33) (hz _ wd_61) (hz _ wd_62) rfl (by decide +kernel) ⟨Nat.le_of_ble_eq_true rfl, Nat.le_of_ble_eq_true rfl⟩) (zw_preS hK hP hD [1] (by decide) rfl [] rfl zX_blind (zX_call hX hS (va_free (wc := [(q1, .inr (2, [.null, .int 0, .int 0]))]) hD hS hA [1] rfl))) rfl rfl hl.1 rfl (lv_room (Nat.le_of_ble_eq_true rfl)) dGR_init_9 ⟨Nat.le_of_ble_eq_true rfl, Nat.le_of_ble_eq_true rfl⟩) (fun u H locs h_r2 hP hD hK hS => ?_)
  have hP : va_P (dC, dI) vwCl [(g, .inr (1, [.null, .int 0, .int 0, .int 0, .int 0, .int 0])), (q1, .inr (2, [.ref t, .int 0, .int 0]))] H := hP.sub [0, 1] rfl
  have hD : va_D A [(g, .inr (1, [.null, .int 0, .int 0, .int 0, .int 0, .int 0])), (q1, .inr (2, [.ref t, .int 0, .int 0]))] := hD.sub [0, 1] (by decide) rfl
  have hK : va_K (dC, dI) vwCl [] s := hK
  refine va_putF (D := (dC, dI)) (ci := 1) (v := .ref q1) (ty := .object "java/util/ArrayList") (C := RGR) (T := TGR) (N := 6) hx hb hz in_GR tyGR tokGR nokGR hown hK hP hD hS 0 rfl rfl 0 (by decide) (hz _ wd_85) (fun _ h9 => h9) rfl hin rfl (by decide +kernel) rfl rfl (Nat.le_of_ble_eq_true rfl) dGR_init_12 (fun H locs hP hD hS => ?_)
  have hP : va_P (dC, dI) vwCl [(g, .inr (1, [.ref q1, .int 0, .int 0, .int 0, .int 0, .int 0])), (q1, .inr (2, [.ref t, .int 0, .int 0]))] H := hP
  have hD : va_D A [(g, .inr (1, [.ref q1, .int 0, .int 0, .int 0, .int 0, .int 0])), (q1, .inr (2, [.ref t, .int 0, .int 0]))] := hD
  refine lv_aload_n hx hb dGR_init_15 rfl (lv_at hl 0 rfl) ?_
  refine lv_iconst (v := 1) hx hb dGR_init_16 (by decide) ?_
  refine va_put (D := (dC, dI)) (ci := 1) (v := .int 1) (ty := .int) (C := RGR) (T := TGR) (N := 6) hx hb hz in_GR tyGR tokGR nokGR hown hK hP hD hS 0 rfl rfl 1 (by decide) (hz _ wd_86) (fun _ h9 => h9) rfl (by decide +kernel) rfl rfl (Nat.le_of_ble_eq_true rfl) dGR_init_17 (fun H locs hP hD hS => ?_)
  have hP : va_P (dC, dI) vwCl [(g, .inr (1, [.ref q1, .int 1, .int 0, .int 0, .int 0, .int 0])), (q1, .inr (2, [.ref t, .int 0, .int 0]))] H := hP
  have hD : va_D A [(g, .inr (1, [.ref q1, .int 1, .int 0, .int 0, .int 0, .int 0])), (q1, .inr (2, [.ref t, .int 0, .int 0]))] := hD
  refine lv_aload_n hx hb dGR_init_20 rfl (lv_at hl 0 rfl) ?_
  refine lv_iconst (v := 0) hx hb dGR_init_21 (by decide) ?_
  refine va_put (D := (dC, dI)) (ci := 1) (v := .int 0) (ty := .int) (C := RGR) (T := TGR) (N := 6) hx hb hz in_GR tyGR tokGR nokGR hown hK hP hD hS 0 rfl rfl 2 (by decide) (hz _ wd_87) (fun _ h9 => h9) rfl (by decide +kernel) rfl rfl (Nat.le_of_ble_eq_true rfl) dGR_init_22 (fun H locs hP hD hS => ?_)
  have hP : va_P (dC, dI) vwCl [(g, .inr (1, [.ref q1, .int 1, .int 0, .int 0, .int 0, .int 0])), (q1, .inr (2, [.ref t, .int 0, .int 0]))] H := hP
  have hD : va_D A [(g, .inr (1, [.ref q1, .int 1, .int 0, .int 0, .int 0, .int 0])), (q1, .inr (2, [.ref t, .int 0, .int 0]))] := hD
  refine lv_aload_n hx hb dGR_init_25 rfl (lv_at hl 0 rfl) ?_
  refine lv_iconst (v := 0) hx hb dGR_init_26 (by decide) ?_
  refine va_put (D := (dC, dI)) (ci := 1) (v := .int 0) (ty := .int) (C := RGR) (T := TGR) (N := 6) hx hb hz in_GR tyGR tokGR nokGR hown hK hP hD hS 0 rfl rfl 3 (by decide) (hz _ wd_88) (fun _ h9 => h9) rfl (by decide +kernel) rfl rfl (Nat.le_of_ble_eq_true rfl) dGR_init_27 (fun H locs hP hD hS => ?_)
  have hP : va_P (dC, dI) vwCl [(g, .inr (1, [.ref q1, .int 1, .int 0, .int 0, .int 0, .int 0])), (q1, .inr (2, [.ref t, .int 0, .int 0]))] H := hP
  have hD : va_D A [(g, .inr (1, [.ref q1, .int 1, .int 0, .int 0, .int 0, .int 0])), (q1, .inr (2, [.ref t, .int 0, .int 0]))] := hD
  refine lv_aload_n hx hb dGR_init_30 rfl (lv_at hl 0 rfl) ?_
  refine lv_iconst (v := 0) hx hb dGR_init_31 (by decide) ?_
  refine va_put (D := (dC, dI)) (ci := 1) (v := .int 0) (ty := .int) (C := RGR) (T := TGR) (N := 6) hx hb hz in_GR tyGR tokGR nokGR hown hK hP hD hS 0 rfl rfl 4 (by decide) (hz _ wd_89) (fun _ h9 => h9) rfl (by decide +kernel) rfl rfl (Nat.le_of_ble_eq_true rfl) dGR_init_32 (fun H locs hP hD hS => ?_)
  have hP : va_P (dC, dI) vwCl [(g, .inr (1, [.ref q1, .int 1, .int 0, .int 0, .int 0, .int 0])), (q1, .inr (2, [.ref t, .int 0, .int 0]))] H := hP
  have hD : va_D A [(g, .inr (1, [.ref q1, .int 1, .int 0, .int 0, .int 0, .int 0])), (q1, .inr (2, [.ref t, .int 0, .int 0]))] := hD
  refine lv_aload_n hx hb dGR_init_35 rfl (lv_at hl 0 rfl) ?_
  refine lv_iconst (v := 0) hx hb dGR_init_36 (by decide) ?_
  refine va_put (D := (dC, dI)) (ci := 1) (v := .int 0) (ty := .int) (C := RGR) (T := TGR) (N := 6) hx hb hz in_GR tyGR tokGR nokGR hown hK hP hD hS 0 rfl rfl 5 (by decide) (hz _ wd_90) (fun _ h9 => h9) rfl (by decide +kernel) rfl rfl (Nat.le_of_ble_eq_true rfl) dGR_init_37 (fun H locs hP hD hS => ?_)
  have hP : va_P (dC, dI) vwCl [(g, .inr (1, [.ref q1, .int 1, .int 0, .int 0, .int 0, .int 0])), (q1, .inr (2, [.ref t, .int 0, .int 0]))] H := hP
  have hD : va_D A [(g, .inr (1, [.ref q1, .int 1, .int 0, .int 0, .int 0, .int 0])), (q1, .inr (2, [.ref t, .int 0, .int 0]))] := hD
  subst hQ
  exact zw_vret (D := (dC, dI)) (cl := vwCl) (A := A) q1 hx hb hr hlocks (trivial) (hP.sub [0, 1] rfl) (hK.sub [] rfl) (hD.sub [0, 1] (by decide) rfl) hS dGR_init_40

set_option maxHeartbeats 4000000 in
set_option maxRecDepth 100000 in
theorem c_LI_init (l : Launch) (dC : Nat → ClassId) (dI : Nat → Nat → Nat) (a : Nat) (t : Nat) : zw_Mv (S := Unit) l yLI_init wLI_init ({ frames := 1, cells := 1, slots := 12, locals := 12 }) [.ref a] (dC, dI) vwCl [(a, .inr (4, [.null]))] [] (fun _ _ => True) (fun (_ : Unit) => True) (fun (_ : Unit) => []) (fun (_ : Unit) => []) 1 12 := by
  refine zw_headv (cc := cLI_init) (maxL := 1) (ret := none) (by decide +kernel) rfl (Nat.le_of_ble_eq_true rfl) ?_
  intro p e s m below meth c ls A F hnm hA hP hK hD hS hX hl
  obtain ⟨hx, hb, hml, hr, hlocks, hown, hts⟩ := F
  have hown : s.vm.findClass "SpannedCells$Lines" = some m.cls := hown
  have hz : ∀ w9 ∈ zT, w9.before [.ref a].toArray s = true := fun w9 h => hts w9 (List.mem_cons_of_mem _ h)
  have hin : meth.name = "<init>" := hnm
  have hl : lv_has ls 1 [(0, .ref a)] := hl
  refine z_q (fun Q hQ => ?_)
  refine lv_aload_n hx hb dLI_init_0 rfl (lv_at hl 0 rfl) ?_
  refine W.objInit hx hb hown (hz _ wd_115) (hz _ wd_51) (hz _ wd_52) rfl (by rw [hml]; exact hl.1) rfl dLI_init_1 (Nat.le_of_ble_eq_true rfl) (Nat.le_of_ble_eq_true rfl) ?_
  refine W.eq (g2 := F0 m 4 ls []) rfl ?_
  refine lv_aload_n hx hb dLI_init_4 rfl (lv_at hl 0 rfl) ?_
  refine lv_bipush (v := 12) hx hb dLI_init_5 (by decide) ?_
  refine va_newa (atype := .int) (ty := .int) (N' := 12) (a0 := (12, .inl (fun _ => 0))) hx hb (hz _ wd_120) rfl hK hP hD hS hA (fun _ => rfl) (by decide) (by decide) (by decide) (Nat.le_of_ble_eq_true rfl) (Nat.le_of_ble_eq_true rfl) dLI_init_7 (fun q1 cA2 H hK hP hD hS => ?_)
  have hP : va_P (dC, dI) vwCl [(a, .inr (4, [.null])), (q1, .inl (cA2, 12, .inl (fun _ => 0)))] H := hP
  have hD : va_D A [(a, .inr (4, [.null])), (q1, .inl (cA2, 12, .inl (fun _ => 0)))] := hD
  have hK : va_K (dC, dI) vwCl [(cA2, .int)] s := hK
  refine W.widen (k := 1) (n := 12) (Nat.le_of_ble_eq_true rfl) (Nat.le_of_ble_eq_true rfl) ?_
  refine va_putF (D := (dC, dI)) (ci := 4) (v := .ref q1) (ty := .array .int) (C := RLI) (T := TLI) (N := 1) hx hb hz in_LI tyLI tokLI nokLI hown hK hP hD hS 0 rfl rfl 0 (by decide) (hz _ wd_116) (fun _ h9 => h9) rfl hin rfl (by decide +kernel) rfl rfl (Nat.le_of_ble_eq_true rfl) dLI_init_9 (fun H locs hP hD hS => ?_)
  have hP : va_P (dC, dI) vwCl [(a, .inr (4, [.ref q1])), (q1, .inl (cA2, 12, .inl (fun _ => 0)))] H := hP
  have hD : va_D A [(a, .inr (4, [.ref q1])), (q1, .inl (cA2, 12, .inl (fun _ => 0)))] := hD
  subst hQ
  exact zw_vret (D := (dC, dI)) (cl := vwCl) (A := A) () hx hb hr hlocks (trivial) (hP.sub [] rfl) (hK.sub [] rfl) (hD.sub [] (by decide) rfl) hS dLI_init_12

set_option maxHeartbeats 4000000 in
set_option maxRecDepth 100000 in
theorem c_HE_init (l : Launch) (dC : Nat → ClassId) (dI : Nat → Nat → Nat) (a : Nat) (t : Nat) : zw_Mv (S := Unit) l yHE_init wHE_init ({ frames := 2, cells := 2, slots := 13, locals := 32 }) [.ref a] (dC, dI) vwCl [(a, .inr (5, [.null]))] [] (zX t) (fun (_ : Unit) => True) (fun (_ : Unit) => []) (fun (_ : Unit) => []) 2 13 := by
  refine zw_headv (cc := cHE_init) (maxL := 1) (ret := none) (by decide +kernel) rfl (Nat.le_of_ble_eq_true rfl) ?_
  intro p e s m below meth c ls A F hnm hA hP hK hD hS hX hl
  obtain ⟨hx, hb, hml, hr, hlocks, hown, hts⟩ := F
  have hown : s.vm.findClass "SpannedCells$Heights" = some m.cls := hown
  have hz : ∀ w9 ∈ zT, w9.before [.ref a].toArray s = true := fun w9 h => hts w9 (List.mem_cons_of_mem _ h)
  have hin : meth.name = "<init>" := hnm
  have hl : lv_has ls 1 [(0, .ref a)] := hl
  have hN := hX.1
  refine z_q (fun Q hQ => ?_)
  refine lv_aload_n hx hb dHE_init_0 rfl (lv_at hl 0 rfl) ?_
  refine W.objInit hx hb hown (hz _ wd_142) (hz _ wd_51) (hz _ wd_52) rfl (by rw [hml]; exact hl.1) rfl dHE_init_1 (Nat.le_of_ble_eq_true rfl) (Nat.le_of_ble_eq_true rfl) ?_
  refine W.eq (g2 := F0 m 4 ls []) rfl ?_
  refine lv_aload_n hx hb dHE_init_4 rfl (lv_at hl 0 rfl) ?_
  refine va_new (ci := 4) (fs := [.null]) (C := RLI) (T := TLI) (N := 1) hx hb hz in_LI tyLI tokLI hown (hz _ wd_143) (hz _ wd_111) (hz _ wd_35) hK hP hD hS hA rfl (by decide +kernel) (Nat.le_of_ble_eq_true rfl) (Nat.le_of_ble_eq_true rfl) dHE_init_5 (fun q1 H hP hD hS => ?_)
  have hP : va_P (dC, dI) vwCl [(a, .inr (5, [.null])), (q1, .inr (4, [.null]))] H := hP
  have hD : va_D A [(a, .inr (5, [.null])), (q1, .inr (4, [.null]))] := hD
  refine W.widen (k := 1) (n := 1) (Nat.le_of_ble_eq_true rfl) (Nat.le_of_ble_eq_true rfl) ?_
  refine lv_dup hx hb dHE_init_8 rfl ?_
  refine zw_callv (wr := [(a, .inr (5, [.null]))]) hK hP hD hS hA [1] [0] rfl rfl (by decide) (by decide) (va_runIN (As := []) (rest := [.ref q1, .ref a]) ⟨hx, hb, hml, hown, hz⟩ ((c_LI_init l dC dI q1 t ) H.size) ⟨va_cnB 0 hz (z_gI wd_114) rfl rfl rfl (hN ("SpannedCells$Heights", 11, yLI_init, "SpannedCells") (List.mem_of_getElem? (i := 4) rfl)) (hz _ wd_35) (by decide +kernel) ⟨Nat.le_of_ble_eq_true rfl, Nat.le_of_ble_eq_true rfl⟩, rfl, (hz _ wd_113)⟩ (zw_preS hK hP hD [1] (by decide) rfl [] rfl z_true (fun _ _ _ => trivial)) rfl rfl hl.1 rfl (lv_room (Nat.le_of_ble_eq_true rfl)) dHE_init_9 ⟨Nat.le_of_ble_eq_true rfl, Nat.le_of_ble_eq_true rfl⟩) (fun u H locs h_r2 hP hD hK hS => ?_)
  have hP : va_P (dC, dI) vwCl [(a, .inr (5, [.null]))] H := hP.sub [0] rfl
  have hD : va_D A [(a, .inr (5, [.null]))] := hD.sub [0] (by decide) rfl
  have hK : va_K (dC, dI) vwCl [] s := hK
  refine W.widen (k := 2) (n := 13) (Nat.le_of_ble_eq_true rfl) (Nat.le_of_ble_eq_true rfl) ?_
  refine va_putF (D := (dC, dI)) (ci := 5) (v := .ref q1) (ty := .object "SpannedCells$Lines") (C := RHE) (T := THE) (N := 1) hx hb hz in_HE tyHE tokHE nokHE hown hK hP hD hS 0 rfl rfl 0 (by decide) (hz _ wd_145) (fun _ h9 => h9) rfl hin rfl (by decide +kernel) rfl rfl (Nat.le_of_ble_eq_true rfl) dHE_init_12 (fun H locs hP hD hS => ?_)
  have hP : va_P (dC, dI) vwCl [(a, .inr (5, [.ref q1]))] H := hP
  have hD : va_D A [(a, .inr (5, [.ref q1]))] := hD
  subst hQ
  exact zw_vret (D := (dC, dI)) (cl := vwCl) (A := A) () hx hb hr hlocks (trivial) (hP.sub [] rfl) (hK.sub [] rfl) (hD.sub [] (by decide) rfl) hS dHE_init_15

set_option maxHeartbeats 4000000 in
set_option maxRecDepth 100000 in
theorem c_WI_init (l : Launch) (dC : Nat → ClassId) (dI : Nat → Nat → Nat) (a : Nat) (t : Nat) : zw_Mv (S := Unit) l yWI_init wWI_init ({ frames := 2, cells := 8, slots := 52, locals := 32 }) [.ref a] (dC, dI) vwCl [(a, .inr (3, [.null, .null, .null, .null]))] [] (zX t) (fun (_ : Unit) => True) (fun (_ : Unit) => []) (fun (_ : Unit) => []) 8 52 := by
  refine zw_headv (cc := cWI_init) (maxL := 1) (ret := none) (by decide +kernel) rfl (Nat.le_of_ble_eq_true rfl) ?_
  intro p e s m below meth c ls A F hnm hA hP hK hD hS hX hl
  obtain ⟨hx, hb, hml, hr, hlocks, hown, hts⟩ := F
  have hown : s.vm.findClass "SpannedCells$Widths" = some m.cls := hown
  have hz : ∀ w9 ∈ zT, w9.before [.ref a].toArray s = true := fun w9 h => hts w9 (List.mem_cons_of_mem _ h)
  have hin : meth.name = "<init>" := hnm
  have hl : lv_has ls 1 [(0, .ref a)] := hl
  have hN := hX.1
  refine z_q (fun Q hQ => ?_)
  refine lv_aload_n hx hb dWI_init_0 rfl (lv_at hl 0 rfl) ?_
  refine W.objInit hx hb hown (hz _ wd_109) (hz _ wd_51) (hz _ wd_52) rfl (by rw [hml]; exact hl.1) rfl dWI_init_1 (Nat.le_of_ble_eq_true rfl) (Nat.le_of_ble_eq_true rfl) ?_
  refine W.eq (g2 := F0 m 4 ls []) rfl ?_
  refine lv_aload_n hx hb dWI_init_4 rfl (lv_at hl 0 rfl) ?_
  refine va_new (ci := 4) (fs := [.null]) (C := RLI) (T := TLI) (N := 1) hx hb hz in_LI tyLI tokLI hown (hz _ wd_110) (hz _ wd_111) (hz _ wd_35) hK hP hD hS hA rfl (by decide +kernel) (Nat.le_of_ble_eq_true rfl) (Nat.le_of_ble_eq_true rfl) dWI_init_5 (fun q1 H hP hD hS => ?_)
  have hP : va_P (dC, dI) vwCl [(a, .inr (3, [.null, .null, .null, .null])), (q1, .inr (4, [.null]))] H := hP
  have hD : va_D A [(a, .inr (3, [.null, .null, .null, .null])), (q1, .inr (4, [.null]))] := hD
  refine W.widen (k := 1) (n := 1) (Nat.le_of_ble_eq_true rfl) (Nat.le_of_ble_eq_true rfl) ?_
  refine lv_dup hx hb dWI_init_8 rfl ?_
  refine zw_callv (wr := [(a, .inr (3, [.null, .null, .null, .null]))]) hK hP hD hS hA [1] [0] rfl rfl (by decide) (by decide) (va_runIN (As := []) (rest := [.ref q1, .ref a]) ⟨hx, hb, hml, hown, hz⟩ ((c_LI_init l dC dI q1 t ) H.size) ⟨va_cnB 0 hz (z_gI wd_114) rfl rfl rfl (hN ("SpannedCells$Widths", 11, yLI_init, "SpannedCells") (List.mem_of_getElem? (i := 2) rfl)) (hz _ wd_35) (by decide +kernel) ⟨Nat.le_of_ble_eq_true rfl, Nat.le_of_ble_eq_true rfl⟩, rfl, (hz _ wd_113)⟩ (zw_preS hK hP hD [1] (by decide) rfl [] rfl z_true (fun _ _ _ => trivial)) rfl rfl hl.1 rfl (lv_room (Nat.le_of_ble_eq_true rfl)) dWI_init_9 ⟨Nat.le_of_ble_eq_true rfl, Nat.le_of_ble_eq_true rfl⟩) (fun u H locs h_r2 hP hD hK hS => ?_)
  have hP : va_P (dC, dI) vwCl [(a, .inr (3, [.null, .null, .null, .null]))] H := hP.sub [0] rfl
  have hD : va_D A [(a, .inr (3, [.null, .null, .null, .null]))] := hD.sub [0] (by decide) rfl
  have hK : va_K (dC, dI) vwCl [] s := hK
  refine W.widen (k := 2) (n := 13) (Nat.le_of_ble_eq_true rfl) (Nat.le_of_ble_eq_true rfl) ?_
  refine va_putF (D := (dC, dI)) (ci := 3) (v := .ref q1) (ty := .object "SpannedCells$Lines") (C := RWI) (T := TWI) (N := 4) hx hb hz in_WI tyWI tokWI nokWI hown hK hP hD hS 0 rfl rfl 0 (by decide) (hz _ wd_121) (fun _ h9 => h9) rfl hin rfl (by decide +kernel) rfl rfl (Nat.le_of_ble_eq_true rfl) dWI_init_12 (fun H locs hP hD hS => ?_)
  have hP : va_P (dC, dI) vwCl [(a, .inr (3, [.ref q1, .null, .null, .null]))] H := hP
  have hD : va_D A [(a, .inr (3, [.ref q1, .null, .null, .null]))] := hD
  refine lv_aload_n hx hb dWI_init_15 rfl (lv_at hl 0 rfl) ?_
  refine va_new (ci := 4) (fs := [.null]) (C := RLI) (T := TLI) (N := 1) hx hb hz in_LI tyLI tokLI hown (hz _ wd_110) (hz _ wd_111) (hz _ wd_35) hK hP hD hS hA rfl (by decide +kernel) (Nat.le_of_ble_eq_true rfl) (Nat.le_of_ble_eq_true rfl) dWI_init_16 (fun q3 H hP hD hS => ?_)
  have hP : va_P (dC, dI) vwCl [(a, .inr (3, [.ref q1, .null, .null, .null])), (q3, .inr (4, [.null]))] H := hP
  have hD : va_D A [(a, .inr (3, [.ref q1, .null, .null, .null])), (q3, .inr (4, [.null]))] := hD
  refine W.widen (k := 3) (n := 14) (Nat.le_of_ble_eq_true rfl) (Nat.le_of_ble_eq_true rfl) ?_
  refine lv_dup hx hb dWI_init_19 rfl ?_
  refine zw_callv (wr := [(a, .inr (3, [.ref q1, .null, .null, .null]))]) hK hP hD hS hA [1] [0] rfl rfl (by decide) (by decide) (va_runIN (As := []) (rest := [.ref q3, .ref a]) ⟨hx, hb, hml, hown, hz⟩ ((c_LI_init l dC dI q3 t ) H.size) ⟨va_cnB 0 hz (z_gI wd_114) rfl rfl rfl (hN ("SpannedCells$Widths", 11, yLI_init, "SpannedCells") (List.mem_of_getElem? (i := 2) rfl)) (hz _ wd_35) (by decide +kernel) ⟨Nat.le_of_ble_eq_true rfl, Nat.le_of_ble_eq_true rfl⟩, rfl, (hz _ wd_113)⟩ (zw_preS hK hP hD [1] (by decide) rfl [] rfl z_true (fun _ _ _ => trivial)) rfl rfl hl.1 rfl (lv_room (Nat.le_of_ble_eq_true rfl)) dWI_init_20 ⟨Nat.le_of_ble_eq_true rfl, Nat.le_of_ble_eq_true rfl⟩) (fun u H locs h_r4 hP hD hK hS => ?_)
  have hP : va_P (dC, dI) vwCl [(a, .inr (3, [.ref q1, .null, .null, .null]))] H := hP.sub [0] rfl
  have hD : va_D A [(a, .inr (3, [.ref q1, .null, .null, .null]))] := hD.sub [0] (by decide) rfl
  have hK : va_K (dC, dI) vwCl [] s := hK
  refine W.widen (k := 4) (n := 26) (Nat.le_of_ble_eq_true rfl) (Nat.le_of_ble_eq_true rfl) ?_
  refine va_putF (D := (dC, dI)) (ci := 3) (v := .ref q3) (ty := .object "SpannedCells$Lines") (C := RWI) (T := TWI) (N := 4) hx hb hz in_WI tyWI tokWI nokWI hown hK hP hD hS 0 rfl rfl 1 (by decide) (hz _ wd_123) (fun _ h9 => h9) rfl hin rfl (by decide +kernel) rfl rfl (Nat.le_of_ble_eq_true rfl) dWI_init_23 (fun H locs hP hD hS => ?_)
  have hP : va_P (dC, dI) vwCl [(a, .inr (3, [.ref q1, .ref q3, .null, .null]))] H := hP
  have hD : va_D A [(a, .inr (3, [.ref q1, .ref q3, .null, .null]))] := hD
  refine lv_aload_n hx hb dWI_init_26 rfl (lv_at hl 0 rfl) ?_
  refine va_new (ci := 4) (fs := [.null]) (C := RLI) (T := TLI) (N := 1) hx hb hz in_LI tyLI tokLI hown (hz _ wd_110) (hz _ wd_111) (hz _ wd_35) hK hP hD hS hA rfl (by decide +kernel) (Nat.le_of_ble_eq_true rfl) (Nat.le_of_ble_eq_true rfl) dWI_init_27 (fun q5 H hP hD hS => ?_)
  have hP : va_P (dC, dI) vwCl [(a, .inr (3, [.ref q1, .ref q3, .null, .null])), (q5, .inr (4, [.null]))] H := hP
  have hD : va_D A [(a, .inr (3, [.ref q1, .ref q3, .null, .null])), (q5, .inr (4, [.null]))] := hD
  refine W.widen (k := 5) (n := 27) (Nat.le_of_ble_eq_true rfl) (Nat.le_of_ble_eq_true rfl) ?_
  refine lv_dup hx hb dWI_init_30 rfl ?_
  refine zw_callv (wr := [(a, .inr (3, [.ref q1, .ref q3, .null, .null]))]) hK hP hD hS hA [1] [0] rfl rfl (by decide) (by decide) (va_runIN (As := []) (rest := [.ref q5, .ref a]) ⟨hx, hb, hml, hown, hz⟩ ((c_LI_init l dC dI q5 t ) H.size) ⟨va_cnB 0 hz (z_gI wd_114) rfl rfl rfl (hN ("SpannedCells$Widths", 11, yLI_init, "SpannedCells") (List.mem_of_getElem? (i := 2) rfl)) (hz _ wd_35) (by decide +kernel) ⟨Nat.le_of_ble_eq_true rfl, Nat.le_of_ble_eq_true rfl⟩, rfl, (hz _ wd_113)⟩ (zw_preS hK hP hD [1] (by decide) rfl [] rfl z_true (fun _ _ _ => trivial)) rfl rfl hl.1 rfl (lv_room (Nat.le_of_ble_eq_true rfl)) dWI_init_31 ⟨Nat.le_of_ble_eq_true rfl, Nat.le_of_ble_eq_true rfl⟩) (fun u H locs h_r6 hP hD hK hS => ?_)
  have hP : va_P (dC, dI) vwCl [(a, .inr (3, [.ref q1, .ref q3, .null, .null]))] H := hP.sub [0] rfl
  have hD : va_D A [(a, .inr (3, [.ref q1, .ref q3, .null, .null]))] := hD.sub [0] (by decide) rfl
  have hK : va_K (dC, dI) vwCl [] s := hK
  refine W.widen (k := 6) (n := 39) (Nat.le_of_ble_eq_true rfl) (Nat.le_of_ble_eq_true rfl) ?_
  refine va_putF (D := (dC, dI)) (ci := 3) (v := .ref q5) (ty := .object "SpannedCells$Lines") (C := RWI) (T := TWI) (N := 4) hx hb hz in_WI tyWI tokWI nokWI hown hK hP hD hS 0 rfl rfl 2 (by decide) (hz _ wd_125) (fun _ h9 => h9) rfl hin rfl (by decide +kernel) rfl rfl (Nat.le_of_ble_eq_true rfl) dWI_init_34 (fun H locs hP hD hS => ?_)
  have hP : va_P (dC, dI) vwCl [(a, .inr (3, [.ref q1, .ref q3, .ref q5, .null]))] H := hP
  have hD : va_D A [(a, .inr (3, [.ref q1, .ref q3, .ref q5, .null]))] := hD
  refine lv_aload_n hx hb dWI_init_37 rfl (lv_at hl 0 rfl) ?_
  refine va_new (ci := 4) (fs := [.null]) (C := RLI) (T := TLI) (N := 1) hx hb hz in_LI tyLI tokLI hown (hz _ wd_110) (hz _ wd_111) (hz _ wd_35) hK hP hD hS hA rfl (by decide +kernel) (Nat.le_of_ble_eq_true rfl) (Nat.le_of_ble_eq_true rfl) dWI_init_38 (fun q7 H hP hD hS => ?_)
  have hP : va_P (dC, dI) vwCl [(a, .inr (3, [.ref q1, .ref q3, .ref q5, .null])), (q7, .inr (4, [.null]))] H := hP
  have hD : va_D A [(a, .inr (3, [.ref q1, .ref q3, .ref q5, .null])), (q7, .inr (4, [.null]))] := hD
  refine W.widen (k := 7) (n := 40) (Nat.le_of_ble_eq_true rfl) (Nat.le_of_ble_eq_true rfl) ?_
  refine lv_dup hx hb dWI_init_41 rfl ?_
  refine zw_callv (wr := [(a, .inr (3, [.ref q1, .ref q3, .ref q5, .null]))]) hK hP hD hS hA [1] [0] rfl rfl (by decide) (by decide) (va_runIN (As := []) (rest := [.ref q7, .ref a]) ⟨hx, hb, hml, hown, hz⟩ ((c_LI_init l dC dI q7 t ) H.size) ⟨va_cnB 0 hz (z_gI wd_114) rfl rfl rfl (hN ("SpannedCells$Widths", 11, yLI_init, "SpannedCells") (List.mem_of_getElem? (i := 2) rfl)) (hz _ wd_35) (by decide +kernel) ⟨Nat.le_of_ble_eq_true rfl, Nat.le_of_ble_eq_true rfl⟩, rfl, (hz _ wd_113)⟩ (zw_preS hK hP hD [1] (by decide) rfl [] rfl z_true (fun _ _ _ => trivial)) rfl rfl hl.1 rfl (lv_room (Nat.le_of_ble_eq_true rfl)) dWI_init_42 ⟨Nat.le_of_ble_eq_true rfl, Nat.le_of_ble_eq_true rfl⟩) (fun u H locs h_r8 hP hD hK hS => ?_)
  have hP : va_P (dC, dI) vwCl [(a, .inr (3, [.ref q1, .ref q3, .ref q5, .null]))] H := hP.sub [0] rfl
  have hD : va_D A [(a, .inr (3, [.ref q1, .ref q3, .ref q5, .null]))] := hD.sub [0] (by decide) rfl
  have hK : va_K (dC, dI) vwCl [] s := hK
  refine W.widen (k := 8) (n := 52) (Nat.le_of_ble_eq_true rfl) (Nat.le_of_ble_eq_true rfl) ?_
  refine va_putF (D := (dC, dI)) (ci := 3) (v := .ref q7) (ty := .object "SpannedCells$Lines") (C := RWI) (T := TWI) (N := 4) hx hb hz in_WI tyWI tokWI nokWI hown hK hP hD hS 0 rfl rfl 3 (by decide) (hz _ wd_127) (fun _ h9 => h9) rfl hin rfl (by decide +kernel) rfl rfl (Nat.le_of_ble_eq_true rfl) dWI_init_45 (fun H locs hP hD hS => ?_)
  have hP : va_P (dC, dI) vwCl [(a, .inr (3, [.ref q1, .ref q3, .ref q5, .ref q7]))] H := hP
  have hD : va_D A [(a, .inr (3, [.ref q1, .ref q3, .ref q5, .ref q7]))] := hD
  subst hQ
  exact zw_vret (D := (dC, dI)) (cl := vwCl) (A := A) () hx hb hr hlocks (trivial) (hP.sub [] rfl) (hK.sub [] rfl) (hD.sub [] (by decide) rfl) hS dWI_init_48

set_option maxHeartbeats 4000000 in
set_option maxRecDepth 100000 in
theorem c_SC_init (l : Launch) (dC : Nat → ClassId) (dI : Nat → Nat → Nat) (h0 : Nat) (t : Nat) : zw_Mv (S := (Nat) × (Nat) × (Nat) × (Nat)) l ySC_init wSC_init ({ frames := 5, cells := 15, slots := 84, locals := 92 }) [.ref h0] (dC, dI) vwCl [(h0, .inr (0, [.null, .null, .null, .int 0, .int 0, .int 0]))] [] (zX t) (fun u => match u with | (g, wd, hh, al) => True) (fun u => match u with | (g, wd, hh, al) => [(h0, .inr (0, [.ref g, .ref wd, .ref hh, .int 0, .int 0, .int 0])), (g, .inr (1, [.ref al, .int 1, .int 0, .int 0, .int 0, .int 0])), (al, .inr (2, [.ref t, .int 0, .int 0]))]) (fun u => match u with | (g, wd, hh, al) => []) 15 84 := by
  refine zw_headv (cc := cSC_init) (maxL := 1) (ret := none) (by decide +kernel) rfl (Nat.le_of_ble_eq_true rfl) ?_
  intro p e s m below meth c ls A F hnm hA hP hK hD hS hX hl
  obtain ⟨hx, hb, hml, hr, hlocks, hown, hts⟩ := F
  have hown : s.vm.findClass "SpannedCells" = some m.cls := hown
  have hz : ∀ w9 ∈ zT, w9.before [.ref h0].toArray s = true := fun w9 h => hts w9 (List.mem_cons_of_mem _ h)
  have hin : meth.name = "<init>" := hnm
  have hl : lv_has ls 1 [(0, .ref h0)] := hl
  have hN := hX.1
  refine z_q (fun Q hQ => ?_)
  refine lv_aload_n hx hb dSC_init_0 rfl (lv_at hl 0 rfl) ?_
  refine W.objInit hx hb hown (hz _ wd_50) (hz _ wd_51) (hz _ wd_52) rfl (by rw [hml]; exact hl.1) rfl dSC_init_1 (Nat.le_of_ble_eq_true rfl) (Nat.le_of_ble_eq_true rfl) ?_
  refine W.eq (g2 := F0 m 4 ls []) rfl ?_
  refine lv_aload_n hx hb dSC_init_4 rfl (lv_at hl 0 rfl) ?_
  refine va_new (ci := 1) (fs := [.null, .int 0, .int 0, .int 0, .int 0, .int 0]) (C := RGR) (T := TGR) (N := 6) hx hb hz in_GR tyGR tokGR hown (hz _ wd_53) (hz _ wd_54) (hz _ wd_30) hK hP hD hS hA rfl (by decide +kernel) (Nat.le_of_ble_eq_true rfl) (Nat.le_of_ble_eq_true rfl) dSC_init_5 (fun q1 H hP hD hS => ?_)
  have hP : va_P (dC, dI) vwCl [(h0, .inr (0, [.null, .null, .null, .int 0, .int 0, .int 0])), (q1, .inr (1, [.null, .int 0, .int 0, .int 0, .int 0, .int 0]))] H := hP
  have hD : va_D A [(h0, .inr (0, [.null, .null, .null, .int 0, .int 0, .int 0])), (q1, .inr (1, [.null, .int 0, .int 0, .int 0, .int 0, .int 0]))] := hD
  refine W.widen (k := 1) (n := 6) (Nat.le_of_ble_eq_true rfl) (Nat.le_of_ble_eq_true rfl) ?_
  refine lv_dup hx hb dSC_init_8 rfl ?_
  refine zw_callv (wr := [(h0, .inr (0, [.null, .null, .null, .int 0, .int 0, .int 0]))]) hK hP hD hS hA [1] [0] rfl rfl (by decide) (by decide) (va_runIN (As := []) (rest := [.ref q1, .ref h0]) ⟨hx, hb, hml, hown, hz⟩ ((c_GR_init l dC dI q1 t ) H.size) ⟨va_cnB 0 hz (z_gI wd_57) rfl rfl rfl (hN ("SpannedCells", 9, yGR_init, "SpannedCells") (List.mem_of_getElem? (i := 0) rfl)) (hz _ wd_30) (by decide +kernel) ⟨Nat.le_of_ble_eq_true rfl, Nat.le_of_ble_eq_true rfl⟩, rfl, (hz _ wd_56)⟩ (zw_preS hK hP hD [1] (by decide) rfl [] rfl zX_blind (zX_call hX hS (va_free (wc := [(q1, .inr (1, [.null, .int 0, .int 0, .int 0, .int 0, .int 0]))]) hD hS hA [1] rfl))) rfl rfl hl.1 rfl (lv_room (Nat.le_of_ble_eq_true rfl)) dSC_init_9 ⟨Nat.le_of_ble_eq_true rfl, Nat.le_of_ble_eq_true rfl⟩) (fun u H locs h_r3 hP hD hK hS => ?_)
  obtain ⟨al2, rfl⟩ : ∃ z, z = u := ⟨_, rfl⟩
  have hP : va_P (dC, dI) vwCl [(h0, .inr (0, [.null, .null, .null, .int 0, .int 0, .int 0])), (q1, .inr (1, [.ref al2, .int 1, .int 0, .int 0, .int 0, .int 0])), (al2, .inr (2, [.ref t, .int 0, .int 0]))] H := hP.sub [0, 1, 2] rfl
  have hD : va_D A [(h0, .inr (0, [.null, .null, .null, .int 0, .int 0, .int 0])), (q1, .inr (1, [.ref al2, .int 1, .int 0, .int 0, .int 0, .int 0])), (al2, .inr (2, [.ref t, .int 0, .int 0]))] := hD.sub [0, 1, 2] (by decide) rfl
  have hK : va_K (dC, dI) vwCl [] s := hK
  refine W.widen (k := 2) (n := 9) (Nat.le_of_ble_eq_true rfl) (Nat.le_of_ble_eq_true rfl) ?_
  refine va_putF (D := (dC, dI)) (ci := 0) (v := .ref q1) (ty := .object "SpannedCells$Grid") (C := RSC) (T := TSC) (N := 6) hx hb hz in_SC tySC tokSC nokSC hown hK hP hD hS 0 rfl rfl 0 (by decide) (hz _ wd_150) (fun _ h9 => h9) rfl hin rfl (by decide +kernel) rfl rfl (Nat.le_of_ble_eq_true rfl) dSC_init_12 (fun H locs hP hD hS => ?_)
  have hP : va_P (dC, dI) vwCl [(h0, .inr (0, [.ref q1, .null, .null, .int 0, .int 0, .int 0])), (q1, .inr (1, [.ref al2, .int 1, .int 0, .int 0, .int 0, .int 0])), (al2, .inr (2, [.ref t, .int 0, .int 0]))] H := hP
  have hD : va_D A [(h0, .inr (0, [.ref q1, .null, .null, .int 0, .int 0, .int 0])), (q1, .inr (1, [.ref al2, .int 1, .int 0, .int 0, .int 0, .int 0])), (al2, .inr (2, [.ref t, .int 0, .int 0]))] := hD
  refine lv_aload_n hx hb dSC_init_15 rfl (lv_at hl 0 rfl) ?_
  refine va_new (ci := 3) (fs := [.null, .null, .null, .null]) (C := RWI) (T := TWI) (N := 4) hx hb hz in_WI tyWI tokWI hown (hz _ wd_104) (hz _ wd_105) (hz _ wd_34) hK hP hD hS hA rfl (by decide +kernel) (Nat.le_of_ble_eq_true rfl) (Nat.le_of_ble_eq_true rfl) dSC_init_16 (fun q4 H hP hD hS => ?_)
  have hP : va_P (dC, dI) vwCl [(h0, .inr (0, [.ref q1, .null, .null, .int 0, .int 0, .int 0])), (q1, .inr (1, [.ref al2, .int 1, .int 0, .int 0, .int 0, .int 0])), (al2, .inr (2, [.ref t, .int 0, .int 0])), (q4, .inr (3, [.null, .null, .null, .null]))] H := hP
  have hD : va_D A [(h0, .inr (0, [.ref q1, .null, .null, .int 0, .int 0, .int 0])), (q1, .inr (1, [.ref al2, .int 1, .int 0, .int 0, .int 0, .int 0])), (al2, .inr (2, [.ref t, .int 0, .int 0])), (q4, .inr (3, [.null, .null, .null, .null]))] := hD
  refine W.widen (k := 3) (n := 13) (Nat.le_of_ble_eq_true rfl) (Nat.le_of_ble_eq_true rfl) ?_
  refine lv_dup hx hb dSC_init_19 rfl ?_
  refine zw_callv (wr := [(h0, .inr (0, [.ref q1, .null, .null, .int 0, .int 0, .int 0])), (q1, .inr (1, [.ref al2, .int 1, .int 0, .int 0, .int 0, .int 0])), (al2, .inr (2, [.ref t, .int 0, .int 0]))]) hK hP hD hS hA [3] [0, 1, 2] rfl rfl (by decide) (by decide) (va_runIN (As := []) (rest := [.ref q4, .ref h0]) ⟨hx, hb, hml, hown, hz⟩ ((c_WI_init l dC dI q4 t ) H.size) ⟨va_cnB 0 hz (z_gI wd_108) rfl rfl rfl (hN ("SpannedCells", 18, yWI_init, "SpannedCells") (List.mem_of_getElem? (i := 1) rfl)) (hz _ wd_34) (by decide +kernel) ⟨Nat.le_of_ble_eq_true rfl, Nat.le_of_ble_eq_true rfl⟩, rfl, (hz _ wd_107)⟩ (zw_preS hK hP hD [3] (by decide) rfl [] rfl zX_blind (zX_call hX hS (va_free (wc := [(q4, .inr (3, [.null, .null, .null, .null]))]) hD hS hA [3] rfl))) rfl rfl hl.1 rfl (lv_room (Nat.le_of_ble_eq_true rfl)) dSC_init_20 ⟨Nat.le_of_ble_eq_true rfl, Nat.le_of_ble_eq_true rfl⟩) (fun u H locs h_r5 hP hD hK hS => ?_)
  have hP : va_P (dC, dI) vwCl [(h0, .inr (0, [.ref q1, .null, .null, .int 0, .int 0, .int 0])), (q1, .inr (1, [.ref al2, .int 1, .int 0, .int 0, .int 0, .int 0])), (al2, .inr (2, [.ref t, .int 0, .int 0]))] H := hP.sub [0, 1, 2] rfl
  have hD : va_D A [(h0, .inr (0, [.ref q1, .null, .null, .int 0, .int 0, .int 0])), (q1, .inr (1, [.ref al2, .int 1, .int 0, .int 0, .int 0, .int 0])), (al2, .inr (2, [.ref t, .int 0, .int 0]))] := hD.sub [0, 1, 2] (by decide) rfl
  have hK : va_K (dC, dI) vwCl [] s := hK
  refine W.widen (k := 11) (n := 65) (Nat.le_of_ble_eq_true rfl) (Nat.le_of_ble_eq_true rfl) ?_
  refine va_putF (D := (dC, dI)) (ci := 0) (v := .ref q4) (ty := .object "SpannedCells$Widths") (C := RSC) (T := TSC) (N := 6) hx hb hz in_SC tySC tokSC nokSC hown hK hP hD hS 0 rfl rfl 1 (by decide) (hz _ wd_151) (fun _ h9 => h9) rfl hin rfl (by decide +kernel) rfl rfl (Nat.le_of_ble_eq_true rfl) dSC_init_23 (fun H locs hP hD hS => ?_)
  have hP : va_P (dC, dI) vwCl [(h0, .inr (0, [.ref q1, .ref q4, .null, .int 0, .int 0, .int 0])), (q1, .inr (1, [.ref al2, .int 1, .int 0, .int 0, .int 0, .int 0])), (al2, .inr (2, [.ref t, .int 0, .int 0]))] H := hP
  have hD : va_D A [(h0, .inr (0, [.ref q1, .ref q4, .null, .int 0, .int 0, .int 0])), (q1, .inr (1, [.ref al2, .int 1, .int 0, .int 0, .int 0, .int 0])), (al2, .inr (2, [.ref t, .int 0, .int 0]))] := hD
  refine lv_aload_n hx hb dSC_init_26 rfl (lv_at hl 0 rfl) ?_
  refine va_new (ci := 5) (fs := [.null]) (C := RHE) (T := THE) (N := 1) hx hb hz in_HE tyHE tokHE hown (hz _ wd_137) (hz _ wd_138) (hz _ wd_36) hK hP hD hS hA rfl (by decide +kernel) (Nat.le_of_ble_eq_true rfl) (Nat.le_of_ble_eq_true rfl) dSC_init_27 (fun q6 H hP hD hS => ?_)
  have hP : va_P (dC, dI) vwCl [(h0, .inr (0, [.ref q1, .ref q4, .null, .int 0, .int 0, .int 0])), (q1, .inr (1, [.ref al2, .int 1, .int 0, .int 0, .int 0, .int 0])), (al2, .inr (2, [.ref t, .int 0, .int 0])), (q6, .inr (5, [.null]))] H := hP
  have hD : va_D A [(h0, .inr (0, [.ref q1, .ref q4, .null, .int 0, .int 0, .int 0])), (q1, .inr (1, [.ref al2, .int 1, .int 0, .int 0, .int 0, .int 0])), (al2, .inr (2, [.ref t, .int 0, .int 0])), (q6, .inr (5, [.null]))] := hD
  refine W.widen (k := 12) (n := 66) (Nat.le_of_ble_eq_true rfl) (Nat.le_of_ble_eq_true rfl) ?_
  refine lv_dup hx hb dSC_init_30 rfl ?_
  refine zw_callv (wr := [(h0, .inr (0, [.ref q1, .ref q4, .null, .int 0, .int 0, .int 0])), (q1, .inr (1, [.ref al2, .int 1, .int 0, .int 0, .int 0, .int 0])), (al2, .inr (2, [.ref t, .int 0, .int 0]))]) hK hP hD hS hA [3] [0, 1, 2] rfl rfl (by decide) (by decide) (va_runIN (As := []) (rest := [.ref q6, .ref h0]) ⟨hx, hb, hml, hown, hz⟩ ((c_HE_init l dC dI q6 t ) H.size) ⟨va_cnB 0 hz (z_gI wd_141) rfl rfl rfl (hN ("SpannedCells", 25, yHE_init, "SpannedCells") (List.mem_of_getElem? (i := 3) rfl)) (hz _ wd_36) (by decide +kernel) ⟨Nat.le_of_ble_eq_true rfl, Nat.le_of_ble_eq_true rfl⟩, rfl, (hz _ wd_140)⟩ (zw_preS hK hP hD [3] (by decide) rfl [] rfl zX_blind (zX_call hX hS (va_free (wc := [(q6, .inr (5, [.null]))]) hD hS hA [3] rfl))) rfl rfl hl.1 rfl (lv_room (Nat.le_of_ble_eq_true rfl)) dSC_init_31 ⟨Nat.le_of_ble_eq_true rfl, Nat.le_of_ble_eq_true rfl⟩) (fun u H locs h_r7 hP hD hK hS => ?_)
  have hP : va_P (dC, dI) vwCl [(h0, .inr (0, [.ref q1, .ref q4, .null, .int 0, .int 0, .int 0])), (q1, .inr (1, [.ref al2, .int 1, .int 0, .int 0, .int 0, .int 0])), (al2, .inr (2, [.ref t, .int 0, .int 0]))] H := hP.sub [0, 1, 2] rfl
  have hD : va_D A [(h0, .inr (0, [.ref q1, .ref q4, .null, .int 0, .int 0, .int 0])), (q1, .inr (1, [.ref al2, .int 1, .int 0, .int 0, .int 0, .int 0])), (al2, .inr (2, [.ref t, .int 0, .int 0]))] := hD.sub [0, 1, 2] (by decide) rfl
  have hK : va_K (dC, dI) vwCl [] s := hK
  refine W.widen (k := 14) (n := 79) (Nat.le_of_ble_eq_true rfl) (Nat.le_of_ble_eq_true rfl) ?_
  refine va_putF (D := (dC, dI)) (ci := 0) (v := .ref q6) (ty := .object "SpannedCells$Heights") (C := RSC) (T := TSC) (N := 6) hx hb hz in_SC tySC tokSC nokSC hown hK hP hD hS 0 rfl rfl 2 (by decide) (hz _ wd_152) (fun _ h9 => h9) rfl hin rfl (by decide +kernel) rfl rfl (Nat.le_of_ble_eq_true rfl) dSC_init_34 (fun H locs hP hD hS => ?_)
  have hP : va_P (dC, dI) vwCl [(h0, .inr (0, [.ref q1, .ref q4, .ref q6, .int 0, .int 0, .int 0])), (q1, .inr (1, [.ref al2, .int 1, .int 0, .int 0, .int 0, .int 0])), (al2, .inr (2, [.ref t, .int 0, .int 0]))] H := hP
  have hD : va_D A [(h0, .inr (0, [.ref q1, .ref q4, .ref q6, .int 0, .int 0, .int 0])), (q1, .inr (1, [.ref al2, .int 1, .int 0, .int 0, .int 0, .int 0])), (al2, .inr (2, [.ref t, .int 0, .int 0]))] := hD
  refine lv_aload_n hx hb dSC_init_37 rfl (lv_at hl 0 rfl) ?_
  refine lv_iconst (v := 0) hx hb dSC_init_38 (by decide) ?_
  refine va_put (D := (dC, dI)) (ci := 0) (v := .int 0) (ty := .int) (C := RSC) (T := TSC) (N := 6) hx hb hz in_SC tySC tokSC nokSC hown hK hP hD hS 0 rfl rfl 3 (by decide) (hz _ wd_153) (fun _ h9 => h9) rfl (by decide +kernel) rfl rfl (Nat.le_of_ble_eq_true rfl) dSC_init_39 (fun H locs hP hD hS => ?_)
  have hP : va_P (dC, dI) vwCl [(h0, .inr (0, [.ref q1, .ref q4, .ref q6, .int 0, .int 0, .int 0])), (q1, .inr (1, [.ref al2, .int 1, .int 0, .int 0, .int 0, .int 0])), (al2, .inr (2, [.ref t, .int 0, .int 0]))] H := hP
  have hD : va_D A [(h0, .inr (0, [.ref q1, .ref q4, .ref q6, .int 0, .int 0, .int 0])), (q1, .inr (1, [.ref al2, .int 1, .int 0, .int 0, .int 0, .int 0])), (al2, .inr (2, [.ref t, .int 0, .int 0]))] := hD
  refine lv_aload_n hx hb dSC_init_42 rfl (lv_at hl 0 rfl) ?_
  refine lv_iconst (v := 0) hx hb dSC_init_43 (by decide) ?_
  refine va_put (D := (dC, dI)) (ci := 0) (v := .int 0) (ty := .int) (C := RSC) (T := TSC) (N := 6) hx hb hz in_SC tySC tokSC nokSC hown hK hP hD hS 0 rfl rfl 4 (by decide) (hz _ wd_154) (fun _ h9 => h9) rfl (by decide +kernel) rfl rfl (Nat.le_of_ble_eq_true rfl) dSC_init_44 (fun H locs hP hD hS => ?_)
  have hP : va_P (dC, dI) vwCl [(h0, .inr (0, [.ref q1, .ref q4, .ref q6, .int 0, .int 0, .int 0])), (q1, .inr (1, [.ref al2, .int 1, .int 0, .int 0, .int 0, .int 0])), (al2, .inr (2, [.ref t, .int 0, .int 0]))] H := hP
  have hD : va_D A [(h0, .inr (0, [.ref q1, .ref q4, .ref q6, .int 0, .int 0, .int 0])), (q1, .inr (1, [.ref al2, .int 1, .int 0, .int 0, .int 0, .int 0])), (al2, .inr (2, [.ref t, .int 0, .int 0]))] := hD
  refine lv_aload_n hx hb dSC_init_47 rfl (lv_at hl 0 rfl) ?_
  refine lv_iconst (v := 0) hx hb dSC_init_48 (by decide) ?_
  refine va_put (D := (dC, dI)) (ci := 0) (v := .int 0) (ty := .boolean) (C := RSC) (T := TSC) (N := 6) hx hb hz in_SC tySC tokSC nokSC hown hK hP hD hS 0 rfl rfl 5 (by decide) (hz _ wd_155) (fun _ h9 => h9) rfl (by decide +kernel) rfl rfl (Nat.le_of_ble_eq_true rfl) dSC_init_49 (fun H locs hP hD hS => ?_)
  have hP : va_P (dC, dI) vwCl [(h0, .inr (0, [.ref q1, .ref q4, .ref q6, .int 0, .int 0, .int 0])), (q1, .inr (1, [.ref al2, .int 1, .int 0, .int 0, .int 0, .int 0])), (al2, .inr (2, [.ref t, .int 0, .int 0]))] H := hP
  have hD : va_D A [(h0, .inr (0, [.ref q1, .ref q4, .ref q6, .int 0, .int 0, .int 0])), (q1, .inr (1, [.ref al2, .int 1, .int 0, .int 0, .int 0, .int 0])), (al2, .inr (2, [.ref t, .int 0, .int 0]))] := hD
  refine W.widen (k := 15) (n := 84) (by decide) (by decide) ?_
  subst hQ
  exact zw_vret (D := (dC, dI)) (cl := vwCl) (A := A) (q1, q4, q6, al2) hx hb hr hlocks (trivial) (hP.sub [0, 1, 2] rfl) (hK.sub [] rfl) (hD.sub [0, 1, 2] (by decide) rfl) hS dSC_init_52
end
section
set_option maxHeartbeats 4000000 in
set_option maxRecDepth 100000 in
theorem c_MD_endOf (l : Launch) (dC : Nat → ClassId) (dI : Nat → Nat → Nat) (h0 : Nat) (b0 : Nat) (b1 : Nat) (b2 : Nat) (b3 : Nat) (b4 : Nat) (b5 : Nat) (b6 : Nat) (b7 : Nat) (b8 : Nat) (b9 : Nat) (b10 : Nat) (b11 : Nat) (b12 : Nat) (b13 : Nat) (b14 : Nat) (b15 : Nat) (b16 : Nat) (b17 : Nat) (kb0 : ClassId) (kb1 : ClassId) : zp_M l yMD_endOf wMD_endOf ({ frames := 0, cells := 0, slots := 0, locals := 0 }) [.ref h0, .int 0] (dC, dI) vwCl [(h0, .inr (6, [.int 1, .ref b0, .ref b1, .int 0, .ref b2, .ref b3, .ref b4, .ref b5, .ref b6, .ref b7, .ref b8, .ref b9, .ref b10, .ref b11, .int (-1), .int 0, .int 0, .int 0, .int 0, .int 0, .ref b12, .ref b13, .ref b14, .ref b15, .ref b16, .ref b17])), (b0, .inl (kb0, 8, .inl (fun _ => 0))), (b1, .inl (kb1, 8, .inl (fun _ => 0)))] [(kb0, .int), (kb1, .int)] (fun _ => True) (fun r => r = 0) := by
  refine zp_head (cc := cMD_endOf) (maxL := 5) (ret := (some .int)) (by decide +kernel) rfl (Nat.le_of_ble_eq_true rfl) ?_
  intro p e s m below meth c ls F hP hK hX hl
  obtain ⟨hx, hb, hml, hr, hlocks, hown, hts⟩ := F
  have hown : s.vm.findClass "SpannedCellsModel" = some m.cls := hown
  have hz : ∀ w9 ∈ zT, w9.before [.ref h0, .int 0].toArray s = true := fun w9 h => hts w9 (List.mem_cons_of_mem _ h)
  have hl : lv_has ls 5 [(0, .ref h0), (1, .int 0)] := hl
  refine z_q (fun Q hQ => ?_)
  refine lv_aload_n hx hb dMD_endOf_0 rfl (lv_at hl 0 rfl) ?_
  refine va_get (D := (dC, dI)) (ci := 6) (v := .ref b0) (C := RMD) (T := TMD) (N := 26) hx hb hz in_MD hown hK hP 0 rfl rfl 1 (by decide) (hz _ wd_585) (fun _ h9 => h9) rfl dMD_endOf_1 ?_
  refine lv_iload_n hx hb dMD_endOf_4 rfl (lv_at hl 1 rfl) ?_
  refine va_iald hx hb hK hP 1 0 rfl rfl (by unfold vp_in; decide) dMD_endOf_5 ?_
  refine lv_topi (fun x1 e2 => ?_)
  have e2 : x1 = 0 := e2.trans (rfl)
  subst e2
  refine lv_aload_n hx hb dMD_endOf_6 rfl (lv_at hl 0 rfl) ?_
  refine va_get (D := (dC, dI)) (ci := 6) (v := .ref b1) (C := RMD) (T := TMD) (N := 26) hx hb hz in_MD hown hK hP 0 rfl rfl 2 (by decide) (hz _ wd_586) (fun _ h9 => h9) rfl dMD_endOf_7 ?_
  refine lv_iload_n hx hb dMD_endOf_10 rfl (lv_at hl 1 rfl) ?_
  refine va_iald hx hb hK hP 2 1 rfl rfl (by unfold vp_in; decide) dMD_endOf_11 ?_
  refine lv_topi (fun x3 e4 => ?_)
  have e4 : x3 = 0 := e4.trans (rfl)
  subst e4
  refine lv_iadd hx hb dMD_endOf_12 ?_
  refine lv_topi (fun x5 e6 => ?_)
  have e6 : x5 = 0 := e6.trans (by decide)
  subst e6
  refine lv_istore_n hx hb dMD_endOf_13 rfl hl (Nat.le_of_ble_eq_true rfl) rfl (fun ls hl => ?_)
  have hl : lv_has ls 5 [(2, .int 0), (0, .ref h0), (1, .int 0)] := hl
  refine lv_iconst (v := 0) hx hb dMD_endOf_14 (by decide) ?_
  refine lv_istore_n hx hb dMD_endOf_15 rfl hl (Nat.le_of_ble_eq_true rfl) rfl (fun ls hl => ?_)
  have hl : lv_has ls 5 [(3, .int 0), (2, .int 0), (0, .ref h0), (1, .int 0)] := hl
  refine lv_iload_n hx hb dMD_endOf_16 rfl (lv_at hl 0 rfl) ?_
  refine lv_aload_n hx hb dMD_endOf_17 rfl (lv_at hl 2 rfl) ?_
  refine va_get (D := (dC, dI)) (ci := 6) (v := .int 0) (C := RMD) (T := TMD) (N := 26) hx hb hz in_MD hown hK hP 0 rfl rfl 3 (by decide) (hz _ wd_587) (fun _ h9 => h9) rfl dMD_endOf_18 ?_
  refine lv_icmp_ge (tgt := 81) hx hb dMD_endOf_21 rfl (fun _ => ?_) (fun h => absurd (by decide) h)
  refine lv_iload_n hx hb dMD_endOf_81 rfl (lv_at hl 1 rfl) ?_
  subst hQ
  exact zp_iret hx hb hr hlocks (rfl) dMD_endOf_82

set_option maxHeartbeats 4000000 in
set_option maxRecDepth 100000 in
theorem c_MD_rows (l : Launch) (dC : Nat → ClassId) (dI : Nat → Nat → Nat) (h0 : Nat) (b0 : Nat) (b1 : Nat) (b2 : Nat) (b3 : Nat) (b4 : Nat) (b5 : Nat) (b6 : Nat) (b7 : Nat) (b8 : Nat) (b9 : Nat) (b10 : Nat) (b11 : Nat) (b12 : Nat) (b13 : Nat) (b14 : Nat) (b15 : Nat) (b16 : Nat) (b17 : Nat) (kb0 : ClassId) (kb1 : ClassId) : zp_M l yMD_rows wMD_rows ({ frames := 1, cells := 0, slots := 0, locals := 24 }) [.ref h0] (dC, dI) vwCl [(h0, .inr (6, [.int 1, .ref b0, .ref b1, .int 0, .ref b2, .ref b3, .ref b4, .ref b5, .ref b6, .ref b7, .ref b8, .ref b9, .ref b10, .ref b11, .int (-1), .int 0, .int 0, .int 0, .int 0, .int 0, .ref b12, .ref b13, .ref b14, .ref b15, .ref b16, .ref b17])), (b0, .inl (kb0, 8, .inl (fun _ => 0))), (b1, .inl (kb1, 8, .inl (fun _ => 0)))] [(kb0, .int), (kb1, .int)] (fun _ => True) (fun r => r = 0) := by
  refine zp_head (cc := cMD_rows) (maxL := 1) (ret := (some .int)) (by decide +kernel) rfl (Nat.le_of_ble_eq_true rfl) ?_
  intro p e s m below meth c ls F hP hK hX hl
  obtain ⟨hx, hb, hml, hr, hlocks, hown, hts⟩ := F
  have hown : s.vm.findClass "SpannedCellsModel" = some m.cls := hown
  have hz : ∀ w9 ∈ zT, w9.before [.ref h0].toArray s = true := fun w9 h => hts w9 (List.mem_cons_of_mem _ h)
  have hl : lv_has ls 1 [(0, .ref h0)] := hl
  refine z_q (fun Q hQ => ?_)
  refine lv_aload_n hx hb dMD_rows_0 rfl (lv_at hl 0 rfl) ?_
  refine lv_aload_n hx hb dMD_rows_1 rfl (lv_at hl 0 rfl) ?_
  refine va_get (D := (dC, dI)) (ci := 6) (v := .int 1) (C := RMD) (T := TMD) (N := 26) hx hb hz in_MD hown hK hP 0 rfl rfl 0 (by decide) (hz _ wd_584) (fun _ h9 => h9) rfl dMD_rows_2 ?_
  refine lv_iconst (v := 1) hx hb dMD_rows_5 (by decide) ?_
  refine lv_isub hx hb dMD_rows_6 ?_
  refine lv_topi (fun x1 e2 => ?_)
  have e2 : x1 = 0 := e2.trans (by decide)
  subst e2
  refine vp_callSi (W.runV (As := [.int 0]) (rest := []) ⟨hx, hb, hml, hown, hz⟩ (c_MD_endOf l dC dI h0 b0 b1 b2 b3 b4 b5 b6 b7 b8 b9 b10 b11 b12 b13 b14 b15 b16 b17 kb0 kb1 ) (cwV 1 hz (z_gV wd_668 wd_670 wd_13 wd_37 wd_671) rfl rfl rfl (by decide +kernel) ⟨Nat.le_of_ble_eq_true rfl, Nat.le_of_ble_eq_true rfl⟩) (zp_preV (q0 := 0) (q := (RMD, TMD, 26)) hK hP rfl rfl [0, 1, 2] rfl [0, 1] rfl z_true (fun _ _ _ => trivial)) rfl rfl hl.1 rfl (lv_room (Nat.le_of_ble_eq_true rfl)) dMD_rows_7 ⟨Nat.le_of_ble_eq_true rfl, Nat.le_of_ble_eq_true rfl⟩) (fun r3 h_r3 => ?_)
  have h_r3 : r3 = 0 := h_r3
  subst h_r3
  subst hQ
  exact zp_iret hx hb hr hlocks (rfl) dMD_rows_10

set_option maxHeartbeats 4000000 in
set_option maxRecDepth 100000 in
theorem c_MD_columns (l : Launch) (dC : Nat → ClassId) (dI : Nat → Nat → Nat) (h0 : Nat) (b0 : Nat) (b1 : Nat) (b2 : Nat) (b3 : Nat) (b4 : Nat) (b5 : Nat) (b6 : Nat) (b7 : Nat) (b8 : Nat) (b9 : Nat) (b10 : Nat) (b11 : Nat) (b12 : Nat) (b13 : Nat) (b14 : Nat) (b15 : Nat) (b16 : Nat) (b17 : Nat) : zp_M l yMD_columns wMD_columns ({ frames := 0, cells := 0, slots := 0, locals := 0 }) [.ref h0] (dC, dI) vwCl [(h0, .inr (6, [.int 1, .ref b0, .ref b1, .int 0, .ref b2, .ref b3, .ref b4, .ref b5, .ref b6, .ref b7, .ref b8, .ref b9, .ref b10, .ref b11, .int (-1), .int 0, .int 0, .int 0, .int 0, .int 0, .ref b12, .ref b13, .ref b14, .ref b15, .ref b16, .ref b17]))] [] (fun _ => True) (fun r => r = 0) := by
  refine zp_head (cc := cMD_columns) (maxL := 3) (ret := (some .int)) (by decide +kernel) rfl (Nat.le_of_ble_eq_true rfl) ?_
  intro p e s m below meth c ls F hP hK hX hl
  obtain ⟨hx, hb, hml, hr, hlocks, hown, hts⟩ := F
  have hown : s.vm.findClass "SpannedCellsModel" = some m.cls := hown
  have hz : ∀ w9 ∈ zT, w9.before [.ref h0].toArray s = true := fun w9 h => hts w9 (List.mem_cons_of_mem _ h)
  have hl : lv_has ls 3 [(0, .ref h0)] := hl
  refine z_q (fun Q hQ => ?_)
  refine lv_iconst (v := 0) hx hb dMD_columns_0 (by decide) ?_
  refine lv_istore_n hx hb dMD_columns_1 rfl hl (Nat.le_of_ble_eq_true rfl) rfl (fun ls hl => ?_)
  have hl : lv_has ls 3 [(1, .int 0), (0, .ref h0)] := hl
  refine lv_iconst (v := 0) hx hb dMD_columns_2 (by decide) ?_
  refine lv_istore_n hx hb dMD_columns_3 rfl hl (Nat.le_of_ble_eq_true rfl) rfl (fun ls hl => ?_)
  have hl : lv_has ls 3 [(2, .int 0), (1, .int 0), (0, .ref h0)] := hl
  refine lv_iload_n hx hb dMD_columns_4 rfl (lv_at hl 0 rfl) ?_
  refine lv_aload_n hx hb dMD_columns_5 rfl (lv_at hl 2 rfl) ?_
  refine va_get (D := (dC, dI)) (ci := 6) (v := .int 0) (C := RMD) (T := TMD) (N := 26) hx hb hz in_MD hown hK hP 0 rfl rfl 3 (by decide) (hz _ wd_587) (fun _ h9 => h9) rfl dMD_columns_6 ?_
  refine lv_icmp_ge (tgt := 53) hx hb dMD_columns_9 rfl (fun _ => ?_) (fun h => absurd (by decide) h)
  refine lv_iload_n hx hb dMD_columns_53 rfl (lv_at hl 1 rfl) ?_
  subst hQ
  exact zp_iret hx hb hr hlocks (rfl) dMD_columns_54

set_option maxHeartbeats 4000000 in
set_option maxRecDepth 100000 in
theorem c_MD_isCell (l : Launch) (dC : Nat → ClassId) (dI : Nat → Nat → Nat) (h0 : Nat) (b0 : Nat) (b1 : Nat) (b2 : Nat) (b3 : Nat) (b4 : Nat) (b5 : Nat) (b6 : Nat) (b7 : Nat) (b8 : Nat) (b9 : Nat) (b10 : Nat) (b11 : Nat) (b12 : Nat) (b13 : Nat) (b14 : Nat) (b15 : Nat) (b16 : Nat) (b17 : Nat) (k : Int32) : zp_M l yMD_isCell wMD_isCell ({ frames := 0, cells := 0, slots := 0, locals := 0 }) [.ref h0, .int k] (dC, dI) vwCl [(h0, .inr (6, [.int 1, .ref b0, .ref b1, .int 0, .ref b2, .ref b3, .ref b4, .ref b5, .ref b6, .ref b7, .ref b8, .ref b9, .ref b10, .ref b11, .int (-1), .int 0, .int 0, .int 0, .int 0, .int 0, .ref b12, .ref b13, .ref b14, .ref b15, .ref b16, .ref b17]))] [] (fun _ => True) (fun r => r = 0) := by
  refine zp_head (cc := cMD_isCell) (maxL := 2) (ret := (some .boolean)) (by decide +kernel) rfl (Nat.le_of_ble_eq_true rfl) ?_
  intro p e s m below meth c ls F hP hK hX hl
  obtain ⟨hx, hb, hml, hr, hlocks, hown, hts⟩ := F
  have hown : s.vm.findClass "SpannedCellsModel" = some m.cls := hown
  have hz : ∀ w9 ∈ zT, w9.before [.ref h0, .int k].toArray s = true := fun w9 h => hts w9 (List.mem_cons_of_mem _ h)
  have hl : lv_has ls 2 [(0, .ref h0), (1, .int k)] := hl
  refine z_q (fun Q hQ => ?_)
  refine lv_iload_n hx hb dMD_isCell_0 rfl (lv_at hl 1 rfl) ?_
  refine lv_if_lt (tgt := 16) hx hb dMD_isCell_1 rfl (fun h1 => ?_) (fun h1 => ?_)
  · refine lv_iconst (v := 0) hx hb dMD_isCell_16 (by decide) ?_
    subst hQ
    exact zp_zret hx hb hr hlocks (Or.inl rfl) (rfl) dMD_isCell_17
  · refine lv_iload_n hx hb dMD_isCell_4 rfl (lv_at hl 1 rfl) ?_
    refine lv_aload_n hx hb dMD_isCell_5 rfl (lv_at hl 0 rfl) ?_
    refine va_get (D := (dC, dI)) (ci := 6) (v := .int 0) (C := RMD) (T := TMD) (N := 26) hx hb hz in_MD hown hK hP 0 rfl rfl 3 (by decide) (hz _ wd_587) (fun _ h9 => h9) rfl dMD_isCell_6 ?_
    refine lv_icmp_ge (tgt := 16) hx hb dMD_isCell_9 rfl (fun _ => ?_) (fun h => absurd (Int32.not_lt.mp h1) h)
    refine lv_iconst (v := 0) hx hb dMD_isCell_16 (by decide) ?_
    subst hQ
    exact zp_zret hx hb hr hlocks (Or.inl rfl) (rfl) dMD_isCell_17

set_option maxHeartbeats 4000000 in
set_option maxRecDepth 100000 in
theorem c_MD_howMany (l : Launch) (dC : Nat → ClassId) (dI : Nat → Nat → Nat) (h0 : Nat) (b0 : Nat) (b1 : Nat) (b2 : Nat) (b3 : Nat) (b4 : Nat) (b5 : Nat) (b6 : Nat) (b7 : Nat) (b8 : Nat) (b9 : Nat) (b10 : Nat) (b11 : Nat) (b12 : Nat) (b13 : Nat) (b14 : Nat) (b15 : Nat) (b16 : Nat) (b17 : Nat) (x : Int32) (y : Int32) : zp_M l yMD_howMany wMD_howMany ({ frames := 0, cells := 0, slots := 0, locals := 0 }) [.ref h0, .int x, .int y] (dC, dI) vwCl [(h0, .inr (6, [.int 1, .ref b0, .ref b1, .int 0, .ref b2, .ref b3, .ref b4, .ref b5, .ref b6, .ref b7, .ref b8, .ref b9, .ref b10, .ref b11, .int (-1), .int 0, .int 0, .int 0, .int 0, .int 0, .ref b12, .ref b13, .ref b14, .ref b15, .ref b16, .ref b17]))] [] (fun _ => True) (fun r => r = 0) := by
  refine zp_head (cc := cMD_howMany) (maxL := 5) (ret := (some .int)) (by decide +kernel) rfl (Nat.le_of_ble_eq_true rfl) ?_
  intro p e s m below meth c ls F hP hK hX hl
  obtain ⟨hx, hb, hml, hr, hlocks, hown, hts⟩ := F
  have hown : s.vm.findClass "SpannedCellsModel" = some m.cls := hown
  have hz : ∀ w9 ∈ zT, w9.before [.ref h0, .int x, .int y].toArray s = true := fun w9 h => hts w9 (List.mem_cons_of_mem _ h)
  have hl : lv_has ls 5 [(0, .ref h0), (1, .int x), (2, .int y)] := hl
  refine z_q (fun Q hQ => ?_)
  refine lv_iconst (v := 0) hx hb dMD_howMany_0 (by decide) ?_
  refine lv_istore_n hx hb dMD_howMany_1 rfl hl (Nat.le_of_ble_eq_true rfl) rfl (fun ls hl => ?_)
  have hl : lv_has ls 5 [(3, .int 0), (0, .ref h0), (1, .int x), (2, .int y)] := hl
  refine lv_iconst (v := 0) hx hb dMD_howMany_2 (by decide) ?_
  refine lv_istore hx hb dMD_howMany_3 hl (Nat.le_of_ble_eq_true rfl) rfl (fun ls hl => ?_)
  have hl : lv_has ls 5 [(4, .int 0), (3, .int 0), (0, .ref h0), (1, .int x), (2, .int y)] := hl
  refine lv_iload hx hb dMD_howMany_5 (lv_at hl 0 rfl) ?_
  refine lv_aload_n hx hb dMD_howMany_7 rfl (lv_at hl 2 rfl) ?_
  refine va_get (D := (dC, dI)) (ci := 6) (v := .int 0) (C := RMD) (T := TMD) (N := 26) hx hb hz in_MD hown hK hP 0 rfl rfl 3 (by decide) (hz _ wd_587) (fun _ h9 => h9) rfl dMD_howMany_8 ?_
  refine lv_icmp_ge (tgt := 39) hx hb dMD_howMany_11 rfl (fun _ => ?_) (fun h => absurd (by decide) h)
  refine lv_iload_n hx hb dMD_howMany_39 rfl (lv_at hl 1 rfl) ?_
  subst hQ
  exact zp_iret hx hb hr hlocks (rfl) dMD_howMany_40

set_option maxHeartbeats 4000000 in
set_option maxRecDepth 100000 in
theorem c_MD_slot (l : Launch) (dC : Nat → ClassId) (dI : Nat → Nat → Nat) (h0 : Nat) (b0 : Nat) (b1 : Nat) (b2 : Nat) (b3 : Nat) (b4 : Nat) (b5 : Nat) (b6 : Nat) (b7 : Nat) (b8 : Nat) (b9 : Nat) (b10 : Nat) (b11 : Nat) (b12 : Nat) (b13 : Nat) (b14 : Nat) (b15 : Nat) (b16 : Nat) (b17 : Nat) (x : Int32) (y : Int32) : zp_M l yMD_slot wMD_slot ({ frames := 0, cells := 0, slots := 0, locals := 0 }) [.ref h0, .int x, .int y] (dC, dI) vwCl [(h0, .inr (6, [.int 1, .ref b0, .ref b1, .int 0, .ref b2, .ref b3, .ref b4, .ref b5, .ref b6, .ref b7, .ref b8, .ref b9, .ref b10, .ref b11, .int (-1), .int 0, .int 0, .int 0, .int 0, .int 0, .ref b12, .ref b13, .ref b14, .ref b15, .ref b16, .ref b17]))] [] (fun _ => True) (fun r => r = (-1)) := by
  refine zp_head (cc := cMD_slot) (maxL := 5) (ret := (some .int)) (by decide +kernel) rfl (Nat.le_of_ble_eq_true rfl) ?_
  intro p e s m below meth c ls F hP hK hX hl
  obtain ⟨hx, hb, hml, hr, hlocks, hown, hts⟩ := F
  have hown : s.vm.findClass "SpannedCellsModel" = some m.cls := hown
  have hz : ∀ w9 ∈ zT, w9.before [.ref h0, .int x, .int y].toArray s = true := fun w9 h => hts w9 (List.mem_cons_of_mem _ h)
  have hl : lv_has ls 5 [(0, .ref h0), (1, .int x), (2, .int y)] := hl
  refine z_q (fun Q hQ => ?_)
  refine lv_iconst (v := (-1)) hx hb dMD_slot_0 (by decide) ?_
  refine lv_istore_n hx hb dMD_slot_1 rfl hl (Nat.le_of_ble_eq_true rfl) rfl (fun ls hl => ?_)
  have hl : lv_has ls 5 [(3, .int (-1)), (0, .ref h0), (1, .int x), (2, .int y)] := hl
  refine lv_aload_n hx hb dMD_slot_2 rfl (lv_at hl 1 rfl) ?_
  refine va_get (D := (dC, dI)) (ci := 6) (v := .int 0) (C := RMD) (T := TMD) (N := 26) hx hb hz in_MD hown hK hP 0 rfl rfl 3 (by decide) (hz _ wd_587) (fun _ h9 => h9) rfl dMD_slot_3 ?_
  refine lv_iconst (v := 1) hx hb dMD_slot_6 (by decide) ?_
  refine lv_isub hx hb dMD_slot_7 ?_
  refine lv_topi (fun x1 e2 => ?_)
  have e2 : x1 = (-1) := e2.trans (by decide)
  subst e2
  refine lv_istore hx hb dMD_slot_8 hl (Nat.le_of_ble_eq_true rfl) rfl (fun ls hl => ?_)
  have hl : lv_has ls 5 [(4, .int (-1)), (3, .int (-1)), (0, .ref h0), (1, .int x), (2, .int y)] := hl
  refine lv_iload hx hb dMD_slot_10 (lv_at hl 0 rfl) ?_
  refine lv_if_lt (tgt := 39) hx hb dMD_slot_12 rfl (fun _ => ?_) (fun h => absurd (by decide) h)
  refine lv_iload_n hx hb dMD_slot_39 rfl (lv_at hl 1 rfl) ?_
  subst hQ
  exact zp_iret hx hb hr hlocks (rfl) dMD_slot_40

set_option maxHeartbeats 4000000 in
set_option maxRecDepth 100000 in
theorem c_MD_overlaps (l : Launch) (dC : Nat → ClassId) (dI : Nat → Nat → Nat) (h0 : Nat) (b0 : Nat) (b1 : Nat) (b2 : Nat) (b3 : Nat) (b4 : Nat) (b5 : Nat) (b6 : Nat) (b7 : Nat) (b8 : Nat) (b9 : Nat) (b10 : Nat) (b11 : Nat) (b12 : Nat) (b13 : Nat) (b14 : Nat) (b15 : Nat) (b16 : Nat) (b17 : Nat) : zp_M l yMD_overlaps wMD_overlaps ({ frames := 1, cells := 0, slots := 0, locals := 24 }) [.ref h0] (dC, dI) vwCl [(h0, .inr (6, [.int 1, .ref b0, .ref b1, .int 0, .ref b2, .ref b3, .ref b4, .ref b5, .ref b6, .ref b7, .ref b8, .ref b9, .ref b10, .ref b11, .int (-1), .int 0, .int 0, .int 0, .int 0, .int 0, .ref b12, .ref b13, .ref b14, .ref b15, .ref b16, .ref b17]))] [] (fun _ => True) (fun r => r = 0) := by
  refine zp_head (cc := cMD_overlaps) (maxL := 4) (ret := (some .int)) (by decide +kernel) rfl (Nat.le_of_ble_eq_true rfl) ?_
  intro p e s m below meth c ls F hP hK hX hl
  obtain ⟨hx, hb, hml, hr, hlocks, hown, hts⟩ := F
  have hown : s.vm.findClass "SpannedCellsModel" = some m.cls := hown
  have hz : ∀ w9 ∈ zT, w9.before [.ref h0].toArray s = true := fun w9 h => hts w9 (List.mem_cons_of_mem _ h)
  have hl : lv_has ls 4 [(0, .ref h0)] := hl
  refine z_q (fun Q hQ => ?_)
  refine lv_iconst (v := 0) hx hb dMD_overlaps_0 (by decide) ?_
  refine lv_istore_n hx hb dMD_overlaps_1 rfl hl (Nat.le_of_ble_eq_true rfl) rfl (fun ls hl => ?_)
  have hl : lv_has ls 4 [(1, .int 0), (0, .ref h0)] := hl
  refine lv_iconst (v := 0) hx hb dMD_overlaps_2 (by decide) ?_
  refine lv_istore_n hx hb dMD_overlaps_3 rfl hl (Nat.le_of_ble_eq_true rfl) rfl (fun ls hl => ?_)
  have hl : lv_has ls 4 [(2, .int 0), (1, .int 0), (0, .ref h0)] := hl
  refine zl_up (σ := Unit) 144 (fun i x ls => lv_has ls 4 [(2, .int (nI i)), (1, .int 0), (0, .ref h0)]) ?_ ?_ 0 (Nat.le_of_ble_eq_true rfl) () ls (lv_sub hl [0, 1, 2] rfl)
  · intro x ls hI
    have hl := hI
    have hl : lv_has ls 4 [(2, .int (nI 144)), (1, .int 0), (0, .ref h0)] := hl
    refine lv_iload_n hx hb dMD_overlaps_4 rfl (lv_at hl 0 rfl) ?_
    refine lv_sipush (v := 144) hx hb dMD_overlaps_5 (by decide) ?_
    refine lv_icmp_ge (tgt := 45) hx hb dMD_overlaps_8 rfl (fun _ => ?_) (fun h => absurd (by decide) h)
    refine lv_iload_n hx hb dMD_overlaps_45 rfl (lv_at hl 1 rfl) ?_
    subst hQ
    exact zp_iret hx hb hr hlocks (rfl) dMD_overlaps_46
  · intro i hi ih
    intro x ls hI
    have hl := hI
    have hl : lv_has ls 4 [(2, .int (nI i)), (1, .int 0), (0, .ref h0)] := hl
    refine lv_iload_n hx hb dMD_overlaps_4 rfl (lv_at hl 0 rfl) ?_
    refine lv_sipush (v := 144) hx hb dMD_overlaps_5 (by decide) ?_
    refine lv_icmp_ge (tgt := 45) hx hb dMD_overlaps_8 rfl (fun h => absurd h (z_ltN hi (by decide) rfl)) (fun _ => ?_)
    refine lv_aload_n hx hb dMD_overlaps_11 rfl (lv_at hl 2 rfl) ?_
    refine lv_iload_n hx hb dMD_overlaps_12 rfl (lv_at hl 0 rfl) ?_
    refine lv_bipush (v := 12) hx hb dMD_overlaps_13 (by decide) ?_
    refine lv_irem hx hb dMD_overlaps_15 (by decide) ?_
    refine lv_iload_n hx hb dMD_overlaps_16 rfl (lv_at hl 0 rfl) ?_
    refine lv_bipush (v := 12) hx hb dMD_overlaps_17 (by decide) ?_
    refine lv_idiv hx hb dMD_overlaps_19 (by decide) ?_
    refine vp_callSi (W.runV (As := [.int ((nI i) - (nI i) / 12 * 12), .int ((nI i) / 12)]) (rest := []) ⟨hx, hb, hml, hown, hz⟩ (c_MD_howMany l dC dI h0 b0 b1 b2 b3 b4 b5 b6 b7 b8 b9 b10 b11 b12 b13 b14 b15 b16 b17 ((nI i) - (nI i) / 12 * 12) ((nI i) / 12) ) (cwV 2 hz (z_gV wd_724 wd_726 wd_18 wd_37 wd_727) rfl rfl rfl (by decide +kernel) ⟨Nat.le_of_ble_eq_true rfl, Nat.le_of_ble_eq_true rfl⟩) (zp_preV (q0 := 0) (q := (RMD, TMD, 26)) hK hP rfl rfl [0] rfl [] rfl z_true (fun _ _ _ => trivial)) rfl rfl hl.1 rfl (lv_room (Nat.le_of_ble_eq_true rfl)) dMD_overlaps_20 ⟨Nat.le_of_ble_eq_true rfl, Nat.le_of_ble_eq_true rfl⟩) (fun r1 h_r1 => ?_)
    have h_r1 : r1 = 0 := h_r1
    subst h_r1
    refine lv_istore_n hx hb dMD_overlaps_23 rfl hl (Nat.le_of_ble_eq_true rfl) rfl (fun ls hl => ?_)
    have hl : lv_has ls 4 [(3, .int 0), (2, .int (nI i)), (1, .int 0), (0, .ref h0)] := hl
    refine lv_iload_n hx hb dMD_overlaps_24 rfl (lv_at hl 0 rfl) ?_
    refine lv_iconst (v := 1) hx hb dMD_overlaps_25 (by decide) ?_
    refine lv_icmp_le (tgt := 37) hx hb dMD_overlaps_26 rfl (fun _ => ?_) (fun h => absurd (by decide) h)
    refine lv_iload_n hx hb dMD_overlaps_37 rfl (lv_at hl 2 rfl) ?_
    refine lv_istore_n hx hb dMD_overlaps_38 rfl hl (Nat.le_of_ble_eq_true rfl) rfl (fun ls hl => ?_)
    have hl : lv_has ls 4 [(1, .int 0), (3, .int 0), (2, .int (nI i)), (0, .ref h0)] := hl
    refine lv_iinc (k := 2) (v := nI (i + 1)) hx hb dMD_overlaps_39 hl rfl (by rw [show Int32.ofInt 1 = 1 from by decide]; exact nI_1 i) (Nat.le_of_ble_eq_true rfl) rfl (fun ls hl => ?_)
    have hl : lv_has ls 4 [(2, .int (nI (i + 1))), (1, .int 0), (3, .int 0), (0, .ref h0)] := hl
    refine lv_goto (tgt := 4) hx hb dMD_overlaps_42 rfl ?_
    exact ih () ls (lv_sub hl [0, 1, 3] rfl)

set_option maxHeartbeats 4000000 in
set_option maxRecDepth 100000 in
theorem c_MD_empties (l : Launch) (dC : Nat → ClassId) (dI : Nat → Nat → Nat) (h0 : Nat) (b0 : Nat) (b1 : Nat) (b2 : Nat) (b3 : Nat) (b4 : Nat) (b5 : Nat) (b6 : Nat) (b7 : Nat) (b8 : Nat) (b9 : Nat) (b10 : Nat) (b11 : Nat) (b12 : Nat) (b13 : Nat) (b14 : Nat) (b15 : Nat) (b16 : Nat) (b17 : Nat) (kb0 : ClassId) (kb1 : ClassId) : zp_M l yMD_empties wMD_empties ({ frames := 2, cells := 0, slots := 0, locals := 44 }) [.ref h0] (dC, dI) vwCl [(h0, .inr (6, [.int 1, .ref b0, .ref b1, .int 0, .ref b2, .ref b3, .ref b4, .ref b5, .ref b6, .ref b7, .ref b8, .ref b9, .ref b10, .ref b11, .int (-1), .int 0, .int 0, .int 0, .int 0, .int 0, .ref b12, .ref b13, .ref b14, .ref b15, .ref b16, .ref b17])), (b0, .inl (kb0, 8, .inl (fun _ => 0))), (b1, .inl (kb1, 8, .inl (fun _ => 0)))] [(kb0, .int), (kb1, .int)] (fun _ => True) (fun r => r = 0) := by
  refine zp_head (cc := cMD_empties) (maxL := 6) (ret := (some .int)) (by decide +kernel) rfl (Nat.le_of_ble_eq_true rfl) ?_
  intro p e s m below meth c ls F hP hK hX hl
  obtain ⟨hx, hb, hml, hr, hlocks, hown, hts⟩ := F
  have hown : s.vm.findClass "SpannedCellsModel" = some m.cls := hown
  have hz : ∀ w9 ∈ zT, w9.before [.ref h0].toArray s = true := fun w9 h => hts w9 (List.mem_cons_of_mem _ h)
  have hl : lv_has ls 6 [(0, .ref h0)] := hl
  refine z_q (fun Q hQ => ?_)
  refine lv_iconst (v := 0) hx hb dMD_empties_0 (by decide) ?_
  refine lv_istore_n hx hb dMD_empties_1 rfl hl (Nat.le_of_ble_eq_true rfl) rfl (fun ls hl => ?_)
  have hl : lv_has ls 6 [(1, .int 0), (0, .ref h0)] := hl
  refine lv_iconst (v := 0) hx hb dMD_empties_2 (by decide) ?_
  refine lv_istore_n hx hb dMD_empties_3 rfl hl (Nat.le_of_ble_eq_true rfl) rfl (fun ls hl => ?_)
  have hl : lv_has ls 6 [(2, .int 0), (1, .int 0), (0, .ref h0)] := hl
  refine zl_up (σ := Unit) 12 (fun i x ls => lv_has ls 6 [(2, .int (nI i)), (1, .int 0), (0, .ref h0)]) ?_ ?_ 0 (Nat.le_of_ble_eq_true rfl) () ls (lv_sub hl [0, 1, 2] rfl)
  · intro x ls hI
    have hl := hI
    have hl : lv_has ls 6 [(2, .int (nI 12)), (1, .int 0), (0, .ref h0)] := hl
    refine lv_iload_n hx hb dMD_empties_4 rfl (lv_at hl 0 rfl) ?_
    refine lv_bipush (v := 12) hx hb dMD_empties_5 (by decide) ?_
    refine lv_icmp_ge (tgt := 131) hx hb dMD_empties_7 rfl (fun _ => ?_) (fun h => absurd (by decide) h)
    refine lv_iload_n hx hb dMD_empties_131 rfl (lv_at hl 1 rfl) ?_
    subst hQ
    exact zp_iret hx hb hr hlocks (rfl) dMD_empties_132
  · intro i hi ih
    intro x ls hI
    have hl := hI
    have hl : lv_has ls 6 [(2, .int (nI i)), (1, .int 0), (0, .ref h0)] := hl
    refine lv_iload_n hx hb dMD_empties_4 rfl (lv_at hl 0 rfl) ?_
    refine lv_bipush (v := 12) hx hb dMD_empties_5 (by decide) ?_
    refine lv_icmp_ge (tgt := 131) hx hb dMD_empties_7 rfl (fun h => absurd h (z_ltN hi (by decide) rfl)) (fun _ => ?_)
    refine lv_iload_n hx hb dMD_empties_10 rfl (lv_at hl 0 rfl) ?_
    refine lv_aload_n hx hb dMD_empties_11 rfl (lv_at hl 2 rfl) ?_
    refine vp_callSi (W.runV (As := []) (rest := [.int (nI i)]) ⟨hx, hb, hml, hown, hz⟩ (c_MD_columns l dC dI h0 b0 b1 b2 b3 b4 b5 b6 b7 b8 b9 b10 b11 b12 b13 b14 b15 b16 b17 ) (cwV 0 hz (z_gV wd_732 wd_701 wd_702 wd_37 wd_703) rfl rfl rfl (by decide +kernel) ⟨Nat.le_of_ble_eq_true rfl, Nat.le_of_ble_eq_true rfl⟩) (zp_preV (q0 := 0) (q := (RMD, TMD, 26)) hK hP rfl rfl [0] rfl [] rfl z_true (fun _ _ _ => trivial)) rfl rfl hl.1 rfl (lv_room (Nat.le_of_ble_eq_true rfl)) dMD_empties_12 ⟨Nat.le_of_ble_eq_true rfl, Nat.le_of_ble_eq_true rfl⟩) (fun r1 h_r1 => ?_)
    have h_r1 : r1 = 0 := h_r1
    subst h_r1
    refine lv_icmp_ge (tgt := 22) hx hb dMD_empties_15 rfl (fun _ => ?_) (fun h => absurd (nI_pos' (by omega)) h)
    refine lv_iconst (v := 0) hx hb dMD_empties_22 (by decide) ?_
    refine lv_istore_n hx hb dMD_empties_23 rfl hl (Nat.le_of_ble_eq_true rfl) rfl (fun ls hl => ?_)
    have hl : lv_has ls 6 [(3, .int 0), (2, .int (nI i)), (1, .int 0), (0, .ref h0)] := hl
    refine lv_iload_n hx hb dMD_empties_24 rfl (lv_at hl 1 rfl) ?_
    refine lv_aload_n hx hb dMD_empties_25 rfl (lv_at hl 3 rfl) ?_
    refine vp_callSi (W.runV (As := []) (rest := [.int (nI i)]) ⟨hx, hb, hml, hown, hz⟩ (c_MD_rows l dC dI h0 b0 b1 b2 b3 b4 b5 b6 b7 b8 b9 b10 b11 b12 b13 b14 b15 b16 b17 kb0 kb1 ) (cwV 0 hz (z_gV wd_733 wd_705 wd_706 wd_37 wd_707) rfl rfl rfl (by decide +kernel) ⟨Nat.le_of_ble_eq_true rfl, Nat.le_of_ble_eq_true rfl⟩) (zp_preV (q0 := 0) (q := (RMD, TMD, 26)) hK hP rfl rfl [0, 1, 2] rfl [0, 1] rfl z_true (fun _ _ _ => trivial)) rfl rfl hl.1 rfl (lv_room (Nat.le_of_ble_eq_true rfl)) dMD_empties_26 ⟨Nat.le_of_ble_eq_true rfl, Nat.le_of_ble_eq_true rfl⟩) (fun r2 h_r2 => ?_)
    have h_r2 : r2 = 0 := h_r2
    subst h_r2
    refine lv_icmp_ge (tgt := 36) hx hb dMD_empties_29 rfl (fun _ => ?_) (fun h => absurd (nI_pos' (by omega)) h)
    refine lv_iconst (v := 0) hx hb dMD_empties_36 (by decide) ?_
    refine lv_istore hx hb dMD_empties_37 hl (Nat.le_of_ble_eq_true rfl) rfl (fun ls hl => ?_)
    have hl : lv_has ls 6 [(4, .int 0), (3, .int 0), (2, .int (nI i)), (1, .int 0), (0, .ref h0)] := hl
    refine lv_iconst (v := 0) hx hb dMD_empties_39 (by decide) ?_
    refine lv_istore hx hb dMD_empties_40 hl (Nat.le_of_ble_eq_true rfl) rfl (fun ls hl => ?_)
    have hl : lv_has ls 6 [(5, .int 0), (4, .int 0), (3, .int 0), (2, .int (nI i)), (1, .int 0), (0, .ref h0)] := hl
    refine lv_iload hx hb dMD_empties_42 (lv_at hl 0 rfl) ?_
    refine lv_aload_n hx hb dMD_empties_44 rfl (lv_at hl 5 rfl) ?_
    refine va_get (D := (dC, dI)) (ci := 6) (v := .int 0) (C := RMD) (T := TMD) (N := 26) hx hb hz in_MD hown hK hP 0 rfl rfl 3 (by decide) (hz _ wd_587) (fun _ h9 => h9) rfl dMD_empties_45 ?_
    refine lv_icmp_ge (tgt := 101) hx hb dMD_empties_48 rfl (fun _ => ?_) (fun h => absurd (by decide) h)
    refine lv_iload_n hx hb dMD_empties_101 rfl (lv_at hl 4 rfl) ?_
    refine lv_iload_n hx hb dMD_empties_102 rfl (lv_at hl 2 rfl) ?_
    refine lv_if_eq (tgt := 110) hx hb dMD_empties_103 rfl (fun _ => ?_) (fun h => absurd (by decide) h)
    refine lv_iconst (v := 0) hx hb dMD_empties_110 (by decide) ?_
    refine lv_iadd hx hb dMD_empties_111 ?_
    refine lv_topi (fun x3 e4 => ?_)
    have e4 : x3 = 0 := e4.trans (by decide)
    subst e4
    refine lv_iload hx hb dMD_empties_112 (lv_at hl 1 rfl) ?_
    refine lv_if_eq (tgt := 122) hx hb dMD_empties_114 rfl (fun _ => ?_) (fun h => absurd (by decide) h)
    refine lv_iconst (v := 0) hx hb dMD_empties_122 (by decide) ?_
    refine lv_iadd hx hb dMD_empties_123 ?_
    refine lv_topi (fun x5 e6 => ?_)
    have e6 : x5 = 0 := e6.trans (by decide)
    subst e6
    refine lv_istore_n hx hb dMD_empties_124 rfl hl (Nat.le_of_ble_eq_true rfl) rfl (fun ls hl => ?_)
    have hl : lv_has ls 6 [(1, .int 0), (5, .int 0), (4, .int 0), (3, .int 0), (2, .int (nI i)), (0, .ref h0)] := hl
    refine lv_iinc (k := 4) (v := nI (i + 1)) hx hb dMD_empties_125 hl rfl (by rw [show Int32.ofInt 1 = 1 from by decide]; exact nI_1 i) (Nat.le_of_ble_eq_true rfl) rfl (fun ls hl => ?_)
    have hl : lv_has ls 6 [(2, .int (nI (i + 1))), (1, .int 0), (5, .int 0), (4, .int 0), (3, .int 0), (0, .ref h0)] := hl
    refine lv_goto (tgt := 4) hx hb dMD_empties_128 rfl ?_
    exact ih () ls (lv_sub hl [0, 1, 5] rfl)

set_option maxHeartbeats 4000000 in
set_option maxRecDepth 100000 in
theorem c_MD_span (l : Launch) (dC : Nat → ClassId) (dI : Nat → Nat → Nat) (h0 : Nat) (b0 : Nat) (b1 : Nat) (b2 : Nat) (b3 : Nat) (b4 : Nat) (b5 : Nat) (b6 : Nat) (b7 : Nat) (b8 : Nat) (b9 : Nat) (b10 : Nat) (b11 : Nat) (b12 : Nat) (b13 : Nat) (b14 : Nat) (b15 : Nat) (b16 : Nat) (b17 : Nat) (k : Int32) : zp_M l yMD_span wMD_span ({ frames := 1, cells := 0, slots := 0, locals := 21 }) [.ref h0, .int k] (dC, dI) vwCl [(h0, .inr (6, [.int 1, .ref b0, .ref b1, .int 0, .ref b2, .ref b3, .ref b4, .ref b5, .ref b6, .ref b7, .ref b8, .ref b9, .ref b10, .ref b11, .int (-1), .int 0, .int 0, .int 0, .int 0, .int 0, .ref b12, .ref b13, .ref b14, .ref b15, .ref b16, .ref b17]))] [] (fun _ => True) (fun r => r = (-1)) := by
  refine zp_head (cc := cMD_span) (maxL := 2) (ret := (some .int)) (by decide +kernel) rfl (Nat.le_of_ble_eq_true rfl) ?_
  intro p e s m below meth c ls F hP hK hX hl
  obtain ⟨hx, hb, hml, hr, hlocks, hown, hts⟩ := F
  have hown : s.vm.findClass "SpannedCellsModel" = some m.cls := hown
  have hz : ∀ w9 ∈ zT, w9.before [.ref h0, .int k].toArray s = true := fun w9 h => hts w9 (List.mem_cons_of_mem _ h)
  have hl : lv_has ls 2 [(0, .ref h0), (1, .int k)] := hl
  refine z_q (fun Q hQ => ?_)
  refine lv_aload_n hx hb dMD_span_0 rfl (lv_at hl 0 rfl) ?_
  refine lv_iload_n hx hb dMD_span_1 rfl (lv_at hl 1 rfl) ?_
  refine vp_callSi (W.runV (As := [.int k]) (rest := []) ⟨hx, hb, hml, hown, hz⟩ (c_MD_isCell l dC dI h0 b0 b1 b2 b3 b4 b5 b6 b7 b8 b9 b10 b11 b12 b13 b14 b15 b16 b17 k ) (cwV 1 hz (z_gV wd_688 wd_690 wd_15 wd_37 wd_691) rfl rfl rfl (by decide +kernel) ⟨Nat.le_of_ble_eq_true rfl, Nat.le_of_ble_eq_true rfl⟩) (zp_preV (q0 := 0) (q := (RMD, TMD, 26)) hK hP rfl rfl [0] rfl [] rfl z_true (fun _ _ _ => trivial)) rfl rfl hl.1 rfl (lv_room (Nat.le_of_ble_eq_true rfl)) dMD_span_2 ⟨Nat.le_of_ble_eq_true rfl, Nat.le_of_ble_eq_true rfl⟩) (fun r1 h_r1 => ?_)
  have h_r1 : r1 = 0 := h_r1
  subst h_r1
  refine lv_if_eq (tgt := 47) hx hb dMD_span_5 rfl (fun _ => ?_) (fun h => absurd (by decide) h)
  refine lv_iconst (v := (-1)) hx hb dMD_span_47 (by decide) ?_
  subst hQ
  exact zp_iret hx hb hr hlocks (rfl) dMD_span_48

set_option maxHeartbeats 4000000 in
set_option maxRecDepth 100000 in
theorem c_MD_border (l : Launch) (dC : Nat → ClassId) (dI : Nat → Nat → Nat) (h0 : Nat) (b0 : Nat) (b1 : Nat) (b2 : Nat) (b3 : Nat) (b4 : Nat) (b5 : Nat) (b6 : Nat) (b7 : Nat) (b8 : Nat) (b9 : Nat) (b10 : Nat) (b11 : Nat) (b12 : Nat) (b13 : Nat) (b14 : Nat) (b15 : Nat) (b16 : Nat) (b17 : Nat) (k : Int32) (t : Int32) (w : Int32) : zp_M l yMD_border wMD_border ({ frames := 1, cells := 0, slots := 0, locals := 21 }) [.ref h0, .int k, .int t, .int w] (dC, dI) vwCl [(h0, .inr (6, [.int 1, .ref b0, .ref b1, .int 0, .ref b2, .ref b3, .ref b4, .ref b5, .ref b6, .ref b7, .ref b8, .ref b9, .ref b10, .ref b11, .int (-1), .int 0, .int 0, .int 0, .int 0, .int 0, .ref b12, .ref b13, .ref b14, .ref b15, .ref b16, .ref b17]))] [] (fun _ => True) (fun r => r = 0) := by
  refine zp_head (cc := cMD_border) (maxL := 4) (ret := (some .boolean)) (by decide +kernel) rfl (Nat.le_of_ble_eq_true rfl) ?_
  intro p e s m below meth c ls F hP hK hX hl
  obtain ⟨hx, hb, hml, hr, hlocks, hown, hts⟩ := F
  have hown : s.vm.findClass "SpannedCellsModel" = some m.cls := hown
  have hz : ∀ w9 ∈ zT, w9.before [.ref h0, .int k, .int t, .int w].toArray s = true := fun w9 h => hts w9 (List.mem_cons_of_mem _ h)
  have hl : lv_has ls 4 [(0, .ref h0), (1, .int k), (2, .int t), (3, .int w)] := hl
  refine z_q (fun Q hQ => ?_)
  refine lv_aload_n hx hb dMD_border_0 rfl (lv_at hl 0 rfl) ?_
  refine lv_iload_n hx hb dMD_border_1 rfl (lv_at hl 1 rfl) ?_
  refine vp_callSi (W.runV (As := [.int k]) (rest := []) ⟨hx, hb, hml, hown, hz⟩ (c_MD_isCell l dC dI h0 b0 b1 b2 b3 b4 b5 b6 b7 b8 b9 b10 b11 b12 b13 b14 b15 b16 b17 k ) (cwV 1 hz (z_gV wd_688 wd_690 wd_15 wd_37 wd_691) rfl rfl rfl (by decide +kernel) ⟨Nat.le_of_ble_eq_true rfl, Nat.le_of_ble_eq_true rfl⟩) (zp_preV (q0 := 0) (q := (RMD, TMD, 26)) hK hP rfl rfl [0] rfl [] rfl z_true (fun _ _ _ => trivial)) rfl rfl hl.1 rfl (lv_room (Nat.le_of_ble_eq_true rfl)) dMD_border_2 ⟨Nat.le_of_ble_eq_true rfl, Nat.le_of_ble_eq_true rfl⟩) (fun r1 h_r1 => ?_)
  have h_r1 : r1 = 0 := h_r1
  subst h_r1
  refine lv_if_eq (tgt := 27) hx hb dMD_border_5 rfl (fun _ => ?_) (fun h => absurd (by decide) h)
  refine lv_iconst (v := 0) hx hb dMD_border_27 (by decide) ?_
  subst hQ
  exact zp_zret hx hb hr hlocks (Or.inl rfl) (rfl) dMD_border_28

set_option maxHeartbeats 4000000 in
set_option maxRecDepth 100000 in
theorem c_MD_cell (l : Launch) (dC : Nat → ClassId) (dI : Nat → Nat → Nat) (h0 : Nat) (b0 : Nat) (b1 : Nat) (b2 : Nat) (b3 : Nat) (b4 : Nat) (b5 : Nat) (b6 : Nat) (b7 : Nat) (b8 : Nat) (b9 : Nat) (b10 : Nat) (b11 : Nat) (b12 : Nat) (b13 : Nat) (b14 : Nat) (b15 : Nat) (b16 : Nat) (b17 : Nat) (a : Int32) (b : Int32) (c1 : Int32) (d : Int32) (e1 : Int32) : zp_M l yMD_cell wMD_cell ({ frames := 0, cells := 0, slots := 0, locals := 0 }) [.ref h0, .int a, .int b, .int c1, .int d, .int e1] (dC, dI) vwCl [(h0, .inr (6, [.int 1, .ref b0, .ref b1, .int 0, .ref b2, .ref b3, .ref b4, .ref b5, .ref b6, .ref b7, .ref b8, .ref b9, .ref b10, .ref b11, .int (-1), .int 0, .int 0, .int 0, .int 0, .int 0, .ref b12, .ref b13, .ref b14, .ref b15, .ref b16, .ref b17]))] [] (fun _ => True) (fun r => r = (-1)) := by
  refine zp_head (cc := cMD_cell) (maxL := 9) (ret := (some .int)) (by decide +kernel) rfl (Nat.le_of_ble_eq_true rfl) ?_
  intro p e s m below meth c ls F hP hK hX hl
  obtain ⟨hx, hb, hml, hr, hlocks, hown, hts⟩ := F
  have hown : s.vm.findClass "SpannedCellsModel" = some m.cls := hown
  have hz : ∀ w9 ∈ zT, w9.before [.ref h0, .int a, .int b, .int c1, .int d, .int e1].toArray s = true := fun w9 h => hts w9 (List.mem_cons_of_mem _ h)
  have hl : lv_has ls 9 [(0, .ref h0), (1, .int a), (2, .int b), (3, .int c1), (4, .int d), (5, .int e1)] := hl
  refine z_q (fun Q hQ => ?_)
  refine z_join (fun v1 : Int32 => True) (fun v1 => W p l e ({ frames := 0, cells := 0, slots := 0, locals := 0 }) s m [.ref h0, .int a, .int b, .int c1, .int d, .int e1].toArray below meth c s.heap [] 0 0 Q (F0 m 56 ls (.int v1 :: []))) (fun v1 hv1 => ?_) (fun J56 => ?_)
  · refine lv_istore hx hb dMD_cell_56 hl (Nat.le_of_ble_eq_true rfl) rfl (fun ls hl => ?_)
    have hl : lv_has ls 9 [(6, .int v1), (0, .ref h0), (1, .int a), (2, .int b), (3, .int c1), (4, .int d), (5, .int e1)] := hl
    refine lv_iload hx hb dMD_cell_58 (lv_at hl 0 rfl) ?_
    refine lv_if_eq (tgt := 85) hx hb dMD_cell_60 rfl (fun h1 => ?_) (fun h1 => ?_)
    · refine lv_iconst (v := (-1)) hx hb dMD_cell_85 (by decide) ?_
      subst hQ
      exact zp_iret hx hb hr hlocks (rfl) dMD_cell_86
    · refine lv_aload_n hx hb dMD_cell_63 rfl (lv_at hl 1 rfl) ?_
      refine va_get (D := (dC, dI)) (ci := 6) (v := .int (-1)) (C := RMD) (T := TMD) (N := 26) hx hb hz in_MD hown hK hP 0 rfl rfl 14 (by decide) (hz _ wd_598) (fun _ h9 => h9) rfl dMD_cell_64 ?_
      refine lv_aload_n hx hb dMD_cell_67 rfl (lv_at hl 1 rfl) ?_
      refine va_get (D := (dC, dI)) (ci := 6) (v := .int 1) (C := RMD) (T := TMD) (N := 26) hx hb hz in_MD hown hK hP 0 rfl rfl 0 (by decide) (hz _ wd_584) (fun _ h9 => h9) rfl dMD_cell_68 ?_
      refine lv_iconst (v := 1) hx hb dMD_cell_71 (by decide) ?_
      refine lv_isub hx hb dMD_cell_72 ?_
      refine lv_topi (fun x2 e3 => ?_)
      have e3 : x2 = 0 := e3.trans (by decide)
      subst e3
      refine lv_icmp_ne (tgt := 85) hx hb dMD_cell_73 rfl (fun _ => ?_) (fun h => absurd h (by decide))
      refine lv_iconst (v := (-1)) hx hb dMD_cell_85 (by decide) ?_
      subst hQ
      exact zp_iret hx hb hr hlocks (rfl) dMD_cell_86
  · refine lv_iload_n hx hb dMD_cell_0 rfl (lv_at hl 1 rfl) ?_
    refine lv_if_le (tgt := 55) hx hb dMD_cell_1 rfl (fun h4 => ?_) (fun h4 => ?_)
    · refine lv_iconst (v := 0) hx hb dMD_cell_55 (by decide) ?_
      exact J56 _ (trivial)
    · refine lv_iload_n hx hb dMD_cell_4 rfl (lv_at hl 1 rfl) ?_
      refine lv_bipush (v := 7) hx hb dMD_cell_5 (by decide) ?_
      refine lv_icmp_ge (tgt := 55) hx hb dMD_cell_7 rfl (fun h5 => ?_) (fun h5 => ?_)
      · refine lv_iconst (v := 0) hx hb dMD_cell_55 (by decide) ?_
        exact J56 _ (trivial)
      · refine lv_iload_n hx hb dMD_cell_10 rfl (lv_at hl 2 rfl) ?_
        refine lv_if_lt (tgt := 55) hx hb dMD_cell_11 rfl (fun h6 => ?_) (fun h6 => ?_)
        · refine lv_iconst (v := 0) hx hb dMD_cell_55 (by decide) ?_
          exact J56 _ (trivial)
        · refine lv_iload_n hx hb dMD_cell_14 rfl (lv_at hl 2 rfl) ?_
          refine lv_bipush (v := 7) hx hb dMD_cell_15 (by decide) ?_
          refine lv_icmp_ge (tgt := 55) hx hb dMD_cell_17 rfl (fun h7 => ?_) (fun h7 => ?_)
          · refine lv_iconst (v := 0) hx hb dMD_cell_55 (by decide) ?_
            exact J56 _ (trivial)
          · refine lv_iload_n hx hb dMD_cell_20 rfl (lv_at hl 3 rfl) ?_
            refine lv_if_lt (tgt := 55) hx hb dMD_cell_21 rfl (fun h8 => ?_) (fun h8 => ?_)
            · refine lv_iconst (v := 0) hx hb dMD_cell_55 (by decide) ?_
              exact J56 _ (trivial)
            · refine lv_iload_n hx hb dMD_cell_24 rfl (lv_at hl 3 rfl) ?_
              refine lv_iload hx hb dMD_cell_25 (lv_at hl 4 rfl) ?_
              refine lv_icmp_gt (tgt := 55) hx hb dMD_cell_27 rfl (fun h9 => ?_) (fun h9 => ?_)
              · refine lv_iconst (v := 0) hx hb dMD_cell_55 (by decide) ?_
                exact J56 _ (trivial)
              · refine lv_iload hx hb dMD_cell_30 (lv_at hl 4 rfl) ?_
                refine lv_sipush (v := 1000) hx hb dMD_cell_32 (by decide) ?_
                refine lv_icmp_gt (tgt := 55) hx hb dMD_cell_35 rfl (fun h10 => ?_) (fun h10 => ?_)
                · refine lv_iconst (v := 0) hx hb dMD_cell_55 (by decide) ?_
                  exact J56 _ (trivial)
                · refine lv_iload hx hb dMD_cell_38 (lv_at hl 5 rfl) ?_
                  refine lv_if_lt (tgt := 55) hx hb dMD_cell_40 rfl (fun h11 => ?_) (fun h11 => ?_)
                  · refine lv_iconst (v := 0) hx hb dMD_cell_55 (by decide) ?_
                    exact J56 _ (trivial)
                  · refine lv_iload hx hb dMD_cell_43 (lv_at hl 5 rfl) ?_
                    refine lv_sipush (v := 1000) hx hb dMD_cell_45 (by decide) ?_
                    refine lv_icmp_gt (tgt := 55) hx hb dMD_cell_48 rfl (fun h12 => ?_) (fun h12 => ?_)
                    · refine lv_iconst (v := 0) hx hb dMD_cell_55 (by decide) ?_
                      exact J56 _ (trivial)
                    · refine lv_iconst (v := 1) hx hb dMD_cell_51 (by decide) ?_
                      refine lv_goto (tgt := 56) hx hb dMD_cell_52 rfl ?_
                      exact J56 _ (trivial)

set_option maxHeartbeats 4000000 in
set_option maxRecDepth 100000 in
theorem c_MD_wide (l : Launch) (dC : Nat → ClassId) (dI : Nat → Nat → Nat) (h0 : Nat) (b0 : Nat) (b1 : Nat) (b2 : Nat) (b3 : Nat) (b4 : Nat) (b5 : Nat) (b6 : Nat) (b7 : Nat) (b8 : Nat) (b9 : Nat) (b10 : Nat) (b11 : Nat) (b12 : Nat) (b13 : Nat) (b14 : Nat) (b15 : Nat) (b16 : Nat) (b17 : Nat) (x : Int32) (w : Int32) : zp_M l yMD_wide wMD_wide ({ frames := 1, cells := 0, slots := 0, locals := 22 }) [.ref h0, .int x, .int w] (dC, dI) vwCl [(h0, .inr (6, [.int 1, .ref b0, .ref b1, .int 0, .ref b2, .ref b3, .ref b4, .ref b5, .ref b6, .ref b7, .ref b8, .ref b9, .ref b10, .ref b11, .int (-1), .int 0, .int 0, .int 0, .int 0, .int 0, .ref b12, .ref b13, .ref b14, .ref b15, .ref b16, .ref b17]))] [] (fun _ => True) (fun r => r = (-1)) := by
  refine zp_head (cc := cMD_wide) (maxL := 3) (ret := (some .int)) (by decide +kernel) rfl (Nat.le_of_ble_eq_true rfl) ?_
  intro p e s m below meth c ls F hP hK hX hl
  obtain ⟨hx, hb, hml, hr, hlocks, hown, hts⟩ := F
  have hown : s.vm.findClass "SpannedCellsModel" = some m.cls := hown
  have hz : ∀ w9 ∈ zT, w9.before [.ref h0, .int x, .int w].toArray s = true := fun w9 h => hts w9 (List.mem_cons_of_mem _ h)
  have hl : lv_has ls 3 [(0, .ref h0), (1, .int x), (2, .int w)] := hl
  refine z_q (fun Q hQ => ?_)
  refine lv_iload_n hx hb dMD_wide_0 rfl (lv_at hl 1 rfl) ?_
  refine lv_if_lt (tgt := 12) hx hb dMD_wide_1 rfl (fun h1 => ?_) (fun h1 => ?_)
  · refine lv_iconst (v := (-1)) hx hb dMD_wide_12 (by decide) ?_
    subst hQ
    exact zp_iret hx hb hr hlocks (rfl) dMD_wide_13
  · refine lv_iload_n hx hb dMD_wide_4 rfl (lv_at hl 1 rfl) ?_
    refine lv_aload_n hx hb dMD_wide_5 rfl (lv_at hl 0 rfl) ?_
    refine vp_callSi (W.runV (As := []) (rest := [.int x]) ⟨hx, hb, hml, hown, hz⟩ (c_MD_columns l dC dI h0 b0 b1 b2 b3 b4 b5 b6 b7 b8 b9 b10 b11 b12 b13 b14 b15 b16 b17 ) (cwV 0 hz (z_gV wd_732 wd_701 wd_702 wd_37 wd_703) rfl rfl rfl (by decide +kernel) ⟨Nat.le_of_ble_eq_true rfl, Nat.le_of_ble_eq_true rfl⟩) (zp_preV (q0 := 0) (q := (RMD, TMD, 26)) hK hP rfl rfl [0] rfl [] rfl z_true (fun _ _ _ => trivial)) rfl rfl hl.1 rfl (lv_room (Nat.le_of_ble_eq_true rfl)) dMD_wide_6 ⟨Nat.le_of_ble_eq_true rfl, Nat.le_of_ble_eq_true rfl⟩) (fun r2 h_r2 => ?_)
    have h_r2 : r2 = 0 := h_r2
    subst h_r2
    refine lv_icmp_lt (tgt := 14) hx hb dMD_wide_9 rfl (fun h => absurd h (h1)) (fun _ => ?_)
    refine lv_iconst (v := (-1)) hx hb dMD_wide_12 (by decide) ?_
    subst hQ
    exact zp_iret hx hb hr hlocks (rfl) dMD_wide_13

set_option maxHeartbeats 4000000 in
set_option maxRecDepth 100000 in
theorem c_MD_high (l : Launch) (dC : Nat → ClassId) (dI : Nat → Nat → Nat) (h0 : Nat) (b0 : Nat) (b1 : Nat) (b2 : Nat) (b3 : Nat) (b4 : Nat) (b5 : Nat) (b6 : Nat) (b7 : Nat) (b8 : Nat) (b9 : Nat) (b10 : Nat) (b11 : Nat) (b12 : Nat) (b13 : Nat) (b14 : Nat) (b15 : Nat) (b16 : Nat) (b17 : Nat) (kb0 : ClassId) (kb1 : ClassId) (y : Int32) : zp_M l yMD_high wMD_high ({ frames := 2, cells := 0, slots := 0, locals := 44 }) [.ref h0, .int y] (dC, dI) vwCl [(h0, .inr (6, [.int 1, .ref b0, .ref b1, .int 0, .ref b2, .ref b3, .ref b4, .ref b5, .ref b6, .ref b7, .ref b8, .ref b9, .ref b10, .ref b11, .int (-1), .int 0, .int 0, .int 0, .int 0, .int 0, .ref b12, .ref b13, .ref b14, .ref b15, .ref b16, .ref b17])), (b0, .inl (kb0, 8, .inl (fun _ => 0))), (b1, .inl (kb1, 8, .inl (fun _ => 0)))] [(kb0, .int), (kb1, .int)] (fun _ => True) (fun r => r = (-1)) := by
  refine zp_head (cc := cMD_high) (maxL := 2) (ret := (some .int)) (by decide +kernel) rfl (Nat.le_of_ble_eq_true rfl) ?_
  intro p e s m below meth c ls F hP hK hX hl
  obtain ⟨hx, hb, hml, hr, hlocks, hown, hts⟩ := F
  have hown : s.vm.findClass "SpannedCellsModel" = some m.cls := hown
  have hz : ∀ w9 ∈ zT, w9.before [.ref h0, .int y].toArray s = true := fun w9 h => hts w9 (List.mem_cons_of_mem _ h)
  have hl : lv_has ls 2 [(0, .ref h0), (1, .int y)] := hl
  refine z_q (fun Q hQ => ?_)
  refine lv_iload_n hx hb dMD_high_0 rfl (lv_at hl 1 rfl) ?_
  refine lv_if_lt (tgt := 12) hx hb dMD_high_1 rfl (fun h1 => ?_) (fun h1 => ?_)
  · refine lv_iconst (v := (-1)) hx hb dMD_high_12 (by decide) ?_
    subst hQ
    exact zp_iret hx hb hr hlocks (rfl) dMD_high_13
  · refine lv_iload_n hx hb dMD_high_4 rfl (lv_at hl 1 rfl) ?_
    refine lv_aload_n hx hb dMD_high_5 rfl (lv_at hl 0 rfl) ?_
    refine vp_callSi (W.runV (As := []) (rest := [.int y]) ⟨hx, hb, hml, hown, hz⟩ (c_MD_rows l dC dI h0 b0 b1 b2 b3 b4 b5 b6 b7 b8 b9 b10 b11 b12 b13 b14 b15 b16 b17 kb0 kb1 ) (cwV 0 hz (z_gV wd_733 wd_705 wd_706 wd_37 wd_707) rfl rfl rfl (by decide +kernel) ⟨Nat.le_of_ble_eq_true rfl, Nat.le_of_ble_eq_true rfl⟩) (zp_preV (q0 := 0) (q := (RMD, TMD, 26)) hK hP rfl rfl [0, 1, 2] rfl [0, 1] rfl z_true (fun _ _ _ => trivial)) rfl rfl hl.1 rfl (lv_room (Nat.le_of_ble_eq_true rfl)) dMD_high_6 ⟨Nat.le_of_ble_eq_true rfl, Nat.le_of_ble_eq_true rfl⟩) (fun r2 h_r2 => ?_)
    have h_r2 : r2 = 0 := h_r2
    subst h_r2
    refine lv_icmp_lt (tgt := 14) hx hb dMD_high_9 rfl (fun h => absurd h (h1)) (fun _ => ?_)
    refine lv_iconst (v := (-1)) hx hb dMD_high_12 (by decide) ?_
    subst hQ
    exact zp_iret hx hb hr hlocks (rfl) dMD_high_13

set_option maxHeartbeats 4000000 in
set_option maxRecDepth 100000 in
theorem c_MD_place (l : Launch) (dC : Nat → ClassId) (dI : Nat → Nat → Nat) (h0 : Nat) (b0 : Nat) (b1 : Nat) (b2 : Nat) (b3 : Nat) (b4 : Nat) (b5 : Nat) (b6 : Nat) (b7 : Nat) (b8 : Nat) (b9 : Nat) (b10 : Nat) (b11 : Nat) (b12 : Nat) (b13 : Nat) (b14 : Nat) (b15 : Nat) (b16 : Nat) (b17 : Nat) (k : Int32) (w : Int32) : zp_M l yMD_place wMD_place ({ frames := 1, cells := 0, slots := 0, locals := 21 }) [.ref h0, .int k, .int w] (dC, dI) vwCl [(h0, .inr (6, [.int 1, .ref b0, .ref b1, .int 0, .ref b2, .ref b3, .ref b4, .ref b5, .ref b6, .ref b7, .ref b8, .ref b9, .ref b10, .ref b11, .int (-1), .int 0, .int 0, .int 0, .int 0, .int 0, .ref b12, .ref b13, .ref b14, .ref b15, .ref b16, .ref b17]))] [] (fun _ => True) (fun r => r = (-1)) := by
  refine zp_head (cc := cMD_place) (maxL := 7) (ret := (some .int)) (by decide +kernel) rfl (Nat.le_of_ble_eq_true rfl) ?_
  intro p e s m below meth c ls F hP hK hX hl
  obtain ⟨hx, hb, hml, hr, hlocks, hown, hts⟩ := F
  have hown : s.vm.findClass "SpannedCellsModel" = some m.cls := hown
  have hz : ∀ w9 ∈ zT, w9.before [.ref h0, .int k, .int w].toArray s = true := fun w9 h => hts w9 (List.mem_cons_of_mem _ h)
  have hl : lv_has ls 7 [(0, .ref h0), (1, .int k), (2, .int w)] := hl
  refine z_q (fun Q hQ => ?_)
  refine lv_aload_n hx hb dMD_place_0 rfl (lv_at hl 0 rfl) ?_
  refine lv_iload_n hx hb dMD_place_1 rfl (lv_at hl 1 rfl) ?_
  refine vp_callSi (W.runV (As := [.int k]) (rest := []) ⟨hx, hb, hml, hown, hz⟩ (c_MD_isCell l dC dI h0 b0 b1 b2 b3 b4 b5 b6 b7 b8 b9 b10 b11 b12 b13 b14 b15 b16 b17 k ) (cwV 1 hz (z_gV wd_688 wd_690 wd_15 wd_37 wd_691) rfl rfl rfl (by decide +kernel) ⟨Nat.le_of_ble_eq_true rfl, Nat.le_of_ble_eq_true rfl⟩) (zp_preV (q0 := 0) (q := (RMD, TMD, 26)) hK hP rfl rfl [0] rfl [] rfl z_true (fun _ _ _ => trivial)) rfl rfl hl.1 rfl (lv_room (Nat.le_of_ble_eq_true rfl)) dMD_place_2 ⟨Nat.le_of_ble_eq_true rfl, Nat.le_of_ble_eq_true rfl⟩) (fun r1 h_r1 => ?_)
  have h_r1 : r1 = 0 := h_r1
  subst h_r1
  refine lv_if_eq (tgt := 17) hx hb dMD_place_5 rfl (fun _ => ?_) (fun h => absurd (by decide) h)
  refine lv_iconst (v := (-1)) hx hb dMD_place_17 (by decide) ?_
  subst hQ
  exact zp_iret hx hb hr hlocks (rfl) dMD_place_18

set_option maxHeartbeats 4000000 in
set_option maxRecDepth 100000 in
theorem c_MD_edge (l : Launch) (dC : Nat → ClassId) (dI : Nat → Nat → Nat) (h0 : Nat) (b0 : Nat) (b1 : Nat) (b2 : Nat) (b3 : Nat) (b4 : Nat) (b5 : Nat) (b6 : Nat) (b7 : Nat) (b8 : Nat) (b9 : Nat) (b10 : Nat) (b11 : Nat) (b12 : Nat) (b13 : Nat) (b14 : Nat) (b15 : Nat) (b16 : Nat) (b17 : Nat) (kb0 : ClassId) (kb1 : ClassId) (x : Int32) (y : Int32) (f : Int32) : zp_M l yMD_edge wMD_edge ({ frames := 1, cells := 0, slots := 0, locals := 22 }) [.ref h0, .int x, .int y, .int f] (dC, dI) vwCl [(h0, .inr (6, [.int 1, .ref b0, .ref b1, .int 0, .ref b2, .ref b3, .ref b4, .ref b5, .ref b6, .ref b7, .ref b8, .ref b9, .ref b10, .ref b11, .int (-1), .int 0, .int 0, .int 0, .int 0, .int 0, .ref b12, .ref b13, .ref b14, .ref b15, .ref b16, .ref b17])), (b0, .inl (kb0, 8, .inl (fun _ => 0))), (b1, .inl (kb1, 8, .inl (fun _ => 0)))] [(kb0, .int), (kb1, .int)] (fun _ => True) (fun r => r = (-1)) := by
  refine zp_head (cc := cMD_edge) (maxL := 6) (ret := (some .int)) (by decide +kernel) rfl (Nat.le_of_ble_eq_true rfl) ?_
  intro p e s m below meth c ls F hP hK hX hl
  obtain ⟨hx, hb, hml, hr, hlocks, hown, hts⟩ := F
  have hown : s.vm.findClass "SpannedCellsModel" = some m.cls := hown
  have hz : ∀ w9 ∈ zT, w9.before [.ref h0, .int x, .int y, .int f].toArray s = true := fun w9 h => hts w9 (List.mem_cons_of_mem _ h)
  have hl : lv_has ls 6 [(0, .ref h0), (1, .int x), (2, .int y), (3, .int f)] := hl
  refine z_q (fun Q hQ => ?_)
  refine lv_iload_n hx hb dMD_edge_0 rfl (lv_at hl 1 rfl) ?_
  refine lv_if_lt (tgt := 24) hx hb dMD_edge_1 rfl (fun h1 => ?_) (fun h1 => ?_)
  · refine lv_iconst (v := (-1)) hx hb dMD_edge_24 (by decide) ?_
    subst hQ
    exact zp_iret hx hb hr hlocks (rfl) dMD_edge_25
  · refine lv_iload_n hx hb dMD_edge_4 rfl (lv_at hl 1 rfl) ?_
    refine lv_aload_n hx hb dMD_edge_5 rfl (lv_at hl 0 rfl) ?_
    refine vp_callSi (W.runV (As := []) (rest := [.int x]) ⟨hx, hb, hml, hown, hz⟩ (c_MD_columns l dC dI h0 b0 b1 b2 b3 b4 b5 b6 b7 b8 b9 b10 b11 b12 b13 b14 b15 b16 b17 ) (cwV 0 hz (z_gV wd_732 wd_701 wd_702 wd_37 wd_703) rfl rfl rfl (by decide +kernel) ⟨Nat.le_of_ble_eq_true rfl, Nat.le_of_ble_eq_true rfl⟩) (zp_preV (q0 := 0) (q := (RMD, TMD, 26)) hK hP rfl rfl [0] rfl [] rfl z_true (fun _ _ _ => trivial)) rfl rfl hl.1 rfl (lv_room (Nat.le_of_ble_eq_true rfl)) dMD_edge_6 ⟨Nat.le_of_ble_eq_true rfl, Nat.le_of_ble_eq_true rfl⟩) (fun r2 h_r2 => ?_)
    have h_r2 : r2 = 0 := h_r2
    subst h_r2
    refine lv_icmp_ge (tgt := 24) hx hb dMD_edge_9 rfl (fun _ => ?_) (fun h => absurd (Int32.not_lt.mp h1) h)
    refine lv_iconst (v := (-1)) hx hb dMD_edge_24 (by decide) ?_
    subst hQ
    exact zp_iret hx hb hr hlocks (rfl) dMD_edge_25

set_option maxHeartbeats 4000000 in
set_option maxRecDepth 100000 in
theorem c_MD_greater (l : Launch) (dC : Nat → ClassId) (dI : Nat → Nat → Nat) : zp_M l yMD_greater wMD_greater ({ frames := 0, cells := 0, slots := 0, locals := 0 }) [.int 0, .int 0] (dC, dI) vwCl [] [] (fun _ => True) (fun r => r = 0) := by
  refine zp_head (cc := cMD_greater) (maxL := 2) (ret := (some .int)) (by decide +kernel) rfl (Nat.le_of_ble_eq_true rfl) ?_
  intro p e s m below meth c ls F hP hK hX hl
  obtain ⟨hx, hb, hml, hr, hlocks, hown, hts⟩ := F
  have hown : s.vm.findClass "SpannedCellsModel" = some m.cls := hown
  have hz : ∀ w9 ∈ zT, w9.before [.int 0, .int 0].toArray s = true := fun w9 h => hts w9 (List.mem_cons_of_mem _ h)
  have hl : lv_has ls 2 [(0, .int 0), (1, .int 0)] := hl
  refine z_q (fun Q hQ => ?_)
  refine lv_iload_n hx hb dMD_greater_0 rfl (lv_at hl 0 rfl) ?_
  refine lv_iload_n hx hb dMD_greater_1 rfl (lv_at hl 1 rfl) ?_
  refine lv_icmp_le (tgt := 9) hx hb dMD_greater_2 rfl (fun _ => ?_) (fun h => absurd (by decide) h)
  refine lv_iload_n hx hb dMD_greater_9 rfl (lv_at hl 1 rfl) ?_
  subst hQ
  exact zp_iret hx hb hr hlocks (rfl) dMD_greater_10

set_option maxHeartbeats 4000000 in
set_option maxRecDepth 100000 in
theorem c_MD_sumOf (l : Launch) (dC : Nat → ClassId) (dI : Nat → Nat → Nat) (a : Nat) : zp_M l yMD_sumOf wMD_sumOf ({ frames := 0, cells := 0, slots := 0, locals := 0 }) [.ref a, .int 0, .int 0] (dC, dI) vwCl [] [] (fun _ => True) (fun r => r = 0) := by
  refine zp_head (cc := cMD_sumOf) (maxL := 5) (ret := (some .int)) (by decide +kernel) rfl (Nat.le_of_ble_eq_true rfl) ?_
  intro p e s m below meth c ls F hP hK hX hl
  obtain ⟨hx, hb, hml, hr, hlocks, hown, hts⟩ := F
  have hown : s.vm.findClass "SpannedCellsModel" = some m.cls := hown
  have hz : ∀ w9 ∈ zT, w9.before [.ref a, .int 0, .int 0].toArray s = true := fun w9 h => hts w9 (List.mem_cons_of_mem _ h)
  have hl : lv_has ls 5 [(0, .ref a), (1, .int 0), (2, .int 0)] := hl
  refine z_q (fun Q hQ => ?_)
  refine lv_iconst (v := 0) hx hb dMD_sumOf_0 (by decide) ?_
  refine lv_istore_n hx hb dMD_sumOf_1 rfl hl (Nat.le_of_ble_eq_true rfl) rfl (fun ls hl => ?_)
  have hl : lv_has ls 5 [(3, .int 0), (0, .ref a), (1, .int 0), (2, .int 0)] := hl
  refine lv_iload_n hx hb dMD_sumOf_2 rfl (lv_at hl 2 rfl) ?_
  refine lv_istore hx hb dMD_sumOf_3 hl (Nat.le_of_ble_eq_true rfl) rfl (fun ls hl => ?_)
  have hl : lv_has ls 5 [(4, .int 0), (3, .int 0), (0, .ref a), (1, .int 0), (2, .int 0)] := hl
  refine lv_iload hx hb dMD_sumOf_5 (lv_at hl 0 rfl) ?_
  refine lv_iload_n hx hb dMD_sumOf_7 rfl (lv_at hl 4 rfl) ?_
  refine lv_icmp_ge (tgt := 24) hx hb dMD_sumOf_8 rfl (fun _ => ?_) (fun h => absurd (by decide) h)
  refine lv_iload_n hx hb dMD_sumOf_24 rfl (lv_at hl 1 rfl) ?_
  subst hQ
  exact zp_iret hx hb hr hlocks (rfl) dMD_sumOf_25

set_option maxHeartbeats 4000000 in
set_option maxRecDepth 100000 in
theorem c_MD_room (l : Launch) (dC : Nat → ClassId) (dI : Nat → Nat → Nat) (h0 : Nat) (b0 : Nat) (b1 : Nat) (b2 : Nat) (b3 : Nat) (b4 : Nat) (b5 : Nat) (b6 : Nat) (b7 : Nat) (b8 : Nat) (b9 : Nat) (b10 : Nat) (b11 : Nat) (b12 : Nat) (b13 : Nat) (b14 : Nat) (b15 : Nat) (b16 : Nat) (b17 : Nat) : zp_M l yMD_room wMD_room ({ frames := 1, cells := 0, slots := 0, locals := 22 }) [.ref h0] (dC, dI) vwCl [(h0, .inr (6, [.int 1, .ref b0, .ref b1, .int 0, .ref b2, .ref b3, .ref b4, .ref b5, .ref b6, .ref b7, .ref b8, .ref b9, .ref b10, .ref b11, .int (-1), .int 0, .int 0, .int 0, .int 0, .int 0, .ref b12, .ref b13, .ref b14, .ref b15, .ref b16, .ref b17]))] [] (fun _ => True) (fun r => r = 0) := by
  refine zp_head (cc := cMD_room) (maxL := 1) (ret := (some .int)) (by decide +kernel) rfl (Nat.le_of_ble_eq_true rfl) ?_
  intro p e s m below meth c ls F hP hK hX hl
  obtain ⟨hx, hb, hml, hr, hlocks, hown, hts⟩ := F
  have hown : s.vm.findClass "SpannedCellsModel" = some m.cls := hown
  have hz : ∀ w9 ∈ zT, w9.before [.ref h0].toArray s = true := fun w9 h => hts w9 (List.mem_cons_of_mem _ h)
  have hl : lv_has ls 1 [(0, .ref h0)] := hl
  refine z_q (fun Q hQ => ?_)
  refine lv_iconst (v := 0) hx hb dMD_room_0 (by decide) ?_
  refine lv_aload_n hx hb dMD_room_1 rfl (lv_at hl 0 rfl) ?_
  refine va_get (D := (dC, dI)) (ci := 6) (v := .int 0) (C := RMD) (T := TMD) (N := 26) hx hb hz in_MD hown hK hP 0 rfl rfl 17 (by decide) (hz _ wd_601) (fun _ h9 => h9) rfl dMD_room_2 ?_
  refine lv_aload_n hx hb dMD_room_5 rfl (lv_at hl 0 rfl) ?_
  refine va_get (D := (dC, dI)) (ci := 6) (v := .int 0) (C := RMD) (T := TMD) (N := 26) hx hb hz in_MD hown hK hP 0 rfl rfl 18 (by decide) (hz _ wd_602) (fun _ h9 => h9) rfl dMD_room_6 ?_
  refine lv_aload_n hx hb dMD_room_9 rfl (lv_at hl 0 rfl) ?_
  refine vp_callSi (W.runV (As := []) (rest := [.int 0, .int 0, .int 0]) ⟨hx, hb, hml, hown, hz⟩ (c_MD_columns l dC dI h0 b0 b1 b2 b3 b4 b5 b6 b7 b8 b9 b10 b11 b12 b13 b14 b15 b16 b17 ) (cwV 0 hz (z_gV wd_732 wd_701 wd_702 wd_37 wd_703) rfl rfl rfl (by decide +kernel) ⟨Nat.le_of_ble_eq_true rfl, Nat.le_of_ble_eq_true rfl⟩) (zp_preV (q0 := 0) (q := (RMD, TMD, 26)) hK hP rfl rfl [0] rfl [] rfl z_true (fun _ _ _ => trivial)) rfl rfl hl.1 rfl (lv_room (Nat.le_of_ble_eq_true rfl)) dMD_room_10 ⟨Nat.le_of_ble_eq_true rfl, Nat.le_of_ble_eq_true rfl⟩) (fun r1 h_r1 => ?_)
  have h_r1 : r1 = 0 := h_r1
  subst h_r1
  refine lv_iconst (v := 1) hx hb dMD_room_13 (by decide) ?_
  refine lv_iadd hx hb dMD_room_14 ?_
  refine lv_topi (fun x2 e3 => ?_)
  have e3 : x2 = 1 := e3.trans (by decide)
  subst e3
  refine lv_imul hx hb dMD_room_15 ?_
  refine lv_topi (fun x4 e5 => ?_)
  have e5 : x4 = 0 := e5.trans (by decide)
  subst e5
  refine lv_isub hx hb dMD_room_16 ?_
  refine lv_topi (fun x6 e7 => ?_)
  have e7 : x6 = 0 := e7.trans (by decide)
  subst e7
  refine vp_callSi (W.runS (As := [.int 0, .int 0]) (rest := []) ⟨hx, hb, hml, hown, hz⟩ (c_MD_greater l dC dI  ) (va_cwS 2 hz (z_gS wd_755 wd_756 wd_37 wd_757) rfl rfl rfl (by decide +kernel) ⟨Nat.le_of_ble_eq_true rfl, Nat.le_of_ble_eq_true rfl⟩) (zp_preS hK hP [] rfl [] rfl z_true (fun _ _ _ => trivial)) rfl rfl hl.1 rfl (lv_room (Nat.le_of_ble_eq_true rfl)) dMD_room_17 ⟨Nat.le_of_ble_eq_true rfl, Nat.le_of_ble_eq_true rfl⟩) (fun r8 h_r8 => ?_)
  have h_r8 : r8 = 0 := h_r8
  subst h_r8
  subst hQ
  exact zp_iret hx hb hr hlocks (rfl) dMD_room_20
end
section
set_option maxHeartbeats 4000000 in
set_option maxRecDepth 100000 in
theorem c_MD_group (l : Launch) (dC : Nat → ClassId) (dI : Nat → Nat → Nat) (h0 : Nat) (b0 : Nat) (b1 : Nat) (b2 : Nat) (b3 : Nat) (b4 : Nat) (b5 : Nat) (b6 : Nat) (b7 : Nat) (b8 : Nat) (b9 : Nat) (b10 : Nat) (b11 : Nat) (b12 : Nat) (b13 : Nat) (b14 : Nat) (b15 : Nat) (b16 : Nat) (b17 : Nat) (kb0 : ClassId) (kb1 : ClassId) : zw_Mi (S := Unit) l yMD_group wMD_group ({ frames := 1, cells := 0, slots := 0, locals := 24 }) [.ref h0] (dC, dI) vwCl [(h0, .inr (6, [.int 1, .ref b0, .ref b1, .int 0, .ref b2, .ref b3, .ref b4, .ref b5, .ref b6, .ref b7, .ref b8, .ref b9, .ref b10, .ref b11, .int (-1), .int 0, .int 0, .int 0, .int 0, .int 0, .ref b12, .ref b13, .ref b14, .ref b15, .ref b16, .ref b17])), (b0, .inl (kb0, 8, .inl (fun _ => 0))), (b1, .inl (kb1, 8, .inl (fun _ => 0)))] [(kb0, .int), (kb1, .int)] (fun _ _ => True) (fun r (_ : Unit) => r = 2) (fun (_ : Unit) => []) (fun (_ : Unit) => []) 0 0 := by
  refine zw_headi (cc := cMD_group) (maxL := 1) (ret := (some .int)) (by decide +kernel) rfl (Nat.le_of_ble_eq_true rfl) ?_
  intro p e s m below meth c ls A F hA hP hK hD hS hX hl
  obtain ⟨hx, hb, hml, hr, hlocks, hown, hts⟩ := F
  have hown : s.vm.findClass "SpannedCellsModel" = some m.cls := hown
  have hz : ∀ w9 ∈ zT, w9.before [.ref h0].toArray s = true := fun w9 h => hts w9 (List.mem_cons_of_mem _ h)
  have hl : lv_has ls 1 [(0, .ref h0)] := hl
  refine z_q (fun Q hQ => ?_)
  refine lv_aload_n hx hb dMD_group_0 rfl (lv_at hl 0 rfl) ?_
  refine va_get (D := (dC, dI)) (ci := 6) (v := .int 1) (C := RMD) (T := TMD) (N := 26) hx hb hz in_MD hown hK hP 0 rfl rfl 0 (by decide) (hz _ wd_584) (fun _ h9 => h9) rfl dMD_group_1 ?_
  refine lv_bipush (v := 8) hx hb dMD_group_4 (by decide) ?_
  refine lv_icmp_ne (tgt := 11) hx hb dMD_group_6 rfl (fun _ => ?_) (fun h => absurd h (by decide))
  refine lv_aload_n hx hb dMD_group_11 rfl (lv_at hl 0 rfl) ?_
  refine va_get (D := (dC, dI)) (ci := 6) (v := .ref b0) (C := RMD) (T := TMD) (N := 26) hx hb hz in_MD hown hK hP 0 rfl rfl 1 (by decide) (hz _ wd_585) (fun _ h9 => h9) rfl dMD_group_12 ?_
  refine lv_aload_n hx hb dMD_group_15 rfl (lv_at hl 0 rfl) ?_
  refine va_get (D := (dC, dI)) (ci := 6) (v := .int 1) (C := RMD) (T := TMD) (N := 26) hx hb hz in_MD hown hK hP 0 rfl rfl 0 (by decide) (hz _ wd_584) (fun _ h9 => h9) rfl dMD_group_16 ?_
  refine lv_aload_n hx hb dMD_group_19 rfl (lv_at hl 0 rfl) ?_
  refine lv_aload_n hx hb dMD_group_20 rfl (lv_at hl 0 rfl) ?_
  refine va_get (D := (dC, dI)) (ci := 6) (v := .int 1) (C := RMD) (T := TMD) (N := 26) hx hb hz in_MD hown hK hP 0 rfl rfl 0 (by decide) (hz _ wd_584) (fun _ h9 => h9) rfl dMD_group_21 ?_
  refine lv_iconst (v := 1) hx hb dMD_group_24 (by decide) ?_
  refine lv_isub hx hb dMD_group_25 ?_
  refine lv_topi (fun x1 e2 => ?_)
  have e2 : x1 = 0 := e2.trans (by decide)
  subst e2
  refine vp_callSi (W.runV (As := [.int 0]) (rest := [.int 1, .ref b0]) ⟨hx, hb, hml, hown, hz⟩ (c_MD_endOf l dC dI h0 b0 b1 b2 b3 b4 b5 b6 b7 b8 b9 b10 b11 b12 b13 b14 b15 b16 b17 kb0 kb1 ) (cwV 1 hz (z_gV wd_668 wd_670 wd_13 wd_37 wd_671) rfl rfl rfl (by decide +kernel) ⟨Nat.le_of_ble_eq_true rfl, Nat.le_of_ble_eq_true rfl⟩) (zp_preV (q0 := 0) (q := (RMD, TMD, 26)) hK hP rfl rfl [0, 1, 2] rfl [0, 1] rfl z_true (fun _ _ _ => trivial)) rfl rfl hl.1 rfl (lv_room (Nat.le_of_ble_eq_true rfl)) dMD_group_26 ⟨Nat.le_of_ble_eq_true rfl, Nat.le_of_ble_eq_true rfl⟩) (fun r3 h_r3 => ?_)
  have h_r3 : r3 = 0 := h_r3
  subst h_r3
  refine va_iast hx hb hK hP hD hS 1 0 rfl rfl (by unfold vp_in; decide) dMD_group_29 (fun H locs hP hD hS => ?_)
  have hP : va_P (dC, dI) vwCl [(h0, .inr (6, [.int 1, .ref b0, .ref b1, .int 0, .ref b2, .ref b3, .ref b4, .ref b5, .ref b6, .ref b7, .ref b8, .ref b9, .ref b10, .ref b11, .int (-1), .int 0, .int 0, .int 0, .int 0, .int 0, .ref b12, .ref b13, .ref b14, .ref b15, .ref b16, .ref b17])), (b0, .inl (kb0, 8, .inl (upd (fun _ => 0) (1 : Int32).toNatClampNeg 0))), (b1, .inl (kb1, 8, .inl (fun _ => 0)))] H := hP
  have hD : va_D A [(h0, .inr (6, [.int 1, .ref b0, .ref b1, .int 0, .ref b2, .ref b3, .ref b4, .ref b5, .ref b6, .ref b7, .ref b8, .ref b9, .ref b10, .ref b11, .int (-1), .int 0, .int 0, .int 0, .int 0, .int 0, .ref b12, .ref b13, .ref b14, .ref b15, .ref b16, .ref b17])), (b0, .inl (kb0, 8, .inl (upd (fun _ => 0) (1 : Int32).toNatClampNeg 0))), (b1, .inl (kb1, 8, .inl (fun _ => 0)))] := hD
  refine lv_aload_n hx hb dMD_group_30 rfl (lv_at hl 0 rfl) ?_
  refine va_get (D := (dC, dI)) (ci := 6) (v := .ref b1) (C := RMD) (T := TMD) (N := 26) hx hb hz in_MD hown hK hP 0 rfl rfl 2 (by decide) (hz _ wd_586) (fun _ h9 => h9) rfl dMD_group_31 ?_
  refine lv_aload_n hx hb dMD_group_34 rfl (lv_at hl 0 rfl) ?_
  refine va_get (D := (dC, dI)) (ci := 6) (v := .int 1) (C := RMD) (T := TMD) (N := 26) hx hb hz in_MD hown hK hP 0 rfl rfl 0 (by decide) (hz _ wd_584) (fun _ h9 => h9) rfl dMD_group_35 ?_
  refine lv_iconst (v := 0) hx hb dMD_group_38 (by decide) ?_
  refine va_iast hx hb hK hP hD hS 2 1 rfl rfl (by unfold vp_in; decide) dMD_group_39 (fun H locs hP hD hS => ?_)
  have hP : va_P (dC, dI) vwCl [(h0, .inr (6, [.int 1, .ref b0, .ref b1, .int 0, .ref b2, .ref b3, .ref b4, .ref b5, .ref b6, .ref b7, .ref b8, .ref b9, .ref b10, .ref b11, .int (-1), .int 0, .int 0, .int 0, .int 0, .int 0, .ref b12, .ref b13, .ref b14, .ref b15, .ref b16, .ref b17])), (b0, .inl (kb0, 8, .inl (upd (fun _ => 0) (1 : Int32).toNatClampNeg 0))), (b1, .inl (kb1, 8, .inl (upd (fun _ => 0) (1 : Int32).toNatClampNeg 0)))] H := hP
  have hD : va_D A [(h0, .inr (6, [.int 1, .ref b0, .ref b1, .int 0, .ref b2, .ref b3, .ref b4, .ref b5, .ref b6, .ref b7, .ref b8, .ref b9, .ref b10, .ref b11, .int (-1), .int 0, .int 0, .int 0, .int 0, .int 0, .ref b12, .ref b13, .ref b14, .ref b15, .ref b16, .ref b17])), (b0, .inl (kb0, 8, .inl (upd (fun _ => 0) (1 : Int32).toNatClampNeg 0))), (b1, .inl (kb1, 8, .inl (upd (fun _ => 0) (1 : Int32).toNatClampNeg 0)))] := hD
  refine lv_aload_n hx hb dMD_group_40 rfl (lv_at hl 0 rfl) ?_
  refine lv_aload_n hx hb dMD_group_41 rfl (lv_at hl 0 rfl) ?_
  refine va_get (D := (dC, dI)) (ci := 6) (v := .int 1) (C := RMD) (T := TMD) (N := 26) hx hb hz in_MD hown hK hP 0 rfl rfl 0 (by decide) (hz _ wd_584) (fun _ h9 => h9) rfl dMD_group_42 ?_
  refine lv_iconst (v := 1) hx hb dMD_group_45 (by decide) ?_
  refine lv_iadd hx hb dMD_group_46 ?_
  refine lv_topi (fun x4 e5 => ?_)
  have e5 : x4 = 2 := e5.trans (by decide)
  subst e5
  refine va_put (D := (dC, dI)) (ci := 6) (v := .int 2) (ty := .int) (C := RMD) (T := TMD) (N := 26) hx hb hz in_MD tyMD tokMD nokMD hown hK hP hD hS 0 rfl rfl 0 (by decide) (hz _ wd_584) (fun _ h9 => h9) rfl (by decide +kernel) rfl rfl (Nat.le_of_ble_eq_true rfl) dMD_group_47 (fun H locs hP hD hS => ?_)
  have hP : va_P (dC, dI) vwCl [(h0, .inr (6, [.int 2, .ref b0, .ref b1, .int 0, .ref b2, .ref b3, .ref b4, .ref b5, .ref b6, .ref b7, .ref b8, .ref b9, .ref b10, .ref b11, .int (-1), .int 0, .int 0, .int 0, .int 0, .int 0, .ref b12, .ref b13, .ref b14, .ref b15, .ref b16, .ref b17])), (b0, .inl (kb0, 8, .inl (upd (fun _ => 0) (1 : Int32).toNatClampNeg 0))), (b1, .inl (kb1, 8, .inl (upd (fun _ => 0) (1 : Int32).toNatClampNeg 0)))] H := hP
  have hD : va_D A [(h0, .inr (6, [.int 2, .ref b0, .ref b1, .int 0, .ref b2, .ref b3, .ref b4, .ref b5, .ref b6, .ref b7, .ref b8, .ref b9, .ref b10, .ref b11, .int (-1), .int 0, .int 0, .int 0, .int 0, .int 0, .ref b12, .ref b13, .ref b14, .ref b15, .ref b16, .ref b17])), (b0, .inl (kb0, 8, .inl (upd (fun _ => 0) (1 : Int32).toNatClampNeg 0))), (b1, .inl (kb1, 8, .inl (upd (fun _ => 0) (1 : Int32).toNatClampNeg 0)))] := hD
  refine lv_aload_n hx hb dMD_group_50 rfl (lv_at hl 0 rfl) ?_
  refine va_get (D := (dC, dI)) (ci := 6) (v := .int 2) (C := RMD) (T := TMD) (N := 26) hx hb hz in_MD hown hK hP 0 rfl rfl 0 (by decide) (hz _ wd_584) (fun _ h9 => h9) rfl dMD_group_51 ?_
  subst hQ
  exact zw_iret (D := (dC, dI)) (cl := vwCl) (A := A) () hx hb hr hlocks (rfl) (hP.sub [] rfl) (hK.sub [] rfl) (hD.sub [] (by decide) rfl) hS dMD_group_54

set_option maxHeartbeats 4000000 in
set_option maxRecDepth 100000 in
theorem c_MD_row (l : Launch) (dC : Nat → ClassId) (dI : Nat → Nat → Nat) (h0 : Nat) (b0 : Nat) (b1 : Nat) (b2 : Nat) (b3 : Nat) (b4 : Nat) (b5 : Nat) (b6 : Nat) (b7 : Nat) (b8 : Nat) (b9 : Nat) (b10 : Nat) (b11 : Nat) (b12 : Nat) (b13 : Nat) (b14 : Nat) (b15 : Nat) (b16 : Nat) (b17 : Nat) (kb0 : ClassId) (kb1 : ClassId) : zw_Mi (S := Unit) l yMD_row wMD_row ({ frames := 0, cells := 0, slots := 0, locals := 0 }) [.ref h0] (dC, dI) vwCl [(h0, .inr (6, [.int 1, .ref b0, .ref b1, .int 0, .ref b2, .ref b3, .ref b4, .ref b5, .ref b6, .ref b7, .ref b8, .ref b9, .ref b10, .ref b11, .int (-1), .int 0, .int 0, .int 0, .int 0, .int 0, .ref b12, .ref b13, .ref b14, .ref b15, .ref b16, .ref b17])), (b0, .inl (kb0, 8, .inl (fun _ => 0))), (b1, .inl (kb1, 8, .inl (fun _ => 0)))] [(kb0, .int), (kb1, .int)] (fun _ _ => True) (fun r (_ : Unit) => r = 0) (fun (_ : Unit) => []) (fun (_ : Unit) => []) 0 0 := by
  refine zw_headi (cc := cMD_row) (maxL := 3) (ret := (some .int)) (by decide +kernel) rfl (Nat.le_of_ble_eq_true rfl) ?_
  intro p e s m below meth c ls A F hA hP hK hD hS hX hl
  obtain ⟨hx, hb, hml, hr, hlocks, hown, hts⟩ := F
  have hown : s.vm.findClass "SpannedCellsModel" = some m.cls := hown
  have hz : ∀ w9 ∈ zT, w9.before [.ref h0].toArray s = true := fun w9 h => hts w9 (List.mem_cons_of_mem _ h)
  have hl : lv_has ls 3 [(0, .ref h0)] := hl
  refine z_q (fun Q hQ => ?_)
  refine lv_aload_n hx hb dMD_row_0 rfl (lv_at hl 0 rfl) ?_
  refine va_get (D := (dC, dI)) (ci := 6) (v := .int 1) (C := RMD) (T := TMD) (N := 26) hx hb hz in_MD hown hK hP 0 rfl rfl 0 (by decide) (hz _ wd_584) (fun _ h9 => h9) rfl dMD_row_1 ?_
  refine lv_iconst (v := 1) hx hb dMD_row_4 (by decide) ?_
  refine lv_isub hx hb dMD_row_5 ?_
  refine lv_topi (fun x1 e2 => ?_)
  have e2 : x1 = 0 := e2.trans (by decide)
  subst e2
  refine lv_istore_n hx hb dMD_row_6 rfl hl (Nat.le_of_ble_eq_true rfl) rfl (fun ls hl => ?_)
  have hl : lv_has ls 3 [(1, .int 0), (0, .ref h0)] := hl
  refine lv_aload_n hx hb dMD_row_7 rfl (lv_at hl 1 rfl) ?_
  refine va_get (D := (dC, dI)) (ci := 6) (v := .ref b0) (C := RMD) (T := TMD) (N := 26) hx hb hz in_MD hown hK hP 0 rfl rfl 1 (by decide) (hz _ wd_585) (fun _ h9 => h9) rfl dMD_row_8 ?_
  refine lv_iload_n hx hb dMD_row_11 rfl (lv_at hl 0 rfl) ?_
  refine va_iald hx hb hK hP 1 0 rfl rfl (by unfold vp_in; decide) dMD_row_12 ?_
  refine lv_topi (fun x3 e4 => ?_)
  have e4 : x3 = 0 := e4.trans (rfl)
  subst e4
  refine lv_aload_n hx hb dMD_row_13 rfl (lv_at hl 1 rfl) ?_
  refine va_get (D := (dC, dI)) (ci := 6) (v := .ref b1) (C := RMD) (T := TMD) (N := 26) hx hb hz in_MD hown hK hP 0 rfl rfl 2 (by decide) (hz _ wd_586) (fun _ h9 => h9) rfl dMD_row_14 ?_
  refine lv_iload_n hx hb dMD_row_17 rfl (lv_at hl 0 rfl) ?_
  refine va_iald hx hb hK hP 2 1 rfl rfl (by unfold vp_in; decide) dMD_row_18 ?_
  refine lv_topi (fun x5 e6 => ?_)
  have e6 : x5 = 0 := e6.trans (rfl)
  subst e6
  refine lv_iadd hx hb dMD_row_19 ?_
  refine lv_topi (fun x7 e8 => ?_)
  have e8 : x7 = 0 := e8.trans (by decide)
  subst e8
  refine lv_istore_n hx hb dMD_row_20 rfl hl (Nat.le_of_ble_eq_true rfl) rfl (fun ls hl => ?_)
  have hl : lv_has ls 3 [(2, .int 0), (1, .int 0), (0, .ref h0)] := hl
  refine lv_iload_n hx hb dMD_row_21 rfl (lv_at hl 0 rfl) ?_
  refine lv_bipush (v := 11) hx hb dMD_row_22 (by decide) ?_
  refine lv_icmp_le (tgt := 29) hx hb dMD_row_24 rfl (fun _ => ?_) (fun h => absurd (by decide) h)
  refine lv_aload_n hx hb dMD_row_29 rfl (lv_at hl 2 rfl) ?_
  refine va_get (D := (dC, dI)) (ci := 6) (v := .ref b1) (C := RMD) (T := TMD) (N := 26) hx hb hz in_MD hown hK hP 0 rfl rfl 2 (by decide) (hz _ wd_586) (fun _ h9 => h9) rfl dMD_row_30 ?_
  refine lv_iload_n hx hb dMD_row_33 rfl (lv_at hl 1 rfl) ?_
  refine lv_aload_n hx hb dMD_row_34 rfl (lv_at hl 2 rfl) ?_
  refine va_get (D := (dC, dI)) (ci := 6) (v := .ref b1) (C := RMD) (T := TMD) (N := 26) hx hb hz in_MD hown hK hP 0 rfl rfl 2 (by decide) (hz _ wd_586) (fun _ h9 => h9) rfl dMD_row_35 ?_
  refine lv_iload_n hx hb dMD_row_38 rfl (lv_at hl 1 rfl) ?_
  refine va_iald hx hb hK hP 2 1 rfl rfl (by unfold vp_in; decide) dMD_row_39 ?_
  refine lv_topi (fun x9 e10 => ?_)
  have e10 : x9 = 0 := e10.trans (rfl)
  subst e10
  refine lv_iconst (v := 1) hx hb dMD_row_40 (by decide) ?_
  refine lv_iadd hx hb dMD_row_41 ?_
  refine lv_topi (fun x11 e12 => ?_)
  have e12 : x11 = 1 := e12.trans (by decide)
  subst e12
  refine va_iast hx hb hK hP hD hS 2 1 rfl rfl (by unfold vp_in; decide) dMD_row_42 (fun H locs hP hD hS => ?_)
  have hP : va_P (dC, dI) vwCl [(h0, .inr (6, [.int 1, .ref b0, .ref b1, .int 0, .ref b2, .ref b3, .ref b4, .ref b5, .ref b6, .ref b7, .ref b8, .ref b9, .ref b10, .ref b11, .int (-1), .int 0, .int 0, .int 0, .int 0, .int 0, .ref b12, .ref b13, .ref b14, .ref b15, .ref b16, .ref b17])), (b0, .inl (kb0, 8, .inl (fun _ => 0))), (b1, .inl (kb1, 8, .inl (upd (fun _ => 0) (0 : Int32).toNatClampNeg 1)))] H := hP
  have hD : va_D A [(h0, .inr (6, [.int 1, .ref b0, .ref b1, .int 0, .ref b2, .ref b3, .ref b4, .ref b5, .ref b6, .ref b7, .ref b8, .ref b9, .ref b10, .ref b11, .int (-1), .int 0, .int 0, .int 0, .int 0, .int 0, .ref b12, .ref b13, .ref b14, .ref b15, .ref b16, .ref b17])), (b0, .inl (kb0, 8, .inl (fun _ => 0))), (b1, .inl (kb1, 8, .inl (upd (fun _ => 0) (0 : Int32).toNatClampNeg 1)))] := hD
  refine lv_aload_n hx hb dMD_row_43 rfl (lv_at hl 2 rfl) ?_
  refine lv_iload_n hx hb dMD_row_44 rfl (lv_at hl 1 rfl) ?_
  refine va_put (D := (dC, dI)) (ci := 6) (v := .int 0) (ty := .int) (C := RMD) (T := TMD) (N := 26) hx hb hz in_MD tyMD tokMD nokMD hown hK hP hD hS 0 rfl rfl 14 (by decide) (hz _ wd_598) (fun _ h9 => h9) rfl (by decide +kernel) rfl rfl (Nat.le_of_ble_eq_true rfl) dMD_row_45 (fun H locs hP hD hS => ?_)
  have hP : va_P (dC, dI) vwCl [(h0, .inr (6, [.int 1, .ref b0, .ref b1, .int 0, .ref b2, .ref b3, .ref b4, .ref b5, .ref b6, .ref b7, .ref b8, .ref b9, .ref b10, .ref b11, .int 0, .int 0, .int 0, .int 0, .int 0, .int 0, .ref b12, .ref b13, .ref b14, .ref b15, .ref b16, .ref b17])), (b0, .inl (kb0, 8, .inl (fun _ => 0))), (b1, .inl (kb1, 8, .inl (upd (fun _ => 0) (0 : Int32).toNatClampNeg 1)))] H := hP
  have hD : va_D A [(h0, .inr (6, [.int 1, .ref b0, .ref b1, .int 0, .ref b2, .ref b3, .ref b4, .ref b5, .ref b6, .ref b7, .ref b8, .ref b9, .ref b10, .ref b11, .int 0, .int 0, .int 0, .int 0, .int 0, .int 0, .ref b12, .ref b13, .ref b14, .ref b15, .ref b16, .ref b17])), (b0, .inl (kb0, 8, .inl (fun _ => 0))), (b1, .inl (kb1, 8, .inl (upd (fun _ => 0) (0 : Int32).toNatClampNeg 1)))] := hD
  refine lv_aload_n hx hb dMD_row_48 rfl (lv_at hl 2 rfl) ?_
  refine lv_iload_n hx hb dMD_row_49 rfl (lv_at hl 0 rfl) ?_
  refine va_put (D := (dC, dI)) (ci := 6) (v := .int 0) (ty := .int) (C := RMD) (T := TMD) (N := 26) hx hb hz in_MD tyMD tokMD nokMD hown hK hP hD hS 0 rfl rfl 15 (by decide) (hz _ wd_599) (fun _ h9 => h9) rfl (by decide +kernel) rfl rfl (Nat.le_of_ble_eq_true rfl) dMD_row_50 (fun H locs hP hD hS => ?_)
  have hP : va_P (dC, dI) vwCl [(h0, .inr (6, [.int 1, .ref b0, .ref b1, .int 0, .ref b2, .ref b3, .ref b4, .ref b5, .ref b6, .ref b7, .ref b8, .ref b9, .ref b10, .ref b11, .int 0, .int 0, .int 0, .int 0, .int 0, .int 0, .ref b12, .ref b13, .ref b14, .ref b15, .ref b16, .ref b17])), (b0, .inl (kb0, 8, .inl (fun _ => 0))), (b1, .inl (kb1, 8, .inl (upd (fun _ => 0) (0 : Int32).toNatClampNeg 1)))] H := hP
  have hD : va_D A [(h0, .inr (6, [.int 1, .ref b0, .ref b1, .int 0, .ref b2, .ref b3, .ref b4, .ref b5, .ref b6, .ref b7, .ref b8, .ref b9, .ref b10, .ref b11, .int 0, .int 0, .int 0, .int 0, .int 0, .int 0, .ref b12, .ref b13, .ref b14, .ref b15, .ref b16, .ref b17])), (b0, .inl (kb0, 8, .inl (fun _ => 0))), (b1, .inl (kb1, 8, .inl (upd (fun _ => 0) (0 : Int32).toNatClampNeg 1)))] := hD
  refine lv_aload_n hx hb dMD_row_53 rfl (lv_at hl 2 rfl) ?_
  refine lv_iconst (v := 0) hx hb dMD_row_54 (by decide) ?_
  refine va_put (D := (dC, dI)) (ci := 6) (v := .int 0) (ty := .int) (C := RMD) (T := TMD) (N := 26) hx hb hz in_MD tyMD tokMD nokMD hown hK hP hD hS 0 rfl rfl 16 (by decide) (hz _ wd_600) (fun _ h9 => h9) rfl (by decide +kernel) rfl rfl (Nat.le_of_ble_eq_true rfl) dMD_row_55 (fun H locs hP hD hS => ?_)
  have hP : va_P (dC, dI) vwCl [(h0, .inr (6, [.int 1, .ref b0, .ref b1, .int 0, .ref b2, .ref b3, .ref b4, .ref b5, .ref b6, .ref b7, .ref b8, .ref b9, .ref b10, .ref b11, .int 0, .int 0, .int 0, .int 0, .int 0, .int 0, .ref b12, .ref b13, .ref b14, .ref b15, .ref b16, .ref b17])), (b0, .inl (kb0, 8, .inl (fun _ => 0))), (b1, .inl (kb1, 8, .inl (upd (fun _ => 0) (0 : Int32).toNatClampNeg 1)))] H := hP
  have hD : va_D A [(h0, .inr (6, [.int 1, .ref b0, .ref b1, .int 0, .ref b2, .ref b3, .ref b4, .ref b5, .ref b6, .ref b7, .ref b8, .ref b9, .ref b10, .ref b11, .int 0, .int 0, .int 0, .int 0, .int 0, .int 0, .ref b12, .ref b13, .ref b14, .ref b15, .ref b16, .ref b17])), (b0, .inl (kb0, 8, .inl (fun _ => 0))), (b1, .inl (kb1, 8, .inl (upd (fun _ => 0) (0 : Int32).toNatClampNeg 1)))] := hD
  refine lv_iload_n hx hb dMD_row_58 rfl (lv_at hl 0 rfl) ?_
  subst hQ
  exact zw_iret (D := (dC, dI)) (cl := vwCl) (A := A) () hx hb hr hlocks (rfl) (hP.sub [] rfl) (hK.sub [] rfl) (hD.sub [] (by decide) rfl) hS dMD_row_59

set_option maxHeartbeats 4000000 in
set_option maxRecDepth 100000 in
theorem c_MD_clear (l : Launch) (dC : Nat → ClassId) (dI : Nat → Nat → Nat) (h0 : Nat) (b0 : Nat) (b1 : Nat) (b2 : Nat) (b3 : Nat) (b4 : Nat) (b5 : Nat) (b6 : Nat) (b7 : Nat) (b8 : Nat) (b9 : Nat) (b10 : Nat) (b11 : Nat) (b12 : Nat) (b13 : Nat) (b14 : Nat) (b15 : Nat) (b16 : Nat) (b17 : Nat) (kb0 : ClassId) (kb1 : ClassId) : zw_Mi (S := Unit) l yMD_clear wMD_clear ({ frames := 0, cells := 0, slots := 0, locals := 0 }) [.ref h0] (dC, dI) vwCl [(h0, .inr (6, [.int 1, .ref b0, .ref b1, .int 0, .ref b2, .ref b3, .ref b4, .ref b5, .ref b6, .ref b7, .ref b8, .ref b9, .ref b10, .ref b11, .int (-1), .int 0, .int 0, .int 0, .int 0, .int 0, .ref b12, .ref b13, .ref b14, .ref b15, .ref b16, .ref b17])), (b0, .inl (kb0, 8, .inl (fun _ => 0))), (b1, .inl (kb1, 8, .inl (fun _ => 0)))] [(kb0, .int), (kb1, .int)] (fun _ _ => True) (fun r (_ : Unit) => r = 0) (fun (_ : Unit) => []) (fun (_ : Unit) => []) 0 0 := by
  refine zw_headi (cc := cMD_clear) (maxL := 2) (ret := (some .int)) (by decide +kernel) rfl (Nat.le_of_ble_eq_true rfl) ?_
  intro p e s m below meth c ls A F hA hP hK hD hS hX hl
  obtain ⟨hx, hb, hml, hr, hlocks, hown, hts⟩ := F
  have hown : s.vm.findClass "SpannedCellsModel" = some m.cls := hown
  have hz : ∀ w9 ∈ zT, w9.before [.ref h0].toArray s = true := fun w9 h => hts w9 (List.mem_cons_of_mem _ h)
  have hl : lv_has ls 2 [(0, .ref h0)] := hl
  refine z_q (fun Q hQ => ?_)
  refine lv_aload_n hx hb dMD_clear_0 rfl (lv_at hl 0 rfl) ?_
  refine va_get (D := (dC, dI)) (ci := 6) (v := .int 0) (C := RMD) (T := TMD) (N := 26) hx hb hz in_MD hown hK hP 0 rfl rfl 3 (by decide) (hz _ wd_587) (fun _ h9 => h9) rfl dMD_clear_1 ?_
  refine lv_istore_n hx hb dMD_clear_4 rfl hl (Nat.le_of_ble_eq_true rfl) rfl (fun ls hl => ?_)
  have hl : lv_has ls 2 [(1, .int 0), (0, .ref h0)] := hl
  refine lv_aload_n hx hb dMD_clear_5 rfl (lv_at hl 1 rfl) ?_
  refine lv_iconst (v := 0) hx hb dMD_clear_6 (by decide) ?_
  refine va_put (D := (dC, dI)) (ci := 6) (v := .int 0) (ty := .int) (C := RMD) (T := TMD) (N := 26) hx hb hz in_MD tyMD tokMD nokMD hown hK hP hD hS 0 rfl rfl 3 (by decide) (hz _ wd_587) (fun _ h9 => h9) rfl (by decide +kernel) rfl rfl (Nat.le_of_ble_eq_true rfl) dMD_clear_7 (fun H locs hP hD hS => ?_)
  have hP : va_P (dC, dI) vwCl [(h0, .inr (6, [.int 1, .ref b0, .ref b1, .int 0, .ref b2, .ref b3, .ref b4, .ref b5, .ref b6, .ref b7, .ref b8, .ref b9, .ref b10, .ref b11, .int (-1), .int 0, .int 0, .int 0, .int 0, .int 0, .ref b12, .ref b13, .ref b14, .ref b15, .ref b16, .ref b17])), (b0, .inl (kb0, 8, .inl (fun _ => 0))), (b1, .inl (kb1, 8, .inl (fun _ => 0)))] H := hP
  have hD : va_D A [(h0, .inr (6, [.int 1, .ref b0, .ref b1, .int 0, .ref b2, .ref b3, .ref b4, .ref b5, .ref b6, .ref b7, .ref b8, .ref b9, .ref b10, .ref b11, .int (-1), .int 0, .int 0, .int 0, .int 0, .int 0, .ref b12, .ref b13, .ref b14, .ref b15, .ref b16, .ref b17])), (b0, .inl (kb0, 8, .inl (fun _ => 0))), (b1, .inl (kb1, 8, .inl (fun _ => 0)))] := hD
  refine lv_aload_n hx hb dMD_clear_10 rfl (lv_at hl 1 rfl) ?_
  refine lv_iconst (v := 1) hx hb dMD_clear_11 (by decide) ?_
  refine va_put (D := (dC, dI)) (ci := 6) (v := .int 1) (ty := .int) (C := RMD) (T := TMD) (N := 26) hx hb hz in_MD tyMD tokMD nokMD hown hK hP hD hS 0 rfl rfl 0 (by decide) (hz _ wd_584) (fun _ h9 => h9) rfl (by decide +kernel) rfl rfl (Nat.le_of_ble_eq_true rfl) dMD_clear_12 (fun H locs hP hD hS => ?_)
  have hP : va_P (dC, dI) vwCl [(h0, .inr (6, [.int 1, .ref b0, .ref b1, .int 0, .ref b2, .ref b3, .ref b4, .ref b5, .ref b6, .ref b7, .ref b8, .ref b9, .ref b10, .ref b11, .int (-1), .int 0, .int 0, .int 0, .int 0, .int 0, .ref b12, .ref b13, .ref b14, .ref b15, .ref b16, .ref b17])), (b0, .inl (kb0, 8, .inl (fun _ => 0))), (b1, .inl (kb1, 8, .inl (fun _ => 0)))] H := hP
  have hD : va_D A [(h0, .inr (6, [.int 1, .ref b0, .ref b1, .int 0, .ref b2, .ref b3, .ref b4, .ref b5, .ref b6, .ref b7, .ref b8, .ref b9, .ref b10, .ref b11, .int (-1), .int 0, .int 0, .int 0, .int 0, .int 0, .ref b12, .ref b13, .ref b14, .ref b15, .ref b16, .ref b17])), (b0, .inl (kb0, 8, .inl (fun _ => 0))), (b1, .inl (kb1, 8, .inl (fun _ => 0)))] := hD
  refine lv_aload_n hx hb dMD_clear_15 rfl (lv_at hl 1 rfl) ?_
  refine va_get (D := (dC, dI)) (ci := 6) (v := .ref b0) (C := RMD) (T := TMD) (N := 26) hx hb hz in_MD hown hK hP 0 rfl rfl 1 (by decide) (hz _ wd_585) (fun _ h9 => h9) rfl dMD_clear_16 ?_
  refine lv_iconst (v := 0) hx hb dMD_clear_19 (by decide) ?_
  refine lv_iconst (v := 0) hx hb dMD_clear_20 (by decide) ?_
  refine va_iast hx hb hK hP hD hS 1 0 rfl rfl (by unfold vp_in; decide) dMD_clear_21 (fun H locs hP hD hS => ?_)
  have hP : va_P (dC, dI) vwCl [(h0, .inr (6, [.int 1, .ref b0, .ref b1, .int 0, .ref b2, .ref b3, .ref b4, .ref b5, .ref b6, .ref b7, .ref b8, .ref b9, .ref b10, .ref b11, .int (-1), .int 0, .int 0, .int 0, .int 0, .int 0, .ref b12, .ref b13, .ref b14, .ref b15, .ref b16, .ref b17])), (b0, .inl (kb0, 8, .inl (upd (fun _ => 0) (0 : Int32).toNatClampNeg 0))), (b1, .inl (kb1, 8, .inl (fun _ => 0)))] H := hP
  have hD : va_D A [(h0, .inr (6, [.int 1, .ref b0, .ref b1, .int 0, .ref b2, .ref b3, .ref b4, .ref b5, .ref b6, .ref b7, .ref b8, .ref b9, .ref b10, .ref b11, .int (-1), .int 0, .int 0, .int 0, .int 0, .int 0, .ref b12, .ref b13, .ref b14, .ref b15, .ref b16, .ref b17])), (b0, .inl (kb0, 8, .inl (upd (fun _ => 0) (0 : Int32).toNatClampNeg 0))), (b1, .inl (kb1, 8, .inl (fun _ => 0)))] := hD
  refine lv_aload_n hx hb dMD_clear_22 rfl (lv_at hl 1 rfl) ?_
  refine va_get (D := (dC, dI)) (ci := 6) (v := .ref b1) (C := RMD) (T := TMD) (N := 26) hx hb hz in_MD hown hK hP 0 rfl rfl 2 (by decide) (hz _ wd_586) (fun _ h9 => h9) rfl dMD_clear_23 ?_
  refine lv_iconst (v := 0) hx hb dMD_clear_26 (by decide) ?_
  refine lv_iconst (v := 0) hx hb dMD_clear_27 (by decide) ?_
  refine va_iast hx hb hK hP hD hS 2 1 rfl rfl (by unfold vp_in; decide) dMD_clear_28 (fun H locs hP hD hS => ?_)
  have hP : va_P (dC, dI) vwCl [(h0, .inr (6, [.int 1, .ref b0, .ref b1, .int 0, .ref b2, .ref b3, .ref b4, .ref b5, .ref b6, .ref b7, .ref b8, .ref b9, .ref b10, .ref b11, .int (-1), .int 0, .int 0, .int 0, .int 0, .int 0, .ref b12, .ref b13, .ref b14, .ref b15, .ref b16, .ref b17])), (b0, .inl (kb0, 8, .inl (upd (fun _ => 0) (0 : Int32).toNatClampNeg 0))), (b1, .inl (kb1, 8, .inl (upd (fun _ => 0) (0 : Int32).toNatClampNeg 0)))] H := hP
  have hD : va_D A [(h0, .inr (6, [.int 1, .ref b0, .ref b1, .int 0, .ref b2, .ref b3, .ref b4, .ref b5, .ref b6, .ref b7, .ref b8, .ref b9, .ref b10, .ref b11, .int (-1), .int 0, .int 0, .int 0, .int 0, .int 0, .ref b12, .ref b13, .ref b14, .ref b15, .ref b16, .ref b17])), (b0, .inl (kb0, 8, .inl (upd (fun _ => 0) (0 : Int32).toNatClampNeg 0))), (b1, .inl (kb1, 8, .inl (upd (fun _ => 0) (0 : Int32).toNatClampNeg 0)))] := hD
  refine lv_aload_n hx hb dMD_clear_29 rfl (lv_at hl 1 rfl) ?_
  refine lv_iconst (v := (-1)) hx hb dMD_clear_30 (by decide) ?_
  refine va_put (D := (dC, dI)) (ci := 6) (v := .int (-1)) (ty := .int) (C := RMD) (T := TMD) (N := 26) hx hb hz in_MD tyMD tokMD nokMD hown hK hP hD hS 0 rfl rfl 14 (by decide) (hz _ wd_598) (fun _ h9 => h9) rfl (by decide +kernel) rfl rfl (Nat.le_of_ble_eq_true rfl) dMD_clear_31 (fun H locs hP hD hS => ?_)
  have hP : va_P (dC, dI) vwCl [(h0, .inr (6, [.int 1, .ref b0, .ref b1, .int 0, .ref b2, .ref b3, .ref b4, .ref b5, .ref b6, .ref b7, .ref b8, .ref b9, .ref b10, .ref b11, .int (-1), .int 0, .int 0, .int 0, .int 0, .int 0, .ref b12, .ref b13, .ref b14, .ref b15, .ref b16, .ref b17])), (b0, .inl (kb0, 8, .inl (upd (fun _ => 0) (0 : Int32).toNatClampNeg 0))), (b1, .inl (kb1, 8, .inl (upd (fun _ => 0) (0 : Int32).toNatClampNeg 0)))] H := hP
  have hD : va_D A [(h0, .inr (6, [.int 1, .ref b0, .ref b1, .int 0, .ref b2, .ref b3, .ref b4, .ref b5, .ref b6, .ref b7, .ref b8, .ref b9, .ref b10, .ref b11, .int (-1), .int 0, .int 0, .int 0, .int 0, .int 0, .ref b12, .ref b13, .ref b14, .ref b15, .ref b16, .ref b17])), (b0, .inl (kb0, 8, .inl (upd (fun _ => 0) (0 : Int32).toNatClampNeg 0))), (b1, .inl (kb1, 8, .inl (upd (fun _ => 0) (0 : Int32).toNatClampNeg 0)))] := hD
  refine lv_iload_n hx hb dMD_clear_34 rfl (lv_at hl 0 rfl) ?_
  subst hQ
  exact zw_iret (D := (dC, dI)) (cl := vwCl) (A := A) () hx hb hr hlocks (rfl) (hP.sub [] rfl) (hK.sub [] rfl) (hD.sub [] (by decide) rfl) hS dMD_clear_35

set_option maxHeartbeats 4000000 in
set_option maxRecDepth 100000 in
theorem c_MD_layout (l : Launch) (dC : Nat → ClassId) (dI : Nat → Nat → Nat) (h0 : Nat) (b0 : Nat) (b1 : Nat) (b2 : Nat) (b3 : Nat) (b4 : Nat) (b5 : Nat) (b6 : Nat) (b7 : Nat) (b8 : Nat) (b9 : Nat) (b10 : Nat) (b11 : Nat) (b12 : Nat) (b13 : Nat) (b14 : Nat) (b15 : Nat) (b16 : Nat) (b17 : Nat) (a : Int32) (b : Int32) (f : Int32) (hf : f = 0 ∨ f = 1) : zw_Mi (S := Unit) l yMD_layout wMD_layout ({ frames := 0, cells := 0, slots := 0, locals := 0 }) [.ref h0, .int a, .int b, .int f] (dC, dI) vwCl [(h0, .inr (6, [.int 1, .ref b0, .ref b1, .int 0, .ref b2, .ref b3, .ref b4, .ref b5, .ref b6, .ref b7, .ref b8, .ref b9, .ref b10, .ref b11, .int (-1), .int 0, .int 0, .int 0, .int 0, .int 0, .ref b12, .ref b13, .ref b14, .ref b15, .ref b16, .ref b17]))] [] (fun _ _ => True) (fun r (_ : Unit) => (r = 1 ∧ ((0 ≤ a ∧ a ≤ 10000) ∧ (0 ≤ b ∧ b ≤ 20))) ∨ (r = 0 ∧ ¬ ((0 ≤ a ∧ a ≤ 10000) ∧ (0 ≤ b ∧ b ≤ 20)))) (fun (_ : Unit) => []) (fun (_ : Unit) => []) 0 0 := by
  refine zw_headi (cc := cMD_layout) (maxL := 4) (ret := (some .boolean)) (by decide +kernel) rfl (Nat.le_of_ble_eq_true rfl) ?_
  intro p e s m below meth c ls A F hA hP hK hD hS hX hl
  obtain ⟨hx, hb, hml, hr, hlocks, hown, hts⟩ := F
  have hown : s.vm.findClass "SpannedCellsModel" = some m.cls := hown
  have hz : ∀ w9 ∈ zT, w9.before [.ref h0, .int a, .int b, .int f].toArray s = true := fun w9 h => hts w9 (List.mem_cons_of_mem _ h)
  have hl : lv_has ls 4 [(0, .ref h0), (1, .int a), (2, .int b), (3, .int f)] := hl
  refine z_q (fun Q hQ => ?_)
  refine lv_iload_n hx hb dMD_layout_0 rfl (lv_at hl 1 rfl) ?_
  refine lv_if_lt (tgt := 21) hx hb dMD_layout_1 rfl (fun h1 => ?_) (fun h1 => ?_)
  · refine lv_iconst (v := 0) hx hb dMD_layout_21 (by decide) ?_
    subst hQ
    exact zw_zret (D := (dC, dI)) (cl := vwCl) (A := A) () hx hb hr hlocks (Or.inl rfl) (Or.inr ⟨rfl, fun h => absurd h1 (Int32.not_lt.mpr h.1.1)⟩) (hP.sub [] rfl) (hK.sub [] rfl) (hD.sub [] (by decide) rfl) hS dMD_layout_22
  · refine lv_iload_n hx hb dMD_layout_4 rfl (lv_at hl 1 rfl) ?_
    refine lv_sipush (v := 10000) hx hb dMD_layout_5 (by decide) ?_
    refine lv_icmp_gt (tgt := 21) hx hb dMD_layout_8 rfl (fun h2 => ?_) (fun h2 => ?_)
    · refine lv_iconst (v := 0) hx hb dMD_layout_21 (by decide) ?_
      subst hQ
      exact zw_zret (D := (dC, dI)) (cl := vwCl) (A := A) () hx hb hr hlocks (Or.inl rfl) (Or.inr ⟨rfl, fun h => absurd h2 (Int32.not_lt.mpr h.1.2)⟩) (hP.sub [] rfl) (hK.sub [] rfl) (hD.sub [] (by decide) rfl) hS dMD_layout_22
    · refine lv_iload_n hx hb dMD_layout_11 rfl (lv_at hl 2 rfl) ?_
      refine lv_if_lt (tgt := 21) hx hb dMD_layout_12 rfl (fun h3 => ?_) (fun h3 => ?_)
      · refine lv_iconst (v := 0) hx hb dMD_layout_21 (by decide) ?_
        subst hQ
        exact zw_zret (D := (dC, dI)) (cl := vwCl) (A := A) () hx hb hr hlocks (Or.inl rfl) (Or.inr ⟨rfl, fun h => absurd h3 (Int32.not_lt.mpr h.2.1)⟩) (hP.sub [] rfl) (hK.sub [] rfl) (hD.sub [] (by decide) rfl) hS dMD_layout_22
      · refine lv_iload_n hx hb dMD_layout_15 rfl (lv_at hl 2 rfl) ?_
        refine lv_bipush (v := 20) hx hb dMD_layout_16 (by decide) ?_
        refine lv_icmp_le (tgt := 23) hx hb dMD_layout_18 rfl (fun h4 => ?_) (fun h4 => ?_)
        · refine lv_aload_n hx hb dMD_layout_23 rfl (lv_at hl 0 rfl) ?_
          refine lv_iload_n hx hb dMD_layout_24 rfl (lv_at hl 1 rfl) ?_
          refine va_put (D := (dC, dI)) (ci := 6) (v := .int a) (ty := .int) (C := RMD) (T := TMD) (N := 26) hx hb hz in_MD tyMD tokMD nokMD hown hK hP hD hS 0 rfl rfl 17 (by decide) (hz _ wd_601) (fun _ h9 => h9) rfl (by decide +kernel) rfl rfl (Nat.le_of_ble_eq_true rfl) dMD_layout_25 (fun H locs hP hD hS => ?_)
          have hP : va_P (dC, dI) vwCl [(h0, .inr (6, [.int 1, .ref b0, .ref b1, .int 0, .ref b2, .ref b3, .ref b4, .ref b5, .ref b6, .ref b7, .ref b8, .ref b9, .ref b10, .ref b11, .int (-1), .int 0, .int 0, .int a, .int 0, .int 0, .ref b12, .ref b13, .ref b14, .ref b15, .ref b16, .ref b17]))] H := hP
          have hD : va_D A [(h0, .inr (6, [.int 1, .ref b0, .ref b1, .int 0, .ref b2, .ref b3, .ref b4, .ref b5, .ref b6, .ref b7, .ref b8, .ref b9, .ref b10, .ref b11, .int (-1), .int 0, .int 0, .int a, .int 0, .int 0, .ref b12, .ref b13, .ref b14, .ref b15, .ref b16, .ref b17]))] := hD
          refine lv_aload_n hx hb dMD_layout_28 rfl (lv_at hl 0 rfl) ?_
          refine lv_iload_n hx hb dMD_layout_29 rfl (lv_at hl 2 rfl) ?_
          refine va_put (D := (dC, dI)) (ci := 6) (v := .int b) (ty := .int) (C := RMD) (T := TMD) (N := 26) hx hb hz in_MD tyMD tokMD nokMD hown hK hP hD hS 0 rfl rfl 18 (by decide) (hz _ wd_602) (fun _ h9 => h9) rfl (by decide +kernel) rfl rfl (Nat.le_of_ble_eq_true rfl) dMD_layout_30 (fun H locs hP hD hS => ?_)
          have hP : va_P (dC, dI) vwCl [(h0, .inr (6, [.int 1, .ref b0, .ref b1, .int 0, .ref b2, .ref b3, .ref b4, .ref b5, .ref b6, .ref b7, .ref b8, .ref b9, .ref b10, .ref b11, .int (-1), .int 0, .int 0, .int a, .int b, .int 0, .ref b12, .ref b13, .ref b14, .ref b15, .ref b16, .ref b17]))] H := hP
          have hD : va_D A [(h0, .inr (6, [.int 1, .ref b0, .ref b1, .int 0, .ref b2, .ref b3, .ref b4, .ref b5, .ref b6, .ref b7, .ref b8, .ref b9, .ref b10, .ref b11, .int (-1), .int 0, .int 0, .int a, .int b, .int 0, .ref b12, .ref b13, .ref b14, .ref b15, .ref b16, .ref b17]))] := hD
          refine lv_aload_n hx hb dMD_layout_33 rfl (lv_at hl 0 rfl) ?_
          refine lv_iload_n hx hb dMD_layout_34 rfl (lv_at hl 3 rfl) ?_
          refine va_put (D := (dC, dI)) (ci := 6) (v := .int f) (ty := .boolean) (C := RMD) (T := TMD) (N := 26) hx hb hz in_MD tyMD tokMD nokMD hown hK hP hD hS 0 rfl rfl 19 (by decide) (hz _ wd_603) (fun _ h9 => h9) rfl (by decide +kernel) (by rcases hf with h | h <;> (subst h; rfl)) (by rcases hf with h | h <;> (subst h; rfl)) (Nat.le_of_ble_eq_true rfl) dMD_layout_35 (fun H locs hP hD hS => ?_)
          have hP : va_P (dC, dI) vwCl [(h0, .inr (6, [.int 1, .ref b0, .ref b1, .int 0, .ref b2, .ref b3, .ref b4, .ref b5, .ref b6, .ref b7, .ref b8, .ref b9, .ref b10, .ref b11, .int (-1), .int 0, .int 0, .int a, .int b, .int f, .ref b12, .ref b13, .ref b14, .ref b15, .ref b16, .ref b17]))] H := hP
          have hD : va_D A [(h0, .inr (6, [.int 1, .ref b0, .ref b1, .int 0, .ref b2, .ref b3, .ref b4, .ref b5, .ref b6, .ref b7, .ref b8, .ref b9, .ref b10, .ref b11, .int (-1), .int 0, .int 0, .int a, .int b, .int f, .ref b12, .ref b13, .ref b14, .ref b15, .ref b16, .ref b17]))] := hD
          refine lv_iconst (v := 1) hx hb dMD_layout_38 (by decide) ?_
          subst hQ
          exact zw_zret (D := (dC, dI)) (cl := vwCl) (A := A) () hx hb hr hlocks (Or.inr rfl) (Or.inl ⟨rfl, ⟨Int32.not_lt.mp h1, Int32.not_lt.mp h2⟩, Int32.not_lt.mp h3, h4⟩) (hP.sub [] rfl) (hK.sub [] rfl) (hD.sub [] (by decide) rfl) hS dMD_layout_39
        · refine lv_iconst (v := 0) hx hb dMD_layout_21 (by decide) ?_
          subst hQ
          exact zw_zret (D := (dC, dI)) (cl := vwCl) (A := A) () hx hb hr hlocks (Or.inl rfl) (Or.inr ⟨rfl, fun h => absurd h.2.2 h4⟩) (hP.sub [] rfl) (hK.sub [] rfl) (hD.sub [] (by decide) rfl) hS dMD_layout_22

set_option maxHeartbeats 4000000 in
set_option maxRecDepth 100000 in
theorem c_MD_measure (l : Launch) (dC : Nat → ClassId) (dI : Nat → Nat → Nat) (h0 : Nat) (b0 : Nat) (b1 : Nat) (b2 : Nat) (b3 : Nat) (b4 : Nat) (b5 : Nat) (b6 : Nat) (b7 : Nat) (b8 : Nat) (b9 : Nat) (b10 : Nat) (b11 : Nat) (b12 : Nat) (b13 : Nat) (b14 : Nat) (b15 : Nat) (b16 : Nat) (b17 : Nat) (kb12 : ClassId) (kb13 : ClassId) (fb12 : Nat → Int32) (fb13 : Nat → Int32) : zw_Mv (S := (Nat → Int32) × (Nat → Int32)) l yMD_measure wMD_measure ({ frames := 0, cells := 0, slots := 0, locals := 0 }) [.ref h0] (dC, dI) vwCl [(h0, .inr (6, [.int 1, .ref b0, .ref b1, .int 0, .ref b2, .ref b3, .ref b4, .ref b5, .ref b6, .ref b7, .ref b8, .ref b9, .ref b10, .ref b11, .int (-1), .int 0, .int 0, .int 0, .int 0, .int 0, .ref b12, .ref b13, .ref b14, .ref b15, .ref b16, .ref b17])), (b12, .inl (kb12, 12, .inl fb12)), (b13, .inl (kb13, 12, .inl fb13))] [(kb12, .int), (kb13, .int)] (fun _ _ => True) (fun u => match u with | (ul, um) => True) (fun u => match u with | (ul, um) => [(h0, .inr (6, [.int 1, .ref b0, .ref b1, .int 0, .ref b2, .ref b3, .ref b4, .ref b5, .ref b6, .ref b7, .ref b8, .ref b9, .ref b10, .ref b11, .int (-1), .int 0, .int 0, .int 0, .int 0, .int 0, .ref b12, .ref b13, .ref b14, .ref b15, .ref b16, .ref b17])), (b12, .inl (kb12, 12, .inl ul)), (b13, .inl (kb13, 12, .inl um))]) (fun u => match u with | (ul, um) => []) 0 0 := by
  refine zw_headv (cc := cMD_measure) (maxL := 3) (ret := none) (by decide +kernel) rfl (Nat.le_of_ble_eq_true rfl) ?_
  intro p e s m below meth c ls A F hnm hA hP hK hD hS hX hl
  obtain ⟨hx, hb, hml, hr, hlocks, hown, hts⟩ := F
  have hown : s.vm.findClass "SpannedCellsModel" = some m.cls := hown
  have hz : ∀ w9 ∈ zT, w9.before [.ref h0].toArray s = true := fun w9 h => hts w9 (List.mem_cons_of_mem _ h)
  have hl : lv_has ls 3 [(0, .ref h0)] := hl
  refine z_q (fun Q hQ => ?_)
  refine lv_iconst (v := 0) hx hb dMD_measure_0 (by decide) ?_
  refine lv_istore_n hx hb dMD_measure_1 rfl hl (Nat.le_of_ble_eq_true rfl) rfl (fun ls hl => ?_)
  have hl : lv_has ls 3 [(1, .int 0), (0, .ref h0)] := hl
  refine zl_upW (σ := (Nat → Int32) × (Nat → Int32)) 12 (fun i x ls H locs => match x with | (gl, gm) => lv_has ls 3 [(1, .int (nI i)), (0, .ref h0)] ∧ va_P (dC, dI) vwCl [(h0, .inr (6, [.int 1, .ref b0, .ref b1, .int 0, .ref b2, .ref b3, .ref b4, .ref b5, .ref b6, .ref b7, .ref b8, .ref b9, .ref b10, .ref b11, .int (-1), .int 0, .int 0, .int 0, .int 0, .int 0, .ref b12, .ref b13, .ref b14, .ref b15, .ref b16, .ref b17])), (b12, .inl (kb12, 12, .inl gl)), (b13, .inl (kb13, 12, .inl gm))] H ∧ va_D A [(h0, .inr (6, [.int 1, .ref b0, .ref b1, .int 0, .ref b2, .ref b3, .ref b4, .ref b5, .ref b6, .ref b7, .ref b8, .ref b9, .ref b10, .ref b11, .int (-1), .int 0, .int 0, .int 0, .int 0, .int 0, .ref b12, .ref b13, .ref b14, .ref b15, .ref b16, .ref b17])), (b12, .inl (kb12, 12, .inl gl)), (b13, .inl (kb13, 12, .inl gm))] ∧ va_S A s.heap H locs) ?_ ?_ 0 (Nat.le_of_ble_eq_true rfl) (fb12, fb13) ls s.heap [] ⟨lv_sub hl [0, 1] rfl, hP, hD, hS⟩
  · intro x ls H locs hI
    obtain ⟨gl, gm⟩ := x
    obtain ⟨hl, hP, hD, hS⟩ := hI
    have hP : va_P (dC, dI) vwCl [(h0, .inr (6, [.int 1, .ref b0, .ref b1, .int 0, .ref b2, .ref b3, .ref b4, .ref b5, .ref b6, .ref b7, .ref b8, .ref b9, .ref b10, .ref b11, .int (-1), .int 0, .int 0, .int 0, .int 0, .int 0, .ref b12, .ref b13, .ref b14, .ref b15, .ref b16, .ref b17])), (b12, .inl (kb12, 12, .inl gl)), (b13, .inl (kb13, 12, .inl gm))] H := hP
    have hD : va_D A [(h0, .inr (6, [.int 1, .ref b0, .ref b1, .int 0, .ref b2, .ref b3, .ref b4, .ref b5, .ref b6, .ref b7, .ref b8, .ref b9, .ref b10, .ref b11, .int (-1), .int 0, .int 0, .int 0, .int 0, .int 0, .ref b12, .ref b13, .ref b14, .ref b15, .ref b16, .ref b17])), (b12, .inl (kb12, 12, .inl gl)), (b13, .inl (kb13, 12, .inl gm))] := hD
    have hl : lv_has ls 3 [(1, .int (nI 12)), (0, .ref h0)] := hl
    refine lv_iload_n hx hb dMD_measure_2 rfl (lv_at hl 0 rfl) ?_
    refine lv_bipush (v := 12) hx hb dMD_measure_3 (by decide) ?_
    refine lv_icmp_ge (tgt := 28) hx hb dMD_measure_5 rfl (fun _ => ?_) (fun h => absurd (by decide) h)
    refine lv_iconst (v := 1) hx hb dMD_measure_28 (by decide) ?_
    refine lv_istore_n hx hb dMD_measure_29 rfl hl (Nat.le_of_ble_eq_true rfl) rfl (fun ls hl => ?_)
    have hl : lv_has ls 3 [(1, .int 1), (0, .ref h0)] := hl
    refine zl_up (σ := Unit) 7 (fun i x ls => lv_has ls 3 [(1, .int (nI i)), (0, .ref h0)]) ?_ ?_ 1 (Nat.le_of_ble_eq_true rfl) () ls (lv_sub hl [0, 1] rfl)
    · intro x ls hI
      have hl := hI
      have hl : lv_has ls 3 [(1, .int (nI 7)), (0, .ref h0)] := hl
      refine lv_iload_n hx hb dMD_measure_30 rfl (lv_at hl 0 rfl) ?_
      refine lv_bipush (v := 7) hx hb dMD_measure_31 (by decide) ?_
      refine lv_icmp_ge (tgt := 73) hx hb dMD_measure_33 rfl (fun _ => ?_) (fun h => absurd (by decide) h)
      subst hQ
      exact zw_vret (D := (dC, dI)) (cl := vwCl) (A := A) (gl, gm) hx hb hr hlocks (trivial) (hP.sub [0, 1, 2] rfl) (hK.sub [] rfl) (hD.sub [0, 1, 2] (by decide) rfl) hS dMD_measure_73
    · intro i hi ih
      intro x ls hI
      have hl := hI
      have hl : lv_has ls 3 [(1, .int (nI i)), (0, .ref h0)] := hl
      refine lv_iload_n hx hb dMD_measure_30 rfl (lv_at hl 0 rfl) ?_
      refine lv_bipush (v := 7) hx hb dMD_measure_31 (by decide) ?_
      refine lv_icmp_ge (tgt := 73) hx hb dMD_measure_33 rfl (fun h => absurd h (z_ltN hi (by decide) rfl)) (fun _ => ?_)
      refine lv_iconst (v := 0) hx hb dMD_measure_36 (by decide) ?_
      refine lv_istore_n hx hb dMD_measure_37 rfl hl (Nat.le_of_ble_eq_true rfl) rfl (fun ls hl => ?_)
      have hl : lv_has ls 3 [(2, .int 0), (1, .int (nI i)), (0, .ref h0)] := hl
      refine lv_iload_n hx hb dMD_measure_38 rfl (lv_at hl 0 rfl) ?_
      refine lv_aload_n hx hb dMD_measure_39 rfl (lv_at hl 2 rfl) ?_
      refine va_get (D := (dC, dI)) (ci := 6) (v := .int 0) (C := RMD) (T := TMD) (N := 26) hx hb hz in_MD hown hK hP 0 rfl rfl 3 (by decide) (hz _ wd_587) (fun _ h9 => h9) rfl dMD_measure_40 ?_
      refine lv_icmp_ge (tgt := 67) hx hb dMD_measure_43 rfl (fun _ => ?_) (fun h => absurd (by decide) h)
      refine lv_iinc (k := 1) (v := nI (i + 1)) hx hb dMD_measure_67 hl rfl (by rw [show Int32.ofInt 1 = 1 from by decide]; exact nI_1 i) (Nat.le_of_ble_eq_true rfl) rfl (fun ls hl => ?_)
      have hl : lv_has ls 3 [(1, .int (nI (i + 1))), (2, .int 0), (0, .ref h0)] := hl
      refine lv_goto (tgt := 30) hx hb dMD_measure_70 rfl ?_
      exact ih () ls (lv_sub hl [0, 2] rfl)
  · intro i hi ih
    intro x ls H locs hI
    obtain ⟨gl, gm⟩ := x
    obtain ⟨hl, hP, hD, hS⟩ := hI
    have hP : va_P (dC, dI) vwCl [(h0, .inr (6, [.int 1, .ref b0, .ref b1, .int 0, .ref b2, .ref b3, .ref b4, .ref b5, .ref b6, .ref b7, .ref b8, .ref b9, .ref b10, .ref b11, .int (-1), .int 0, .int 0, .int 0, .int 0, .int 0, .ref b12, .ref b13, .ref b14, .ref b15, .ref b16, .ref b17])), (b12, .inl (kb12, 12, .inl gl)), (b13, .inl (kb13, 12, .inl gm))] H := hP
    have hD : va_D A [(h0, .inr (6, [.int 1, .ref b0, .ref b1, .int 0, .ref b2, .ref b3, .ref b4, .ref b5, .ref b6, .ref b7, .ref b8, .ref b9, .ref b10, .ref b11, .int (-1), .int 0, .int 0, .int 0, .int 0, .int 0, .ref b12, .ref b13, .ref b14, .ref b15, .ref b16, .ref b17])), (b12, .inl (kb12, 12, .inl gl)), (b13, .inl (kb13, 12, .inl gm))] := hD
    have hl : lv_has ls 3 [(1, .int (nI i)), (0, .ref h0)] := hl
    refine lv_iload_n hx hb dMD_measure_2 rfl (lv_at hl 0 rfl) ?_
    refine lv_bipush (v := 12) hx hb dMD_measure_3 (by decide) ?_
    refine lv_icmp_ge (tgt := 28) hx hb dMD_measure_5 rfl (fun h => absurd h (z_ltN hi (by decide) rfl)) (fun _ => ?_)
    refine lv_aload_n hx hb dMD_measure_8 rfl (lv_at hl 1 rfl) ?_
    refine va_get (D := (dC, dI)) (ci := 6) (v := .ref b12) (C := RMD) (T := TMD) (N := 26) hx hb hz in_MD hown hK hP 0 rfl rfl 20 (by decide) (hz _ wd_604) (fun _ h9 => h9) rfl dMD_measure_9 ?_
    refine lv_iload_n hx hb dMD_measure_12 rfl (lv_at hl 0 rfl) ?_
    refine lv_iconst (v := 0) hx hb dMD_measure_13 (by decide) ?_
    refine va_iast hx hb hK hP hD hS 1 0 rfl rfl (vp_in_nI (by omega) (by decide)) dMD_measure_14 (fun H locs hP hD hS => ?_)
    have hP : va_P (dC, dI) vwCl [(h0, .inr (6, [.int 1, .ref b0, .ref b1, .int 0, .ref b2, .ref b3, .ref b4, .ref b5, .ref b6, .ref b7, .ref b8, .ref b9, .ref b10, .ref b11, .int (-1), .int 0, .int 0, .int 0, .int 0, .int 0, .ref b12, .ref b13, .ref b14, .ref b15, .ref b16, .ref b17])), (b12, .inl (kb12, 12, .inl (upd gl (nI i).toNatClampNeg 0))), (b13, .inl (kb13, 12, .inl gm))] H := hP
    have hD : va_D A [(h0, .inr (6, [.int 1, .ref b0, .ref b1, .int 0, .ref b2, .ref b3, .ref b4, .ref b5, .ref b6, .ref b7, .ref b8, .ref b9, .ref b10, .ref b11, .int (-1), .int 0, .int 0, .int 0, .int 0, .int 0, .ref b12, .ref b13, .ref b14, .ref b15, .ref b16, .ref b17])), (b12, .inl (kb12, 12, .inl (upd gl (nI i).toNatClampNeg 0))), (b13, .inl (kb13, 12, .inl gm))] := hD
    refine lv_aload_n hx hb dMD_measure_15 rfl (lv_at hl 1 rfl) ?_
    refine va_get (D := (dC, dI)) (ci := 6) (v := .ref b13) (C := RMD) (T := TMD) (N := 26) hx hb hz in_MD hown hK hP 0 rfl rfl 21 (by decide) (hz _ wd_605) (fun _ h9 => h9) rfl dMD_measure_16 ?_
    refine lv_iload_n hx hb dMD_measure_19 rfl (lv_at hl 0 rfl) ?_
    refine lv_iconst (v := 0) hx hb dMD_measure_20 (by decide) ?_
    refine va_iast hx hb hK hP hD hS 2 1 rfl rfl (vp_in_nI (by omega) (by decide)) dMD_measure_21 (fun H locs hP hD hS => ?_)
    have hP : va_P (dC, dI) vwCl [(h0, .inr (6, [.int 1, .ref b0, .ref b1, .int 0, .ref b2, .ref b3, .ref b4, .ref b5, .ref b6, .ref b7, .ref b8, .ref b9, .ref b10, .ref b11, .int (-1), .int 0, .int 0, .int 0, .int 0, .int 0, .ref b12, .ref b13, .ref b14, .ref b15, .ref b16, .ref b17])), (b12, .inl (kb12, 12, .inl (upd gl (nI i).toNatClampNeg 0))), (b13, .inl (kb13, 12, .inl (upd gm (nI i).toNatClampNeg 0)))] H := hP
    have hD : va_D A [(h0, .inr (6, [.int 1, .ref b0, .ref b1, .int 0, .ref b2, .ref b3, .ref b4, .ref b5, .ref b6, .ref b7, .ref b8, .ref b9, .ref b10, .ref b11, .int (-1), .int 0, .int 0, .int 0, .int 0, .int 0, .ref b12, .ref b13, .ref b14, .ref b15, .ref b16, .ref b17])), (b12, .inl (kb12, 12, .inl (upd gl (nI i).toNatClampNeg 0))), (b13, .inl (kb13, 12, .inl (upd gm (nI i).toNatClampNeg 0)))] := hD
    refine lv_iinc (k := 0) (v := nI (i + 1)) hx hb dMD_measure_22 hl rfl (by rw [show Int32.ofInt 1 = 1 from by decide]; exact nI_1 i) (Nat.le_of_ble_eq_true rfl) rfl (fun ls hl => ?_)
    have hl : lv_has ls 3 [(1, .int (nI (i + 1))), (0, .ref h0)] := hl
    refine lv_goto (tgt := 2) hx hb dMD_measure_25 rfl ?_
    exact ih (upd gl (nI i).toNatClampNeg 0, upd gm (nI i).toNatClampNeg 0) ls H locs ⟨lv_sub hl [0, 1] rfl, hP, hD, hS⟩

set_option maxHeartbeats 4000000 in
set_option maxRecDepth 100000 in
theorem c_MD_findWidths (l : Launch) (dC : Nat → ClassId) (dI : Nat → Nat → Nat) (h0 : Nat) (b0 : Nat) (b1 : Nat) (b2 : Nat) (b3 : Nat) (b4 : Nat) (b5 : Nat) (b6 : Nat) (b7 : Nat) (b8 : Nat) (b9 : Nat) (b10 : Nat) (b11 : Nat) (b12 : Nat) (b13 : Nat) (b14 : Nat) (b15 : Nat) (b16 : Nat) (b17 : Nat) (kb12 : ClassId) (kb13 : ClassId) (kb14 : ClassId) (kb17 : ClassId) (fb12 : Nat → Int32) (fb13 : Nat → Int32) (fb14 : Nat → Int32) (fb17 : Nat → Int32) : zw_Mv (S := Unit) l yMD_findWidths wMD_findWidths ({ frames := 2, cells := 0, slots := 0, locals := 42 }) [.ref h0] (dC, dI) vwCl [(h0, .inr (6, [.int 1, .ref b0, .ref b1, .int 0, .ref b2, .ref b3, .ref b4, .ref b5, .ref b6, .ref b7, .ref b8, .ref b9, .ref b10, .ref b11, .int (-1), .int 0, .int 0, .int 0, .int 0, .int 0, .ref b12, .ref b13, .ref b14, .ref b15, .ref b16, .ref b17])), (b12, .inl (kb12, 12, .inl fb12)), (b13, .inl (kb13, 12, .inl fb13)), (b14, .inl (kb14, 12, .inl fb14)), (b17, .inl (kb17, 12, .inl fb17))] [(kb12, .int), (kb13, .int), (kb14, .int), (kb17, .int)] (fun _ _ => True) (fun (_ : Unit) => True) (fun (_ : Unit) => [(h0, .inr (6, [.int 1, .ref b0, .ref b1, .int 0, .ref b2, .ref b3, .ref b4, .ref b5, .ref b6, .ref b7, .ref b8, .ref b9, .ref b10, .ref b11, .int (-1), .int 0, .int 0, .int 0, .int 0, .int 0, .ref b12, .ref b13, .ref b14, .ref b15, .ref b16, .ref b17]))]) (fun (_ : Unit) => []) 0 0 := by
  refine zw_headv (cc := cMD_findWidths) (maxL := 6) (ret := none) (by decide +kernel) rfl (Nat.le_of_ble_eq_true rfl) ?_
  intro p e s m below meth c ls A F hnm hA hP hK hD hS hX hl
  obtain ⟨hx, hb, hml, hr, hlocks, hown, hts⟩ := F
  have hown : s.vm.findClass "SpannedCellsModel" = some m.cls := hown
  have hz : ∀ w9 ∈ zT, w9.before [.ref h0].toArray s = true := fun w9 h => hts w9 (List.mem_cons_of_mem _ h)
  have hl : lv_has ls 6 [(0, .ref h0)] := hl
  refine z_q (fun Q hQ => ?_)
  refine lv_aload_n hx hb dMD_findWidths_0 rfl (lv_at hl 0 rfl) ?_
  refine zw_callv (wr := [(b14, .inl (kb14, 12, .inl fb14)), (b17, .inl (kb17, 12, .inl fb17))]) hK hP hD hS hA [0, 1, 2] [3, 4] rfl rfl (by decide) (by decide) (va_runV (As := []) (rest := []) ⟨hx, hb, hml, hown, hz⟩ ((c_MD_measure l dC dI h0 b0 b1 b2 b3 b4 b5 b6 b7 b8 b9 b10 b11 b12 b13 b14 b15 b16 b17 kb12 kb13 fb12 fb13 ) s.heap.size) (cwV 0 hz (z_gV wd_747 wd_749 wd_20 wd_37 wd_750) rfl rfl rfl (by decide +kernel) ⟨Nat.le_of_ble_eq_true rfl, Nat.le_of_ble_eq_true rfl⟩) (zw_preV (q0 := 0) (q := (RMD, TMD, 26)) hK hP hD rfl rfl [0, 1, 2] (by decide) rfl [0, 1] rfl z_true (fun _ _ _ => trivial)) rfl rfl hl.1 rfl (lv_room (Nat.le_of_ble_eq_true rfl)) dMD_findWidths_1 ⟨Nat.le_of_ble_eq_true rfl, Nat.le_of_ble_eq_true rfl⟩) (fun u H locs h_r1 hP hD hK hS => ?_)
  obtain ⟨ul, um⟩ := u
  have hP : va_P (dC, dI) vwCl [(h0, .inr (6, [.int 1, .ref b0, .ref b1, .int 0, .ref b2, .ref b3, .ref b4, .ref b5, .ref b6, .ref b7, .ref b8, .ref b9, .ref b10, .ref b11, .int (-1), .int 0, .int 0, .int 0, .int 0, .int 0, .ref b12, .ref b13, .ref b14, .ref b15, .ref b16, .ref b17])), (b12, .inl (kb12, 12, .inl ul)), (b13, .inl (kb13, 12, .inl um)), (b14, .inl (kb14, 12, .inl fb14)), (b17, .inl (kb17, 12, .inl fb17))] H := hP.sub [2, 3, 4, 0, 1] rfl
  have hD : va_D A [(h0, .inr (6, [.int 1, .ref b0, .ref b1, .int 0, .ref b2, .ref b3, .ref b4, .ref b5, .ref b6, .ref b7, .ref b8, .ref b9, .ref b10, .ref b11, .int (-1), .int 0, .int 0, .int 0, .int 0, .int 0, .ref b12, .ref b13, .ref b14, .ref b15, .ref b16, .ref b17])), (b12, .inl (kb12, 12, .inl ul)), (b13, .inl (kb13, 12, .inl um)), (b14, .inl (kb14, 12, .inl fb14)), (b17, .inl (kb17, 12, .inl fb17))] := hD.sub [2, 3, 4, 0, 1] (by decide) rfl
  have hK : va_K (dC, dI) vwCl [(kb12, .int), (kb13, .int), (kb14, .int), (kb17, .int)] s := hK
  refine lv_aload_n hx hb dMD_findWidths_4 rfl (lv_at hl 0 rfl) ?_
  refine va_get (D := (dC, dI)) (ci := 6) (v := .int 0) (C := RMD) (T := TMD) (N := 26) hx hb hz in_MD hown hK hP 0 rfl rfl 19 (by decide) (hz _ wd_603) (fun _ h9 => h9) rfl dMD_findWidths_5 ?_
  refine lv_if_eq (tgt := 16) hx hb dMD_findWidths_8 rfl (fun _ => ?_) (fun h => absurd (by decide) h)
  refine lv_aload_n hx hb dMD_findWidths_16 rfl (lv_at hl 0 rfl) ?_
  refine vp_callSi (W.runV (As := []) (rest := []) ⟨hx, hb, hml, hown, hz⟩ (c_MD_columns l dC dI h0 b0 b1 b2 b3 b4 b5 b6 b7 b8 b9 b10 b11 b12 b13 b14 b15 b16 b17 ) (cwV 0 hz (z_gV wd_732 wd_701 wd_702 wd_37 wd_703) rfl rfl rfl (by decide +kernel) ⟨Nat.le_of_ble_eq_true rfl, Nat.le_of_ble_eq_true rfl⟩) (zp_preV (q0 := 0) (q := (RMD, TMD, 26)) hK hP rfl rfl [0] rfl [] rfl z_true (fun _ _ _ => trivial)) rfl rfl hl.1 rfl (lv_room (Nat.le_of_ble_eq_true rfl)) dMD_findWidths_17 ⟨Nat.le_of_ble_eq_true rfl, Nat.le_of_ble_eq_true rfl⟩) (fun r2 h_r2 => ?_)
  have h_r2 : r2 = 0 := h_r2
  subst h_r2
  refine lv_istore_n hx hb dMD_findWidths_20 rfl hl (Nat.le_of_ble_eq_true rfl) rfl (fun ls hl => ?_)
  have hl : lv_has ls 6 [(1, .int 0), (0, .ref h0)] := hl
  refine lv_aload_n hx hb dMD_findWidths_21 rfl (lv_at hl 1 rfl) ?_
  refine va_get (D := (dC, dI)) (ci := 6) (v := .ref b12) (C := RMD) (T := TMD) (N := 26) hx hb hz in_MD hown hK hP 0 rfl rfl 20 (by decide) (hz _ wd_604) (fun _ h9 => h9) rfl dMD_findWidths_22 ?_
  refine lv_iconst (v := 0) hx hb dMD_findWidths_25 (by decide) ?_
  refine lv_iload_n hx hb dMD_findWidths_26 rfl (lv_at hl 0 rfl) ?_
  refine vp_callSi (W.runS (As := [.ref b12, .int 0, .int 0]) (rest := []) ⟨hx, hb, hml, hown, hz⟩ (c_MD_sumOf l dC dI b12 ) (va_cwS 3 hz (z_gS wd_762 wd_763 wd_37 wd_764) rfl rfl rfl (by decide +kernel) ⟨Nat.le_of_ble_eq_true rfl, Nat.le_of_ble_eq_true rfl⟩) (zp_preS hK hP [] rfl [] rfl z_true (fun _ _ _ => trivial)) rfl rfl hl.1 rfl (lv_room (Nat.le_of_ble_eq_true rfl)) dMD_findWidths_27 ⟨Nat.le_of_ble_eq_true rfl, Nat.le_of_ble_eq_true rfl⟩) (fun r3 h_r3 => ?_)
  have h_r3 : r3 = 0 := h_r3
  subst h_r3
  refine lv_istore_n hx hb dMD_findWidths_30 rfl hl (Nat.le_of_ble_eq_true rfl) rfl (fun ls hl => ?_)
  have hl : lv_has ls 6 [(2, .int 0), (1, .int 0), (0, .ref h0)] := hl
  refine lv_aload_n hx hb dMD_findWidths_31 rfl (lv_at hl 2 rfl) ?_
  refine va_get (D := (dC, dI)) (ci := 6) (v := .ref b13) (C := RMD) (T := TMD) (N := 26) hx hb hz in_MD hown hK hP 0 rfl rfl 21 (by decide) (hz _ wd_605) (fun _ h9 => h9) rfl dMD_findWidths_32 ?_
  refine lv_iconst (v := 0) hx hb dMD_findWidths_35 (by decide) ?_
  refine lv_iload_n hx hb dMD_findWidths_36 rfl (lv_at hl 1 rfl) ?_
  refine vp_callSi (W.runS (As := [.ref b13, .int 0, .int 0]) (rest := []) ⟨hx, hb, hml, hown, hz⟩ (c_MD_sumOf l dC dI b13 ) (va_cwS 3 hz (z_gS wd_762 wd_763 wd_37 wd_764) rfl rfl rfl (by decide +kernel) ⟨Nat.le_of_ble_eq_true rfl, Nat.le_of_ble_eq_true rfl⟩) (zp_preS hK hP [] rfl [] rfl z_true (fun _ _ _ => trivial)) rfl rfl hl.1 rfl (lv_room (Nat.le_of_ble_eq_true rfl)) dMD_findWidths_37 ⟨Nat.le_of_ble_eq_true rfl, Nat.le_of_ble_eq_true rfl⟩) (fun r4 h_r4 => ?_)
  have h_r4 : r4 = 0 := h_r4
  subst h_r4
  refine lv_istore_n hx hb dMD_findWidths_40 rfl hl (Nat.le_of_ble_eq_true rfl) rfl (fun ls hl => ?_)
  have hl : lv_has ls 6 [(3, .int 0), (2, .int 0), (1, .int 0), (0, .ref h0)] := hl
  refine lv_aload_n hx hb dMD_findWidths_41 rfl (lv_at hl 3 rfl) ?_
  refine vp_callSi (W.runV (As := []) (rest := []) ⟨hx, hb, hml, hown, hz⟩ (c_MD_room l dC dI h0 b0 b1 b2 b3 b4 b5 b6 b7 b8 b9 b10 b11 b12 b13 b14 b15 b16 b17 ) (cwV 0 hz (z_gV wd_773 wd_775 wd_25 wd_37 wd_776) rfl rfl rfl (by decide +kernel) ⟨Nat.le_of_ble_eq_true rfl, Nat.le_of_ble_eq_true rfl⟩) (zp_preV (q0 := 0) (q := (RMD, TMD, 26)) hK hP rfl rfl [0] rfl [] rfl z_true (fun _ _ _ => trivial)) rfl rfl hl.1 rfl (lv_room (Nat.le_of_ble_eq_true rfl)) dMD_findWidths_42 ⟨Nat.le_of_ble_eq_true rfl, Nat.le_of_ble_eq_true rfl⟩) (fun r5 h_r5 => ?_)
  have h_r5 : r5 = 0 := h_r5
  subst h_r5
  refine lv_iload_n hx hb dMD_findWidths_45 rfl (lv_at hl 0 rfl) ?_
  refine lv_icmp_le (tgt := 53) hx hb dMD_findWidths_46 rfl (fun _ => ?_) (fun h => absurd (by decide) h)
  refine lv_iconst (v := 0) hx hb dMD_findWidths_53 (by decide) ?_
  refine lv_istore hx hb dMD_findWidths_54 hl (Nat.le_of_ble_eq_true rfl) rfl (fun ls hl => ?_)
  have hl : lv_has ls 6 [(4, .int 0), (3, .int 0), (2, .int 0), (1, .int 0), (0, .ref h0)] := hl
  refine lv_iconst (v := 0) hx hb dMD_findWidths_56 (by decide) ?_
  refine lv_istore hx hb dMD_findWidths_57 hl (Nat.le_of_ble_eq_true rfl) rfl (fun ls hl => ?_)
  have hl : lv_has ls 6 [(5, .int 0), (4, .int 0), (3, .int 0), (2, .int 0), (1, .int 0), (0, .ref h0)] := hl
  refine zl_upW (σ := (Nat → Int32) × (Nat → Int32)) 12 (fun i x ls H locs => match x with | (gw, gx) => lv_has ls 6 [(5, .int (nI i)), (4, .int 0), (3, .int 0), (2, .int 0), (1, .int 0), (0, .ref h0)] ∧ va_P (dC, dI) vwCl [(h0, .inr (6, [.int 1, .ref b0, .ref b1, .int 0, .ref b2, .ref b3, .ref b4, .ref b5, .ref b6, .ref b7, .ref b8, .ref b9, .ref b10, .ref b11, .int (-1), .int 0, .int 0, .int 0, .int 0, .int 0, .ref b12, .ref b13, .ref b14, .ref b15, .ref b16, .ref b17])), (b12, .inl (kb12, 12, .inl ul)), (b13, .inl (kb13, 12, .inl um)), (b14, .inl (kb14, 12, .inl gw)), (b17, .inl (kb17, 12, .inl gx))] H ∧ va_D A [(h0, .inr (6, [.int 1, .ref b0, .ref b1, .int 0, .ref b2, .ref b3, .ref b4, .ref b5, .ref b6, .ref b7, .ref b8, .ref b9, .ref b10, .ref b11, .int (-1), .int 0, .int 0, .int 0, .int 0, .int 0, .ref b12, .ref b13, .ref b14, .ref b15, .ref b16, .ref b17])), (b12, .inl (kb12, 12, .inl ul)), (b13, .inl (kb13, 12, .inl um)), (b14, .inl (kb14, 12, .inl gw)), (b17, .inl (kb17, 12, .inl gx))] ∧ va_S A s.heap H locs) ?_ ?_ 0 (Nat.le_of_ble_eq_true rfl) (fb14, fb17) ls H locs ⟨lv_sub hl [0, 1, 2, 3, 4, 5] rfl, hP, hD, hS⟩
  · intro x ls H locs hI
    obtain ⟨gw, gx⟩ := x
    obtain ⟨hl, hP, hD, hS⟩ := hI
    have hP : va_P (dC, dI) vwCl [(h0, .inr (6, [.int 1, .ref b0, .ref b1, .int 0, .ref b2, .ref b3, .ref b4, .ref b5, .ref b6, .ref b7, .ref b8, .ref b9, .ref b10, .ref b11, .int (-1), .int 0, .int 0, .int 0, .int 0, .int 0, .ref b12, .ref b13, .ref b14, .ref b15, .ref b16, .ref b17])), (b12, .inl (kb12, 12, .inl ul)), (b13, .inl (kb13, 12, .inl um)), (b14, .inl (kb14, 12, .inl gw)), (b17, .inl (kb17, 12, .inl gx))] H := hP
    have hD : va_D A [(h0, .inr (6, [.int 1, .ref b0, .ref b1, .int 0, .ref b2, .ref b3, .ref b4, .ref b5, .ref b6, .ref b7, .ref b8, .ref b9, .ref b10, .ref b11, .int (-1), .int 0, .int 0, .int 0, .int 0, .int 0, .ref b12, .ref b13, .ref b14, .ref b15, .ref b16, .ref b17])), (b12, .inl (kb12, 12, .inl ul)), (b13, .inl (kb13, 12, .inl um)), (b14, .inl (kb14, 12, .inl gw)), (b17, .inl (kb17, 12, .inl gx))] := hD
    have hl : lv_has ls 6 [(5, .int (nI 12)), (4, .int 0), (3, .int 0), (2, .int 0), (1, .int 0), (0, .ref h0)] := hl
    refine lv_iload hx hb dMD_findWidths_59 (lv_at hl 0 rfl) ?_
    refine lv_bipush (v := 12) hx hb dMD_findWidths_61 (by decide) ?_
    refine lv_icmp_ge (tgt := 138) hx hb dMD_findWidths_63 rfl (fun _ => ?_) (fun h => absurd (by decide) h)
    refine lv_aload_n hx hb dMD_findWidths_138 rfl (lv_at hl 5 rfl) ?_
    refine vp_callSi (W.runV (As := []) (rest := []) ⟨hx, hb, hml, hown, hz⟩ (c_MD_room l dC dI h0 b0 b1 b2 b3 b4 b5 b6 b7 b8 b9 b10 b11 b12 b13 b14 b15 b16 b17 ) (cwV 0 hz (z_gV wd_773 wd_775 wd_25 wd_37 wd_776) rfl rfl rfl (by decide +kernel) ⟨Nat.le_of_ble_eq_true rfl, Nat.le_of_ble_eq_true rfl⟩) (zp_preV (q0 := 0) (q := (RMD, TMD, 26)) hK hP rfl rfl [0] rfl [] rfl z_true (fun _ _ _ => trivial)) rfl rfl hl.1 rfl (lv_room (Nat.le_of_ble_eq_true rfl)) dMD_findWidths_139 ⟨Nat.le_of_ble_eq_true rfl, Nat.le_of_ble_eq_true rfl⟩) (fun r6 h_r6 => ?_)
    have h_r6 : r6 = 0 := h_r6
    subst h_r6
    refine lv_iload_n hx hb dMD_findWidths_142 rfl (lv_at hl 3 rfl) ?_
    refine lv_icmp_le (tgt := 171) hx hb dMD_findWidths_143 rfl (fun _ => ?_) (fun h => absurd (by decide) h)
    subst hQ
    exact zw_vret (D := (dC, dI)) (cl := vwCl) (A := A) () hx hb hr hlocks (trivial) (hP.sub [0] rfl) (hK.sub [] rfl) (hD.sub [0] (by decide) rfl) hS dMD_findWidths_171
  · intro i hi ih
    intro x ls H locs hI
    obtain ⟨gw, gx⟩ := x
    obtain ⟨hl, hP, hD, hS⟩ := hI
    have hP : va_P (dC, dI) vwCl [(h0, .inr (6, [.int 1, .ref b0, .ref b1, .int 0, .ref b2, .ref b3, .ref b4, .ref b5, .ref b6, .ref b7, .ref b8, .ref b9, .ref b10, .ref b11, .int (-1), .int 0, .int 0, .int 0, .int 0, .int 0, .ref b12, .ref b13, .ref b14, .ref b15, .ref b16, .ref b17])), (b12, .inl (kb12, 12, .inl ul)), (b13, .inl (kb13, 12, .inl um)), (b14, .inl (kb14, 12, .inl gw)), (b17, .inl (kb17, 12, .inl gx))] H := hP
    have hD : va_D A [(h0, .inr (6, [.int 1, .ref b0, .ref b1, .int 0, .ref b2, .ref b3, .ref b4, .ref b5, .ref b6, .ref b7, .ref b8, .ref b9, .ref b10, .ref b11, .int (-1), .int 0, .int 0, .int 0, .int 0, .int 0, .ref b12, .ref b13, .ref b14, .ref b15, .ref b16, .ref b17])), (b12, .inl (kb12, 12, .inl ul)), (b13, .inl (kb13, 12, .inl um)), (b14, .inl (kb14, 12, .inl gw)), (b17, .inl (kb17, 12, .inl gx))] := hD
    have hl : lv_has ls 6 [(5, .int (nI i)), (4, .int 0), (3, .int 0), (2, .int 0), (1, .int 0), (0, .ref h0)] := hl
    refine lv_iload hx hb dMD_findWidths_59 (lv_at hl 0 rfl) ?_
    refine lv_bipush (v := 12) hx hb dMD_findWidths_61 (by decide) ?_
    refine lv_icmp_ge (tgt := 138) hx hb dMD_findWidths_63 rfl (fun h => absurd h (z_ltN hi (by decide) rfl)) (fun _ => ?_)
    refine lv_aload_n hx hb dMD_findWidths_66 rfl (lv_at hl 5 rfl) ?_
    refine va_get (D := (dC, dI)) (ci := 6) (v := .ref b14) (C := RMD) (T := TMD) (N := 26) hx hb hz in_MD hown hK hP 0 rfl rfl 22 (by decide) (hz _ wd_606) (fun _ h9 => h9) rfl dMD_findWidths_67 ?_
    refine lv_iload hx hb dMD_findWidths_70 (lv_at hl 0 rfl) ?_
    refine lv_iload hx hb dMD_findWidths_72 (lv_at hl 1 rfl) ?_
    refine lv_if_eq (tgt := 87) hx hb dMD_findWidths_74 rfl (fun _ => ?_) (fun h => absurd (by decide) h)
    refine lv_aload_n hx hb dMD_findWidths_87 rfl (lv_at hl 5 rfl) ?_
    refine va_get (D := (dC, dI)) (ci := 6) (v := .ref b12) (C := RMD) (T := TMD) (N := 26) hx hb hz in_MD hown hK hP 0 rfl rfl 20 (by decide) (hz _ wd_604) (fun _ h9 => h9) rfl dMD_findWidths_88 ?_
    refine lv_iload hx hb dMD_findWidths_91 (lv_at hl 0 rfl) ?_
    refine va_iald hx hb hK hP 1 0 rfl rfl (vp_in_nI (by omega) (by decide)) dMD_findWidths_93 ?_
    refine va_iast hx hb hK hP hD hS 3 2 rfl rfl (vp_in_nI (by omega) (by decide)) dMD_findWidths_94 (fun H locs hP hD hS => ?_)
    have hP : va_P (dC, dI) vwCl [(h0, .inr (6, [.int 1, .ref b0, .ref b1, .int 0, .ref b2, .ref b3, .ref b4, .ref b5, .ref b6, .ref b7, .ref b8, .ref b9, .ref b10, .ref b11, .int (-1), .int 0, .int 0, .int 0, .int 0, .int 0, .ref b12, .ref b13, .ref b14, .ref b15, .ref b16, .ref b17])), (b12, .inl (kb12, 12, .inl ul)), (b13, .inl (kb13, 12, .inl um)), (b14, .inl (kb14, 12, .inl (upd gw (nI i).toNatClampNeg (ul (nI i).toNatClampNeg)))), (b17, .inl (kb17, 12, .inl gx))] H := hP
    have hD : va_D A [(h0, .inr (6, [.int 1, .ref b0, .ref b1, .int 0, .ref b2, .ref b3, .ref b4, .ref b5, .ref b6, .ref b7, .ref b8, .ref b9, .ref b10, .ref b11, .int (-1), .int 0, .int 0, .int 0, .int 0, .int 0, .ref b12, .ref b13, .ref b14, .ref b15, .ref b16, .ref b17])), (b12, .inl (kb12, 12, .inl ul)), (b13, .inl (kb13, 12, .inl um)), (b14, .inl (kb14, 12, .inl (upd gw (nI i).toNatClampNeg (ul (nI i).toNatClampNeg)))), (b17, .inl (kb17, 12, .inl gx))] := hD
    refine lv_aload_n hx hb dMD_findWidths_95 rfl (lv_at hl 5 rfl) ?_
    refine va_get (D := (dC, dI)) (ci := 6) (v := .ref b17) (C := RMD) (T := TMD) (N := 26) hx hb hz in_MD hown hK hP 0 rfl rfl 25 (by decide) (hz _ wd_609) (fun _ h9 => h9) rfl dMD_findWidths_96 ?_
    refine lv_iload hx hb dMD_findWidths_99 (lv_at hl 0 rfl) ?_
    refine lv_iload hx hb dMD_findWidths_101 (lv_at hl 1 rfl) ?_
    refine lv_if_eq (tgt := 116) hx hb dMD_findWidths_103 rfl (fun _ => ?_) (fun h => absurd (by decide) h)
    refine lv_aload_n hx hb dMD_findWidths_116 rfl (lv_at hl 5 rfl) ?_
    refine va_get (D := (dC, dI)) (ci := 6) (v := .ref b13) (C := RMD) (T := TMD) (N := 26) hx hb hz in_MD hown hK hP 0 rfl rfl 21 (by decide) (hz _ wd_605) (fun _ h9 => h9) rfl dMD_findWidths_117 ?_
    refine lv_iload hx hb dMD_findWidths_120 (lv_at hl 0 rfl) ?_
    refine va_iald hx hb hK hP 2 1 rfl rfl (vp_in_nI (by omega) (by decide)) dMD_findWidths_122 ?_
    refine lv_aload_n hx hb dMD_findWidths_123 rfl (lv_at hl 5 rfl) ?_
    refine va_get (D := (dC, dI)) (ci := 6) (v := .ref b12) (C := RMD) (T := TMD) (N := 26) hx hb hz in_MD hown hK hP 0 rfl rfl 20 (by decide) (hz _ wd_604) (fun _ h9 => h9) rfl dMD_findWidths_124 ?_
    refine lv_iload hx hb dMD_findWidths_127 (lv_at hl 0 rfl) ?_
    refine va_iald hx hb hK hP 1 0 rfl rfl (vp_in_nI (by omega) (by decide)) dMD_findWidths_129 ?_
    refine lv_isub hx hb dMD_findWidths_130 ?_
    refine va_iast hx hb hK hP hD hS 4 3 rfl rfl (vp_in_nI (by omega) (by decide)) dMD_findWidths_131 (fun H locs hP hD hS => ?_)
    have hP : va_P (dC, dI) vwCl [(h0, .inr (6, [.int 1, .ref b0, .ref b1, .int 0, .ref b2, .ref b3, .ref b4, .ref b5, .ref b6, .ref b7, .ref b8, .ref b9, .ref b10, .ref b11, .int (-1), .int 0, .int 0, .int 0, .int 0, .int 0, .ref b12, .ref b13, .ref b14, .ref b15, .ref b16, .ref b17])), (b12, .inl (kb12, 12, .inl ul)), (b13, .inl (kb13, 12, .inl um)), (b14, .inl (kb14, 12, .inl (upd gw (nI i).toNatClampNeg (ul (nI i).toNatClampNeg)))), (b17, .inl (kb17, 12, .inl (upd gx (nI i).toNatClampNeg ((um (nI i).toNatClampNeg) - (ul (nI i).toNatClampNeg)))))] H := hP
    have hD : va_D A [(h0, .inr (6, [.int 1, .ref b0, .ref b1, .int 0, .ref b2, .ref b3, .ref b4, .ref b5, .ref b6, .ref b7, .ref b8, .ref b9, .ref b10, .ref b11, .int (-1), .int 0, .int 0, .int 0, .int 0, .int 0, .ref b12, .ref b13, .ref b14, .ref b15, .ref b16, .ref b17])), (b12, .inl (kb12, 12, .inl ul)), (b13, .inl (kb13, 12, .inl um)), (b14, .inl (kb14, 12, .inl (upd gw (nI i).toNatClampNeg (ul (nI i).toNatClampNeg)))), (b17, .inl (kb17, 12, .inl (upd gx (nI i).toNatClampNeg ((um (nI i).toNatClampNeg) - (ul (nI i).toNatClampNeg)))))] := hD
    refine lv_iinc (k := 0) (v := nI (i + 1)) hx hb dMD_findWidths_132 hl rfl (by rw [show Int32.ofInt 1 = 1 from by decide]; exact nI_1 i) (Nat.le_of_ble_eq_true rfl) rfl (fun ls hl => ?_)
    have hl : lv_has ls 6 [(5, .int (nI (i + 1))), (4, .int 0), (3, .int 0), (2, .int 0), (1, .int 0), (0, .ref h0)] := hl
    refine lv_goto (tgt := 59) hx hb dMD_findWidths_135 rfl ?_
    exact ih (upd gw (nI i).toNatClampNeg (ul (nI i).toNatClampNeg), upd gx (nI i).toNatClampNeg ((um (nI i).toNatClampNeg) - (ul (nI i).toNatClampNeg))) ls H locs ⟨lv_sub hl [0, 1, 2, 3, 4, 5] rfl, hP, hD, hS⟩

set_option maxHeartbeats 4000000 in
set_option maxRecDepth 100000 in
theorem c_MD_findHeights (l : Launch) (dC : Nat → ClassId) (dI : Nat → Nat → Nat) (h0 : Nat) (b0 : Nat) (b1 : Nat) (b2 : Nat) (b3 : Nat) (b4 : Nat) (b5 : Nat) (b6 : Nat) (b7 : Nat) (b8 : Nat) (b9 : Nat) (b10 : Nat) (b11 : Nat) (b12 : Nat) (b13 : Nat) (b14 : Nat) (b15 : Nat) (b16 : Nat) (b17 : Nat) (kb15 : ClassId) (fb15 : Nat → Int32) : zw_Mv (S := Unit) l yMD_findHeights wMD_findHeights ({ frames := 0, cells := 0, slots := 0, locals := 0 }) [.ref h0] (dC, dI) vwCl [(h0, .inr (6, [.int 1, .ref b0, .ref b1, .int 0, .ref b2, .ref b3, .ref b4, .ref b5, .ref b6, .ref b7, .ref b8, .ref b9, .ref b10, .ref b11, .int (-1), .int 0, .int 0, .int 0, .int 0, .int 0, .ref b12, .ref b13, .ref b14, .ref b15, .ref b16, .ref b17])), (b15, .inl (kb15, 12, .inl fb15))] [(kb15, .int)] (fun _ _ => True) (fun (_ : Unit) => True) (fun (_ : Unit) => []) (fun (_ : Unit) => []) 0 0 := by
  refine zw_headv (cc := cMD_findHeights) (maxL := 5) (ret := none) (by decide +kernel) rfl (Nat.le_of_ble_eq_true rfl) ?_
  intro p e s m below meth c ls A F hnm hA hP hK hD hS hX hl
  obtain ⟨hx, hb, hml, hr, hlocks, hown, hts⟩ := F
  have hown : s.vm.findClass "SpannedCellsModel" = some m.cls := hown
  have hz : ∀ w9 ∈ zT, w9.before [.ref h0].toArray s = true := fun w9 h => hts w9 (List.mem_cons_of_mem _ h)
  have hl : lv_has ls 5 [(0, .ref h0)] := hl
  refine z_q (fun Q hQ => ?_)
  refine lv_iconst (v := 0) hx hb dMD_findHeights_0 (by decide) ?_
  refine lv_istore_n hx hb dMD_findHeights_1 rfl hl (Nat.le_of_ble_eq_true rfl) rfl (fun ls hl => ?_)
  have hl : lv_has ls 5 [(1, .int 0), (0, .ref h0)] := hl
  refine zl_upW (σ := (Nat → Int32)) 12 (fun i gh ls H locs => lv_has ls 5 [(1, .int (nI i)), (0, .ref h0)] ∧ va_P (dC, dI) vwCl [(h0, .inr (6, [.int 1, .ref b0, .ref b1, .int 0, .ref b2, .ref b3, .ref b4, .ref b5, .ref b6, .ref b7, .ref b8, .ref b9, .ref b10, .ref b11, .int (-1), .int 0, .int 0, .int 0, .int 0, .int 0, .ref b12, .ref b13, .ref b14, .ref b15, .ref b16, .ref b17])), (b15, .inl (kb15, 12, .inl gh))] H ∧ va_D A [(h0, .inr (6, [.int 1, .ref b0, .ref b1, .int 0, .ref b2, .ref b3, .ref b4, .ref b5, .ref b6, .ref b7, .ref b8, .ref b9, .ref b10, .ref b11, .int (-1), .int 0, .int 0, .int 0, .int 0, .int 0, .ref b12, .ref b13, .ref b14, .ref b15, .ref b16, .ref b17])), (b15, .inl (kb15, 12, .inl gh))] ∧ va_S A s.heap H locs) ?_ ?_ 0 (Nat.le_of_ble_eq_true rfl) fb15 ls s.heap [] ⟨lv_sub hl [0, 1] rfl, hP, hD, hS⟩
  · intro x ls H locs hI
    obtain ⟨gh, rfl⟩ : ∃ z, z = x := ⟨_, rfl⟩
    obtain ⟨hl, hP, hD, hS⟩ := hI
    have hP : va_P (dC, dI) vwCl [(h0, .inr (6, [.int 1, .ref b0, .ref b1, .int 0, .ref b2, .ref b3, .ref b4, .ref b5, .ref b6, .ref b7, .ref b8, .ref b9, .ref b10, .ref b11, .int (-1), .int 0, .int 0, .int 0, .int 0, .int 0, .ref b12, .ref b13, .ref b14, .ref b15, .ref b16, .ref b17])), (b15, .inl (kb15, 12, .inl gh))] H := hP
    have hD : va_D A [(h0, .inr (6, [.int 1, .ref b0, .ref b1, .int 0, .ref b2, .ref b3, .ref b4, .ref b5, .ref b6, .ref b7, .ref b8, .ref b9, .ref b10, .ref b11, .int (-1), .int 0, .int 0, .int 0, .int 0, .int 0, .ref b12, .ref b13, .ref b14, .ref b15, .ref b16, .ref b17])), (b15, .inl (kb15, 12, .inl gh))] := hD
    have hl : lv_has ls 5 [(1, .int (nI 12)), (0, .ref h0)] := hl
    refine lv_iload_n hx hb dMD_findHeights_2 rfl (lv_at hl 0 rfl) ?_
    refine lv_bipush (v := 12) hx hb dMD_findHeights_3 (by decide) ?_
    refine lv_icmp_ge (tgt := 21) hx hb dMD_findHeights_5 rfl (fun _ => ?_) (fun h => absurd (by decide) h)
    refine lv_iconst (v := 1) hx hb dMD_findHeights_21 (by decide) ?_
    refine lv_istore_n hx hb dMD_findHeights_22 rfl hl (Nat.le_of_ble_eq_true rfl) rfl (fun ls hl => ?_)
    have hl : lv_has ls 5 [(1, .int 1), (0, .ref h0)] := hl
    refine zl_up (σ := Unit) 13 (fun i x ls => lv_has ls 5 [(1, .int (nI i)), (0, .ref h0)]) ?_ ?_ 1 (Nat.le_of_ble_eq_true rfl) () ls (lv_sub hl [0, 1] rfl)
    · intro x ls hI
      have hl := hI
      have hl : lv_has ls 5 [(1, .int (nI 13)), (0, .ref h0)] := hl
      refine lv_iload_n hx hb dMD_findHeights_23 rfl (lv_at hl 0 rfl) ?_
      refine lv_bipush (v := 13) hx hb dMD_findHeights_24 (by decide) ?_
      refine lv_icmp_ge (tgt := 160) hx hb dMD_findHeights_26 rfl (fun _ => ?_) (fun h => absurd (by decide) h)
      subst hQ
      exact zw_vret (D := (dC, dI)) (cl := vwCl) (A := A) () hx hb hr hlocks (trivial) (hP.sub [] rfl) (hK.sub [] rfl) (hD.sub [] (by decide) rfl) hS dMD_findHeights_160
    · intro i hi ih
      intro x ls hI
      have hl := hI
      have hl : lv_has ls 5 [(1, .int (nI i)), (0, .ref h0)] := hl
      refine lv_iload_n hx hb dMD_findHeights_23 rfl (lv_at hl 0 rfl) ?_
      refine lv_bipush (v := 13) hx hb dMD_findHeights_24 (by decide) ?_
      refine lv_icmp_ge (tgt := 160) hx hb dMD_findHeights_26 rfl (fun h => absurd h (z_ltN hi (by decide) rfl)) (fun _ => ?_)
      refine lv_iconst (v := 0) hx hb dMD_findHeights_29 (by decide) ?_
      refine lv_istore_n hx hb dMD_findHeights_30 rfl hl (Nat.le_of_ble_eq_true rfl) rfl (fun ls hl => ?_)
      have hl : lv_has ls 5 [(2, .int 0), (1, .int (nI i)), (0, .ref h0)] := hl
      refine lv_iload_n hx hb dMD_findHeights_31 rfl (lv_at hl 0 rfl) ?_
      refine lv_aload_n hx hb dMD_findHeights_32 rfl (lv_at hl 2 rfl) ?_
      refine va_get (D := (dC, dI)) (ci := 6) (v := .int 0) (C := RMD) (T := TMD) (N := 26) hx hb hz in_MD hown hK hP 0 rfl rfl 3 (by decide) (hz _ wd_587) (fun _ h9 => h9) rfl dMD_findHeights_33 ?_
      refine lv_icmp_ge (tgt := 154) hx hb dMD_findHeights_36 rfl (fun _ => ?_) (fun h => absurd (by decide) h)
      refine lv_iinc (k := 1) (v := nI (i + 1)) hx hb dMD_findHeights_154 hl rfl (by rw [show Int32.ofInt 1 = 1 from by decide]; exact nI_1 i) (Nat.le_of_ble_eq_true rfl) rfl (fun ls hl => ?_)
      have hl : lv_has ls 5 [(1, .int (nI (i + 1))), (2, .int 0), (0, .ref h0)] := hl
      refine lv_goto (tgt := 23) hx hb dMD_findHeights_157 rfl ?_
      exact ih () ls (lv_sub hl [0, 2] rfl)
  · intro i hi ih
    intro x ls H locs hI
    obtain ⟨gh, rfl⟩ : ∃ z, z = x := ⟨_, rfl⟩
    obtain ⟨hl, hP, hD, hS⟩ := hI
    have hP : va_P (dC, dI) vwCl [(h0, .inr (6, [.int 1, .ref b0, .ref b1, .int 0, .ref b2, .ref b3, .ref b4, .ref b5, .ref b6, .ref b7, .ref b8, .ref b9, .ref b10, .ref b11, .int (-1), .int 0, .int 0, .int 0, .int 0, .int 0, .ref b12, .ref b13, .ref b14, .ref b15, .ref b16, .ref b17])), (b15, .inl (kb15, 12, .inl gh))] H := hP
    have hD : va_D A [(h0, .inr (6, [.int 1, .ref b0, .ref b1, .int 0, .ref b2, .ref b3, .ref b4, .ref b5, .ref b6, .ref b7, .ref b8, .ref b9, .ref b10, .ref b11, .int (-1), .int 0, .int 0, .int 0, .int 0, .int 0, .ref b12, .ref b13, .ref b14, .ref b15, .ref b16, .ref b17])), (b15, .inl (kb15, 12, .inl gh))] := hD
    have hl : lv_has ls 5 [(1, .int (nI i)), (0, .ref h0)] := hl
    refine lv_iload_n hx hb dMD_findHeights_2 rfl (lv_at hl 0 rfl) ?_
    refine lv_bipush (v := 12) hx hb dMD_findHeights_3 (by decide) ?_
    refine lv_icmp_ge (tgt := 21) hx hb dMD_findHeights_5 rfl (fun h => absurd h (z_ltN hi (by decide) rfl)) (fun _ => ?_)
    refine lv_aload_n hx hb dMD_findHeights_8 rfl (lv_at hl 1 rfl) ?_
    refine va_get (D := (dC, dI)) (ci := 6) (v := .ref b15) (C := RMD) (T := TMD) (N := 26) hx hb hz in_MD hown hK hP 0 rfl rfl 23 (by decide) (hz _ wd_607) (fun _ h9 => h9) rfl dMD_findHeights_9 ?_
    refine lv_iload_n hx hb dMD_findHeights_12 rfl (lv_at hl 0 rfl) ?_
    refine lv_iconst (v := 0) hx hb dMD_findHeights_13 (by decide) ?_
    refine va_iast hx hb hK hP hD hS 1 0 rfl rfl (vp_in_nI (by omega) (by decide)) dMD_findHeights_14 (fun H locs hP hD hS => ?_)
    have hP : va_P (dC, dI) vwCl [(h0, .inr (6, [.int 1, .ref b0, .ref b1, .int 0, .ref b2, .ref b3, .ref b4, .ref b5, .ref b6, .ref b7, .ref b8, .ref b9, .ref b10, .ref b11, .int (-1), .int 0, .int 0, .int 0, .int 0, .int 0, .ref b12, .ref b13, .ref b14, .ref b15, .ref b16, .ref b17])), (b15, .inl (kb15, 12, .inl (upd gh (nI i).toNatClampNeg 0)))] H := hP
    have hD : va_D A [(h0, .inr (6, [.int 1, .ref b0, .ref b1, .int 0, .ref b2, .ref b3, .ref b4, .ref b5, .ref b6, .ref b7, .ref b8, .ref b9, .ref b10, .ref b11, .int (-1), .int 0, .int 0, .int 0, .int 0, .int 0, .ref b12, .ref b13, .ref b14, .ref b15, .ref b16, .ref b17])), (b15, .inl (kb15, 12, .inl (upd gh (nI i).toNatClampNeg 0)))] := hD
    refine lv_iinc (k := 0) (v := nI (i + 1)) hx hb dMD_findHeights_15 hl rfl (by rw [show Int32.ofInt 1 = 1 from by decide]; exact nI_1 i) (Nat.le_of_ble_eq_true rfl) rfl (fun ls hl => ?_)
    have hl : lv_has ls 5 [(1, .int (nI (i + 1))), (0, .ref h0)] := hl
    refine lv_goto (tgt := 2) hx hb dMD_findHeights_18 rfl ?_
    exact ih (upd gh (nI i).toNatClampNeg 0) ls H locs ⟨lv_sub hl [0, 1] rfl, hP, hD, hS⟩

set_option maxHeartbeats 4000000 in
set_option maxRecDepth 100000 in
theorem c_MD_size (l : Launch) (dC : Nat → ClassId) (dI : Nat → Nat → Nat) (h0 : Nat) (b0 : Nat) (b1 : Nat) (b2 : Nat) (b3 : Nat) (b4 : Nat) (b5 : Nat) (b6 : Nat) (b7 : Nat) (b8 : Nat) (b9 : Nat) (b10 : Nat) (b11 : Nat) (b12 : Nat) (b13 : Nat) (b14 : Nat) (b15 : Nat) (b16 : Nat) (b17 : Nat) (kb0 : ClassId) (kb1 : ClassId) (kb12 : ClassId) (kb13 : ClassId) (kb14 : ClassId) (kb17 : ClassId) (kb15 : ClassId) (fb12 : Nat → Int32) (fb13 : Nat → Int32) (fb14 : Nat → Int32) (fb17 : Nat → Int32) (fb15 : Nat → Int32) (f : Int32) : zw_Mi (S := Unit) l yMD_size wMD_size ({ frames := 3, cells := 0, slots := 0, locals := 67 }) [.ref h0, .int f] (dC, dI) vwCl [(h0, .inr (6, [.int 1, .ref b0, .ref b1, .int 0, .ref b2, .ref b3, .ref b4, .ref b5, .ref b6, .ref b7, .ref b8, .ref b9, .ref b10, .ref b11, .int (-1), .int 0, .int 0, .int 0, .int 0, .int 0, .ref b12, .ref b13, .ref b14, .ref b15, .ref b16, .ref b17])), (b0, .inl (kb0, 8, .inl (fun _ => 0))), (b1, .inl (kb1, 8, .inl (fun _ => 0))), (b12, .inl (kb12, 12, .inl fb12)), (b13, .inl (kb13, 12, .inl fb13)), (b14, .inl (kb14, 12, .inl fb14)), (b17, .inl (kb17, 12, .inl fb17)), (b15, .inl (kb15, 12, .inl fb15))] [(kb0, .int), (kb1, .int), (kb12, .int), (kb13, .int), (kb14, .int), (kb17, .int), (kb15, .int)] (fun _ _ => True) (fun r (_ : Unit) => r = 0) (fun (_ : Unit) => []) (fun (_ : Unit) => []) 0 0 := by
  refine zw_headi (cc := cMD_size) (maxL := 3) (ret := (some .int)) (by decide +kernel) rfl (Nat.le_of_ble_eq_true rfl) ?_
  intro p e s m below meth c ls A F hA hP hK hD hS hX hl
  obtain ⟨hx, hb, hml, hr, hlocks, hown, hts⟩ := F
  have hown : s.vm.findClass "SpannedCellsModel" = some m.cls := hown
  have hz : ∀ w9 ∈ zT, w9.before [.ref h0, .int f].toArray s = true := fun w9 h => hts w9 (List.mem_cons_of_mem _ h)
  have hl : lv_has ls 3 [(0, .ref h0), (1, .int f)] := hl
  refine z_q (fun Q hQ => ?_)
  refine z_join (fun v1 : Int32 => v1 = 0) (fun v1 => W p l e ({ frames := 3, cells := 0, slots := 0, locals := 67 }) s m [.ref h0, .int f].toArray below meth c s.heap [] 0 0 Q (F0 m 15 ls (.int v1 :: []))) (fun v1 hv1 => ?_) (fun J15 => ?_)
  · subst hv1
    refine lv_istore_n hx hb dMD_size_15 rfl hl (Nat.le_of_ble_eq_true rfl) rfl (fun ls hl => ?_)
    have hl : lv_has ls 3 [(2, .int 0), (0, .ref h0), (1, .int f)] := hl
    refine lv_aload_n hx hb dMD_size_16 rfl (lv_at hl 1 rfl) ?_
    refine zw_callv (wr := [(b0, .inl (kb0, 8, .inl (fun _ => 0))), (b1, .inl (kb1, 8, .inl (fun _ => 0))), (b15, .inl (kb15, 12, .inl fb15))]) hK hP hD hS hA [0, 3, 4, 5, 6] [1, 2, 7] rfl rfl (by decide) (by decide) (va_runV (As := []) (rest := []) ⟨hx, hb, hml, hown, hz⟩ ((c_MD_findWidths l dC dI h0 b0 b1 b2 b3 b4 b5 b6 b7 b8 b9 b10 b11 b12 b13 b14 b15 b16 b17 kb12 kb13 kb14 kb17 fb12 fb13 fb14 fb17 ) s.heap.size) (cwV 0 hz (z_gV wd_743 wd_745 wd_19 wd_37 wd_746) rfl rfl rfl (by decide +kernel) ⟨Nat.le_of_ble_eq_true rfl, Nat.le_of_ble_eq_true rfl⟩) (zw_preV (q0 := 0) (q := (RMD, TMD, 26)) hK hP hD rfl rfl [0, 3, 4, 5, 6] (by decide) rfl [2, 3, 4, 5] rfl z_true (fun _ _ _ => trivial)) rfl rfl hl.1 rfl (lv_room (Nat.le_of_ble_eq_true rfl)) dMD_size_17 ⟨Nat.le_of_ble_eq_true rfl, Nat.le_of_ble_eq_true rfl⟩) (fun u H locs h_r1 hP hD hK hS => ?_)
    have hP : va_P (dC, dI) vwCl [(h0, .inr (6, [.int 1, .ref b0, .ref b1, .int 0, .ref b2, .ref b3, .ref b4, .ref b5, .ref b6, .ref b7, .ref b8, .ref b9, .ref b10, .ref b11, .int (-1), .int 0, .int 0, .int 0, .int 0, .int 0, .ref b12, .ref b13, .ref b14, .ref b15, .ref b16, .ref b17])), (b0, .inl (kb0, 8, .inl (fun _ => 0))), (b1, .inl (kb1, 8, .inl (fun _ => 0))), (b15, .inl (kb15, 12, .inl fb15))] H := hP.sub [3, 0, 1, 2] rfl
    have hD : va_D A [(h0, .inr (6, [.int 1, .ref b0, .ref b1, .int 0, .ref b2, .ref b3, .ref b4, .ref b5, .ref b6, .ref b7, .ref b8, .ref b9, .ref b10, .ref b11, .int (-1), .int 0, .int 0, .int 0, .int 0, .int 0, .ref b12, .ref b13, .ref b14, .ref b15, .ref b16, .ref b17])), (b0, .inl (kb0, 8, .inl (fun _ => 0))), (b1, .inl (kb1, 8, .inl (fun _ => 0))), (b15, .inl (kb15, 12, .inl fb15))] := hD.sub [3, 0, 1, 2] (by decide) rfl
    have hK : va_K (dC, dI) vwCl [(kb0, .int), (kb1, .int), (kb12, .int), (kb13, .int), (kb14, .int), (kb17, .int), (kb15, .int)] s := hK
    refine lv_aload_n hx hb dMD_size_20 rfl (lv_at hl 1 rfl) ?_
    refine zw_callv (wr := [(b0, .inl (kb0, 8, .inl (fun _ => 0))), (b1, .inl (kb1, 8, .inl (fun _ => 0)))]) hK hP hD hS hA [0, 3] [1, 2] rfl rfl (by decide) (by decide) (va_runV (As := []) (rest := []) ⟨hx, hb, hml, hown, hz⟩ ((c_MD_findHeights l dC dI h0 b0 b1 b2 b3 b4 b5 b6 b7 b8 b9 b10 b11 b12 b13 b14 b15 b16 b17 kb15 fb15 ) H.size) (cwV 0 hz (z_gV wd_781 wd_783 wd_26 wd_37 wd_784) rfl rfl rfl (by decide +kernel) ⟨Nat.le_of_ble_eq_true rfl, Nat.le_of_ble_eq_true rfl⟩) (zw_preV (q0 := 0) (q := (RMD, TMD, 26)) hK hP hD rfl rfl [0, 3] (by decide) rfl [6] rfl z_true (fun _ _ _ => trivial)) rfl rfl hl.1 rfl (lv_room (Nat.le_of_ble_eq_true rfl)) dMD_size_21 ⟨Nat.le_of_ble_eq_true rfl, Nat.le_of_ble_eq_true rfl⟩) (fun u H locs h_r2 hP hD hK hS => ?_)
    have hP : va_P (dC, dI) vwCl [(b0, .inl (kb0, 8, .inl (fun _ => 0))), (b1, .inl (kb1, 8, .inl (fun _ => 0)))] H := hP.sub [0, 1] rfl
    have hD : va_D A [(b0, .inl (kb0, 8, .inl (fun _ => 0))), (b1, .inl (kb1, 8, .inl (fun _ => 0)))] := hD.sub [0, 1] (by decide) rfl
    have hK : va_K (dC, dI) vwCl [(kb0, .int), (kb1, .int), (kb12, .int), (kb13, .int), (kb14, .int), (kb17, .int), (kb15, .int)] s := hK
    refine lv_iload_n hx hb dMD_size_24 rfl (lv_at hl 0 rfl) ?_
    refine lv_if_ne (tgt := 32) hx hb dMD_size_25 rfl (fun h => absurd (by decide) h) (fun _ => ?_)
    refine lv_iconst (v := 0) hx hb dMD_size_28 (by decide) ?_
    refine lv_goto (tgt := 66) hx hb dMD_size_29 rfl ?_
    subst hQ
    exact zw_iret (D := (dC, dI)) (cl := vwCl) (A := A) () hx hb hr hlocks (rfl) (hP.sub [] rfl) (hK.sub [] rfl) (hD.sub [] (by decide) rfl) hS dMD_size_66
  · refine lv_iload_n hx hb dMD_size_0 rfl (lv_at hl 1 rfl) ?_
    refine lv_if_eq (tgt := 11) hx hb dMD_size_1 rfl (fun h3 => ?_) (fun h3 => ?_)
    · refine lv_aload_n hx hb dMD_size_11 rfl (lv_at hl 0 rfl) ?_
      refine vp_callSi (W.runV (As := []) (rest := []) ⟨hx, hb, hml, hown, hz⟩ (c_MD_columns l dC dI h0 b0 b1 b2 b3 b4 b5 b6 b7 b8 b9 b10 b11 b12 b13 b14 b15 b16 b17 ) (cwV 0 hz (z_gV wd_732 wd_701 wd_702 wd_37 wd_703) rfl rfl rfl (by decide +kernel) ⟨Nat.le_of_ble_eq_true rfl, Nat.le_of_ble_eq_true rfl⟩) (zp_preV (q0 := 0) (q := (RMD, TMD, 26)) hK hP rfl rfl [0] rfl [] rfl z_true (fun _ _ _ => trivial)) rfl rfl hl.1 rfl (lv_room (Nat.le_of_ble_eq_true rfl)) dMD_size_12 ⟨Nat.le_of_ble_eq_true rfl, Nat.le_of_ble_eq_true rfl⟩) (fun r4 h_r4 => ?_)
      have h_r4 : r4 = 0 := h_r4
      subst h_r4
      exact J15 _ (rfl)
    · refine lv_aload_n hx hb dMD_size_4 rfl (lv_at hl 0 rfl) ?_
      refine vp_callSi (W.runV (As := []) (rest := []) ⟨hx, hb, hml, hown, hz⟩ (c_MD_rows l dC dI h0 b0 b1 b2 b3 b4 b5 b6 b7 b8 b9 b10 b11 b12 b13 b14 b15 b16 b17 kb0 kb1 ) (cwV 0 hz (z_gV wd_733 wd_705 wd_706 wd_37 wd_707) rfl rfl rfl (by decide +kernel) ⟨Nat.le_of_ble_eq_true rfl, Nat.le_of_ble_eq_true rfl⟩) (zp_preV (q0 := 0) (q := (RMD, TMD, 26)) hK hP rfl rfl [0, 1, 2] rfl [0, 1] rfl z_true (fun _ _ _ => trivial)) rfl rfl hl.1 rfl (lv_room (Nat.le_of_ble_eq_true rfl)) dMD_size_5 ⟨Nat.le_of_ble_eq_true rfl, Nat.le_of_ble_eq_true rfl⟩) (fun r5 h_r5 => ?_)
      have h_r5 : r5 = 0 := h_r5
      subst h_r5
      refine lv_goto (tgt := 15) hx hb dMD_size_8 rfl ?_
      exact J15 _ (rfl)
end
section
set_option maxHeartbeats 4000000 in
set_option maxRecDepth 100000 in
theorem c_MD_init (l : Launch) (dC : Nat → ClassId) (dI : Nat → Nat → Nat) (h0 : Nat) : zw_Mv (S := (Nat) × (Nat) × (Nat) × (Nat) × (Nat) × (Nat) × (Nat) × (Nat) × (Nat) × (Nat) × (Nat) × (Nat) × (Nat) × (Nat) × (Nat) × (Nat) × (Nat) × (Nat) × (ClassId) × (ClassId) × (ClassId) × (ClassId) × (ClassId) × (ClassId) × (ClassId)) l yMD_init wMD_init ({ frames := 1, cells := 18, slots := 488, locals := 12 }) [.ref h0] (dC, dI) vwCl [(h0, .inr (6, [.int 0, .null, .null, .int 0, .null, .null, .null, .null, .null, .null, .null, .null, .null, .null, .int 0, .int 0, .int 0, .int 0, .int 0, .int 0, .null, .null, .null, .null, .null, .null]))] [] (fun _ _ => True) (fun u => match u with | (b0, b1, b2, b3, b4, b5, b6, b7, b8, b9, b10, b11, b12, b13, b14, b15, b16, b17, kb0, kb1, kb12, kb13, kb14, kb17, kb15) => True) (fun u => match u with | (b0, b1, b2, b3, b4, b5, b6, b7, b8, b9, b10, b11, b12, b13, b14, b15, b16, b17, kb0, kb1, kb12, kb13, kb14, kb17, kb15) => [(h0, .inr (6, [.int 1, .ref b0, .ref b1, .int 0, .ref b2, .ref b3, .ref b4, .ref b5, .ref b6, .ref b7, .ref b8, .ref b9, .ref b10, .ref b11, .int (-1), .int 0, .int 0, .int 0, .int 0, .int 0, .ref b12, .ref b13, .ref b14, .ref b15, .ref b16, .ref b17])), (b0, .inl (kb0, 8, .inl (fun _ => 0))), (b1, .inl (kb1, 8, .inl (fun _ => 0))), (b12, .inl (kb12, 12, .inl (fun _ => 0))), (b13, .inl (kb13, 12, .inl (fun _ => 0))), (b14, .inl (kb14, 12, .inl (fun _ => 0))), (b17, .inl (kb17, 12, .inl (fun _ => 0))), (b15, .inl (kb15, 12, .inl (fun _ => 0)))]) (fun u => match u with | (b0, b1, b2, b3, b4, b5, b6, b7, b8, b9, b10, b11, b12, b13, b14, b15, b16, b17, kb0, kb1, kb12, kb13, kb14, kb17, kb15) => [(kb0, .int), (kb1, .int), (kb12, .int), (kb13, .int), (kb14, .int), (kb17, .int), (kb15, .int)]) 18 488 := by
  refine zw_headv (cc := cMD_init) (maxL := 1) (ret := none) (by decide +kernel) rfl (Nat.le_of_ble_eq_true rfl) ?_
  intro p e s m below meth c ls A F hnm hA hP hK hD hS hX hl
  obtain ⟨hx, hb, hml, hr, hlocks, hown, hts⟩ := F
  have hown : s.vm.findClass "SpannedCellsModel" = some m.cls := hown
  have hz : ∀ w9 ∈ zT, w9.before [.ref h0].toArray s = true := fun w9 h => hts w9 (List.mem_cons_of_mem _ h)
  have hin : meth.name = "<init>" := hnm
  have hl : lv_has ls 1 [(0, .ref h0)] := hl
  refine z_q (fun Q hQ => ?_)
  refine lv_aload_n hx hb dMD_init_0 rfl (lv_at hl 0 rfl) ?_
  refine W.objInit hx hb hown (hz _ wd_583) (hz _ wd_51) (hz _ wd_52) rfl (by rw [hml]; exact hl.1) rfl dMD_init_1 (Nat.le_of_ble_eq_true rfl) (Nat.le_of_ble_eq_true rfl) ?_
  refine W.eq (g2 := F0 m 4 ls []) rfl ?_
  refine lv_aload_n hx hb dMD_init_4 rfl (lv_at hl 0 rfl) ?_
  refine lv_iconst (v := 1) hx hb dMD_init_5 (by decide) ?_
  refine va_put (D := (dC, dI)) (ci := 6) (v := .int 1) (ty := .int) (C := RMD) (T := TMD) (N := 26) hx hb hz in_MD tyMD tokMD nokMD hown hK hP hD hS 0 rfl rfl 0 (by decide) (hz _ wd_584) (fun _ h9 => h9) rfl (by decide +kernel) rfl rfl (Nat.le_of_ble_eq_true rfl) dMD_init_6 (fun H locs hP hD hS => ?_)
  have hP : va_P (dC, dI) vwCl [(h0, .inr (6, [.int 1, .null, .null, .int 0, .null, .null, .null, .null, .null, .null, .null, .null, .null, .null, .int 0, .int 0, .int 0, .int 0, .int 0, .int 0, .null, .null, .null, .null, .null, .null]))] H := hP
  have hD : va_D A [(h0, .inr (6, [.int 1, .null, .null, .int 0, .null, .null, .null, .null, .null, .null, .null, .null, .null, .null, .int 0, .int 0, .int 0, .int 0, .int 0, .int 0, .null, .null, .null, .null, .null, .null]))] := hD
  refine lv_aload_n hx hb dMD_init_9 rfl (lv_at hl 0 rfl) ?_
  refine lv_bipush (v := 8) hx hb dMD_init_10 (by decide) ?_
  refine va_newa (atype := .int) (ty := .int) (N' := 8) (a0 := (8, .inl (fun _ => 0))) hx hb (hz _ wd_120) rfl hK hP hD hS hA (fun _ => rfl) (by decide) (by decide) (by decide) (Nat.le_of_ble_eq_true rfl) (Nat.le_of_ble_eq_true rfl) dMD_init_12 (fun q1 cA2 H hK hP hD hS => ?_)
  have hP : va_P (dC, dI) vwCl [(h0, .inr (6, [.int 1, .null, .null, .int 0, .null, .null, .null, .null, .null, .null, .null, .null, .null, .null, .int 0, .int 0, .int 0, .int 0, .int 0, .int 0, .null, .null, .null, .null, .null, .null])), (q1, .inl (cA2, 8, .inl (fun _ => 0)))] H := hP
  have hD : va_D A [(h0, .inr (6, [.int 1, .null, .null, .int 0, .null, .null, .null, .null, .null, .null, .null, .null, .null, .null, .int 0, .int 0, .int 0, .int 0, .int 0, .int 0, .null, .null, .null, .null, .null, .null])), (q1, .inl (cA2, 8, .inl (fun _ => 0)))] := hD
  have hK : va_K (dC, dI) vwCl [(cA2, .int)] s := hK
  refine W.widen (k := 1) (n := 8) (Nat.le_of_ble_eq_true rfl) (Nat.le_of_ble_eq_true rfl) ?_
  refine va_putF (D := (dC, dI)) (ci := 6) (v := .ref q1) (ty := .array .int) (C := RMD) (T := TMD) (N := 26) hx hb hz in_MD tyMD tokMD nokMD hown hK hP hD hS 0 rfl rfl 1 (by decide) (hz _ wd_585) (fun _ h9 => h9) rfl hin rfl (by decide +kernel) rfl rfl (Nat.le_of_ble_eq_true rfl) dMD_init_14 (fun H locs hP hD hS => ?_)
  have hP : va_P (dC, dI) vwCl [(h0, .inr (6, [.int 1, .ref q1, .null, .int 0, .null, .null, .null, .null, .null, .null, .null, .null, .null, .null, .int 0, .int 0, .int 0, .int 0, .int 0, .int 0, .null, .null, .null, .null, .null, .null])), (q1, .inl (cA2, 8, .inl (fun _ => 0)))] H := hP
  have hD : va_D A [(h0, .inr (6, [.int 1, .ref q1, .null, .int 0, .null, .null, .null, .null, .null, .null, .null, .null, .null, .null, .int 0, .int 0, .int 0, .int 0, .int 0, .int 0, .null, .null, .null, .null, .null, .null])), (q1, .inl (cA2, 8, .inl (fun _ => 0)))] := hD
  refine lv_aload_n hx hb dMD_init_17 rfl (lv_at hl 0 rfl) ?_
  refine lv_bipush (v := 8) hx hb dMD_init_18 (by decide) ?_
  refine va_newa (atype := .int) (ty := .int) (N' := 8) (a0 := (8, .inl (fun _ => 0))) hx hb (hz _ wd_120) rfl hK hP hD hS hA (fun _ => rfl) (by decide) (by decide) (by decide) (Nat.le_of_ble_eq_true rfl) (Nat.le_of_ble_eq_true rfl) dMD_init_20 (fun q3 cA4 H hK hP hD hS => ?_)
  have hP : va_P (dC, dI) vwCl [(h0, .inr (6, [.int 1, .ref q1, .null, .int 0, .null, .null, .null, .null, .null, .null, .null, .null, .null, .null, .int 0, .int 0, .int 0, .int 0, .int 0, .int 0, .null, .null, .null, .null, .null, .null])), (q1, .inl (cA2, 8, .inl (fun _ => 0))), (q3, .inl (cA4, 8, .inl (fun _ => 0)))] H := hP
  have hD : va_D A [(h0, .inr (6, [.int 1, .ref q1, .null, .int 0, .null, .null, .null, .null, .null, .null, .null, .null, .null, .null, .int 0, .int 0, .int 0, .int 0, .int 0, .int 0, .null, .null, .null, .null, .null, .null])), (q1, .inl (cA2, 8, .inl (fun _ => 0))), (q3, .inl (cA4, 8, .inl (fun _ => 0)))] := hD
  have hK : va_K (dC, dI) vwCl [(cA2, .int), (cA4, .int)] s := hK
  refine W.widen (k := 2) (n := 16) (Nat.le_of_ble_eq_true rfl) (Nat.le_of_ble_eq_true rfl) ?_
  refine va_putF (D := (dC, dI)) (ci := 6) (v := .ref q3) (ty := .array .int) (C := RMD) (T := TMD) (N := 26) hx hb hz in_MD tyMD tokMD nokMD hown hK hP hD hS 0 rfl rfl 2 (by decide) (hz _ wd_586) (fun _ h9 => h9) rfl hin rfl (by decide +kernel) rfl rfl (Nat.le_of_ble_eq_true rfl) dMD_init_22 (fun H locs hP hD hS => ?_)
  have hP : va_P (dC, dI) vwCl [(h0, .inr (6, [.int 1, .ref q1, .ref q3, .int 0, .null, .null, .null, .null, .null, .null, .null, .null, .null, .null, .int 0, .int 0, .int 0, .int 0, .int 0, .int 0, .null, .null, .null, .null, .null, .null])), (q1, .inl (cA2, 8, .inl (fun _ => 0))), (q3, .inl (cA4, 8, .inl (fun _ => 0)))] H := hP
  have hD : va_D A [(h0, .inr (6, [.int 1, .ref q1, .ref q3, .int 0, .null, .null, .null, .null, .null, .null, .null, .null, .null, .null, .int 0, .int 0, .int 0, .int 0, .int 0, .int 0, .null, .null, .null, .null, .null, .null])), (q1, .inl (cA2, 8, .inl (fun _ => 0))), (q3, .inl (cA4, 8, .inl (fun _ => 0)))] := hD
  refine lv_aload_n hx hb dMD_init_25 rfl (lv_at hl 0 rfl) ?_
  refine lv_bipush (v := 40) hx hb dMD_init_26 (by decide) ?_
  refine va_newa (atype := .int) (ty := .int) (N' := 40) (a0 := (40, .inl (fun _ => 0))) hx hb (hz _ wd_120) rfl hK hP hD hS hA (fun _ => rfl) (by decide) (by decide) (by decide) (Nat.le_of_ble_eq_true rfl) (Nat.le_of_ble_eq_true rfl) dMD_init_28 (fun q5 cA6 H hK hP hD hS => ?_)
  have hP : va_P (dC, dI) vwCl [(h0, .inr (6, [.int 1, .ref q1, .ref q3, .int 0, .null, .null, .null, .null, .null, .null, .null, .null, .null, .null, .int 0, .int 0, .int 0, .int 0, .int 0, .int 0, .null, .null, .null, .null, .null, .null])), (q1, .inl (cA2, 8, .inl (fun _ => 0))), (q3, .inl (cA4, 8, .inl (fun _ => 0))), (q5, .inl (cA6, 40, .inl (fun _ => 0)))] H := hP
  have hD : va_D A [(h0, .inr (6, [.int 1, .ref q1, .ref q3, .int 0, .null, .null, .null, .null, .null, .null, .null, .null, .null, .null, .int 0, .int 0, .int 0, .int 0, .int 0, .int 0, .null, .null, .null, .null, .null, .null])), (q1, .inl (cA2, 8, .inl (fun _ => 0))), (q3, .inl (cA4, 8, .inl (fun _ => 0))), (q5, .inl (cA6, 40, .inl (fun _ => 0)))] := hD
  have hK : va_K (dC, dI) vwCl [(cA2, .int), (cA4, .int), (cA6, .int)] s := hK
  refine W.widen (k := 3) (n := 56) (Nat.le_of_ble_eq_true rfl) (Nat.le_of_ble_eq_true rfl) ?_
  refine va_putF (D := (dC, dI)) (ci := 6) (v := .ref q5) (ty := .array .int) (C := RMD) (T := TMD) (N := 26) hx hb hz in_MD tyMD tokMD nokMD hown hK hP hD hS 0 rfl rfl 4 (by decide) (hz _ wd_588) (fun _ h9 => h9) rfl hin rfl (by decide +kernel) rfl rfl (Nat.le_of_ble_eq_true rfl) dMD_init_30 (fun H locs hP hD hS => ?_)
  have hP : va_P (dC, dI) vwCl [(h0, .inr (6, [.int 1, .ref q1, .ref q3, .int 0, .ref q5, .null, .null, .null, .null, .null, .null, .null, .null, .null, .int 0, .int 0, .int 0, .int 0, .int 0, .int 0, .null, .null, .null, .null, .null, .null])), (q1, .inl (cA2, 8, .inl (fun _ => 0))), (q3, .inl (cA4, 8, .inl (fun _ => 0))), (q5, .inl (cA6, 40, .inl (fun _ => 0)))] H := hP
  have hD : va_D A [(h0, .inr (6, [.int 1, .ref q1, .ref q3, .int 0, .ref q5, .null, .null, .null, .null, .null, .null, .null, .null, .null, .int 0, .int 0, .int 0, .int 0, .int 0, .int 0, .null, .null, .null, .null, .null, .null])), (q1, .inl (cA2, 8, .inl (fun _ => 0))), (q3, .inl (cA4, 8, .inl (fun _ => 0))), (q5, .inl (cA6, 40, .inl (fun _ => 0)))] := hD
  refine lv_aload_n hx hb dMD_init_33 rfl (lv_at hl 0 rfl) ?_
  refine lv_bipush (v := 40) hx hb dMD_init_34 (by decide) ?_
  refine va_newa (atype := .int) (ty := .int) (N' := 40) (a0 := (40, .inl (fun _ => 0))) hx hb (hz _ wd_120) rfl hK hP hD hS hA (fun _ => rfl) (by decide) (by decide) (by decide) (Nat.le_of_ble_eq_true rfl) (Nat.le_of_ble_eq_true rfl) dMD_init_36 (fun q7 cA8 H hK hP hD hS => ?_)
  have hP : va_P (dC, dI) vwCl [(h0, .inr (6, [.int 1, .ref q1, .ref q3, .int 0, .ref q5, .null, .null, .null, .null, .null, .null, .null, .null, .null, .int 0, .int 0, .int 0, .int 0, .int 0, .int 0, .null, .null, .null, .null, .null, .null])), (q1, .inl (cA2, 8, .inl (fun _ => 0))), (q3, .inl (cA4, 8, .inl (fun _ => 0))), (q5, .inl (cA6, 40, .inl (fun _ => 0))), (q7, .inl (cA8, 40, .inl (fun _ => 0)))] H := hP
  have hD : va_D A [(h0, .inr (6, [.int 1, .ref q1, .ref q3, .int 0, .ref q5, .null, .null, .null, .null, .null, .null, .null, .null, .null, .int 0, .int 0, .int 0, .int 0, .int 0, .int 0, .null, .null, .null, .null, .null, .null])), (q1, .inl (cA2, 8, .inl (fun _ => 0))), (q3, .inl (cA4, 8, .inl (fun _ => 0))), (q5, .inl (cA6, 40, .inl (fun _ => 0))), (q7, .inl (cA8, 40, .inl (fun _ => 0)))] := hD
  have hK : va_K (dC, dI) vwCl [(cA2, .int), (cA4, .int), (cA6, .int), (cA8, .int)] s := hK
  refine W.widen (k := 4) (n := 96) (Nat.le_of_ble_eq_true rfl) (Nat.le_of_ble_eq_true rfl) ?_
  refine va_putF (D := (dC, dI)) (ci := 6) (v := .ref q7) (ty := .array .int) (C := RMD) (T := TMD) (N := 26) hx hb hz in_MD tyMD tokMD nokMD hown hK hP hD hS 0 rfl rfl 5 (by decide) (hz _ wd_589) (fun _ h9 => h9) rfl hin rfl (by decide +kernel) rfl rfl (Nat.le_of_ble_eq_true rfl) dMD_init_38 (fun H locs hP hD hS => ?_)
  have hP : va_P (dC, dI) vwCl [(h0, .inr (6, [.int 1, .ref q1, .ref q3, .int 0, .ref q5, .ref q7, .null, .null, .null, .null, .null, .null, .null, .null, .int 0, .int 0, .int 0, .int 0, .int 0, .int 0, .null, .null, .null, .null, .null, .null])), (q1, .inl (cA2, 8, .inl (fun _ => 0))), (q3, .inl (cA4, 8, .inl (fun _ => 0))), (q5, .inl (cA6, 40, .inl (fun _ => 0))), (q7, .inl (cA8, 40, .inl (fun _ => 0)))] H := hP
  have hD : va_D A [(h0, .inr (6, [.int 1, .ref q1, .ref q3, .int 0, .ref q5, .ref q7, .null, .null, .null, .null, .null, .null, .null, .null, .int 0, .int 0, .int 0, .int 0, .int 0, .int 0, .null, .null, .null, .null, .null, .null])), (q1, .inl (cA2, 8, .inl (fun _ => 0))), (q3, .inl (cA4, 8, .inl (fun _ => 0))), (q5, .inl (cA6, 40, .inl (fun _ => 0))), (q7, .inl (cA8, 40, .inl (fun _ => 0)))] := hD
  refine lv_aload_n hx hb dMD_init_41 rfl (lv_at hl 0 rfl) ?_
  refine lv_bipush (v := 40) hx hb dMD_init_42 (by decide) ?_
  refine va_newa (atype := .int) (ty := .int) (N' := 40) (a0 := (40, .inl (fun _ => 0))) hx hb (hz _ wd_120) rfl hK hP hD hS hA (fun _ => rfl) (by decide) (by decide) (by decide) (Nat.le_of_ble_eq_true rfl) (Nat.le_of_ble_eq_true rfl) dMD_init_44 (fun q9 cA10 H hK hP hD hS => ?_)
  have hP : va_P (dC, dI) vwCl [(h0, .inr (6, [.int 1, .ref q1, .ref q3, .int 0, .ref q5, .ref q7, .null, .null, .null, .null, .null, .null, .null, .null, .int 0, .int 0, .int 0, .int 0, .int 0, .int 0, .null, .null, .null, .null, .null, .null])), (q1, .inl (cA2, 8, .inl (fun _ => 0))), (q3, .inl (cA4, 8, .inl (fun _ => 0))), (q5, .inl (cA6, 40, .inl (fun _ => 0))), (q7, .inl (cA8, 40, .inl (fun _ => 0))), (q9, .inl (cA10, 40, .inl (fun _ => 0)))] H := hP
  have hD : va_D A [(h0, .inr (6, [.int 1, .ref q1, .ref q3, .int 0, .ref q5, .ref q7, .null, .null, .null, .null, .null, .null, .null, .null, .int 0, .int 0, .int 0, .int 0, .int 0, .int 0, .null, .null, .null, .null, .null, .null])), (q1, .inl (cA2, 8, .inl (fun _ => 0))), (q3, .inl (cA4, 8, .inl (fun _ => 0))), (q5, .inl (cA6, 40, .inl (fun _ => 0))), (q7, .inl (cA8, 40, .inl (fun _ => 0))), (q9, .inl (cA10, 40, .inl (fun _ => 0)))] := hD
  have hK : va_K (dC, dI) vwCl [(cA2, .int), (cA4, .int), (cA6, .int), (cA8, .int), (cA10, .int)] s := hK
  refine W.widen (k := 5) (n := 136) (Nat.le_of_ble_eq_true rfl) (Nat.le_of_ble_eq_true rfl) ?_
  refine va_putF (D := (dC, dI)) (ci := 6) (v := .ref q9) (ty := .array .int) (C := RMD) (T := TMD) (N := 26) hx hb hz in_MD tyMD tokMD nokMD hown hK hP hD hS 0 rfl rfl 6 (by decide) (hz _ wd_590) (fun _ h9 => h9) rfl hin rfl (by decide +kernel) rfl rfl (Nat.le_of_ble_eq_true rfl) dMD_init_46 (fun H locs hP hD hS => ?_)
  have hP : va_P (dC, dI) vwCl [(h0, .inr (6, [.int 1, .ref q1, .ref q3, .int 0, .ref q5, .ref q7, .ref q9, .null, .null, .null, .null, .null, .null, .null, .int 0, .int 0, .int 0, .int 0, .int 0, .int 0, .null, .null, .null, .null, .null, .null])), (q1, .inl (cA2, 8, .inl (fun _ => 0))), (q3, .inl (cA4, 8, .inl (fun _ => 0))), (q5, .inl (cA6, 40, .inl (fun _ => 0))), (q7, .inl (cA8, 40, .inl (fun _ => 0))), (q9, .inl (cA10, 40, .inl (fun _ => 0)))] H := hP
  have hD : va_D A [(h0, .inr (6, [.int 1, .ref q1, .ref q3, .int 0, .ref q5, .ref q7, .ref q9, .null, .null, .null, .null, .null, .null, .null, .int 0, .int 0, .int 0, .int 0, .int 0, .int 0, .null, .null, .null, .null, .null, .null])), (q1, .inl (cA2, 8, .inl (fun _ => 0))), (q3, .inl (cA4, 8, .inl (fun _ => 0))), (q5, .inl (cA6, 40, .inl (fun _ => 0))), (q7, .inl (cA8, 40, .inl (fun _ => 0))), (q9, .inl (cA10, 40, .inl (fun _ => 0)))] := hD
  refine lv_aload_n hx hb dMD_init_49 rfl (lv_at hl 0 rfl) ?_
  refine lv_bipush (v := 40) hx hb dMD_init_50 (by decide) ?_
  refine va_newa (atype := .int) (ty := .int) (N' := 40) (a0 := (40, .inl (fun _ => 0))) hx hb (hz _ wd_120) rfl hK hP hD hS hA (fun _ => rfl) (by decide) (by decide) (by decide) (Nat.le_of_ble_eq_true rfl) (Nat.le_of_ble_eq_true rfl) dMD_init_52 (fun q11 cA12 H hK hP hD hS => ?_)
  have hP : va_P (dC, dI) vwCl [(h0, .inr (6, [.int 1, .ref q1, .ref q3, .int 0, .ref q5, .ref q7, .ref q9, .null, .null, .null, .null, .null, .null, .null, .int 0, .int 0, .int 0, .int 0, .int 0, .int 0, .null, .null, .null, .null, .null, .null])), (q1, .inl (cA2, 8, .inl (fun _ => 0))), (q3, .inl (cA4, 8, .inl (fun _ => 0))), (q5, .inl (cA6, 40, .inl (fun _ => 0))), (q7, .inl (cA8, 40, .inl (fun _ => 0))), (q9, .inl (cA10, 40, .inl (fun _ => 0))), (q11, .inl (cA12, 40, .inl (fun _ => 0)))] H := hP
  have hD : va_D A [(h0, .inr (6, [.int 1, .ref q1, .ref q3, .int 0, .ref q5, .ref q7, .ref q9, .null, .null, .null, .null, .null, .null, .null, .int 0, .int 0, .int 0, .int 0, .int 0, .int 0, .null, .null, .null, .null, .null, .null])), (q1, .inl (cA2, 8, .inl (fun _ => 0))), (q3, .inl (cA4, 8, .inl (fun _ => 0))), (q5, .inl (cA6, 40, .inl (fun _ => 0))), (q7, .inl (cA8, 40, .inl (fun _ => 0))), (q9, .inl (cA10, 40, .inl (fun _ => 0))), (q11, .inl (cA12, 40, .inl (fun _ => 0)))] := hD
  have hK : va_K (dC, dI) vwCl [(cA2, .int), (cA4, .int), (cA6, .int), (cA8, .int), (cA10, .int), (cA12, .int)] s := hK
  refine W.widen (k := 6) (n := 176) (Nat.le_of_ble_eq_true rfl) (Nat.le_of_ble_eq_true rfl) ?_
  refine va_putF (D := (dC, dI)) (ci := 6) (v := .ref q11) (ty := .array .int) (C := RMD) (T := TMD) (N := 26) hx hb hz in_MD tyMD tokMD nokMD hown hK hP hD hS 0 rfl rfl 7 (by decide) (hz _ wd_591) (fun _ h9 => h9) rfl hin rfl (by decide +kernel) rfl rfl (Nat.le_of_ble_eq_true rfl) dMD_init_54 (fun H locs hP hD hS => ?_)
  have hP : va_P (dC, dI) vwCl [(h0, .inr (6, [.int 1, .ref q1, .ref q3, .int 0, .ref q5, .ref q7, .ref q9, .ref q11, .null, .null, .null, .null, .null, .null, .int 0, .int 0, .int 0, .int 0, .int 0, .int 0, .null, .null, .null, .null, .null, .null])), (q1, .inl (cA2, 8, .inl (fun _ => 0))), (q3, .inl (cA4, 8, .inl (fun _ => 0))), (q5, .inl (cA6, 40, .inl (fun _ => 0))), (q7, .inl (cA8, 40, .inl (fun _ => 0))), (q9, .inl (cA10, 40, .inl (fun _ => 0))), (q11, .inl (cA12, 40, .inl (fun _ => 0)))] H := hP
  have hD : va_D A [(h0, .inr (6, [.int 1, .ref q1, .ref q3, .int 0, .ref q5, .ref q7, .ref q9, .ref q11, .null, .null, .null, .null, .null, .null, .int 0, .int 0, .int 0, .int 0, .int 0, .int 0, .null, .null, .null, .null, .null, .null])), (q1, .inl (cA2, 8, .inl (fun _ => 0))), (q3, .inl (cA4, 8, .inl (fun _ => 0))), (q5, .inl (cA6, 40, .inl (fun _ => 0))), (q7, .inl (cA8, 40, .inl (fun _ => 0))), (q9, .inl (cA10, 40, .inl (fun _ => 0))), (q11, .inl (cA12, 40, .inl (fun _ => 0)))] := hD
  refine lv_aload_n hx hb dMD_init_57 rfl (lv_at hl 0 rfl) ?_
  refine lv_bipush (v := 40) hx hb dMD_init_58 (by decide) ?_
  refine va_newa (atype := .int) (ty := .int) (N' := 40) (a0 := (40, .inl (fun _ => 0))) hx hb (hz _ wd_120) rfl hK hP hD hS hA (fun _ => rfl) (by decide) (by decide) (by decide) (Nat.le_of_ble_eq_true rfl) (Nat.le_of_ble_eq_true rfl) dMD_init_60 (fun q13 cA14 H hK hP hD hS => ?_)
  have hP : va_P (dC, dI) vwCl [(h0, .inr (6, [.int 1, .ref q1, .ref q3, .int 0, .ref q5, .ref q7, .ref q9, .ref q11, .null, .null, .null, .null, .null, .null, .int 0, .int 0, .int 0, .int 0, .int 0, .int 0, .null, .null, .null, .null, .null, .null])), (q1, .inl (cA2, 8, .inl (fun _ => 0))), (q3, .inl (cA4, 8, .inl (fun _ => 0))), (q5, .inl (cA6, 40, .inl (fun _ => 0))), (q7, .inl (cA8, 40, .inl (fun _ => 0))), (q9, .inl (cA10, 40, .inl (fun _ => 0))), (q11, .inl (cA12, 40, .inl (fun _ => 0))), (q13, .inl (cA14, 40, .inl (fun _ => 0)))] H := hP
  have hD : va_D A [(h0, .inr (6, [.int 1, .ref q1, .ref q3, .int 0, .ref q5, .ref q7, .ref q9, .ref q11, .null, .null, .null, .null, .null, .null, .int 0, .int 0, .int 0, .int 0, .int 0, .int 0, .null, .null, .null, .null, .null, .null])), (q1, .inl (cA2, 8, .inl (fun _ => 0))), (q3, .inl (cA4, 8, .inl (fun _ => 0))), (q5, .inl (cA6, 40, .inl (fun _ => 0))), (q7, .inl (cA8, 40, .inl (fun _ => 0))), (q9, .inl (cA10, 40, .inl (fun _ => 0))), (q11, .inl (cA12, 40, .inl (fun _ => 0))), (q13, .inl (cA14, 40, .inl (fun _ => 0)))] := hD
  have hK : va_K (dC, dI) vwCl [(cA2, .int), (cA4, .int), (cA6, .int), (cA8, .int), (cA10, .int), (cA12, .int), (cA14, .int)] s := hK
  refine W.widen (k := 7) (n := 216) (Nat.le_of_ble_eq_true rfl) (Nat.le_of_ble_eq_true rfl) ?_
  refine va_putF (D := (dC, dI)) (ci := 6) (v := .ref q13) (ty := .array .int) (C := RMD) (T := TMD) (N := 26) hx hb hz in_MD tyMD tokMD nokMD hown hK hP hD hS 0 rfl rfl 8 (by decide) (hz _ wd_592) (fun _ h9 => h9) rfl hin rfl (by decide +kernel) rfl rfl (Nat.le_of_ble_eq_true rfl) dMD_init_62 (fun H locs hP hD hS => ?_)
  have hP : va_P (dC, dI) vwCl [(h0, .inr (6, [.int 1, .ref q1, .ref q3, .int 0, .ref q5, .ref q7, .ref q9, .ref q11, .ref q13, .null, .null, .null, .null, .null, .int 0, .int 0, .int 0, .int 0, .int 0, .int 0, .null, .null, .null, .null, .null, .null])), (q1, .inl (cA2, 8, .inl (fun _ => 0))), (q3, .inl (cA4, 8, .inl (fun _ => 0))), (q5, .inl (cA6, 40, .inl (fun _ => 0))), (q7, .inl (cA8, 40, .inl (fun _ => 0))), (q9, .inl (cA10, 40, .inl (fun _ => 0))), (q11, .inl (cA12, 40, .inl (fun _ => 0))), (q13, .inl (cA14, 40, .inl (fun _ => 0)))] H := hP
  have hD : va_D A [(h0, .inr (6, [.int 1, .ref q1, .ref q3, .int 0, .ref q5, .ref q7, .ref q9, .ref q11, .ref q13, .null, .null, .null, .null, .null, .int 0, .int 0, .int 0, .int 0, .int 0, .int 0, .null, .null, .null, .null, .null, .null])), (q1, .inl (cA2, 8, .inl (fun _ => 0))), (q3, .inl (cA4, 8, .inl (fun _ => 0))), (q5, .inl (cA6, 40, .inl (fun _ => 0))), (q7, .inl (cA8, 40, .inl (fun _ => 0))), (q9, .inl (cA10, 40, .inl (fun _ => 0))), (q11, .inl (cA12, 40, .inl (fun _ => 0))), (q13, .inl (cA14, 40, .inl (fun _ => 0)))] := hD
  refine lv_aload_n hx hb dMD_init_65 rfl (lv_at hl 0 rfl) ?_
  refine lv_bipush (v := 40) hx hb dMD_init_66 (by decide) ?_
  refine va_newa (atype := .int) (ty := .int) (N' := 40) (a0 := (40, .inl (fun _ => 0))) hx hb (hz _ wd_120) rfl hK hP hD hS hA (fun _ => rfl) (by decide) (by decide) (by decide) (Nat.le_of_ble_eq_true rfl) (Nat.le_of_ble_eq_true rfl) dMD_init_68 (fun q15 cA16 H hK hP hD hS => ?_)
  have hP : va_P (dC, dI) vwCl [(h0, .inr (6, [.int 1, .ref q1, .ref q3, .int 0, .ref q5, .ref q7, .ref q9, .ref q11, .ref q13, .null, .null, .null, .null, .null, .int 0, .int 0, .int 0, .int 0, .int 0, .int 0, .null, .null, .null, .null, .null, .null])), (q1, .inl (cA2, 8, .inl (fun _ => 0))), (q3, .inl (cA4, 8, .inl (fun _ => 0))), (q5, .inl (cA6, 40, .inl (fun _ => 0))), (q7, .inl (cA8, 40, .inl (fun _ => 0))), (q9, .inl (cA10, 40, .inl (fun _ => 0))), (q11, .inl (cA12, 40, .inl (fun _ => 0))), (q13, .inl (cA14, 40, .inl (fun _ => 0))), (q15, .inl (cA16, 40, .inl (fun _ => 0)))] H := hP
  have hD : va_D A [(h0, .inr (6, [.int 1, .ref q1, .ref q3, .int 0, .ref q5, .ref q7, .ref q9, .ref q11, .ref q13, .null, .null, .null, .null, .null, .int 0, .int 0, .int 0, .int 0, .int 0, .int 0, .null, .null, .null, .null, .null, .null])), (q1, .inl (cA2, 8, .inl (fun _ => 0))), (q3, .inl (cA4, 8, .inl (fun _ => 0))), (q5, .inl (cA6, 40, .inl (fun _ => 0))), (q7, .inl (cA8, 40, .inl (fun _ => 0))), (q9, .inl (cA10, 40, .inl (fun _ => 0))), (q11, .inl (cA12, 40, .inl (fun _ => 0))), (q13, .inl (cA14, 40, .inl (fun _ => 0))), (q15, .inl (cA16, 40, .inl (fun _ => 0)))] := hD
  have hK : va_K (dC, dI) vwCl [(cA2, .int), (cA4, .int), (cA6, .int), (cA8, .int), (cA10, .int), (cA12, .int), (cA14, .int), (cA16, .int)] s := hK
  refine W.widen (k := 8) (n := 256) (Nat.le_of_ble_eq_true rfl) (Nat.le_of_ble_eq_true rfl) ?_
  refine va_putF (D := (dC, dI)) (ci := 6) (v := .ref q15) (ty := .array .int) (C := RMD) (T := TMD) (N := 26) hx hb hz in_MD tyMD tokMD nokMD hown hK hP hD hS 0 rfl rfl 9 (by decide) (hz _ wd_593) (fun _ h9 => h9) rfl hin rfl (by decide +kernel) rfl rfl (Nat.le_of_ble_eq_true rfl) dMD_init_70 (fun H locs hP hD hS => ?_)
  have hP : va_P (dC, dI) vwCl [(h0, .inr (6, [.int 1, .ref q1, .ref q3, .int 0, .ref q5, .ref q7, .ref q9, .ref q11, .ref q13, .ref q15, .null, .null, .null, .null, .int 0, .int 0, .int 0, .int 0, .int 0, .int 0, .null, .null, .null, .null, .null, .null])), (q1, .inl (cA2, 8, .inl (fun _ => 0))), (q3, .inl (cA4, 8, .inl (fun _ => 0))), (q5, .inl (cA6, 40, .inl (fun _ => 0))), (q7, .inl (cA8, 40, .inl (fun _ => 0))), (q9, .inl (cA10, 40, .inl (fun _ => 0))), (q11, .inl (cA12, 40, .inl (fun _ => 0))), (q13, .inl (cA14, 40, .inl (fun _ => 0))), (q15, .inl (cA16, 40, .inl (fun _ => 0)))] H := hP
  have hD : va_D A [(h0, .inr (6, [.int 1, .ref q1, .ref q3, .int 0, .ref q5, .ref q7, .ref q9, .ref q11, .ref q13, .ref q15, .null, .null, .null, .null, .int 0, .int 0, .int 0, .int 0, .int 0, .int 0, .null, .null, .null, .null, .null, .null])), (q1, .inl (cA2, 8, .inl (fun _ => 0))), (q3, .inl (cA4, 8, .inl (fun _ => 0))), (q5, .inl (cA6, 40, .inl (fun _ => 0))), (q7, .inl (cA8, 40, .inl (fun _ => 0))), (q9, .inl (cA10, 40, .inl (fun _ => 0))), (q11, .inl (cA12, 40, .inl (fun _ => 0))), (q13, .inl (cA14, 40, .inl (fun _ => 0))), (q15, .inl (cA16, 40, .inl (fun _ => 0)))] := hD
  refine lv_aload_n hx hb dMD_init_73 rfl (lv_at hl 0 rfl) ?_
  refine lv_bipush (v := 40) hx hb dMD_init_74 (by decide) ?_
  refine va_newa (atype := .int) (ty := .int) (N' := 40) (a0 := (40, .inl (fun _ => 0))) hx hb (hz _ wd_120) rfl hK hP hD hS hA (fun _ => rfl) (by decide) (by decide) (by decide) (Nat.le_of_ble_eq_true rfl) (Nat.le_of_ble_eq_true rfl) dMD_init_76 (fun q17 cA18 H hK hP hD hS => ?_)
  have hP : va_P (dC, dI) vwCl [(h0, .inr (6, [.int 1, .ref q1, .ref q3, .int 0, .ref q5, .ref q7, .ref q9, .ref q11, .ref q13, .ref q15, .null, .null, .null, .null, .int 0, .int 0, .int 0, .int 0, .int 0, .int 0, .null, .null, .null, .null, .null, .null])), (q1, .inl (cA2, 8, .inl (fun _ => 0))), (q3, .inl (cA4, 8, .inl (fun _ => 0))), (q5, .inl (cA6, 40, .inl (fun _ => 0))), (q7, .inl (cA8, 40, .inl (fun _ => 0))), (q9, .inl (cA10, 40, .inl (fun _ => 0))), (q11, .inl (cA12, 40, .inl (fun _ => 0))), (q13, .inl (cA14, 40, .inl (fun _ => 0))), (q15, .inl (cA16, 40, .inl (fun _ => 0))), (q17, .inl (cA18, 40, .inl (fun _ => 0)))] H := hP
  have hD : va_D A [(h0, .inr (6, [.int 1, .ref q1, .ref q3, .int 0, .ref q5, .ref q7, .ref q9, .ref q11, .ref q13, .ref q15, .null, .null, .null, .null, .int 0, .int 0, .int 0, .int 0, .int 0, .int 0, .null, .null, .null, .null, .null, .null])), (q1, .inl (cA2, 8, .inl (fun _ => 0))), (q3, .inl (cA4, 8, .inl (fun _ => 0))), (q5, .inl (cA6, 40, .inl (fun _ => 0))), (q7, .inl (cA8, 40, .inl (fun _ => 0))), (q9, .inl (cA10, 40, .inl (fun _ => 0))), (q11, .inl (cA12, 40, .inl (fun _ => 0))), (q13, .inl (cA14, 40, .inl (fun _ => 0))), (q15, .inl (cA16, 40, .inl (fun _ => 0))), (q17, .inl (cA18, 40, .inl (fun _ => 0)))] := hD
  have hK : va_K (dC, dI) vwCl [(cA2, .int), (cA4, .int), (cA6, .int), (cA8, .int), (cA10, .int), (cA12, .int), (cA14, .int), (cA16, .int), (cA18, .int)] s := hK
  refine W.widen (k := 9) (n := 296) (Nat.le_of_ble_eq_true rfl) (Nat.le_of_ble_eq_true rfl) ?_
  refine va_putF (D := (dC, dI)) (ci := 6) (v := .ref q17) (ty := .array .int) (C := RMD) (T := TMD) (N := 26) hx hb hz in_MD tyMD tokMD nokMD hown hK hP hD hS 0 rfl rfl 10 (by decide) (hz _ wd_594) (fun _ h9 => h9) rfl hin rfl (by decide +kernel) rfl rfl (Nat.le_of_ble_eq_true rfl) dMD_init_78 (fun H locs hP hD hS => ?_)
  have hP : va_P (dC, dI) vwCl [(h0, .inr (6, [.int 1, .ref q1, .ref q3, .int 0, .ref q5, .ref q7, .ref q9, .ref q11, .ref q13, .ref q15, .ref q17, .null, .null, .null, .int 0, .int 0, .int 0, .int 0, .int 0, .int 0, .null, .null, .null, .null, .null, .null])), (q1, .inl (cA2, 8, .inl (fun _ => 0))), (q3, .inl (cA4, 8, .inl (fun _ => 0))), (q5, .inl (cA6, 40, .inl (fun _ => 0))), (q7, .inl (cA8, 40, .inl (fun _ => 0))), (q9, .inl (cA10, 40, .inl (fun _ => 0))), (q11, .inl (cA12, 40, .inl (fun _ => 0))), (q13, .inl (cA14, 40, .inl (fun _ => 0))), (q15, .inl (cA16, 40, .inl (fun _ => 0))), (q17, .inl (cA18, 40, .inl (fun _ => 0)))] H := hP
  have hD : va_D A [(h0, .inr (6, [.int 1, .ref q1, .ref q3, .int 0, .ref q5, .ref q7, .ref q9, .ref q11, .ref q13, .ref q15, .ref q17, .null, .null, .null, .int 0, .int 0, .int 0, .int 0, .int 0, .int 0, .null, .null, .null, .null, .null, .null])), (q1, .inl (cA2, 8, .inl (fun _ => 0))), (q3, .inl (cA4, 8, .inl (fun _ => 0))), (q5, .inl (cA6, 40, .inl (fun _ => 0))), (q7, .inl (cA8, 40, .inl (fun _ => 0))), (q9, .inl (cA10, 40, .inl (fun _ => 0))), (q11, .inl (cA12, 40, .inl (fun _ => 0))), (q13, .inl (cA14, 40, .inl (fun _ => 0))), (q15, .inl (cA16, 40, .inl (fun _ => 0))), (q17, .inl (cA18, 40, .inl (fun _ => 0)))] := hD
  refine lv_aload_n hx hb dMD_init_81 rfl (lv_at hl 0 rfl) ?_
  refine lv_bipush (v := 40) hx hb dMD_init_82 (by decide) ?_
  refine va_newa (atype := .int) (ty := .int) (N' := 40) (a0 := (40, .inl (fun _ => 0))) hx hb (hz _ wd_120) rfl hK hP hD hS hA (fun _ => rfl) (by decide) (by decide) (by decide) (Nat.le_of_ble_eq_true rfl) (Nat.le_of_ble_eq_true rfl) dMD_init_84 (fun q19 cA20 H hK hP hD hS => ?_)
  have hP : va_P (dC, dI) vwCl [(h0, .inr (6, [.int 1, .ref q1, .ref q3, .int 0, .ref q5, .ref q7, .ref q9, .ref q11, .ref q13, .ref q15, .ref q17, .null, .null, .null, .int 0, .int 0, .int 0, .int 0, .int 0, .int 0, .null, .null, .null, .null, .null, .null])), (q1, .inl (cA2, 8, .inl (fun _ => 0))), (q3, .inl (cA4, 8, .inl (fun _ => 0))), (q5, .inl (cA6, 40, .inl (fun _ => 0))), (q7, .inl (cA8, 40, .inl (fun _ => 0))), (q9, .inl (cA10, 40, .inl (fun _ => 0))), (q11, .inl (cA12, 40, .inl (fun _ => 0))), (q13, .inl (cA14, 40, .inl (fun _ => 0))), (q15, .inl (cA16, 40, .inl (fun _ => 0))), (q17, .inl (cA18, 40, .inl (fun _ => 0))), (q19, .inl (cA20, 40, .inl (fun _ => 0)))] H := hP
  have hD : va_D A [(h0, .inr (6, [.int 1, .ref q1, .ref q3, .int 0, .ref q5, .ref q7, .ref q9, .ref q11, .ref q13, .ref q15, .ref q17, .null, .null, .null, .int 0, .int 0, .int 0, .int 0, .int 0, .int 0, .null, .null, .null, .null, .null, .null])), (q1, .inl (cA2, 8, .inl (fun _ => 0))), (q3, .inl (cA4, 8, .inl (fun _ => 0))), (q5, .inl (cA6, 40, .inl (fun _ => 0))), (q7, .inl (cA8, 40, .inl (fun _ => 0))), (q9, .inl (cA10, 40, .inl (fun _ => 0))), (q11, .inl (cA12, 40, .inl (fun _ => 0))), (q13, .inl (cA14, 40, .inl (fun _ => 0))), (q15, .inl (cA16, 40, .inl (fun _ => 0))), (q17, .inl (cA18, 40, .inl (fun _ => 0))), (q19, .inl (cA20, 40, .inl (fun _ => 0)))] := hD
  have hK : va_K (dC, dI) vwCl [(cA2, .int), (cA4, .int), (cA6, .int), (cA8, .int), (cA10, .int), (cA12, .int), (cA14, .int), (cA16, .int), (cA18, .int), (cA20, .int)] s := hK
  refine W.widen (k := 10) (n := 336) (Nat.le_of_ble_eq_true rfl) (Nat.le_of_ble_eq_true rfl) ?_
  refine va_putF (D := (dC, dI)) (ci := 6) (v := .ref q19) (ty := .array .int) (C := RMD) (T := TMD) (N := 26) hx hb hz in_MD tyMD tokMD nokMD hown hK hP hD hS 0 rfl rfl 11 (by decide) (hz _ wd_595) (fun _ h9 => h9) rfl hin rfl (by decide +kernel) rfl rfl (Nat.le_of_ble_eq_true rfl) dMD_init_86 (fun H locs hP hD hS => ?_)
  have hP : va_P (dC, dI) vwCl [(h0, .inr (6, [.int 1, .ref q1, .ref q3, .int 0, .ref q5, .ref q7, .ref q9, .ref q11, .ref q13, .ref q15, .ref q17, .ref q19, .null, .null, .int 0, .int 0, .int 0, .int 0, .int 0, .int 0, .null, .null, .null, .null, .null, .null])), (q1, .inl (cA2, 8, .inl (fun _ => 0))), (q3, .inl (cA4, 8, .inl (fun _ => 0))), (q5, .inl (cA6, 40, .inl (fun _ => 0))), (q7, .inl (cA8, 40, .inl (fun _ => 0))), (q9, .inl (cA10, 40, .inl (fun _ => 0))), (q11, .inl (cA12, 40, .inl (fun _ => 0))), (q13, .inl (cA14, 40, .inl (fun _ => 0))), (q15, .inl (cA16, 40, .inl (fun _ => 0))), (q17, .inl (cA18, 40, .inl (fun _ => 0))), (q19, .inl (cA20, 40, .inl (fun _ => 0)))] H := hP
  have hD : va_D A [(h0, .inr (6, [.int 1, .ref q1, .ref q3, .int 0, .ref q5, .ref q7, .ref q9, .ref q11, .ref q13, .ref q15, .ref q17, .ref q19, .null, .null, .int 0, .int 0, .int 0, .int 0, .int 0, .int 0, .null, .null, .null, .null, .null, .null])), (q1, .inl (cA2, 8, .inl (fun _ => 0))), (q3, .inl (cA4, 8, .inl (fun _ => 0))), (q5, .inl (cA6, 40, .inl (fun _ => 0))), (q7, .inl (cA8, 40, .inl (fun _ => 0))), (q9, .inl (cA10, 40, .inl (fun _ => 0))), (q11, .inl (cA12, 40, .inl (fun _ => 0))), (q13, .inl (cA14, 40, .inl (fun _ => 0))), (q15, .inl (cA16, 40, .inl (fun _ => 0))), (q17, .inl (cA18, 40, .inl (fun _ => 0))), (q19, .inl (cA20, 40, .inl (fun _ => 0)))] := hD
  refine lv_aload_n hx hb dMD_init_89 rfl (lv_at hl 0 rfl) ?_
  refine lv_bipush (v := 40) hx hb dMD_init_90 (by decide) ?_
  refine va_newa (atype := .int) (ty := .int) (N' := 40) (a0 := (40, .inl (fun _ => 0))) hx hb (hz _ wd_120) rfl hK hP hD hS hA (fun _ => rfl) (by decide) (by decide) (by decide) (Nat.le_of_ble_eq_true rfl) (Nat.le_of_ble_eq_true rfl) dMD_init_92 (fun q21 cA22 H hK hP hD hS => ?_)
  have hP : va_P (dC, dI) vwCl [(h0, .inr (6, [.int 1, .ref q1, .ref q3, .int 0, .ref q5, .ref q7, .ref q9, .ref q11, .ref q13, .ref q15, .ref q17, .ref q19, .null, .null, .int 0, .int 0, .int 0, .int 0, .int 0, .int 0, .null, .null, .null, .null, .null, .null])), (q1, .inl (cA2, 8, .inl (fun _ => 0))), (q3, .inl (cA4, 8, .inl (fun _ => 0))), (q5, .inl (cA6, 40, .inl (fun _ => 0))), (q7, .inl (cA8, 40, .inl (fun _ => 0))), (q9, .inl (cA10, 40, .inl (fun _ => 0))), (q11, .inl (cA12, 40, .inl (fun _ => 0))), (q13, .inl (cA14, 40, .inl (fun _ => 0))), (q15, .inl (cA16, 40, .inl (fun _ => 0))), (q17, .inl (cA18, 40, .inl (fun _ => 0))), (q19, .inl (cA20, 40, .inl (fun _ => 0))), (q21, .inl (cA22, 40, .inl (fun _ => 0)))] H := hP
  have hD : va_D A [(h0, .inr (6, [.int 1, .ref q1, .ref q3, .int 0, .ref q5, .ref q7, .ref q9, .ref q11, .ref q13, .ref q15, .ref q17, .ref q19, .null, .null, .int 0, .int 0, .int 0, .int 0, .int 0, .int 0, .null, .null, .null, .null, .null, .null])), (q1, .inl (cA2, 8, .inl (fun _ => 0))), (q3, .inl (cA4, 8, .inl (fun _ => 0))), (q5, .inl (cA6, 40, .inl (fun _ => 0))), (q7, .inl (cA8, 40, .inl (fun _ => 0))), (q9, .inl (cA10, 40, .inl (fun _ => 0))), (q11, .inl (cA12, 40, .inl (fun _ => 0))), (q13, .inl (cA14, 40, .inl (fun _ => 0))), (q15, .inl (cA16, 40, .inl (fun _ => 0))), (q17, .inl (cA18, 40, .inl (fun _ => 0))), (q19, .inl (cA20, 40, .inl (fun _ => 0))), (q21, .inl (cA22, 40, .inl (fun _ => 0)))] := hD
  have hK : va_K (dC, dI) vwCl [(cA2, .int), (cA4, .int), (cA6, .int), (cA8, .int), (cA10, .int), (cA12, .int), (cA14, .int), (cA16, .int), (cA18, .int), (cA20, .int), (cA22, .int)] s := hK
  refine W.widen (k := 11) (n := 376) (Nat.le_of_ble_eq_true rfl) (Nat.le_of_ble_eq_true rfl) ?_
  refine va_putF (D := (dC, dI)) (ci := 6) (v := .ref q21) (ty := .array .int) (C := RMD) (T := TMD) (N := 26) hx hb hz in_MD tyMD tokMD nokMD hown hK hP hD hS 0 rfl rfl 12 (by decide) (hz _ wd_596) (fun _ h9 => h9) rfl hin rfl (by decide +kernel) rfl rfl (Nat.le_of_ble_eq_true rfl) dMD_init_94 (fun H locs hP hD hS => ?_)
  have hP : va_P (dC, dI) vwCl [(h0, .inr (6, [.int 1, .ref q1, .ref q3, .int 0, .ref q5, .ref q7, .ref q9, .ref q11, .ref q13, .ref q15, .ref q17, .ref q19, .ref q21, .null, .int 0, .int 0, .int 0, .int 0, .int 0, .int 0, .null, .null, .null, .null, .null, .null])), (q1, .inl (cA2, 8, .inl (fun _ => 0))), (q3, .inl (cA4, 8, .inl (fun _ => 0))), (q5, .inl (cA6, 40, .inl (fun _ => 0))), (q7, .inl (cA8, 40, .inl (fun _ => 0))), (q9, .inl (cA10, 40, .inl (fun _ => 0))), (q11, .inl (cA12, 40, .inl (fun _ => 0))), (q13, .inl (cA14, 40, .inl (fun _ => 0))), (q15, .inl (cA16, 40, .inl (fun _ => 0))), (q17, .inl (cA18, 40, .inl (fun _ => 0))), (q19, .inl (cA20, 40, .inl (fun _ => 0))), (q21, .inl (cA22, 40, .inl (fun _ => 0)))] H := hP
  have hD : va_D A [(h0, .inr (6, [.int 1, .ref q1, .ref q3, .int 0, .ref q5, .ref q7, .ref q9, .ref q11, .ref q13, .ref q15, .ref q17, .ref q19, .ref q21, .null, .int 0, .int 0, .int 0, .int 0, .int 0, .int 0, .null, .null, .null, .null, .null, .null])), (q1, .inl (cA2, 8, .inl (fun _ => 0))), (q3, .inl (cA4, 8, .inl (fun _ => 0))), (q5, .inl (cA6, 40, .inl (fun _ => 0))), (q7, .inl (cA8, 40, .inl (fun _ => 0))), (q9, .inl (cA10, 40, .inl (fun _ => 0))), (q11, .inl (cA12, 40, .inl (fun _ => 0))), (q13, .inl (cA14, 40, .inl (fun _ => 0))), (q15, .inl (cA16, 40, .inl (fun _ => 0))), (q17, .inl (cA18, 40, .inl (fun _ => 0))), (q19, .inl (cA20, 40, .inl (fun _ => 0))), (q21, .inl (cA22, 40, .inl (fun _ => 0)))] := hD
  refine lv_aload_n hx hb dMD_init_97 rfl (lv_at hl 0 rfl) ?_
  refine lv_bipush (v := 40) hx hb dMD_init_98 (by decide) ?_
  refine va_newa (atype := .int) (ty := .int) (N' := 40) (a0 := (40, .inl (fun _ => 0))) hx hb (hz _ wd_120) rfl hK hP hD hS hA (fun _ => rfl) (by decide) (by decide) (by decide) (Nat.le_of_ble_eq_true rfl) (Nat.le_of_ble_eq_true rfl) dMD_init_100 (fun q23 cA24 H hK hP hD hS => ?_)
  have hP : va_P (dC, dI) vwCl [(h0, .inr (6, [.int 1, .ref q1, .ref q3, .int 0, .ref q5, .ref q7, .ref q9, .ref q11, .ref q13, .ref q15, .ref q17, .ref q19, .ref q21, .null, .int 0, .int 0, .int 0, .int 0, .int 0, .int 0, .null, .null, .null, .null, .null, .null])), (q1, .inl (cA2, 8, .inl (fun _ => 0))), (q3, .inl (cA4, 8, .inl (fun _ => 0))), (q5, .inl (cA6, 40, .inl (fun _ => 0))), (q7, .inl (cA8, 40, .inl (fun _ => 0))), (q9, .inl (cA10, 40, .inl (fun _ => 0))), (q11, .inl (cA12, 40, .inl (fun _ => 0))), (q13, .inl (cA14, 40, .inl (fun _ => 0))), (q15, .inl (cA16, 40, .inl (fun _ => 0))), (q17, .inl (cA18, 40, .inl (fun _ => 0))), (q19, .inl (cA20, 40, .inl (fun _ => 0))), (q21, .inl (cA22, 40, .inl (fun _ => 0))), (q23, .inl (cA24, 40, .inl (fun _ => 0)))] H := hP
  have hD : va_D A [(h0, .inr (6, [.int 1, .ref q1, .ref q3, .int 0, .ref q5, .ref q7, .ref q9, .ref q11, .ref q13, .ref q15, .ref q17, .ref q19, .ref q21, .null, .int 0, .int 0, .int 0, .int 0, .int 0, .int 0, .null, .null, .null, .null, .null, .null])), (q1, .inl (cA2, 8, .inl (fun _ => 0))), (q3, .inl (cA4, 8, .inl (fun _ => 0))), (q5, .inl (cA6, 40, .inl (fun _ => 0))), (q7, .inl (cA8, 40, .inl (fun _ => 0))), (q9, .inl (cA10, 40, .inl (fun _ => 0))), (q11, .inl (cA12, 40, .inl (fun _ => 0))), (q13, .inl (cA14, 40, .inl (fun _ => 0))), (q15, .inl (cA16, 40, .inl (fun _ => 0))), (q17, .inl (cA18, 40, .inl (fun _ => 0))), (q19, .inl (cA20, 40, .inl (fun _ => 0))), (q21, .inl (cA22, 40, .inl (fun _ => 0))), (q23, .inl (cA24, 40, .inl (fun _ => 0)))] := hD
  have hK : va_K (dC, dI) vwCl [(cA2, .int), (cA4, .int), (cA6, .int), (cA8, .int), (cA10, .int), (cA12, .int), (cA14, .int), (cA16, .int), (cA18, .int), (cA20, .int), (cA22, .int), (cA24, .int)] s := hK
  refine W.widen (k := 12) (n := 416) (Nat.le_of_ble_eq_true rfl) (Nat.le_of_ble_eq_true rfl) ?_
  refine va_putF (D := (dC, dI)) (ci := 6) (v := .ref q23) (ty := .array .int) (C := RMD) (T := TMD) (N := 26) hx hb hz in_MD tyMD tokMD nokMD hown hK hP hD hS 0 rfl rfl 13 (by decide) (hz _ wd_597) (fun _ h9 => h9) rfl hin rfl (by decide +kernel) rfl rfl (Nat.le_of_ble_eq_true rfl) dMD_init_102 (fun H locs hP hD hS => ?_)
  have hP : va_P (dC, dI) vwCl [(h0, .inr (6, [.int 1, .ref q1, .ref q3, .int 0, .ref q5, .ref q7, .ref q9, .ref q11, .ref q13, .ref q15, .ref q17, .ref q19, .ref q21, .ref q23, .int 0, .int 0, .int 0, .int 0, .int 0, .int 0, .null, .null, .null, .null, .null, .null])), (q1, .inl (cA2, 8, .inl (fun _ => 0))), (q3, .inl (cA4, 8, .inl (fun _ => 0))), (q5, .inl (cA6, 40, .inl (fun _ => 0))), (q7, .inl (cA8, 40, .inl (fun _ => 0))), (q9, .inl (cA10, 40, .inl (fun _ => 0))), (q11, .inl (cA12, 40, .inl (fun _ => 0))), (q13, .inl (cA14, 40, .inl (fun _ => 0))), (q15, .inl (cA16, 40, .inl (fun _ => 0))), (q17, .inl (cA18, 40, .inl (fun _ => 0))), (q19, .inl (cA20, 40, .inl (fun _ => 0))), (q21, .inl (cA22, 40, .inl (fun _ => 0))), (q23, .inl (cA24, 40, .inl (fun _ => 0)))] H := hP
  have hD : va_D A [(h0, .inr (6, [.int 1, .ref q1, .ref q3, .int 0, .ref q5, .ref q7, .ref q9, .ref q11, .ref q13, .ref q15, .ref q17, .ref q19, .ref q21, .ref q23, .int 0, .int 0, .int 0, .int 0, .int 0, .int 0, .null, .null, .null, .null, .null, .null])), (q1, .inl (cA2, 8, .inl (fun _ => 0))), (q3, .inl (cA4, 8, .inl (fun _ => 0))), (q5, .inl (cA6, 40, .inl (fun _ => 0))), (q7, .inl (cA8, 40, .inl (fun _ => 0))), (q9, .inl (cA10, 40, .inl (fun _ => 0))), (q11, .inl (cA12, 40, .inl (fun _ => 0))), (q13, .inl (cA14, 40, .inl (fun _ => 0))), (q15, .inl (cA16, 40, .inl (fun _ => 0))), (q17, .inl (cA18, 40, .inl (fun _ => 0))), (q19, .inl (cA20, 40, .inl (fun _ => 0))), (q21, .inl (cA22, 40, .inl (fun _ => 0))), (q23, .inl (cA24, 40, .inl (fun _ => 0)))] := hD
  refine lv_aload_n hx hb dMD_init_105 rfl (lv_at hl 0 rfl) ?_
  refine lv_iconst (v := (-1)) hx hb dMD_init_106 (by decide) ?_
  refine va_put (D := (dC, dI)) (ci := 6) (v := .int (-1)) (ty := .int) (C := RMD) (T := TMD) (N := 26) hx hb hz in_MD tyMD tokMD nokMD hown hK hP hD hS 0 rfl rfl 14 (by decide) (hz _ wd_598) (fun _ h9 => h9) rfl (by decide +kernel) rfl rfl (Nat.le_of_ble_eq_true rfl) dMD_init_107 (fun H locs hP hD hS => ?_)
  have hP : va_P (dC, dI) vwCl [(h0, .inr (6, [.int 1, .ref q1, .ref q3, .int 0, .ref q5, .ref q7, .ref q9, .ref q11, .ref q13, .ref q15, .ref q17, .ref q19, .ref q21, .ref q23, .int (-1), .int 0, .int 0, .int 0, .int 0, .int 0, .null, .null, .null, .null, .null, .null])), (q1, .inl (cA2, 8, .inl (fun _ => 0))), (q3, .inl (cA4, 8, .inl (fun _ => 0))), (q5, .inl (cA6, 40, .inl (fun _ => 0))), (q7, .inl (cA8, 40, .inl (fun _ => 0))), (q9, .inl (cA10, 40, .inl (fun _ => 0))), (q11, .inl (cA12, 40, .inl (fun _ => 0))), (q13, .inl (cA14, 40, .inl (fun _ => 0))), (q15, .inl (cA16, 40, .inl (fun _ => 0))), (q17, .inl (cA18, 40, .inl (fun _ => 0))), (q19, .inl (cA20, 40, .inl (fun _ => 0))), (q21, .inl (cA22, 40, .inl (fun _ => 0))), (q23, .inl (cA24, 40, .inl (fun _ => 0)))] H := hP
  have hD : va_D A [(h0, .inr (6, [.int 1, .ref q1, .ref q3, .int 0, .ref q5, .ref q7, .ref q9, .ref q11, .ref q13, .ref q15, .ref q17, .ref q19, .ref q21, .ref q23, .int (-1), .int 0, .int 0, .int 0, .int 0, .int 0, .null, .null, .null, .null, .null, .null])), (q1, .inl (cA2, 8, .inl (fun _ => 0))), (q3, .inl (cA4, 8, .inl (fun _ => 0))), (q5, .inl (cA6, 40, .inl (fun _ => 0))), (q7, .inl (cA8, 40, .inl (fun _ => 0))), (q9, .inl (cA10, 40, .inl (fun _ => 0))), (q11, .inl (cA12, 40, .inl (fun _ => 0))), (q13, .inl (cA14, 40, .inl (fun _ => 0))), (q15, .inl (cA16, 40, .inl (fun _ => 0))), (q17, .inl (cA18, 40, .inl (fun _ => 0))), (q19, .inl (cA20, 40, .inl (fun _ => 0))), (q21, .inl (cA22, 40, .inl (fun _ => 0))), (q23, .inl (cA24, 40, .inl (fun _ => 0)))] := hD
  refine lv_aload_n hx hb dMD_init_110 rfl (lv_at hl 0 rfl) ?_
  refine lv_bipush (v := 12) hx hb dMD_init_111 (by decide) ?_
  refine va_newa (atype := .int) (ty := .int) (N' := 12) (a0 := (12, .inl (fun _ => 0))) hx hb (hz _ wd_120) rfl hK hP hD hS hA (fun _ => rfl) (by decide) (by decide) (by decide) (Nat.le_of_ble_eq_true rfl) (Nat.le_of_ble_eq_true rfl) dMD_init_113 (fun q25 cA26 H hK hP hD hS => ?_)
  have hP : va_P (dC, dI) vwCl [(h0, .inr (6, [.int 1, .ref q1, .ref q3, .int 0, .ref q5, .ref q7, .ref q9, .ref q11, .ref q13, .ref q15, .ref q17, .ref q19, .ref q21, .ref q23, .int (-1), .int 0, .int 0, .int 0, .int 0, .int 0, .null, .null, .null, .null, .null, .null])), (q1, .inl (cA2, 8, .inl (fun _ => 0))), (q3, .inl (cA4, 8, .inl (fun _ => 0))), (q5, .inl (cA6, 40, .inl (fun _ => 0))), (q7, .inl (cA8, 40, .inl (fun _ => 0))), (q9, .inl (cA10, 40, .inl (fun _ => 0))), (q11, .inl (cA12, 40, .inl (fun _ => 0))), (q13, .inl (cA14, 40, .inl (fun _ => 0))), (q15, .inl (cA16, 40, .inl (fun _ => 0))), (q17, .inl (cA18, 40, .inl (fun _ => 0))), (q19, .inl (cA20, 40, .inl (fun _ => 0))), (q21, .inl (cA22, 40, .inl (fun _ => 0))), (q23, .inl (cA24, 40, .inl (fun _ => 0))), (q25, .inl (cA26, 12, .inl (fun _ => 0)))] H := hP
  have hD : va_D A [(h0, .inr (6, [.int 1, .ref q1, .ref q3, .int 0, .ref q5, .ref q7, .ref q9, .ref q11, .ref q13, .ref q15, .ref q17, .ref q19, .ref q21, .ref q23, .int (-1), .int 0, .int 0, .int 0, .int 0, .int 0, .null, .null, .null, .null, .null, .null])), (q1, .inl (cA2, 8, .inl (fun _ => 0))), (q3, .inl (cA4, 8, .inl (fun _ => 0))), (q5, .inl (cA6, 40, .inl (fun _ => 0))), (q7, .inl (cA8, 40, .inl (fun _ => 0))), (q9, .inl (cA10, 40, .inl (fun _ => 0))), (q11, .inl (cA12, 40, .inl (fun _ => 0))), (q13, .inl (cA14, 40, .inl (fun _ => 0))), (q15, .inl (cA16, 40, .inl (fun _ => 0))), (q17, .inl (cA18, 40, .inl (fun _ => 0))), (q19, .inl (cA20, 40, .inl (fun _ => 0))), (q21, .inl (cA22, 40, .inl (fun _ => 0))), (q23, .inl (cA24, 40, .inl (fun _ => 0))), (q25, .inl (cA26, 12, .inl (fun _ => 0)))] := hD
  have hK : va_K (dC, dI) vwCl [(cA2, .int), (cA4, .int), (cA6, .int), (cA8, .int), (cA10, .int), (cA12, .int), (cA14, .int), (cA16, .int), (cA18, .int), (cA20, .int), (cA22, .int), (cA24, .int), (cA26, .int)] s := hK
  refine W.widen (k := 13) (n := 428) (Nat.le_of_ble_eq_true rfl) (Nat.le_of_ble_eq_true rfl) ?_
  refine va_putF (D := (dC, dI)) (ci := 6) (v := .ref q25) (ty := .array .int) (C := RMD) (T := TMD) (N := 26) hx hb hz in_MD tyMD tokMD nokMD hown hK hP hD hS 0 rfl rfl 20 (by decide) (hz _ wd_604) (fun _ h9 => h9) rfl hin rfl (by decide +kernel) rfl rfl (Nat.le_of_ble_eq_true rfl) dMD_init_115 (fun H locs hP hD hS => ?_)
  have hP : va_P (dC, dI) vwCl [(h0, .inr (6, [.int 1, .ref q1, .ref q3, .int 0, .ref q5, .ref q7, .ref q9, .ref q11, .ref q13, .ref q15, .ref q17, .ref q19, .ref q21, .ref q23, .int (-1), .int 0, .int 0, .int 0, .int 0, .int 0, .ref q25, .null, .null, .null, .null, .null])), (q1, .inl (cA2, 8, .inl (fun _ => 0))), (q3, .inl (cA4, 8, .inl (fun _ => 0))), (q5, .inl (cA6, 40, .inl (fun _ => 0))), (q7, .inl (cA8, 40, .inl (fun _ => 0))), (q9, .inl (cA10, 40, .inl (fun _ => 0))), (q11, .inl (cA12, 40, .inl (fun _ => 0))), (q13, .inl (cA14, 40, .inl (fun _ => 0))), (q15, .inl (cA16, 40, .inl (fun _ => 0))), (q17, .inl (cA18, 40, .inl (fun _ => 0))), (q19, .inl (cA20, 40, .inl (fun _ => 0))), (q21, .inl (cA22, 40, .inl (fun _ => 0))), (q23, .inl (cA24, 40, .inl (fun _ => 0))), (q25, .inl (cA26, 12, .inl (fun _ => 0)))] H := hP
  have hD : va_D A [(h0, .inr (6, [.int 1, .ref q1, .ref q3, .int 0, .ref q5, .ref q7, .ref q9, .ref q11, .ref q13, .ref q15, .ref q17, .ref q19, .ref q21, .ref q23, .int (-1), .int 0, .int 0, .int 0, .int 0, .int 0, .ref q25, .null, .null, .null, .null, .null])), (q1, .inl (cA2, 8, .inl (fun _ => 0))), (q3, .inl (cA4, 8, .inl (fun _ => 0))), (q5, .inl (cA6, 40, .inl (fun _ => 0))), (q7, .inl (cA8, 40, .inl (fun _ => 0))), (q9, .inl (cA10, 40, .inl (fun _ => 0))), (q11, .inl (cA12, 40, .inl (fun _ => 0))), (q13, .inl (cA14, 40, .inl (fun _ => 0))), (q15, .inl (cA16, 40, .inl (fun _ => 0))), (q17, .inl (cA18, 40, .inl (fun _ => 0))), (q19, .inl (cA20, 40, .inl (fun _ => 0))), (q21, .inl (cA22, 40, .inl (fun _ => 0))), (q23, .inl (cA24, 40, .inl (fun _ => 0))), (q25, .inl (cA26, 12, .inl (fun _ => 0)))] := hD
  refine lv_aload_n hx hb dMD_init_118 rfl (lv_at hl 0 rfl) ?_
  refine lv_bipush (v := 12) hx hb dMD_init_119 (by decide) ?_
  refine va_newa (atype := .int) (ty := .int) (N' := 12) (a0 := (12, .inl (fun _ => 0))) hx hb (hz _ wd_120) rfl hK hP hD hS hA (fun _ => rfl) (by decide) (by decide) (by decide) (Nat.le_of_ble_eq_true rfl) (Nat.le_of_ble_eq_true rfl) dMD_init_121 (fun q27 cA28 H hK hP hD hS => ?_)
  have hP : va_P (dC, dI) vwCl [(h0, .inr (6, [.int 1, .ref q1, .ref q3, .int 0, .ref q5, .ref q7, .ref q9, .ref q11, .ref q13, .ref q15, .ref q17, .ref q19, .ref q21, .ref q23, .int (-1), .int 0, .int 0, .int 0, .int 0, .int 0, .ref q25, .null, .null, .null, .null, .null])), (q1, .inl (cA2, 8, .inl (fun _ => 0))), (q3, .inl (cA4, 8, .inl (fun _ => 0))), (q5, .inl (cA6, 40, .inl (fun _ => 0))), (q7, .inl (cA8, 40, .inl (fun _ => 0))), (q9, .inl (cA10, 40, .inl (fun _ => 0))), (q11, .inl (cA12, 40, .inl (fun _ => 0))), (q13, .inl (cA14, 40, .inl (fun _ => 0))), (q15, .inl (cA16, 40, .inl (fun _ => 0))), (q17, .inl (cA18, 40, .inl (fun _ => 0))), (q19, .inl (cA20, 40, .inl (fun _ => 0))), (q21, .inl (cA22, 40, .inl (fun _ => 0))), (q23, .inl (cA24, 40, .inl (fun _ => 0))), (q25, .inl (cA26, 12, .inl (fun _ => 0))), (q27, .inl (cA28, 12, .inl (fun _ => 0)))] H := hP
  have hD : va_D A [(h0, .inr (6, [.int 1, .ref q1, .ref q3, .int 0, .ref q5, .ref q7, .ref q9, .ref q11, .ref q13, .ref q15, .ref q17, .ref q19, .ref q21, .ref q23, .int (-1), .int 0, .int 0, .int 0, .int 0, .int 0, .ref q25, .null, .null, .null, .null, .null])), (q1, .inl (cA2, 8, .inl (fun _ => 0))), (q3, .inl (cA4, 8, .inl (fun _ => 0))), (q5, .inl (cA6, 40, .inl (fun _ => 0))), (q7, .inl (cA8, 40, .inl (fun _ => 0))), (q9, .inl (cA10, 40, .inl (fun _ => 0))), (q11, .inl (cA12, 40, .inl (fun _ => 0))), (q13, .inl (cA14, 40, .inl (fun _ => 0))), (q15, .inl (cA16, 40, .inl (fun _ => 0))), (q17, .inl (cA18, 40, .inl (fun _ => 0))), (q19, .inl (cA20, 40, .inl (fun _ => 0))), (q21, .inl (cA22, 40, .inl (fun _ => 0))), (q23, .inl (cA24, 40, .inl (fun _ => 0))), (q25, .inl (cA26, 12, .inl (fun _ => 0))), (q27, .inl (cA28, 12, .inl (fun _ => 0)))] := hD
  have hK : va_K (dC, dI) vwCl [(cA2, .int), (cA4, .int), (cA6, .int), (cA8, .int), (cA10, .int), (cA12, .int), (cA14, .int), (cA16, .int), (cA18, .int), (cA20, .int), (cA22, .int), (cA24, .int), (cA26, .int), (cA28, .int)] s := hK
  refine W.widen (k := 14) (n := 440) (Nat.le_of_ble_eq_true rfl) (Nat.le_of_ble_eq_true rfl) ?_
  refine va_putF (D := (dC, dI)) (ci := 6) (v := .ref q27) (ty := .array .int) (C := RMD) (T := TMD) (N := 26) hx hb hz in_MD tyMD tokMD nokMD hown hK hP hD hS 0 rfl rfl 21 (by decide) (hz _ wd_605) (fun _ h9 => h9) rfl hin rfl (by decide +kernel) rfl rfl (Nat.le_of_ble_eq_true rfl) dMD_init_123 (fun H locs hP hD hS => ?_)
  have hP : va_P (dC, dI) vwCl [(h0, .inr (6, [.int 1, .ref q1, .ref q3, .int 0, .ref q5, .ref q7, .ref q9, .ref q11, .ref q13, .ref q15, .ref q17, .ref q19, .ref q21, .ref q23, .int (-1), .int 0, .int 0, .int 0, .int 0, .int 0, .ref q25, .ref q27, .null, .null, .null, .null])), (q1, .inl (cA2, 8, .inl (fun _ => 0))), (q3, .inl (cA4, 8, .inl (fun _ => 0))), (q5, .inl (cA6, 40, .inl (fun _ => 0))), (q7, .inl (cA8, 40, .inl (fun _ => 0))), (q9, .inl (cA10, 40, .inl (fun _ => 0))), (q11, .inl (cA12, 40, .inl (fun _ => 0))), (q13, .inl (cA14, 40, .inl (fun _ => 0))), (q15, .inl (cA16, 40, .inl (fun _ => 0))), (q17, .inl (cA18, 40, .inl (fun _ => 0))), (q19, .inl (cA20, 40, .inl (fun _ => 0))), (q21, .inl (cA22, 40, .inl (fun _ => 0))), (q23, .inl (cA24, 40, .inl (fun _ => 0))), (q25, .inl (cA26, 12, .inl (fun _ => 0))), (q27, .inl (cA28, 12, .inl (fun _ => 0)))] H := hP
  have hD : va_D A [(h0, .inr (6, [.int 1, .ref q1, .ref q3, .int 0, .ref q5, .ref q7, .ref q9, .ref q11, .ref q13, .ref q15, .ref q17, .ref q19, .ref q21, .ref q23, .int (-1), .int 0, .int 0, .int 0, .int 0, .int 0, .ref q25, .ref q27, .null, .null, .null, .null])), (q1, .inl (cA2, 8, .inl (fun _ => 0))), (q3, .inl (cA4, 8, .inl (fun _ => 0))), (q5, .inl (cA6, 40, .inl (fun _ => 0))), (q7, .inl (cA8, 40, .inl (fun _ => 0))), (q9, .inl (cA10, 40, .inl (fun _ => 0))), (q11, .inl (cA12, 40, .inl (fun _ => 0))), (q13, .inl (cA14, 40, .inl (fun _ => 0))), (q15, .inl (cA16, 40, .inl (fun _ => 0))), (q17, .inl (cA18, 40, .inl (fun _ => 0))), (q19, .inl (cA20, 40, .inl (fun _ => 0))), (q21, .inl (cA22, 40, .inl (fun _ => 0))), (q23, .inl (cA24, 40, .inl (fun _ => 0))), (q25, .inl (cA26, 12, .inl (fun _ => 0))), (q27, .inl (cA28, 12, .inl (fun _ => 0)))] := hD
  refine lv_aload_n hx hb dMD_init_126 rfl (lv_at hl 0 rfl) ?_
  refine lv_bipush (v := 12) hx hb dMD_init_127 (by decide) ?_
  refine va_newa (atype := .int) (ty := .int) (N' := 12) (a0 := (12, .inl (fun _ => 0))) hx hb (hz _ wd_120) rfl hK hP hD hS hA (fun _ => rfl) (by decide) (by decide) (by decide) (Nat.le_of_ble_eq_true rfl) (Nat.le_of_ble_eq_true rfl) dMD_init_129 (fun q29 cA30 H hK hP hD hS => ?_)
  have hP : va_P (dC, dI) vwCl [(h0, .inr (6, [.int 1, .ref q1, .ref q3, .int 0, .ref q5, .ref q7, .ref q9, .ref q11, .ref q13, .ref q15, .ref q17, .ref q19, .ref q21, .ref q23, .int (-1), .int 0, .int 0, .int 0, .int 0, .int 0, .ref q25, .ref q27, .null, .null, .null, .null])), (q1, .inl (cA2, 8, .inl (fun _ => 0))), (q3, .inl (cA4, 8, .inl (fun _ => 0))), (q5, .inl (cA6, 40, .inl (fun _ => 0))), (q7, .inl (cA8, 40, .inl (fun _ => 0))), (q9, .inl (cA10, 40, .inl (fun _ => 0))), (q11, .inl (cA12, 40, .inl (fun _ => 0))), (q13, .inl (cA14, 40, .inl (fun _ => 0))), (q15, .inl (cA16, 40, .inl (fun _ => 0))), (q17, .inl (cA18, 40, .inl (fun _ => 0))), (q19, .inl (cA20, 40, .inl (fun _ => 0))), (q21, .inl (cA22, 40, .inl (fun _ => 0))), (q23, .inl (cA24, 40, .inl (fun _ => 0))), (q25, .inl (cA26, 12, .inl (fun _ => 0))), (q27, .inl (cA28, 12, .inl (fun _ => 0))), (q29, .inl (cA30, 12, .inl (fun _ => 0)))] H := hP
  have hD : va_D A [(h0, .inr (6, [.int 1, .ref q1, .ref q3, .int 0, .ref q5, .ref q7, .ref q9, .ref q11, .ref q13, .ref q15, .ref q17, .ref q19, .ref q21, .ref q23, .int (-1), .int 0, .int 0, .int 0, .int 0, .int 0, .ref q25, .ref q27, .null, .null, .null, .null])), (q1, .inl (cA2, 8, .inl (fun _ => 0))), (q3, .inl (cA4, 8, .inl (fun _ => 0))), (q5, .inl (cA6, 40, .inl (fun _ => 0))), (q7, .inl (cA8, 40, .inl (fun _ => 0))), (q9, .inl (cA10, 40, .inl (fun _ => 0))), (q11, .inl (cA12, 40, .inl (fun _ => 0))), (q13, .inl (cA14, 40, .inl (fun _ => 0))), (q15, .inl (cA16, 40, .inl (fun _ => 0))), (q17, .inl (cA18, 40, .inl (fun _ => 0))), (q19, .inl (cA20, 40, .inl (fun _ => 0))), (q21, .inl (cA22, 40, .inl (fun _ => 0))), (q23, .inl (cA24, 40, .inl (fun _ => 0))), (q25, .inl (cA26, 12, .inl (fun _ => 0))), (q27, .inl (cA28, 12, .inl (fun _ => 0))), (q29, .inl (cA30, 12, .inl (fun _ => 0)))] := hD
  have hK : va_K (dC, dI) vwCl [(cA2, .int), (cA4, .int), (cA6, .int), (cA8, .int), (cA10, .int), (cA12, .int), (cA14, .int), (cA16, .int), (cA18, .int), (cA20, .int), (cA22, .int), (cA24, .int), (cA26, .int), (cA28, .int), (cA30, .int)] s := hK
  refine W.widen (k := 15) (n := 452) (Nat.le_of_ble_eq_true rfl) (Nat.le_of_ble_eq_true rfl) ?_
  refine va_putF (D := (dC, dI)) (ci := 6) (v := .ref q29) (ty := .array .int) (C := RMD) (T := TMD) (N := 26) hx hb hz in_MD tyMD tokMD nokMD hown hK hP hD hS 0 rfl rfl 22 (by decide) (hz _ wd_606) (fun _ h9 => h9) rfl hin rfl (by decide +kernel) rfl rfl (Nat.le_of_ble_eq_true rfl) dMD_init_131 (fun H locs hP hD hS => ?_)
  have hP : va_P (dC, dI) vwCl [(h0, .inr (6, [.int 1, .ref q1, .ref q3, .int 0, .ref q5, .ref q7, .ref q9, .ref q11, .ref q13, .ref q15, .ref q17, .ref q19, .ref q21, .ref q23, .int (-1), .int 0, .int 0, .int 0, .int 0, .int 0, .ref q25, .ref q27, .ref q29, .null, .null, .null])), (q1, .inl (cA2, 8, .inl (fun _ => 0))), (q3, .inl (cA4, 8, .inl (fun _ => 0))), (q5, .inl (cA6, 40, .inl (fun _ => 0))), (q7, .inl (cA8, 40, .inl (fun _ => 0))), (q9, .inl (cA10, 40, .inl (fun _ => 0))), (q11, .inl (cA12, 40, .inl (fun _ => 0))), (q13, .inl (cA14, 40, .inl (fun _ => 0))), (q15, .inl (cA16, 40, .inl (fun _ => 0))), (q17, .inl (cA18, 40, .inl (fun _ => 0))), (q19, .inl (cA20, 40, .inl (fun _ => 0))), (q21, .inl (cA22, 40, .inl (fun _ => 0))), (q23, .inl (cA24, 40, .inl (fun _ => 0))), (q25, .inl (cA26, 12, .inl (fun _ => 0))), (q27, .inl (cA28, 12, .inl (fun _ => 0))), (q29, .inl (cA30, 12, .inl (fun _ => 0)))] H := hP
  have hD : va_D A [(h0, .inr (6, [.int 1, .ref q1, .ref q3, .int 0, .ref q5, .ref q7, .ref q9, .ref q11, .ref q13, .ref q15, .ref q17, .ref q19, .ref q21, .ref q23, .int (-1), .int 0, .int 0, .int 0, .int 0, .int 0, .ref q25, .ref q27, .ref q29, .null, .null, .null])), (q1, .inl (cA2, 8, .inl (fun _ => 0))), (q3, .inl (cA4, 8, .inl (fun _ => 0))), (q5, .inl (cA6, 40, .inl (fun _ => 0))), (q7, .inl (cA8, 40, .inl (fun _ => 0))), (q9, .inl (cA10, 40, .inl (fun _ => 0))), (q11, .inl (cA12, 40, .inl (fun _ => 0))), (q13, .inl (cA14, 40, .inl (fun _ => 0))), (q15, .inl (cA16, 40, .inl (fun _ => 0))), (q17, .inl (cA18, 40, .inl (fun _ => 0))), (q19, .inl (cA20, 40, .inl (fun _ => 0))), (q21, .inl (cA22, 40, .inl (fun _ => 0))), (q23, .inl (cA24, 40, .inl (fun _ => 0))), (q25, .inl (cA26, 12, .inl (fun _ => 0))), (q27, .inl (cA28, 12, .inl (fun _ => 0))), (q29, .inl (cA30, 12, .inl (fun _ => 0)))] := hD
  refine lv_aload_n hx hb dMD_init_134 rfl (lv_at hl 0 rfl) ?_
  refine lv_bipush (v := 12) hx hb dMD_init_135 (by decide) ?_
  refine va_newa (atype := .int) (ty := .int) (N' := 12) (a0 := (12, .inl (fun _ => 0))) hx hb (hz _ wd_120) rfl hK hP hD hS hA (fun _ => rfl) (by decide) (by decide) (by decide) (Nat.le_of_ble_eq_true rfl) (Nat.le_of_ble_eq_true rfl) dMD_init_137 (fun q31 cA32 H hK hP hD hS => ?_)
  have hP : va_P (dC, dI) vwCl [(h0, .inr (6, [.int 1, .ref q1, .ref q3, .int 0, .ref q5, .ref q7, .ref q9, .ref q11, .ref q13, .ref q15, .ref q17, .ref q19, .ref q21, .ref q23, .int (-1), .int 0, .int 0, .int 0, .int 0, .int 0, .ref q25, .ref q27, .ref q29, .null, .null, .null])), (q1, .inl (cA2, 8, .inl (fun _ => 0))), (q3, .inl (cA4, 8, .inl (fun _ => 0))), (q5, .inl (cA6, 40, .inl (fun _ => 0))), (q7, .inl (cA8, 40, .inl (fun _ => 0))), (q9, .inl (cA10, 40, .inl (fun _ => 0))), (q11, .inl (cA12, 40, .inl (fun _ => 0))), (q13, .inl (cA14, 40, .inl (fun _ => 0))), (q15, .inl (cA16, 40, .inl (fun _ => 0))), (q17, .inl (cA18, 40, .inl (fun _ => 0))), (q19, .inl (cA20, 40, .inl (fun _ => 0))), (q21, .inl (cA22, 40, .inl (fun _ => 0))), (q23, .inl (cA24, 40, .inl (fun _ => 0))), (q25, .inl (cA26, 12, .inl (fun _ => 0))), (q27, .inl (cA28, 12, .inl (fun _ => 0))), (q29, .inl (cA30, 12, .inl (fun _ => 0))), (q31, .inl (cA32, 12, .inl (fun _ => 0)))] H := hP
  have hD : va_D A [(h0, .inr (6, [.int 1, .ref q1, .ref q3, .int 0, .ref q5, .ref q7, .ref q9, .ref q11, .ref q13, .ref q15, .ref q17, .ref q19, .ref q21, .ref q23, .int (-1), .int 0, .int 0, .int 0, .int 0, .int 0, .ref q25, .ref q27, .ref q29, .null, .null, .null])), (q1, .inl (cA2, 8, .inl (fun _ => 0))), (q3, .inl (cA4, 8, .inl (fun _ => 0))), (q5, .inl (cA6, 40, .inl (fun _ => 0))), (q7, .inl (cA8, 40, .inl (fun _ => 0))), (q9, .inl (cA10, 40, .inl (fun _ => 0))), (q11, .inl (cA12, 40, .inl (fun _ => 0))), (q13, .inl (cA14, 40, .inl (fun _ => 0))), (q15, .inl (cA16, 40, .inl (fun _ => 0))), (q17, .inl (cA18, 40, .inl (fun _ => 0))), (q19, .inl (cA20, 40, .inl (fun _ => 0))), (q21, .inl (cA22, 40, .inl (fun _ => 0))), (q23, .inl (cA24, 40, .inl (fun _ => 0))), (q25, .inl (cA26, 12, .inl (fun _ => 0))), (q27, .inl (cA28, 12, .inl (fun _ => 0))), (q29, .inl (cA30, 12, .inl (fun _ => 0))), (q31, .inl (cA32, 12, .inl (fun _ => 0)))] := hD
  have hK : va_K (dC, dI) vwCl [(cA2, .int), (cA4, .int), (cA6, .int), (cA8, .int), (cA10, .int), (cA12, .int), (cA14, .int), (cA16, .int), (cA18, .int), (cA20, .int), (cA22, .int), (cA24, .int), (cA26, .int), (cA28, .int), (cA30, .int), (cA32, .int)] s := hK
  refine W.widen (k := 16) (n := 464) (Nat.le_of_ble_eq_true rfl) (Nat.le_of_ble_eq_true rfl) ?_
  refine va_putF (D := (dC, dI)) (ci := 6) (v := .ref q31) (ty := .array .int) (C := RMD) (T := TMD) (N := 26) hx hb hz in_MD tyMD tokMD nokMD hown hK hP hD hS 0 rfl rfl 23 (by decide) (hz _ wd_607) (fun _ h9 => h9) rfl hin rfl (by decide +kernel) rfl rfl (Nat.le_of_ble_eq_true rfl) dMD_init_139 (fun H locs hP hD hS => ?_)
  have hP : va_P (dC, dI) vwCl [(h0, .inr (6, [.int 1, .ref q1, .ref q3, .int 0, .ref q5, .ref q7, .ref q9, .ref q11, .ref q13, .ref q15, .ref q17, .ref q19, .ref q21, .ref q23, .int (-1), .int 0, .int 0, .int 0, .int 0, .int 0, .ref q25, .ref q27, .ref q29, .ref q31, .null, .null])), (q1, .inl (cA2, 8, .inl (fun _ => 0))), (q3, .inl (cA4, 8, .inl (fun _ => 0))), (q5, .inl (cA6, 40, .inl (fun _ => 0))), (q7, .inl (cA8, 40, .inl (fun _ => 0))), (q9, .inl (cA10, 40, .inl (fun _ => 0))), (q11, .inl (cA12, 40, .inl (fun _ => 0))), (q13, .inl (cA14, 40, .inl (fun _ => 0))), (q15, .inl (cA16, 40, .inl (fun _ => 0))), (q17, .inl (cA18, 40, .inl (fun _ => 0))), (q19, .inl (cA20, 40, .inl (fun _ => 0))), (q21, .inl (cA22, 40, .inl (fun _ => 0))), (q23, .inl (cA24, 40, .inl (fun _ => 0))), (q25, .inl (cA26, 12, .inl (fun _ => 0))), (q27, .inl (cA28, 12, .inl (fun _ => 0))), (q29, .inl (cA30, 12, .inl (fun _ => 0))), (q31, .inl (cA32, 12, .inl (fun _ => 0)))] H := hP
  have hD : va_D A [(h0, .inr (6, [.int 1, .ref q1, .ref q3, .int 0, .ref q5, .ref q7, .ref q9, .ref q11, .ref q13, .ref q15, .ref q17, .ref q19, .ref q21, .ref q23, .int (-1), .int 0, .int 0, .int 0, .int 0, .int 0, .ref q25, .ref q27, .ref q29, .ref q31, .null, .null])), (q1, .inl (cA2, 8, .inl (fun _ => 0))), (q3, .inl (cA4, 8, .inl (fun _ => 0))), (q5, .inl (cA6, 40, .inl (fun _ => 0))), (q7, .inl (cA8, 40, .inl (fun _ => 0))), (q9, .inl (cA10, 40, .inl (fun _ => 0))), (q11, .inl (cA12, 40, .inl (fun _ => 0))), (q13, .inl (cA14, 40, .inl (fun _ => 0))), (q15, .inl (cA16, 40, .inl (fun _ => 0))), (q17, .inl (cA18, 40, .inl (fun _ => 0))), (q19, .inl (cA20, 40, .inl (fun _ => 0))), (q21, .inl (cA22, 40, .inl (fun _ => 0))), (q23, .inl (cA24, 40, .inl (fun _ => 0))), (q25, .inl (cA26, 12, .inl (fun _ => 0))), (q27, .inl (cA28, 12, .inl (fun _ => 0))), (q29, .inl (cA30, 12, .inl (fun _ => 0))), (q31, .inl (cA32, 12, .inl (fun _ => 0)))] := hD
  refine lv_aload_n hx hb dMD_init_142 rfl (lv_at hl 0 rfl) ?_
  refine lv_bipush (v := 12) hx hb dMD_init_143 (by decide) ?_
  refine va_newa (atype := .boolean) (ty := .boolean) (N' := 12) (a0 := (12, .inl (fun _ => 0))) hx hb (hz _ wd_663) rfl hK hP hD hS hA (fun _ => rfl) (by decide) (by decide) (by decide) (Nat.le_of_ble_eq_true rfl) (Nat.le_of_ble_eq_true rfl) dMD_init_145 (fun q33 cA34 H hK hP hD hS => ?_)
  have hP : va_P (dC, dI) vwCl [(h0, .inr (6, [.int 1, .ref q1, .ref q3, .int 0, .ref q5, .ref q7, .ref q9, .ref q11, .ref q13, .ref q15, .ref q17, .ref q19, .ref q21, .ref q23, .int (-1), .int 0, .int 0, .int 0, .int 0, .int 0, .ref q25, .ref q27, .ref q29, .ref q31, .null, .null])), (q1, .inl (cA2, 8, .inl (fun _ => 0))), (q3, .inl (cA4, 8, .inl (fun _ => 0))), (q5, .inl (cA6, 40, .inl (fun _ => 0))), (q7, .inl (cA8, 40, .inl (fun _ => 0))), (q9, .inl (cA10, 40, .inl (fun _ => 0))), (q11, .inl (cA12, 40, .inl (fun _ => 0))), (q13, .inl (cA14, 40, .inl (fun _ => 0))), (q15, .inl (cA16, 40, .inl (fun _ => 0))), (q17, .inl (cA18, 40, .inl (fun _ => 0))), (q19, .inl (cA20, 40, .inl (fun _ => 0))), (q21, .inl (cA22, 40, .inl (fun _ => 0))), (q23, .inl (cA24, 40, .inl (fun _ => 0))), (q25, .inl (cA26, 12, .inl (fun _ => 0))), (q27, .inl (cA28, 12, .inl (fun _ => 0))), (q29, .inl (cA30, 12, .inl (fun _ => 0))), (q31, .inl (cA32, 12, .inl (fun _ => 0))), (q33, .inl (cA34, 12, .inl (fun _ => 0)))] H := hP
  have hD : va_D A [(h0, .inr (6, [.int 1, .ref q1, .ref q3, .int 0, .ref q5, .ref q7, .ref q9, .ref q11, .ref q13, .ref q15, .ref q17, .ref q19, .ref q21, .ref q23, .int (-1), .int 0, .int 0, .int 0, .int 0, .int 0, .ref q25, .ref q27, .ref q29, .ref q31, .null, .null])), (q1, .inl (cA2, 8, .inl (fun _ => 0))), (q3, .inl (cA4, 8, .inl (fun _ => 0))), (q5, .inl (cA6, 40, .inl (fun _ => 0))), (q7, .inl (cA8, 40, .inl (fun _ => 0))), (q9, .inl (cA10, 40, .inl (fun _ => 0))), (q11, .inl (cA12, 40, .inl (fun _ => 0))), (q13, .inl (cA14, 40, .inl (fun _ => 0))), (q15, .inl (cA16, 40, .inl (fun _ => 0))), (q17, .inl (cA18, 40, .inl (fun _ => 0))), (q19, .inl (cA20, 40, .inl (fun _ => 0))), (q21, .inl (cA22, 40, .inl (fun _ => 0))), (q23, .inl (cA24, 40, .inl (fun _ => 0))), (q25, .inl (cA26, 12, .inl (fun _ => 0))), (q27, .inl (cA28, 12, .inl (fun _ => 0))), (q29, .inl (cA30, 12, .inl (fun _ => 0))), (q31, .inl (cA32, 12, .inl (fun _ => 0))), (q33, .inl (cA34, 12, .inl (fun _ => 0)))] := hD
  have hK : va_K (dC, dI) vwCl [(cA2, .int), (cA4, .int), (cA6, .int), (cA8, .int), (cA10, .int), (cA12, .int), (cA14, .int), (cA16, .int), (cA18, .int), (cA20, .int), (cA22, .int), (cA24, .int), (cA26, .int), (cA28, .int), (cA30, .int), (cA32, .int), (cA34, .boolean)] s := hK
  refine W.widen (k := 17) (n := 476) (Nat.le_of_ble_eq_true rfl) (Nat.le_of_ble_eq_true rfl) ?_
  refine va_putF (D := (dC, dI)) (ci := 6) (v := .ref q33) (ty := .array .boolean) (C := RMD) (T := TMD) (N := 26) hx hb hz in_MD tyMD tokMD nokMD hown hK hP hD hS 0 rfl rfl 24 (by decide) (hz _ wd_608) (fun _ h9 => h9) rfl hin rfl (by decide +kernel) rfl rfl (Nat.le_of_ble_eq_true rfl) dMD_init_147 (fun H locs hP hD hS => ?_)
  have hP : va_P (dC, dI) vwCl [(h0, .inr (6, [.int 1, .ref q1, .ref q3, .int 0, .ref q5, .ref q7, .ref q9, .ref q11, .ref q13, .ref q15, .ref q17, .ref q19, .ref q21, .ref q23, .int (-1), .int 0, .int 0, .int 0, .int 0, .int 0, .ref q25, .ref q27, .ref q29, .ref q31, .ref q33, .null])), (q1, .inl (cA2, 8, .inl (fun _ => 0))), (q3, .inl (cA4, 8, .inl (fun _ => 0))), (q5, .inl (cA6, 40, .inl (fun _ => 0))), (q7, .inl (cA8, 40, .inl (fun _ => 0))), (q9, .inl (cA10, 40, .inl (fun _ => 0))), (q11, .inl (cA12, 40, .inl (fun _ => 0))), (q13, .inl (cA14, 40, .inl (fun _ => 0))), (q15, .inl (cA16, 40, .inl (fun _ => 0))), (q17, .inl (cA18, 40, .inl (fun _ => 0))), (q19, .inl (cA20, 40, .inl (fun _ => 0))), (q21, .inl (cA22, 40, .inl (fun _ => 0))), (q23, .inl (cA24, 40, .inl (fun _ => 0))), (q25, .inl (cA26, 12, .inl (fun _ => 0))), (q27, .inl (cA28, 12, .inl (fun _ => 0))), (q29, .inl (cA30, 12, .inl (fun _ => 0))), (q31, .inl (cA32, 12, .inl (fun _ => 0))), (q33, .inl (cA34, 12, .inl (fun _ => 0)))] H := hP
  have hD : va_D A [(h0, .inr (6, [.int 1, .ref q1, .ref q3, .int 0, .ref q5, .ref q7, .ref q9, .ref q11, .ref q13, .ref q15, .ref q17, .ref q19, .ref q21, .ref q23, .int (-1), .int 0, .int 0, .int 0, .int 0, .int 0, .ref q25, .ref q27, .ref q29, .ref q31, .ref q33, .null])), (q1, .inl (cA2, 8, .inl (fun _ => 0))), (q3, .inl (cA4, 8, .inl (fun _ => 0))), (q5, .inl (cA6, 40, .inl (fun _ => 0))), (q7, .inl (cA8, 40, .inl (fun _ => 0))), (q9, .inl (cA10, 40, .inl (fun _ => 0))), (q11, .inl (cA12, 40, .inl (fun _ => 0))), (q13, .inl (cA14, 40, .inl (fun _ => 0))), (q15, .inl (cA16, 40, .inl (fun _ => 0))), (q17, .inl (cA18, 40, .inl (fun _ => 0))), (q19, .inl (cA20, 40, .inl (fun _ => 0))), (q21, .inl (cA22, 40, .inl (fun _ => 0))), (q23, .inl (cA24, 40, .inl (fun _ => 0))), (q25, .inl (cA26, 12, .inl (fun _ => 0))), (q27, .inl (cA28, 12, .inl (fun _ => 0))), (q29, .inl (cA30, 12, .inl (fun _ => 0))), (q31, .inl (cA32, 12, .inl (fun _ => 0))), (q33, .inl (cA34, 12, .inl (fun _ => 0)))] := hD
  refine lv_aload_n hx hb dMD_init_150 rfl (lv_at hl 0 rfl) ?_
  refine lv_bipush (v := 12) hx hb dMD_init_151 (by decide) ?_
  refine va_newa (atype := .int) (ty := .int) (N' := 12) (a0 := (12, .inl (fun _ => 0))) hx hb (hz _ wd_120) rfl hK hP hD hS hA (fun _ => rfl) (by decide) (by decide) (by decide) (Nat.le_of_ble_eq_true rfl) (Nat.le_of_ble_eq_true rfl) dMD_init_153 (fun q35 cA36 H hK hP hD hS => ?_)
  have hP : va_P (dC, dI) vwCl [(h0, .inr (6, [.int 1, .ref q1, .ref q3, .int 0, .ref q5, .ref q7, .ref q9, .ref q11, .ref q13, .ref q15, .ref q17, .ref q19, .ref q21, .ref q23, .int (-1), .int 0, .int 0, .int 0, .int 0, .int 0, .ref q25, .ref q27, .ref q29, .ref q31, .ref q33, .null])), (q1, .inl (cA2, 8, .inl (fun _ => 0))), (q3, .inl (cA4, 8, .inl (fun _ => 0))), (q5, .inl (cA6, 40, .inl (fun _ => 0))), (q7, .inl (cA8, 40, .inl (fun _ => 0))), (q9, .inl (cA10, 40, .inl (fun _ => 0))), (q11, .inl (cA12, 40, .inl (fun _ => 0))), (q13, .inl (cA14, 40, .inl (fun _ => 0))), (q15, .inl (cA16, 40, .inl (fun _ => 0))), (q17, .inl (cA18, 40, .inl (fun _ => 0))), (q19, .inl (cA20, 40, .inl (fun _ => 0))), (q21, .inl (cA22, 40, .inl (fun _ => 0))), (q23, .inl (cA24, 40, .inl (fun _ => 0))), (q25, .inl (cA26, 12, .inl (fun _ => 0))), (q27, .inl (cA28, 12, .inl (fun _ => 0))), (q29, .inl (cA30, 12, .inl (fun _ => 0))), (q31, .inl (cA32, 12, .inl (fun _ => 0))), (q33, .inl (cA34, 12, .inl (fun _ => 0))), (q35, .inl (cA36, 12, .inl (fun _ => 0)))] H := hP
  have hD : va_D A [(h0, .inr (6, [.int 1, .ref q1, .ref q3, .int 0, .ref q5, .ref q7, .ref q9, .ref q11, .ref q13, .ref q15, .ref q17, .ref q19, .ref q21, .ref q23, .int (-1), .int 0, .int 0, .int 0, .int 0, .int 0, .ref q25, .ref q27, .ref q29, .ref q31, .ref q33, .null])), (q1, .inl (cA2, 8, .inl (fun _ => 0))), (q3, .inl (cA4, 8, .inl (fun _ => 0))), (q5, .inl (cA6, 40, .inl (fun _ => 0))), (q7, .inl (cA8, 40, .inl (fun _ => 0))), (q9, .inl (cA10, 40, .inl (fun _ => 0))), (q11, .inl (cA12, 40, .inl (fun _ => 0))), (q13, .inl (cA14, 40, .inl (fun _ => 0))), (q15, .inl (cA16, 40, .inl (fun _ => 0))), (q17, .inl (cA18, 40, .inl (fun _ => 0))), (q19, .inl (cA20, 40, .inl (fun _ => 0))), (q21, .inl (cA22, 40, .inl (fun _ => 0))), (q23, .inl (cA24, 40, .inl (fun _ => 0))), (q25, .inl (cA26, 12, .inl (fun _ => 0))), (q27, .inl (cA28, 12, .inl (fun _ => 0))), (q29, .inl (cA30, 12, .inl (fun _ => 0))), (q31, .inl (cA32, 12, .inl (fun _ => 0))), (q33, .inl (cA34, 12, .inl (fun _ => 0))), (q35, .inl (cA36, 12, .inl (fun _ => 0)))] := hD
  have hK : va_K (dC, dI) vwCl [(cA2, .int), (cA4, .int), (cA6, .int), (cA8, .int), (cA10, .int), (cA12, .int), (cA14, .int), (cA16, .int), (cA18, .int), (cA20, .int), (cA22, .int), (cA24, .int), (cA26, .int), (cA28, .int), (cA30, .int), (cA32, .int), (cA34, .boolean), (cA36, .int)] s := hK
  refine W.widen (k := 18) (n := 488) (Nat.le_of_ble_eq_true rfl) (Nat.le_of_ble_eq_true rfl) ?_
  refine va_putF (D := (dC, dI)) (ci := 6) (v := .ref q35) (ty := .array .int) (C := RMD) (T := TMD) (N := 26) hx hb hz in_MD tyMD tokMD nokMD hown hK hP hD hS 0 rfl rfl 25 (by decide) (hz _ wd_609) (fun _ h9 => h9) rfl hin rfl (by decide +kernel) rfl rfl (Nat.le_of_ble_eq_true rfl) dMD_init_155 (fun H locs hP hD hS => ?_)
  have hP : va_P (dC, dI) vwCl [(h0, .inr (6, [.int 1, .ref q1, .ref q3, .int 0, .ref q5, .ref q7, .ref q9, .ref q11, .ref q13, .ref q15, .ref q17, .ref q19, .ref q21, .ref q23, .int (-1), .int 0, .int 0, .int 0, .int 0, .int 0, .ref q25, .ref q27, .ref q29, .ref q31, .ref q33, .ref q35])), (q1, .inl (cA2, 8, .inl (fun _ => 0))), (q3, .inl (cA4, 8, .inl (fun _ => 0))), (q5, .inl (cA6, 40, .inl (fun _ => 0))), (q7, .inl (cA8, 40, .inl (fun _ => 0))), (q9, .inl (cA10, 40, .inl (fun _ => 0))), (q11, .inl (cA12, 40, .inl (fun _ => 0))), (q13, .inl (cA14, 40, .inl (fun _ => 0))), (q15, .inl (cA16, 40, .inl (fun _ => 0))), (q17, .inl (cA18, 40, .inl (fun _ => 0))), (q19, .inl (cA20, 40, .inl (fun _ => 0))), (q21, .inl (cA22, 40, .inl (fun _ => 0))), (q23, .inl (cA24, 40, .inl (fun _ => 0))), (q25, .inl (cA26, 12, .inl (fun _ => 0))), (q27, .inl (cA28, 12, .inl (fun _ => 0))), (q29, .inl (cA30, 12, .inl (fun _ => 0))), (q31, .inl (cA32, 12, .inl (fun _ => 0))), (q33, .inl (cA34, 12, .inl (fun _ => 0))), (q35, .inl (cA36, 12, .inl (fun _ => 0)))] H := hP
  have hD : va_D A [(h0, .inr (6, [.int 1, .ref q1, .ref q3, .int 0, .ref q5, .ref q7, .ref q9, .ref q11, .ref q13, .ref q15, .ref q17, .ref q19, .ref q21, .ref q23, .int (-1), .int 0, .int 0, .int 0, .int 0, .int 0, .ref q25, .ref q27, .ref q29, .ref q31, .ref q33, .ref q35])), (q1, .inl (cA2, 8, .inl (fun _ => 0))), (q3, .inl (cA4, 8, .inl (fun _ => 0))), (q5, .inl (cA6, 40, .inl (fun _ => 0))), (q7, .inl (cA8, 40, .inl (fun _ => 0))), (q9, .inl (cA10, 40, .inl (fun _ => 0))), (q11, .inl (cA12, 40, .inl (fun _ => 0))), (q13, .inl (cA14, 40, .inl (fun _ => 0))), (q15, .inl (cA16, 40, .inl (fun _ => 0))), (q17, .inl (cA18, 40, .inl (fun _ => 0))), (q19, .inl (cA20, 40, .inl (fun _ => 0))), (q21, .inl (cA22, 40, .inl (fun _ => 0))), (q23, .inl (cA24, 40, .inl (fun _ => 0))), (q25, .inl (cA26, 12, .inl (fun _ => 0))), (q27, .inl (cA28, 12, .inl (fun _ => 0))), (q29, .inl (cA30, 12, .inl (fun _ => 0))), (q31, .inl (cA32, 12, .inl (fun _ => 0))), (q33, .inl (cA34, 12, .inl (fun _ => 0))), (q35, .inl (cA36, 12, .inl (fun _ => 0)))] := hD
  subst hQ
  exact zw_vret (D := (dC, dI)) (cl := vwCl) (A := A) (q1, q3, q5, q7, q9, q11, q13, q15, q17, q19, q21, q23, q25, q27, q29, q31, q33, q35, cA2, cA4, cA26, cA28, cA30, cA36, cA32) hx hb hr hlocks (trivial) (hP.sub [0, 1, 2, 13, 14, 15, 18, 16] rfl) (hK.sub [0, 1, 12, 13, 14, 17, 15] rfl) (hD.sub [0, 1, 2, 13, 14, 15, 18, 16] (by decide) rfl) hS dMD_init_158
end
section
theorem z_same {r1 r2 : Int32} {P : Prop} (h1 : (r1 = 1 ∧ P) ∨ (r1 = 0 ∧ ¬ P)) (h2 : (r2 = 1 ∧ P) ∨ (r2 = 0 ∧ ¬ P)) : r1 = r2 := by
  rcases h1 with ⟨rfl, a⟩ | ⟨rfl, a⟩ <;> rcases h2 with ⟨rfl, b⟩ | ⟨rfl, b⟩
  · rfl
  · exact absurd a b
  · exact absurd b a
  · rfl
theorem z_static {s : State} {b : Nat} (hts : ∀ w ∈ lw_tbl, w.before #[Value.ref b] s = true) (hgv : (Jvm.Cond.and given_1 narrow_1).before #[Value.ref b] s = true) {A : Nat → Prop} (hA : ∀ a : Nat, a < s.heap.size → ¬ A a) : ∃ t : Nat, va_Z "java/util/ArrayList" "DEFAULTCAPACITY_EMPTY_ELEMENTDATA" "[Ljava/lang/Object;" (.ref t) A s s.heap := by
  have hs := flat_of_before _ hgv
  have h1 : (Cond.eq (.length (.static "java/util/ArrayList" "DEFAULTCAPACITY_EMPTY_ELEMENTDATA" "[Ljava/lang/Object;")) (.int 0)).before #[Value.ref b] s = true := hs _ (by decide +kernel)
  obtain ⟨t, cell, ht, -, -⟩ := Term.length_spec (va_eqt h1)
  exact ⟨t, va_Zref (hts _ (List.mem_of_getElem? (i := 72) (by decide +kernel))) (hts _ (List.mem_of_getElem? (i := 33) (by decide +kernel))) ht hA⟩
theorem z_nestOf {s : State} {b : Nat} (hts : ∀ w ∈ lw_tbl, w.before #[Value.ref b] s = true) : zN s := by
  intro q hq
  simp only [zNest, List.mem_cons, List.not_mem_nil, or_false] at hq
  rcases hq with rfl | rfl | rfl | rfl | rfl | rfl
  · exact va_Nw.of rfl (hts _ (List.mem_of_getElem? (i := 55) (by decide +kernel)))
  · exact va_Nw.of rfl (hts _ (List.mem_of_getElem? (i := 106) (by decide +kernel)))
  · exact va_Nw.of rfl (hts _ (List.mem_of_getElem? (i := 112) (by decide +kernel)))
  · exact va_Nw.of rfl (hts _ (List.mem_of_getElem? (i := 139) (by decide +kernel)))
  · exact va_Nw.of rfl (hts _ (List.mem_of_getElem? (i := 144) (by decide +kernel)))
  · exact va_Nw.of rfl (hts _ (List.mem_of_getElem? (i := 567) (by decide +kernel)))
theorem z_known {s : State} {cl : List vw_C} (h : ∀ (c : Nat) (q : vw_C), cl[c]? = some q → ∃ (cC : ClassId) (iS : Nat → Nat), u_Kn s q.1 q.2.1 q.2.2 cC iS) : ∃ (dC : Nat → ClassId) (dI : Nat → Nat → Nat), va_K (dC, dI) cl [] s := by
  have h2 : ∀ c : Nat, ∃ x : ClassId × (Nat → Nat), ∀ q : vw_C, cl[c]? = some q → u_Kn s q.1 q.2.1 q.2.2 x.1 x.2 := by
    intro c
    cases hq : cl[c]? with
    | none => exact ⟨((0 : Nat), fun _ => 0), fun q h => by cases h⟩
    | some q =>
      obtain ⟨cC, iS, hh⟩ := h c q hq
      exact ⟨(cC, iS), fun q' h' => by cases h'; exact hh⟩
  obtain ⟨f, hf⟩ := Classical.axiomOfChoice h2
  exact ⟨fun c => (f c).1, fun c => (f c).2, fun c q hq => hf c q hq, fun k q hk => by simp at hk⟩
theorem z_knownOf {s : State} {b : Nat} (hts : ∀ w ∈ lw_tbl, w.before #[Value.ref b] s = true) : ∃ (dC : Nat → ClassId) (dI : Nat → Nat → Nat), va_K (dC, dI) vwCl [] s := by
  have hz : ∀ w ∈ zT, w.before #[Value.ref b] s = true := fun w h => hts w (zT_in w h)
  refine z_known (fun c q h => ?_)
  match c, h with
  | 0, h =>
    have h : some (RSC, TSC, 6) = some q := h
    cases h
    exact u_known hz in_SC (hz _ wd_46)
  | 1, h =>
    have h : some (RGR, TGR, 6) = some q := h
    cases h
    exact u_known hz in_GR (hz _ wd_54)
  | 2, h =>
    have h : some (RAL, TAL, 3) = some q := h
    cases h
    exact u_known hz in_AL (hz _ wd_60)
  | 3, h =>
    have h : some (RWI, TWI, 4) = some q := h
    cases h
    exact u_known hz in_WI (hz _ wd_105)
  | 4, h =>
    have h : some (RLI, TLI, 1) = some q := h
    cases h
    exact u_known hz in_LI (hz _ wd_111)
  | 5, h =>
    have h : some (RHE, THE, 1) = some q := h
    cases h
    exact u_known hz in_HE (hz _ wd_138)
  | 6, h =>
    have h : some (RMD, TMD, 26) = some q := h
    cases h
    exact u_known hz in_MD (hz _ wd_579)
  | 7, h =>
    have h : some (RCE, TCE, 10) = some q := h
    cases h
    exact u_known hz in_CE (hz _ wd_246)
  | (c + 8), h => exact absurd h (by simp)
end
section
/-! THE CLAIM OUT OF ONE WALK OF THE LAW'S BODY. Your part is whole_start (and what it stands on); all else here is the same for every law, but numbers. -/
def R_law : String := "SpannedCellsLaw"
def lw_P (b : Addr) (xs : List Int32) (args : Array Value) (s : State) : Prop := args = #[.ref b] ∧ s.IntsAt b xs ∧ xs.length ≤ 6 ∧ (Jvm.Cond.and given_1 narrow_1).before args s = true
def lw_Q (_ : Array Value) (s : State) (o : Outcome) (t : State) : Prop := o = .returned (some (.int 1)) ∧ Framed s o t [] 600000 7302249
def lw_Z (below : List Frame) (a : Array Value) (s : State) : State → Prop := fun t => ∃ o, t.status = .running ∧ Ended t below o ∧ lw_Q a s o t
/-- the law's own end, with 1 on the stack, nothing written that was there before, its room as the claim has it -/
theorem lw_ret {p : Program} {l : Launch} {e : Env} {s : State} {m : MethodId} {below : List Frame} {meth : Method} {c : Code} {b : Nat} (hx : p.tables.exec = Jvm.exec) (hb : c.code = code) (hr : meth.sig.returnType = ret) (hlocks : meth.locks = false) {pc : Nat} {H : Heap} {ls : Array Slot} (hdg : decode code pc = .ok (.ireturn, 1)) : W p l e room_1 s m #[Value.ref b] below meth c H [] 600000 7302249 (lw_Z below #[Value.ref b] s) (F0 m pc ls [.int 1]) := by
  intro T hT X
  obtain ⟨fs, hret, hrun, hended, hW, hframe⟩ := X.leave (v := some (.int 1)) (hlocks := hlocks) (fun h => by rw [hr] at h; cases h)
  have hmeth' : T.vm.method? m = some meth := X.method'
  refine ⟨T.setFrames fs, ?_, .returned (some (.int 1)), hrun, hended, rfl, ⟨_, rfl⟩, hW, hframe⟩
  jvm_step X.here [X.here.top, hx, hb, hdg, hmeth', hr, ret, narrow_b1]
  (try refine ⟨rfl, ?_⟩); (try refine ⟨rfl, ?_⟩)
  first | (intro acts; rw [hret _ acts rfl rfl rfl]) | rw [hret _ _ rfl rfl rfl]
  exact Steps.refl _
/-- what holds at the law's entry: the machine, the code, the tables' words (any of lw_tbl by 'hts w (by decide +kernel)'), the script of L ints xs at the cell b, what the Statement gives of the start (any of its parts by flat_of_before) -/
def lw_At (p : Program) (s : State) (m : MethodId) (meth : Method) (c : Code) (b L : Nat) (xs : Nat → Int32) : Prop :=
  p.tables.exec = Jvm.exec ∧ c.code = code ∧ meth.sig.returnType = ret ∧ c.maxLocals = 4 ∧ s.vm.findClass R_law = some m.cls ∧ (∀ w ∈ lw_tbl, w.before #[Value.ref b] s = true) ∧ va_X b L xs s s.heap ∧ b < s.heap.size ∧ meth.locks = false ∧ (Jvm.Cond.and given_1 narrow_1).before #[Value.ref b] s = true
end
section
set_option maxHeartbeats 8000000 in
set_option maxRecDepth 100000 in
theorem whole_start {p : Program} {e : Env} {s : State} {m : MethodId} {below : List Frame} {meth : Method} {c : Code} (l : Launch) {b L : Nat} {xs : Nat → Int32} (hL : L ≤ 6) (C0 : lw_At p s m meth c b L xs) : W p l e room_1 s m #[Value.ref b] below meth c s.heap [] 0 0 (lw_Z below #[Value.ref b] s) (entryFrame m ([Value.ref b] : List Value).toArray 4) := by
  obtain ⟨hx, hb, hr, hml, hown, hts0, hXs, hbl, hlocks, hgv⟩ := C0
  have hown : s.vm.findClass "SpannedCellsLaw" = some m.cls := hown
  have hz : ∀ w9 ∈ zT, w9.before #[Value.ref b] s = true := fun w9 h => hts0 w9 (zT_in w9 h)
  have hN : zN s := z_nestOf hts0
  obtain ⟨A, hAd⟩ : ∃ A : Nat → Prop, A = (fun q => s.heap.size ≤ q) := ⟨_, rfl⟩
  have hA : ∀ q : Nat, s.heap.size ≤ q → A q := fun q h => by rw [hAd]; exact h
  have hAl : ∀ q : Nat, A q → s.heap.size ≤ q := fun q h => by rw [hAd] at h; exact h
  have hAb : ¬ A b := fun h => absurd (hAl b h) (by omega)
  obtain ⟨t, hZ⟩ := z_static (A := A) hts0 hgv (fun a h1 h2 => absurd (hAl a h2) (by omega))
  have hX : zX t A s := ⟨hN, hZ⟩
  obtain ⟨dC, dI, hK⟩ := z_knownOf hts0
  rw [lg_entry_eq]
  have hl := lv_entry ([.ref b]) (n := 4) (Nat.le_of_ble_eq_true rfl)
  generalize (lg_sl ([.ref b]) ++ List.replicate (4 - (lg_sl ([.ref b])).length) Slot.unset).toArray = ls at hl ⊢
  have hl : lv_has ls 4 [(0, .ref b)] := hl
  have hP : va_P (dC, dI) vwCl [] s.heap := fun k q h => by simp at h
  have hD : va_D A [] := ⟨fun i j p q h => by simp at h, fun k q h => by simp at h⟩
  have hS : va_S A s.heap s.heap [] := va_S.rf
  refine z_q (fun Q hQ => ?_)
  refine va_new (ci := 0) (fs := [.null, .null, .null, .int 0, .int 0, .int 0]) (C := RSC) (T := TSC) (N := 6) hx hb hz in_SC tySC tokSC hown (hz _ wd_45) (hz _ wd_46) (hz _ wd_29) hK hP hD hS hA rfl (by decide +kernel) (Nat.le_of_ble_eq_true rfl) (Nat.le_of_ble_eq_true rfl) dLW_law_0 (fun q1 H hP hD hS => ?_)
  have hP : va_P (dC, dI) vwCl [(q1, .inr (0, [.null, .null, .null, .int 0, .int 0, .int 0]))] H := hP
  have hD : va_D A [(q1, .inr (0, [.null, .null, .null, .int 0, .int 0, .int 0]))] := hD
  refine W.widen (k := 1) (n := 6) (Nat.le_of_ble_eq_true rfl) (Nat.le_of_ble_eq_true rfl) ?_
  refine lv_dup hx hb dLW_law_3 rfl ?_
  refine zw_callv (wr := []) hK hP hD hS hA [0] [] rfl rfl (by decide) (by decide) (va_runI (As := []) (rest := [.ref q1]) ⟨hx, hb, hml, hown, hz⟩ ((c_SC_init l dC dI q1 t ) H.size) (cwI 0 hz (z_gI wd_49) rfl rfl rfl (hz _ wd_29) (hz _ wd_47) (hz _ wd_48) rfl (by decide +kernel) ⟨Nat.le_of_ble_eq_true rfl, Nat.le_of_ble_eq_true rfl⟩) (zw_preS hK hP hD [0] (by decide) rfl [] rfl zX_blind (zX_call hX hS (va_free (wc := [(q1, .inr (0, [.null, .null, .null, .int 0, .int 0, .int 0]))]) hD hS hA [0] rfl))) rfl rfl hl.1 rfl (lv_room (Nat.le_of_ble_eq_true rfl)) dLW_law_4 ⟨Nat.le_of_ble_eq_true rfl, Nat.le_of_ble_eq_true rfl⟩) (fun u H locs h_r2 hP hD hK hS => ?_)
  obtain ⟨g, wd, hh, al⟩ := u
  have hP : va_P (dC, dI) vwCl [(q1, .inr (0, [.ref g, .ref wd, .ref hh, .int 0, .int 0, .int 0])), (g, .inr (1, [.ref al, .int 1, .int 0, .int 0, .int 0, .int 0])), (al, .inr (2, [.ref t, .int 0, .int 0]))] H := hP.sub [0, 1, 2] rfl
  have hD : va_D A [(q1, .inr (0, [.ref g, .ref wd, .ref hh, .int 0, .int 0, .int 0])), (g, .inr (1, [.ref al, .int 1, .int 0, .int 0, .int 0, .int 0])), (al, .inr (2, [.ref t, .int 0, .int 0]))] := hD.sub [0, 1, 2] (by decide) rfl
  have hK : va_K (dC, dI) vwCl [] s := hK
  refine W.widen (k := 16) (n := 90) (Nat.le_of_ble_eq_true rfl) (Nat.le_of_ble_eq_true rfl) ?_
  refine lv_astore_n hx hb dLW_law_7 rfl hl (Nat.le_of_ble_eq_true rfl) rfl (fun ls hl => ?_)
  have hl : lv_has ls 4 [(1, .ref q1), (0, .ref b)] := hl
  refine va_new (ci := 6) (fs := [.int 0, .null, .null, .int 0, .null, .null, .null, .null, .null, .null, .null, .null, .null, .null, .int 0, .int 0, .int 0, .int 0, .int 0, .int 0, .null, .null, .null, .null, .null, .null]) (C := RMD) (T := TMD) (N := 26) hx hb hz in_MD tyMD tokMD hown (hz _ wd_578) (hz _ wd_579) (hz _ wd_37) hK hP hD hS hA rfl (by decide +kernel) (Nat.le_of_ble_eq_true rfl) (Nat.le_of_ble_eq_true rfl) dLW_law_8 (fun q3 H hP hD hS => ?_)
  have hP : va_P (dC, dI) vwCl [(q1, .inr (0, [.ref g, .ref wd, .ref hh, .int 0, .int 0, .int 0])), (g, .inr (1, [.ref al, .int 1, .int 0, .int 0, .int 0, .int 0])), (al, .inr (2, [.ref t, .int 0, .int 0])), (q3, .inr (6, [.int 0, .null, .null, .int 0, .null, .null, .null, .null, .null, .null, .null, .null, .null, .null, .int 0, .int 0, .int 0, .int 0, .int 0, .int 0, .null, .null, .null, .null, .null, .null]))] H := hP
  have hD : va_D A [(q1, .inr (0, [.ref g, .ref wd, .ref hh, .int 0, .int 0, .int 0])), (g, .inr (1, [.ref al, .int 1, .int 0, .int 0, .int 0, .int 0])), (al, .inr (2, [.ref t, .int 0, .int 0])), (q3, .inr (6, [.int 0, .null, .null, .int 0, .null, .null, .null, .null, .null, .null, .null, .null, .null, .null, .int 0, .int 0, .int 0, .int 0, .int 0, .int 0, .null, .null, .null, .null, .null, .null]))] := hD
  refine W.widen (k := 17) (n := 116) (Nat.le_of_ble_eq_true rfl) (Nat.le_of_ble_eq_true rfl) ?_
  refine lv_dup hx hb dLW_law_11 rfl ?_
  refine zw_callv (wr := [(q1, .inr (0, [.ref g, .ref wd, .ref hh, .int 0, .int 0, .int 0])), (g, .inr (1, [.ref al, .int 1, .int 0, .int 0, .int 0, .int 0])), (al, .inr (2, [.ref t, .int 0, .int 0]))]) hK hP hD hS hA [3] [0, 1, 2] rfl rfl (by decide) (by decide) (va_runI (As := []) (rest := [.ref q3]) ⟨hx, hb, hml, hown, hz⟩ ((c_MD_init l dC dI q3 ) H.size) (cwI 0 hz (z_gI wd_582) rfl rfl rfl (hz _ wd_37) (hz _ wd_580) (hz _ wd_581) rfl (by decide +kernel) ⟨Nat.le_of_ble_eq_true rfl, Nat.le_of_ble_eq_true rfl⟩) (zw_preS hK hP hD [3] (by decide) rfl [] rfl z_true (fun _ _ _ => trivial)) rfl rfl hl.1 rfl (lv_room (Nat.le_of_ble_eq_true rfl)) dLW_law_12 ⟨Nat.le_of_ble_eq_true rfl, Nat.le_of_ble_eq_true rfl⟩) (fun u H locs h_r4 hP hD hK hS => ?_)
  obtain ⟨b0, b1, b2, b3, b4, b5, b6, b7, b8, b9, b10, b11, b12, b13, b14, b15, b16, b17, kb0, kb1, kb12, kb13, kb14, kb17, kb15⟩ := u
  have hP : va_P (dC, dI) vwCl [(q1, .inr (0, [.ref g, .ref wd, .ref hh, .int 0, .int 0, .int 0])), (g, .inr (1, [.ref al, .int 1, .int 0, .int 0, .int 0, .int 0])), (al, .inr (2, [.ref t, .int 0, .int 0])), (q3, .inr (6, [.int 1, .ref b0, .ref b1, .int 0, .ref b2, .ref b3, .ref b4, .ref b5, .ref b6, .ref b7, .ref b8, .ref b9, .ref b10, .ref b11, .int (-1), .int 0, .int 0, .int 0, .int 0, .int 0, .ref b12, .ref b13, .ref b14, .ref b15, .ref b16, .ref b17])), (b0, .inl (kb0, 8, .inl (fun _ => 0))), (b1, .inl (kb1, 8, .inl (fun _ => 0))), (b12, .inl (kb12, 12, .inl (fun _ => 0))), (b13, .inl (kb13, 12, .inl (fun _ => 0))), (b14, .inl (kb14, 12, .inl (fun _ => 0))), (b17, .inl (kb17, 12, .inl (fun _ => 0))), (b15, .inl (kb15, 12, .inl (fun _ => 0)))] H := hP.sub [0, 1, 2, 3, 4, 5, 6, 7, 8, 9, 10] rfl
  have hD : va_D A [(q1, .inr (0, [.ref g, .ref wd, .ref hh, .int 0, .int 0, .int 0])), (g, .inr (1, [.ref al, .int 1, .int 0, .int 0, .int 0, .int 0])), (al, .inr (2, [.ref t, .int 0, .int 0])), (q3, .inr (6, [.int 1, .ref b0, .ref b1, .int 0, .ref b2, .ref b3, .ref b4, .ref b5, .ref b6, .ref b7, .ref b8, .ref b9, .ref b10, .ref b11, .int (-1), .int 0, .int 0, .int 0, .int 0, .int 0, .ref b12, .ref b13, .ref b14, .ref b15, .ref b16, .ref b17])), (b0, .inl (kb0, 8, .inl (fun _ => 0))), (b1, .inl (kb1, 8, .inl (fun _ => 0))), (b12, .inl (kb12, 12, .inl (fun _ => 0))), (b13, .inl (kb13, 12, .inl (fun _ => 0))), (b14, .inl (kb14, 12, .inl (fun _ => 0))), (b17, .inl (kb17, 12, .inl (fun _ => 0))), (b15, .inl (kb15, 12, .inl (fun _ => 0)))] := hD.sub [0, 1, 2, 3, 4, 5, 6, 7, 8, 9, 10] (by decide) rfl
  have hK : va_K (dC, dI) vwCl [(kb0, .int), (kb1, .int), (kb12, .int), (kb13, .int), (kb14, .int), (kb17, .int), (kb15, .int)] s := hK
  refine W.widen (k := 35) (n := 604) (Nat.le_of_ble_eq_true rfl) (Nat.le_of_ble_eq_true rfl) ?_
  refine lv_astore_n hx hb dLW_law_15 rfl hl (Nat.le_of_ble_eq_true rfl) rfl (fun ls hl => ?_)
  have hl : lv_has ls 4 [(2, .ref q3), (1, .ref q1), (0, .ref b)] := hl
  refine lv_iconst (v := 0) hx hb dLW_law_16 (by decide) ?_
  refine lv_istore_n hx hb dLW_law_17 rfl hl (Nat.le_of_ble_eq_true rfl) rfl (fun ls hl => ?_)
  have hl : lv_has ls 4 [(3, .int 0), (2, .ref q3), (1, .ref q1), (0, .ref b)] := hl
  refine lv_iload_n hx hb dLW_law_18 rfl (lv_at hl 0 rfl) ?_
  refine lv_aload_n hx hb dLW_law_19 rfl (lv_at hl 3 rfl) ?_
  refine va_slen hx hb hXs hbl hAb hS dLW_law_20 ?_
  refine lv_bipush (v := 6) hx hb dLW_law_21 (by decide) ?_
  refine lv_isub hx hb dLW_law_23 ?_
  have END : ∀ (H : Heap) (locs : List Loc) (ls : Array Slot), va_S A s.heap H locs → W p l e room_1 s m #[Value.ref b] below meth c H locs 35 604 Q (F0 m 621 ls []) := by
    intro H locs ls hS
    refine lv_iconst (v := 1) hx hb dLW_law_621 (by decide) ?_
    refine va_forget (fun q hq => hAl _ (hS.2.2 q hq)) ?_
    refine W.widen (k := 600000) (n := 7302249) (Nat.le_of_ble_eq_true rfl) (Nat.le_of_ble_eq_true rfl) ?_
    subst hQ
    exact lw_ret hx hb hr hlocks dLW_law_622
  rcases Nat.lt_or_ge L 6 with hL6 | hL6
  · refine lv_icmp_gt (tgt := 621) hx hb dLW_law_24 rfl (fun _ => ?_) (fun h => absurd (show nI L - nI 6 < 0 from pk_sneg (by decide) hL6) h)
    exact END H locs ls hS
  have hLe : L = 6 := by omega
  subst hLe
  refine lv_icmp_gt (tgt := 621) hx hb dLW_law_24 rfl (fun h => absurd h (by decide)) (fun _ => ?_)
  have BACK : ∀ (H : Heap) (locs : List Loc) (ls : Array Slot), lv_has ls 4 [(3, .int 0), (0, .ref b)] → va_S A s.heap H locs → W p l e room_1 s m #[Value.ref b] below meth c H locs 35 604 Q (F0 m 615 ls []) := by
    intro H locs ls hl hS
    refine lv_iinc (k := 0) (v := 6) hx hb dLW_law_615 hl rfl (by decide) (Nat.le_of_ble_eq_true rfl) rfl (fun ls hl => ?_)
    have hl : lv_has ls 4 [(3, .int 6), (0, .ref b)] := hl
    refine lv_goto (tgt := 18) hx hb dLW_law_618 rfl ?_
    refine lv_iload_n hx hb dLW_law_18 rfl (lv_at hl 0 rfl) ?_
    refine lv_aload_n hx hb dLW_law_19 rfl (lv_at hl 1 rfl) ?_
    refine va_slen hx hb hXs hbl hAb hS dLW_law_20 ?_
    refine lv_topi (fun x5 e6 => ?_)
    have e6 : x5 = 6 := e6.trans (rfl)
    subst e6
    refine lv_bipush (v := 6) hx hb dLW_law_21 (by decide) ?_
    refine lv_isub hx hb dLW_law_23 ?_
    refine lv_topi (fun x7 e8 => ?_)
    have e8 : x7 = 0 := e8.trans (by decide)
    subst e8
    refine lv_icmp_gt (tgt := 621) hx hb dLW_law_24 rfl (fun _ => ?_) (fun h => absurd (by decide) h)
    exact END H locs ls hS
  refine lv_aload_n hx hb dLW_law_27 rfl (lv_at hl 3 rfl) ?_
  refine lv_iload_n hx hb dLW_law_28 rfl (lv_at hl 0 rfl) ?_
  refine va_sld hx hb hXs hbl hAb hS (by unfold vp_in; decide) dLW_law_29 ?_
  refine lv_topi (fun z9 e_z9 => ?_)
  refine lv_bipush (v := 31) hx hb dLW_law_30 (by decide) ?_
  refine lv_iand hx hb dLW_law_32 ?_
  obtain ⟨j, hj, ej⟩ := pk_andE z9 5 (m := 31) (by decide)
  rw [ej]
  rcases (show j = 0 ∨ j = 1 ∨ j = 2 ∨ j = 3 ∨ j = 4 ∨ j = 5 ∨ j = 6 ∨ j = 7 ∨ j = 8 ∨ j = 9 ∨ j = 10 ∨ j = 11 ∨ j = 12 ∨ j = 13 ∨ j = 14 ∨ j = 15 ∨ j = 16 ∨ 17 ≤ j by omega) with rfl | rfl | rfl | rfl | rfl | rfl | rfl | rfl | rfl | rfl | rfl | rfl | rfl | rfl | rfl | rfl | rfl | hj17
  · refine lv_tableIn (off := 83) (tgt := 116) hx hb dLW_law_33 (by decide) (by decide) (by decide) rfl ?_
    refine lv_aload_n hx hb dLW_law_116 rfl (lv_at hl 2 rfl) ?_
    refine zw_calli (wr := [(q3, .inr (6, [.int 1, .ref b0, .ref b1, .int 0, .ref b2, .ref b3, .ref b4, .ref b5, .ref b6, .ref b7, .ref b8, .ref b9, .ref b10, .ref b11, .int (-1), .int 0, .int 0, .int 0, .int 0, .int 0, .ref b12, .ref b13, .ref b14, .ref b15, .ref b16, .ref b17])), (b0, .inl (kb0, 8, .inl (fun _ => 0))), (b1, .inl (kb1, 8, .inl (fun _ => 0))), (b12, .inl (kb12, 12, .inl (fun _ => 0))), (b13, .inl (kb13, 12, .inl (fun _ => 0))), (b14, .inl (kb14, 12, .inl (fun _ => 0))), (b17, .inl (kb17, 12, .inl (fun _ => 0))), (b15, .inl (kb15, 12, .inl (fun _ => 0)))]) hK hP hD hS hA [0, 1, 2] [3, 4, 5, 6, 7, 8, 9, 10] rfl rfl (by decide) (by decide) (va_runV (As := []) (rest := []) ⟨hx, hb, hml, hown, hz⟩ ((c_SC_group l dC dI q1 g wd hh al t 0 ) H.size) (cwV 0 hz (z_gV wd_169 wd_170 wd_171 wd_29 wd_172) rfl rfl rfl (by decide +kernel) ⟨Nat.le_of_ble_eq_true rfl, Nat.le_of_ble_eq_true rfl⟩) (zw_preV (q0 := 0) (q := (RSC, TSC, 6)) hK hP hD rfl rfl [0, 1, 2] (by decide) rfl [] rfl z_true (fun _ _ _ => trivial)) rfl rfl hl.1 rfl (lv_room (Nat.le_of_ble_eq_true rfl)) dLW_law_117 ⟨Nat.le_of_ble_eq_true rfl, Nat.le_of_ble_eq_true rfl⟩) (fun r10 u H locs h_r10 hP hD hK hS => ?_)
    have hP : va_P (dC, dI) vwCl [(q3, .inr (6, [.int 1, .ref b0, .ref b1, .int 0, .ref b2, .ref b3, .ref b4, .ref b5, .ref b6, .ref b7, .ref b8, .ref b9, .ref b10, .ref b11, .int (-1), .int 0, .int 0, .int 0, .int 0, .int 0, .ref b12, .ref b13, .ref b14, .ref b15, .ref b16, .ref b17])), (b0, .inl (kb0, 8, .inl (fun _ => 0))), (b1, .inl (kb1, 8, .inl (fun _ => 0))), (b12, .inl (kb12, 12, .inl (fun _ => 0))), (b13, .inl (kb13, 12, .inl (fun _ => 0))), (b14, .inl (kb14, 12, .inl (fun _ => 0))), (b17, .inl (kb17, 12, .inl (fun _ => 0))), (b15, .inl (kb15, 12, .inl (fun _ => 0)))] H := hP.sub [0, 1, 2, 3, 4, 5, 6, 7] rfl
    have hD : va_D A [(q3, .inr (6, [.int 1, .ref b0, .ref b1, .int 0, .ref b2, .ref b3, .ref b4, .ref b5, .ref b6, .ref b7, .ref b8, .ref b9, .ref b10, .ref b11, .int (-1), .int 0, .int 0, .int 0, .int 0, .int 0, .ref b12, .ref b13, .ref b14, .ref b15, .ref b16, .ref b17])), (b0, .inl (kb0, 8, .inl (fun _ => 0))), (b1, .inl (kb1, 8, .inl (fun _ => 0))), (b12, .inl (kb12, 12, .inl (fun _ => 0))), (b13, .inl (kb13, 12, .inl (fun _ => 0))), (b14, .inl (kb14, 12, .inl (fun _ => 0))), (b17, .inl (kb17, 12, .inl (fun _ => 0))), (b15, .inl (kb15, 12, .inl (fun _ => 0)))] := hD.sub [0, 1, 2, 3, 4, 5, 6, 7] (by decide) rfl
    have hK : va_K (dC, dI) vwCl [(kb0, .int), (kb1, .int), (kb12, .int), (kb13, .int), (kb14, .int), (kb17, .int), (kb15, .int)] s := hK
    have h_r10 : r10 = 2 := h_r10
    subst h_r10
    refine lv_aload_n hx hb dLW_law_120 rfl (lv_at hl 1 rfl) ?_
    refine zw_calli (wr := [(b12, .inl (kb12, 12, .inl (fun _ => 0))), (b13, .inl (kb13, 12, .inl (fun _ => 0))), (b14, .inl (kb14, 12, .inl (fun _ => 0))), (b17, .inl (kb17, 12, .inl (fun _ => 0))), (b15, .inl (kb15, 12, .inl (fun _ => 0)))]) hK hP hD hS hA [0, 1, 2] [3, 4, 5, 6, 7] rfl rfl (by decide) (by decide) (va_runV (As := []) (rest := [.int 2]) ⟨hx, hb, hml, hown, hz⟩ ((c_MD_group l dC dI q3 b0 b1 b2 b3 b4 b5 b6 b7 b8 b9 b10 b11 b12 b13 b14 b15 b16 b17 kb0 kb1 ) H.size) (cwV 0 hz (z_gV wd_664 wd_665 wd_666 wd_37 wd_667) rfl rfl rfl (by decide +kernel) ⟨Nat.le_of_ble_eq_true rfl, Nat.le_of_ble_eq_true rfl⟩) (zw_preV (q0 := 0) (q := (RMD, TMD, 26)) hK hP hD rfl rfl [0, 1, 2] (by decide) rfl [0, 1] rfl z_true (fun _ _ _ => trivial)) rfl rfl hl.1 rfl (lv_room (Nat.le_of_ble_eq_true rfl)) dLW_law_121 ⟨Nat.le_of_ble_eq_true rfl, Nat.le_of_ble_eq_true rfl⟩) (fun r11 u H locs h_r11 hP hD hK hS => ?_)
    have hP : va_P (dC, dI) vwCl [(b12, .inl (kb12, 12, .inl (fun _ => 0))), (b13, .inl (kb13, 12, .inl (fun _ => 0))), (b14, .inl (kb14, 12, .inl (fun _ => 0))), (b17, .inl (kb17, 12, .inl (fun _ => 0))), (b15, .inl (kb15, 12, .inl (fun _ => 0)))] H := hP.sub [0, 1, 2, 3, 4] rfl
    have hD : va_D A [(b12, .inl (kb12, 12, .inl (fun _ => 0))), (b13, .inl (kb13, 12, .inl (fun _ => 0))), (b14, .inl (kb14, 12, .inl (fun _ => 0))), (b17, .inl (kb17, 12, .inl (fun _ => 0))), (b15, .inl (kb15, 12, .inl (fun _ => 0)))] := hD.sub [0, 1, 2, 3, 4] (by decide) rfl
    have hK : va_K (dC, dI) vwCl [(kb0, .int), (kb1, .int), (kb12, .int), (kb13, .int), (kb14, .int), (kb17, .int), (kb15, .int)] s := hK
    have h_r11 : r11 = 2 := h_r11
    subst h_r11
    refine lv_icmp_eq (tgt := 615) hx hb dLW_law_124 rfl (fun _ => ?_) (fun h => absurd (by decide) h)
    exact BACK H locs ls (lv_sub hl [0, 3] rfl) hS
  · refine lv_tableIn (off := 96) (tgt := 129) hx hb dLW_law_33 (by decide) (by decide) (by decide) rfl ?_
    refine lv_aload_n hx hb dLW_law_129 rfl (lv_at hl 2 rfl) ?_
    refine zw_calli (wr := [(q3, .inr (6, [.int 1, .ref b0, .ref b1, .int 0, .ref b2, .ref b3, .ref b4, .ref b5, .ref b6, .ref b7, .ref b8, .ref b9, .ref b10, .ref b11, .int (-1), .int 0, .int 0, .int 0, .int 0, .int 0, .ref b12, .ref b13, .ref b14, .ref b15, .ref b16, .ref b17])), (b0, .inl (kb0, 8, .inl (fun _ => 0))), (b1, .inl (kb1, 8, .inl (fun _ => 0))), (b12, .inl (kb12, 12, .inl (fun _ => 0))), (b13, .inl (kb13, 12, .inl (fun _ => 0))), (b14, .inl (kb14, 12, .inl (fun _ => 0))), (b17, .inl (kb17, 12, .inl (fun _ => 0))), (b15, .inl (kb15, 12, .inl (fun _ => 0)))]) hK hP hD hS hA [0, 1, 2] [3, 4, 5, 6, 7, 8, 9, 10] rfl rfl (by decide) (by decide) (va_runV (As := []) (rest := []) ⟨hx, hb, hml, hown, hz⟩ ((c_SC_row l dC dI q1 g wd hh al t 0 ) H.size) (cwV 0 hz (z_gV wd_177 wd_178 wd_179 wd_29 wd_180) rfl rfl rfl (by decide +kernel) ⟨Nat.le_of_ble_eq_true rfl, Nat.le_of_ble_eq_true rfl⟩) (zw_preV (q0 := 0) (q := (RSC, TSC, 6)) hK hP hD rfl rfl [0, 1, 2] (by decide) rfl [] rfl z_true (fun _ _ _ => trivial)) rfl rfl hl.1 rfl (lv_room (Nat.le_of_ble_eq_true rfl)) dLW_law_130 ⟨Nat.le_of_ble_eq_true rfl, Nat.le_of_ble_eq_true rfl⟩) (fun r12 u H locs h_r12 hP hD hK hS => ?_)
    have hP : va_P (dC, dI) vwCl [(q3, .inr (6, [.int 1, .ref b0, .ref b1, .int 0, .ref b2, .ref b3, .ref b4, .ref b5, .ref b6, .ref b7, .ref b8, .ref b9, .ref b10, .ref b11, .int (-1), .int 0, .int 0, .int 0, .int 0, .int 0, .ref b12, .ref b13, .ref b14, .ref b15, .ref b16, .ref b17])), (b0, .inl (kb0, 8, .inl (fun _ => 0))), (b1, .inl (kb1, 8, .inl (fun _ => 0))), (b12, .inl (kb12, 12, .inl (fun _ => 0))), (b13, .inl (kb13, 12, .inl (fun _ => 0))), (b14, .inl (kb14, 12, .inl (fun _ => 0))), (b17, .inl (kb17, 12, .inl (fun _ => 0))), (b15, .inl (kb15, 12, .inl (fun _ => 0)))] H := hP.sub [0, 1, 2, 3, 4, 5, 6, 7] rfl
    have hD : va_D A [(q3, .inr (6, [.int 1, .ref b0, .ref b1, .int 0, .ref b2, .ref b3, .ref b4, .ref b5, .ref b6, .ref b7, .ref b8, .ref b9, .ref b10, .ref b11, .int (-1), .int 0, .int 0, .int 0, .int 0, .int 0, .ref b12, .ref b13, .ref b14, .ref b15, .ref b16, .ref b17])), (b0, .inl (kb0, 8, .inl (fun _ => 0))), (b1, .inl (kb1, 8, .inl (fun _ => 0))), (b12, .inl (kb12, 12, .inl (fun _ => 0))), (b13, .inl (kb13, 12, .inl (fun _ => 0))), (b14, .inl (kb14, 12, .inl (fun _ => 0))), (b17, .inl (kb17, 12, .inl (fun _ => 0))), (b15, .inl (kb15, 12, .inl (fun _ => 0)))] := hD.sub [0, 1, 2, 3, 4, 5, 6, 7] (by decide) rfl
    have hK : va_K (dC, dI) vwCl [(kb0, .int), (kb1, .int), (kb12, .int), (kb13, .int), (kb14, .int), (kb17, .int), (kb15, .int)] s := hK
    have h_r12 : r12 = 0 := h_r12
    subst h_r12
    refine lv_aload_n hx hb dLW_law_133 rfl (lv_at hl 1 rfl) ?_
    refine zw_calli (wr := [(b12, .inl (kb12, 12, .inl (fun _ => 0))), (b13, .inl (kb13, 12, .inl (fun _ => 0))), (b14, .inl (kb14, 12, .inl (fun _ => 0))), (b17, .inl (kb17, 12, .inl (fun _ => 0))), (b15, .inl (kb15, 12, .inl (fun _ => 0)))]) hK hP hD hS hA [0, 1, 2] [3, 4, 5, 6, 7] rfl rfl (by decide) (by decide) (va_runV (As := []) (rest := [.int 0]) ⟨hx, hb, hml, hown, hz⟩ ((c_MD_row l dC dI q3 b0 b1 b2 b3 b4 b5 b6 b7 b8 b9 b10 b11 b12 b13 b14 b15 b16 b17 kb0 kb1 ) H.size) (cwV 0 hz (z_gV wd_672 wd_673 wd_674 wd_37 wd_675) rfl rfl rfl (by decide +kernel) ⟨Nat.le_of_ble_eq_true rfl, Nat.le_of_ble_eq_true rfl⟩) (zw_preV (q0 := 0) (q := (RMD, TMD, 26)) hK hP hD rfl rfl [0, 1, 2] (by decide) rfl [0, 1] rfl z_true (fun _ _ _ => trivial)) rfl rfl hl.1 rfl (lv_room (Nat.le_of_ble_eq_true rfl)) dLW_law_134 ⟨Nat.le_of_ble_eq_true rfl, Nat.le_of_ble_eq_true rfl⟩) (fun r13 u H locs h_r13 hP hD hK hS => ?_)
    have hP : va_P (dC, dI) vwCl [(b12, .inl (kb12, 12, .inl (fun _ => 0))), (b13, .inl (kb13, 12, .inl (fun _ => 0))), (b14, .inl (kb14, 12, .inl (fun _ => 0))), (b17, .inl (kb17, 12, .inl (fun _ => 0))), (b15, .inl (kb15, 12, .inl (fun _ => 0)))] H := hP.sub [0, 1, 2, 3, 4] rfl
    have hD : va_D A [(b12, .inl (kb12, 12, .inl (fun _ => 0))), (b13, .inl (kb13, 12, .inl (fun _ => 0))), (b14, .inl (kb14, 12, .inl (fun _ => 0))), (b17, .inl (kb17, 12, .inl (fun _ => 0))), (b15, .inl (kb15, 12, .inl (fun _ => 0)))] := hD.sub [0, 1, 2, 3, 4] (by decide) rfl
    have hK : va_K (dC, dI) vwCl [(kb0, .int), (kb1, .int), (kb12, .int), (kb13, .int), (kb14, .int), (kb17, .int), (kb15, .int)] s := hK
    have h_r13 : r13 = 0 := h_r13
    subst h_r13
    refine lv_icmp_eq (tgt := 615) hx hb dLW_law_137 rfl (fun _ => ?_) (fun h => absurd (by decide) h)
    exact BACK H locs ls (lv_sub hl [0, 3] rfl) hS
  · refine lv_tableIn (off := 109) (tgt := 142) hx hb dLW_law_33 (by decide) (by decide) (by decide) rfl ?_
    refine lv_aload_n hx hb dLW_law_142 rfl (lv_at hl 2 rfl) ?_
    refine lv_aload_n hx hb dLW_law_143 rfl (lv_at hl 3 rfl) ?_
    refine lv_iload_n hx hb dLW_law_144 rfl (lv_at hl 0 rfl) ?_
    refine lv_iconst (v := 1) hx hb dLW_law_145 (by decide) ?_
    refine lv_iadd hx hb dLW_law_146 ?_
    refine lv_topi (fun x14 e15 => ?_)
    have e15 : x14 = 1 := e15.trans (by decide)
    subst e15
    refine va_sld hx hb hXs hbl hAb hS (by unfold vp_in; decide) dLW_law_147 ?_
    refine lv_topi (fun z16 e_z16 => ?_)
    refine lv_aload_n hx hb dLW_law_148 rfl (lv_at hl 3 rfl) ?_
    refine lv_iload_n hx hb dLW_law_149 rfl (lv_at hl 0 rfl) ?_
    refine lv_iconst (v := 2) hx hb dLW_law_150 (by decide) ?_
    refine lv_iadd hx hb dLW_law_151 ?_
    refine lv_topi (fun x17 e18 => ?_)
    have e18 : x17 = 2 := e18.trans (by decide)
    subst e18
    refine va_sld hx hb hXs hbl hAb hS (by unfold vp_in; decide) dLW_law_152 ?_
    refine lv_topi (fun z19 e_z19 => ?_)
    refine lv_aload_n hx hb dLW_law_153 rfl (lv_at hl 3 rfl) ?_
    refine lv_iload_n hx hb dLW_law_154 rfl (lv_at hl 0 rfl) ?_
    refine lv_iconst (v := 3) hx hb dLW_law_155 (by decide) ?_
    refine lv_iadd hx hb dLW_law_156 ?_
    refine lv_topi (fun x20 e21 => ?_)
    have e21 : x20 = 3 := e21.trans (by decide)
    subst e21
    refine va_sld hx hb hXs hbl hAb hS (by unfold vp_in; decide) dLW_law_157 ?_
    refine lv_topi (fun z22 e_z22 => ?_)
    refine lv_aload_n hx hb dLW_law_158 rfl (lv_at hl 3 rfl) ?_
    refine lv_iload_n hx hb dLW_law_159 rfl (lv_at hl 0 rfl) ?_
    refine lv_iconst (v := 4) hx hb dLW_law_160 (by decide) ?_
    refine lv_iadd hx hb dLW_law_161 ?_
    refine lv_topi (fun x23 e24 => ?_)
    have e24 : x23 = 4 := e24.trans (by decide)
    subst e24
    refine va_sld hx hb hXs hbl hAb hS (by unfold vp_in; decide) dLW_law_162 ?_
    refine lv_topi (fun z25 e_z25 => ?_)
    refine lv_aload_n hx hb dLW_law_163 rfl (lv_at hl 3 rfl) ?_
    refine lv_iload_n hx hb dLW_law_164 rfl (lv_at hl 0 rfl) ?_
    refine lv_iconst (v := 5) hx hb dLW_law_165 (by decide) ?_
    refine lv_iadd hx hb dLW_law_166 ?_
    refine lv_topi (fun x26 e27 => ?_)
    have e27 : x26 = 5 := e27.trans (by decide)
    subst e27
    refine va_sld hx hb hXs hbl hAb hS (by unfold vp_in; decide) dLW_law_167 ?_
    refine lv_topi (fun z28 e_z28 => ?_)
    refine vp_callSi (W.runV (As := [.int z16, .int z19, .int z22, .int z25, .int z28]) (rest := []) ⟨hx, hb, hml, hown, hz⟩ (c_SC_cell l dC dI q1 g wd hh al t 0 z16 z19 z22 z25 z28 ) (cwV 5 hz (z_gV wd_215 wd_216 wd_217 wd_29 wd_218) rfl rfl rfl (by decide +kernel) ⟨Nat.le_of_ble_eq_true rfl, Nat.le_of_ble_eq_true rfl⟩) (zp_preV (q0 := 0) (q := (RSC, TSC, 6)) hK hP rfl rfl [0, 1, 2] rfl [] rfl z_true (fun _ _ _ => trivial)) rfl rfl hl.1 rfl (lv_room (Nat.le_of_ble_eq_true rfl)) dLW_law_168 ⟨Nat.le_of_ble_eq_true rfl, Nat.le_of_ble_eq_true rfl⟩) (fun r29 h_r29 => ?_)
    have h_r29 : r29 = (-1) := h_r29
    subst h_r29
    refine lv_aload_n hx hb dLW_law_171 rfl (lv_at hl 1 rfl) ?_
    refine lv_aload_n hx hb dLW_law_172 rfl (lv_at hl 3 rfl) ?_
    refine lv_iload_n hx hb dLW_law_173 rfl (lv_at hl 0 rfl) ?_
    refine lv_iconst (v := 1) hx hb dLW_law_174 (by decide) ?_
    refine lv_iadd hx hb dLW_law_175 ?_
    refine lv_topi (fun x30 e31 => ?_)
    have e31 : x30 = 1 := e31.trans (by decide)
    subst e31
    refine va_sld hx hb hXs hbl hAb hS (by unfold vp_in; decide) dLW_law_176 ?_
    refine lv_topi (fun x32 e33 => ?_)
    have e33 : z16 = x32 := e_z16.trans e33.symm
    subst e33
    refine lv_aload_n hx hb dLW_law_177 rfl (lv_at hl 3 rfl) ?_
    refine lv_iload_n hx hb dLW_law_178 rfl (lv_at hl 0 rfl) ?_
    refine lv_iconst (v := 2) hx hb dLW_law_179 (by decide) ?_
    refine lv_iadd hx hb dLW_law_180 ?_
    refine lv_topi (fun x34 e35 => ?_)
    have e35 : x34 = 2 := e35.trans (by decide)
    subst e35
    refine va_sld hx hb hXs hbl hAb hS (by unfold vp_in; decide) dLW_law_181 ?_
    refine lv_topi (fun x36 e37 => ?_)
    have e37 : z19 = x36 := e_z19.trans e37.symm
    subst e37
    refine lv_aload_n hx hb dLW_law_182 rfl (lv_at hl 3 rfl) ?_
    refine lv_iload_n hx hb dLW_law_183 rfl (lv_at hl 0 rfl) ?_
    refine lv_iconst (v := 3) hx hb dLW_law_184 (by decide) ?_
    refine lv_iadd hx hb dLW_law_185 ?_
    refine lv_topi (fun x38 e39 => ?_)
    have e39 : x38 = 3 := e39.trans (by decide)
    subst e39
    refine va_sld hx hb hXs hbl hAb hS (by unfold vp_in; decide) dLW_law_186 ?_
    refine lv_topi (fun x40 e41 => ?_)
    have e41 : z22 = x40 := e_z22.trans e41.symm
    subst e41
    refine lv_aload_n hx hb dLW_law_187 rfl (lv_at hl 3 rfl) ?_
    refine lv_iload_n hx hb dLW_law_188 rfl (lv_at hl 0 rfl) ?_
    refine lv_iconst (v := 4) hx hb dLW_law_189 (by decide) ?_
    refine lv_iadd hx hb dLW_law_190 ?_
    refine lv_topi (fun x42 e43 => ?_)
    have e43 : x42 = 4 := e43.trans (by decide)
    subst e43
    refine va_sld hx hb hXs hbl hAb hS (by unfold vp_in; decide) dLW_law_191 ?_
    refine lv_topi (fun x44 e45 => ?_)
    have e45 : z25 = x44 := e_z25.trans e45.symm
    subst e45
    refine lv_aload_n hx hb dLW_law_192 rfl (lv_at hl 3 rfl) ?_
    refine lv_iload_n hx hb dLW_law_193 rfl (lv_at hl 0 rfl) ?_
    refine lv_iconst (v := 5) hx hb dLW_law_194 (by decide) ?_
    refine lv_iadd hx hb dLW_law_195 ?_
    refine lv_topi (fun x46 e47 => ?_)
    have e47 : x46 = 5 := e47.trans (by decide)
    subst e47
    refine va_sld hx hb hXs hbl hAb hS (by unfold vp_in; decide) dLW_law_196 ?_
    refine lv_topi (fun x48 e49 => ?_)
    have e49 : z28 = x48 := e_z28.trans e49.symm
    subst e49
    refine vp_callSi (W.runV (As := [.int z16, .int z19, .int z22, .int z25, .int z28]) (rest := [.int (-1)]) ⟨hx, hb, hml, hown, hz⟩ (c_MD_cell l dC dI q3 b0 b1 b2 b3 b4 b5 b6 b7 b8 b9 b10 b11 b12 b13 b14 b15 b16 b17 z16 z19 z22 z25 z28 ) (cwV 5 hz (z_gV wd_676 wd_677 wd_678 wd_37 wd_679) rfl rfl rfl (by decide +kernel) ⟨Nat.le_of_ble_eq_true rfl, Nat.le_of_ble_eq_true rfl⟩) (zp_preV (q0 := 3) (q := (RMD, TMD, 26)) hK hP rfl rfl [3] rfl [] rfl z_true (fun _ _ _ => trivial)) rfl rfl hl.1 rfl (lv_room (Nat.le_of_ble_eq_true rfl)) dLW_law_197 ⟨Nat.le_of_ble_eq_true rfl, Nat.le_of_ble_eq_true rfl⟩) (fun r50 h_r50 => ?_)
    have h_r50 : r50 = (-1) := h_r50
    subst h_r50
    refine lv_icmp_eq (tgt := 615) hx hb dLW_law_200 rfl (fun _ => ?_) (fun h => absurd (by decide) h)
    exact BACK H locs ls (lv_sub hl [0, 3] rfl) hS
  · refine lv_tableIn (off := 172) (tgt := 205) hx hb dLW_law_33 (by decide) (by decide) (by decide) rfl ?_
    refine lv_aload_n hx hb dLW_law_205 rfl (lv_at hl 2 rfl) ?_
    refine lv_aload_n hx hb dLW_law_206 rfl (lv_at hl 3 rfl) ?_
    refine lv_iload_n hx hb dLW_law_207 rfl (lv_at hl 0 rfl) ?_
    refine lv_iconst (v := 1) hx hb dLW_law_208 (by decide) ?_
    refine lv_iadd hx hb dLW_law_209 ?_
    refine lv_topi (fun x51 e52 => ?_)
    have e52 : x51 = 1 := e52.trans (by decide)
    subst e52
    refine va_sld hx hb hXs hbl hAb hS (by unfold vp_in; decide) dLW_law_210 ?_
    refine lv_topi (fun z53 e_z53 => ?_)
    refine lv_aload_n hx hb dLW_law_211 rfl (lv_at hl 3 rfl) ?_
    refine lv_iload_n hx hb dLW_law_212 rfl (lv_at hl 0 rfl) ?_
    refine lv_iconst (v := 2) hx hb dLW_law_213 (by decide) ?_
    refine lv_iadd hx hb dLW_law_214 ?_
    refine lv_topi (fun x54 e55 => ?_)
    have e55 : x54 = 2 := e55.trans (by decide)
    subst e55
    refine va_sld hx hb hXs hbl hAb hS (by unfold vp_in; decide) dLW_law_215 ?_
    refine lv_topi (fun z56 e_z56 => ?_)
    refine lv_aload_n hx hb dLW_law_216 rfl (lv_at hl 3 rfl) ?_
    refine lv_iload_n hx hb dLW_law_217 rfl (lv_at hl 0 rfl) ?_
    refine lv_iconst (v := 3) hx hb dLW_law_218 (by decide) ?_
    refine lv_iadd hx hb dLW_law_219 ?_
    refine lv_topi (fun x57 e58 => ?_)
    have e58 : x57 = 3 := e58.trans (by decide)
    subst e58
    refine va_sld hx hb hXs hbl hAb hS (by unfold vp_in; decide) dLW_law_220 ?_
    refine lv_topi (fun z59 e_z59 => ?_)
    refine vp_callSi (W.runV (As := [.int z53, .int z56, .int z59]) (rest := []) ⟨hx, hb, hml, hown, hz⟩ (c_SC_border l dC dI q1 g wd hh al t 0 z53 z56 z59 ) (cwV 3 hz (z_gV wd_351 wd_352 wd_353 wd_29 wd_354) rfl rfl rfl (by decide +kernel) ⟨Nat.le_of_ble_eq_true rfl, Nat.le_of_ble_eq_true rfl⟩) (zp_preV (q0 := 0) (q := (RSC, TSC, 6)) hK hP rfl rfl [0, 1, 2] rfl [] rfl z_true (fun _ _ _ => trivial)) rfl rfl hl.1 rfl (lv_room (Nat.le_of_ble_eq_true rfl)) dLW_law_221 ⟨Nat.le_of_ble_eq_true rfl, Nat.le_of_ble_eq_true rfl⟩) (fun r60 h_r60 => ?_)
    have h_r60 : r60 = 0 := h_r60
    subst h_r60
    refine lv_aload_n hx hb dLW_law_224 rfl (lv_at hl 1 rfl) ?_
    refine lv_aload_n hx hb dLW_law_225 rfl (lv_at hl 3 rfl) ?_
    refine lv_iload_n hx hb dLW_law_226 rfl (lv_at hl 0 rfl) ?_
    refine lv_iconst (v := 1) hx hb dLW_law_227 (by decide) ?_
    refine lv_iadd hx hb dLW_law_228 ?_
    refine lv_topi (fun x61 e62 => ?_)
    have e62 : x61 = 1 := e62.trans (by decide)
    subst e62
    refine va_sld hx hb hXs hbl hAb hS (by unfold vp_in; decide) dLW_law_229 ?_
    refine lv_topi (fun x63 e64 => ?_)
    have e64 : z53 = x63 := e_z53.trans e64.symm
    subst e64
    refine lv_aload_n hx hb dLW_law_230 rfl (lv_at hl 3 rfl) ?_
    refine lv_iload_n hx hb dLW_law_231 rfl (lv_at hl 0 rfl) ?_
    refine lv_iconst (v := 2) hx hb dLW_law_232 (by decide) ?_
    refine lv_iadd hx hb dLW_law_233 ?_
    refine lv_topi (fun x65 e66 => ?_)
    have e66 : x65 = 2 := e66.trans (by decide)
    subst e66
    refine va_sld hx hb hXs hbl hAb hS (by unfold vp_in; decide) dLW_law_234 ?_
    refine lv_topi (fun x67 e68 => ?_)
    have e68 : z56 = x67 := e_z56.trans e68.symm
    subst e68
    refine lv_aload_n hx hb dLW_law_235 rfl (lv_at hl 3 rfl) ?_
    refine lv_iload_n hx hb dLW_law_236 rfl (lv_at hl 0 rfl) ?_
    refine lv_iconst (v := 3) hx hb dLW_law_237 (by decide) ?_
    refine lv_iadd hx hb dLW_law_238 ?_
    refine lv_topi (fun x69 e70 => ?_)
    have e70 : x69 = 3 := e70.trans (by decide)
    subst e70
    refine va_sld hx hb hXs hbl hAb hS (by unfold vp_in; decide) dLW_law_239 ?_
    refine lv_topi (fun x71 e72 => ?_)
    have e72 : z59 = x71 := e_z59.trans e72.symm
    subst e72
    refine vp_callSi (W.runV (As := [.int z53, .int z56, .int z59]) (rest := [.int 0]) ⟨hx, hb, hml, hown, hz⟩ (c_MD_border l dC dI q3 b0 b1 b2 b3 b4 b5 b6 b7 b8 b9 b10 b11 b12 b13 b14 b15 b16 b17 z53 z56 z59 ) (cwV 3 hz (z_gV wd_684 wd_685 wd_686 wd_37 wd_687) rfl rfl rfl (by decide +kernel) ⟨Nat.le_of_ble_eq_true rfl, Nat.le_of_ble_eq_true rfl⟩) (zp_preV (q0 := 3) (q := (RMD, TMD, 26)) hK hP rfl rfl [3] rfl [] rfl z_true (fun _ _ _ => trivial)) rfl rfl hl.1 rfl (lv_room (Nat.le_of_ble_eq_true rfl)) dLW_law_240 ⟨Nat.le_of_ble_eq_true rfl, Nat.le_of_ble_eq_true rfl⟩) (fun r73 h_r73 => ?_)
    have h_r73 : r73 = 0 := h_r73
    subst h_r73
    refine lv_icmp_eq (tgt := 615) hx hb dLW_law_243 rfl (fun _ => ?_) (fun h => absurd (by decide) h)
    exact BACK H locs ls (lv_sub hl [0, 3] rfl) hS
  · refine lv_tableIn (off := 215) (tgt := 248) hx hb dLW_law_33 (by decide) (by decide) (by decide) rfl ?_
    refine lv_aload_n hx hb dLW_law_248 rfl (lv_at hl 2 rfl) ?_
    refine lv_aload_n hx hb dLW_law_249 rfl (lv_at hl 3 rfl) ?_
    refine lv_iload_n hx hb dLW_law_250 rfl (lv_at hl 0 rfl) ?_
    refine lv_iconst (v := 1) hx hb dLW_law_251 (by decide) ?_
    refine lv_iadd hx hb dLW_law_252 ?_
    refine lv_topi (fun x74 e75 => ?_)
    have e75 : x74 = 1 := e75.trans (by decide)
    subst e75
    refine va_sld hx hb hXs hbl hAb hS (by unfold vp_in; decide) dLW_law_253 ?_
    refine lv_topi (fun z76 e_z76 => ?_)
    refine lv_aload_n hx hb dLW_law_254 rfl (lv_at hl 3 rfl) ?_
    refine lv_iload_n hx hb dLW_law_255 rfl (lv_at hl 0 rfl) ?_
    refine lv_iconst (v := 2) hx hb dLW_law_256 (by decide) ?_
    refine lv_iadd hx hb dLW_law_257 ?_
    refine lv_topi (fun x77 e78 => ?_)
    have e78 : x77 = 2 := e78.trans (by decide)
    subst e78
    refine va_sld hx hb hXs hbl hAb hS (by unfold vp_in; decide) dLW_law_258 ?_
    refine lv_topi (fun z79 e_z79 => ?_)
    refine lv_aload_n hx hb dLW_law_259 rfl (lv_at hl 3 rfl) ?_
    refine lv_iload_n hx hb dLW_law_260 rfl (lv_at hl 0 rfl) ?_
    refine lv_iconst (v := 3) hx hb dLW_law_261 (by decide) ?_
    refine lv_iadd hx hb dLW_law_262 ?_
    refine lv_topi (fun x80 e81 => ?_)
    have e81 : x80 = 3 := e81.trans (by decide)
    subst e81
    refine va_sld hx hb hXs hbl hAb hS (by unfold vp_in; decide) dLW_law_263 ?_
    refine lv_topi (fun z82 e_z82 => ?_)
    refine z_join (fun v264 : Int32 => v264 = 0 ∨ v264 = 1) (fun v264 => W p l e (room_1) s m #[Value.ref b] below meth c H locs 35 604 Q (F0 m 272 ls (.int v264 :: [.int z79, .int z76, .ref q1]))) (fun v264 hv264 => ?_) (fun J272 => ?_)
    · refine zw_calli (wr := [(q3, .inr (6, [.int 1, .ref b0, .ref b1, .int 0, .ref b2, .ref b3, .ref b4, .ref b5, .ref b6, .ref b7, .ref b8, .ref b9, .ref b10, .ref b11, .int (-1), .int 0, .int 0, .int 0, .int 0, .int 0, .ref b12, .ref b13, .ref b14, .ref b15, .ref b16, .ref b17])), (b0, .inl (kb0, 8, .inl (fun _ => 0))), (b1, .inl (kb1, 8, .inl (fun _ => 0))), (b12, .inl (kb12, 12, .inl (fun _ => 0))), (b13, .inl (kb13, 12, .inl (fun _ => 0))), (b14, .inl (kb14, 12, .inl (fun _ => 0))), (b17, .inl (kb17, 12, .inl (fun _ => 0))), (b15, .inl (kb15, 12, .inl (fun _ => 0)))]) hK hP hD hS hA [0, 1, 2] [3, 4, 5, 6, 7, 8, 9, 10] rfl rfl (by decide) (by decide) (va_runV (As := [.int z76, .int z79, .int v264]) (rest := []) ⟨hx, hb, hml, hown, hz⟩ ((c_SC_layout l dC dI q1 g wd hh al t 0 z76 z79 v264 hv264) H.size) (cwV 3 hz (z_gV wd_367 wd_368 wd_369 wd_29 wd_370) rfl rfl rfl (by decide +kernel) ⟨Nat.le_of_ble_eq_true rfl, Nat.le_of_ble_eq_true rfl⟩) (zw_preV (q0 := 0) (q := (RSC, TSC, 6)) hK hP hD rfl rfl [0, 1, 2] (by decide) rfl [] rfl z_true (fun _ _ _ => trivial)) rfl rfl hl.1 rfl (lv_room (Nat.le_of_ble_eq_true rfl)) dLW_law_272 ⟨Nat.le_of_ble_eq_true rfl, Nat.le_of_ble_eq_true rfl⟩) (fun rx u H locs h_rx hP hD hK hS => ?_)
      have hP : va_P (dC, dI) vwCl [(q3, .inr (6, [.int 1, .ref b0, .ref b1, .int 0, .ref b2, .ref b3, .ref b4, .ref b5, .ref b6, .ref b7, .ref b8, .ref b9, .ref b10, .ref b11, .int (-1), .int 0, .int 0, .int 0, .int 0, .int 0, .ref b12, .ref b13, .ref b14, .ref b15, .ref b16, .ref b17])), (b0, .inl (kb0, 8, .inl (fun _ => 0))), (b1, .inl (kb1, 8, .inl (fun _ => 0))), (b12, .inl (kb12, 12, .inl (fun _ => 0))), (b13, .inl (kb13, 12, .inl (fun _ => 0))), (b14, .inl (kb14, 12, .inl (fun _ => 0))), (b17, .inl (kb17, 12, .inl (fun _ => 0))), (b15, .inl (kb15, 12, .inl (fun _ => 0)))] H := hP.sub [0, 1, 2, 3, 4, 5, 6, 7] rfl
      have hD : va_D A [(q3, .inr (6, [.int 1, .ref b0, .ref b1, .int 0, .ref b2, .ref b3, .ref b4, .ref b5, .ref b6, .ref b7, .ref b8, .ref b9, .ref b10, .ref b11, .int (-1), .int 0, .int 0, .int 0, .int 0, .int 0, .ref b12, .ref b13, .ref b14, .ref b15, .ref b16, .ref b17])), (b0, .inl (kb0, 8, .inl (fun _ => 0))), (b1, .inl (kb1, 8, .inl (fun _ => 0))), (b12, .inl (kb12, 12, .inl (fun _ => 0))), (b13, .inl (kb13, 12, .inl (fun _ => 0))), (b14, .inl (kb14, 12, .inl (fun _ => 0))), (b17, .inl (kb17, 12, .inl (fun _ => 0))), (b15, .inl (kb15, 12, .inl (fun _ => 0)))] := hD.sub [0, 1, 2, 3, 4, 5, 6, 7] (by decide) rfl
      have hK : va_K (dC, dI) vwCl [(kb0, .int), (kb1, .int), (kb12, .int), (kb13, .int), (kb14, .int), (kb17, .int), (kb15, .int)] s := hK
      refine lv_aload_n hx hb dLW_law_275 rfl (lv_at hl 1 rfl) ?_
      refine lv_aload_n hx hb dLW_law_276 rfl (lv_at hl 3 rfl) ?_
      refine lv_iload_n hx hb dLW_law_277 rfl (lv_at hl 0 rfl) ?_
      refine lv_iconst (v := 1) hx hb dLW_law_278 (by decide) ?_
      refine lv_iadd hx hb dLW_law_279 ?_
      refine lv_topi (fun x83 e84 => ?_)
      have e84 : x83 = 1 := e84.trans (by decide)
      subst e84
      refine va_sld hx hb hXs hbl hAb hS (by unfold vp_in; decide) dLW_law_280 ?_
      refine lv_topi (fun x85 e86 => ?_)
      have e86 : z76 = x85 := e_z76.trans e86.symm
      subst e86
      refine lv_aload_n hx hb dLW_law_281 rfl (lv_at hl 3 rfl) ?_
      refine lv_iload_n hx hb dLW_law_282 rfl (lv_at hl 0 rfl) ?_
      refine lv_iconst (v := 2) hx hb dLW_law_283 (by decide) ?_
      refine lv_iadd hx hb dLW_law_284 ?_
      refine lv_topi (fun x87 e88 => ?_)
      have e88 : x87 = 2 := e88.trans (by decide)
      subst e88
      refine va_sld hx hb hXs hbl hAb hS (by unfold vp_in; decide) dLW_law_285 ?_
      refine lv_topi (fun x89 e90 => ?_)
      have e90 : z79 = x89 := e_z79.trans e90.symm
      subst e90
      refine lv_aload_n hx hb dLW_law_286 rfl (lv_at hl 3 rfl) ?_
      refine lv_iload_n hx hb dLW_law_287 rfl (lv_at hl 0 rfl) ?_
      refine lv_iconst (v := 3) hx hb dLW_law_288 (by decide) ?_
      refine lv_iadd hx hb dLW_law_289 ?_
      refine lv_topi (fun x91 e92 => ?_)
      have e92 : x91 = 3 := e92.trans (by decide)
      subst e92
      refine va_sld hx hb hXs hbl hAb hS (by unfold vp_in; decide) dLW_law_290 ?_
      refine lv_topi (fun x93 e94 => ?_)
      have e94 : z82 = x93 := e_z82.trans e94.symm
      subst e94
      refine z_join (fun v291 : Int32 => v291 = 0 ∨ v291 = 1) (fun v291 => W p l e (room_1) s m #[Value.ref b] below meth c H locs 35 604 Q (F0 m 299 ls (.int v291 :: [.int z79, .int z76, .ref q3, .int rx]))) (fun v291 hv291 => ?_) (fun J299 => ?_)
      · refine zw_calli (wr := [(b0, .inl (kb0, 8, .inl (fun _ => 0))), (b1, .inl (kb1, 8, .inl (fun _ => 0))), (b12, .inl (kb12, 12, .inl (fun _ => 0))), (b13, .inl (kb13, 12, .inl (fun _ => 0))), (b14, .inl (kb14, 12, .inl (fun _ => 0))), (b17, .inl (kb17, 12, .inl (fun _ => 0))), (b15, .inl (kb15, 12, .inl (fun _ => 0)))]) hK hP hD hS hA [0] [1, 2, 3, 4, 5, 6, 7] rfl rfl (by decide) (by decide) (va_runV (As := [.int z76, .int z79, .int v291]) (rest := [.int rx]) ⟨hx, hb, hml, hown, hz⟩ ((c_MD_layout l dC dI q3 b0 b1 b2 b3 b4 b5 b6 b7 b8 b9 b10 b11 b12 b13 b14 b15 b16 b17 z76 z79 v291 hv291) H.size) (cwV 3 hz (z_gV wd_692 wd_693 wd_694 wd_37 wd_695) rfl rfl rfl (by decide +kernel) ⟨Nat.le_of_ble_eq_true rfl, Nat.le_of_ble_eq_true rfl⟩) (zw_preV (q0 := 0) (q := (RMD, TMD, 26)) hK hP hD rfl rfl [0] (by decide) rfl [] rfl z_true (fun _ _ _ => trivial)) rfl rfl hl.1 rfl (lv_room (Nat.le_of_ble_eq_true rfl)) dLW_law_299 ⟨Nat.le_of_ble_eq_true rfl, Nat.le_of_ble_eq_true rfl⟩) (fun rm u H locs h_rm hP hD hK hS => ?_)
        have hP : va_P (dC, dI) vwCl [(b0, .inl (kb0, 8, .inl (fun _ => 0))), (b1, .inl (kb1, 8, .inl (fun _ => 0))), (b12, .inl (kb12, 12, .inl (fun _ => 0))), (b13, .inl (kb13, 12, .inl (fun _ => 0))), (b14, .inl (kb14, 12, .inl (fun _ => 0))), (b17, .inl (kb17, 12, .inl (fun _ => 0))), (b15, .inl (kb15, 12, .inl (fun _ => 0)))] H := hP.sub [0, 1, 2, 3, 4, 5, 6] rfl
        have hD : va_D A [(b0, .inl (kb0, 8, .inl (fun _ => 0))), (b1, .inl (kb1, 8, .inl (fun _ => 0))), (b12, .inl (kb12, 12, .inl (fun _ => 0))), (b13, .inl (kb13, 12, .inl (fun _ => 0))), (b14, .inl (kb14, 12, .inl (fun _ => 0))), (b17, .inl (kb17, 12, .inl (fun _ => 0))), (b15, .inl (kb15, 12, .inl (fun _ => 0)))] := hD.sub [0, 1, 2, 3, 4, 5, 6] (by decide) rfl
        have hK : va_K (dC, dI) vwCl [(kb0, .int), (kb1, .int), (kb12, .int), (kb13, .int), (kb14, .int), (kb17, .int), (kb15, .int)] s := hK
        refine lv_icmp_eq (tgt := 615) hx hb dLW_law_302 rfl (fun _ => ?_) (fun h => absurd (z_same h_rx h_rm) h)
        exact BACK H locs ls (lv_sub hl [0, 3] rfl) hS
      · refine lv_if_eq (tgt := 298) hx hb dLW_law_291 rfl (fun h95 => ?_) (fun h95 => ?_)
        · refine lv_iconst (v := 0) hx hb dLW_law_298 (by decide) ?_
          exact J299 _ (Or.inl rfl)
        · refine lv_iconst (v := 1) hx hb dLW_law_294 (by decide) ?_
          refine lv_goto (tgt := 299) hx hb dLW_law_295 rfl ?_
          exact J299 _ (Or.inr rfl)
    · refine lv_if_eq (tgt := 271) hx hb dLW_law_264 rfl (fun h96 => ?_) (fun h96 => ?_)
      · refine lv_iconst (v := 0) hx hb dLW_law_271 (by decide) ?_
        exact J272 _ (Or.inl rfl)
      · refine lv_iconst (v := 1) hx hb dLW_law_267 (by decide) ?_
        refine lv_goto (tgt := 272) hx hb dLW_law_268 rfl ?_
        exact J272 _ (Or.inr rfl)
  · refine lv_tableIn (off := 274) (tgt := 307) hx hb dLW_law_33 (by decide) (by decide) (by decide) rfl ?_
    refine lv_aload_n hx hb dLW_law_307 rfl (lv_at hl 2 rfl) ?_
    refine zw_calli (wr := [(q3, .inr (6, [.int 1, .ref b0, .ref b1, .int 0, .ref b2, .ref b3, .ref b4, .ref b5, .ref b6, .ref b7, .ref b8, .ref b9, .ref b10, .ref b11, .int (-1), .int 0, .int 0, .int 0, .int 0, .int 0, .ref b12, .ref b13, .ref b14, .ref b15, .ref b16, .ref b17])), (b0, .inl (kb0, 8, .inl (fun _ => 0))), (b1, .inl (kb1, 8, .inl (fun _ => 0))), (b12, .inl (kb12, 12, .inl (fun _ => 0))), (b13, .inl (kb13, 12, .inl (fun _ => 0))), (b14, .inl (kb14, 12, .inl (fun _ => 0))), (b17, .inl (kb17, 12, .inl (fun _ => 0))), (b15, .inl (kb15, 12, .inl (fun _ => 0)))]) hK hP hD hS hA [0, 1, 2] [3, 4, 5, 6, 7, 8, 9, 10] rfl rfl (by decide) (by decide) (va_runV (As := []) (rest := []) ⟨hx, hb, hml, hown, hz⟩ ((c_SC_clear l dC dI q1 g wd hh al t 0 ) H.size) (cwV 0 hz (z_gV wd_371 wd_372 wd_373 wd_29 wd_374) rfl rfl rfl (by decide +kernel) ⟨Nat.le_of_ble_eq_true rfl, Nat.le_of_ble_eq_true rfl⟩) (zw_preV (q0 := 0) (q := (RSC, TSC, 6)) hK hP hD rfl rfl [0, 1, 2] (by decide) rfl [] rfl z_true (fun _ _ _ => trivial)) rfl rfl hl.1 rfl (lv_room (Nat.le_of_ble_eq_true rfl)) dLW_law_308 ⟨Nat.le_of_ble_eq_true rfl, Nat.le_of_ble_eq_true rfl⟩) (fun r97 u H locs h_r97 hP hD hK hS => ?_)
    have hP : va_P (dC, dI) vwCl [(q3, .inr (6, [.int 1, .ref b0, .ref b1, .int 0, .ref b2, .ref b3, .ref b4, .ref b5, .ref b6, .ref b7, .ref b8, .ref b9, .ref b10, .ref b11, .int (-1), .int 0, .int 0, .int 0, .int 0, .int 0, .ref b12, .ref b13, .ref b14, .ref b15, .ref b16, .ref b17])), (b0, .inl (kb0, 8, .inl (fun _ => 0))), (b1, .inl (kb1, 8, .inl (fun _ => 0))), (b12, .inl (kb12, 12, .inl (fun _ => 0))), (b13, .inl (kb13, 12, .inl (fun _ => 0))), (b14, .inl (kb14, 12, .inl (fun _ => 0))), (b17, .inl (kb17, 12, .inl (fun _ => 0))), (b15, .inl (kb15, 12, .inl (fun _ => 0)))] H := hP.sub [0, 1, 2, 3, 4, 5, 6, 7] rfl
    have hD : va_D A [(q3, .inr (6, [.int 1, .ref b0, .ref b1, .int 0, .ref b2, .ref b3, .ref b4, .ref b5, .ref b6, .ref b7, .ref b8, .ref b9, .ref b10, .ref b11, .int (-1), .int 0, .int 0, .int 0, .int 0, .int 0, .ref b12, .ref b13, .ref b14, .ref b15, .ref b16, .ref b17])), (b0, .inl (kb0, 8, .inl (fun _ => 0))), (b1, .inl (kb1, 8, .inl (fun _ => 0))), (b12, .inl (kb12, 12, .inl (fun _ => 0))), (b13, .inl (kb13, 12, .inl (fun _ => 0))), (b14, .inl (kb14, 12, .inl (fun _ => 0))), (b17, .inl (kb17, 12, .inl (fun _ => 0))), (b15, .inl (kb15, 12, .inl (fun _ => 0)))] := hD.sub [0, 1, 2, 3, 4, 5, 6, 7] (by decide) rfl
    have hK : va_K (dC, dI) vwCl [(kb0, .int), (kb1, .int), (kb12, .int), (kb13, .int), (kb14, .int), (kb17, .int), (kb15, .int)] s := hK
    have h_r97 : r97 = 0 := h_r97
    subst h_r97
    refine lv_aload_n hx hb dLW_law_311 rfl (lv_at hl 1 rfl) ?_
    refine zw_calli (wr := [(b12, .inl (kb12, 12, .inl (fun _ => 0))), (b13, .inl (kb13, 12, .inl (fun _ => 0))), (b14, .inl (kb14, 12, .inl (fun _ => 0))), (b17, .inl (kb17, 12, .inl (fun _ => 0))), (b15, .inl (kb15, 12, .inl (fun _ => 0)))]) hK hP hD hS hA [0, 1, 2] [3, 4, 5, 6, 7] rfl rfl (by decide) (by decide) (va_runV (As := []) (rest := [.int 0]) ⟨hx, hb, hml, hown, hz⟩ ((c_MD_clear l dC dI q3 b0 b1 b2 b3 b4 b5 b6 b7 b8 b9 b10 b11 b12 b13 b14 b15 b16 b17 kb0 kb1 ) H.size) (cwV 0 hz (z_gV wd_696 wd_697 wd_698 wd_37 wd_699) rfl rfl rfl (by decide +kernel) ⟨Nat.le_of_ble_eq_true rfl, Nat.le_of_ble_eq_true rfl⟩) (zw_preV (q0 := 0) (q := (RMD, TMD, 26)) hK hP hD rfl rfl [0, 1, 2] (by decide) rfl [0, 1] rfl z_true (fun _ _ _ => trivial)) rfl rfl hl.1 rfl (lv_room (Nat.le_of_ble_eq_true rfl)) dLW_law_312 ⟨Nat.le_of_ble_eq_true rfl, Nat.le_of_ble_eq_true rfl⟩) (fun r98 u H locs h_r98 hP hD hK hS => ?_)
    have hP : va_P (dC, dI) vwCl [(b12, .inl (kb12, 12, .inl (fun _ => 0))), (b13, .inl (kb13, 12, .inl (fun _ => 0))), (b14, .inl (kb14, 12, .inl (fun _ => 0))), (b17, .inl (kb17, 12, .inl (fun _ => 0))), (b15, .inl (kb15, 12, .inl (fun _ => 0)))] H := hP.sub [0, 1, 2, 3, 4] rfl
    have hD : va_D A [(b12, .inl (kb12, 12, .inl (fun _ => 0))), (b13, .inl (kb13, 12, .inl (fun _ => 0))), (b14, .inl (kb14, 12, .inl (fun _ => 0))), (b17, .inl (kb17, 12, .inl (fun _ => 0))), (b15, .inl (kb15, 12, .inl (fun _ => 0)))] := hD.sub [0, 1, 2, 3, 4] (by decide) rfl
    have hK : va_K (dC, dI) vwCl [(kb0, .int), (kb1, .int), (kb12, .int), (kb13, .int), (kb14, .int), (kb17, .int), (kb15, .int)] s := hK
    have h_r98 : r98 = 0 := h_r98
    subst h_r98
    refine lv_icmp_eq (tgt := 615) hx hb dLW_law_315 rfl (fun _ => ?_) (fun h => absurd (by decide) h)
    exact BACK H locs ls (lv_sub hl [0, 3] rfl) hS
  · refine lv_tableIn (off := 287) (tgt := 320) hx hb dLW_law_33 (by decide) (by decide) (by decide) rfl ?_
    refine lv_aload_n hx hb dLW_law_320 rfl (lv_at hl 2 rfl) ?_
    refine vp_callSi (W.runV (As := []) (rest := []) ⟨hx, hb, hml, hown, hz⟩ (c_SC_columns l dC dI q1 g wd hh al t 0 ) (cwV 0 hz (z_gV wd_387 wd_388 wd_389 wd_29 wd_390) rfl rfl rfl (by decide +kernel) ⟨Nat.le_of_ble_eq_true rfl, Nat.le_of_ble_eq_true rfl⟩) (zp_preV (q0 := 0) (q := (RSC, TSC, 6)) hK hP rfl rfl [0, 1, 2] rfl [] rfl z_true (fun _ _ _ => trivial)) rfl rfl hl.1 rfl (lv_room (Nat.le_of_ble_eq_true rfl)) dLW_law_321 ⟨Nat.le_of_ble_eq_true rfl, Nat.le_of_ble_eq_true rfl⟩) (fun r99 h_r99 => ?_)
    have h_r99 : r99 = 0 := h_r99
    subst h_r99
    refine lv_aload_n hx hb dLW_law_324 rfl (lv_at hl 1 rfl) ?_
    refine vp_callSi (W.runV (As := []) (rest := [.int 0]) ⟨hx, hb, hml, hown, hz⟩ (c_MD_columns l dC dI q3 b0 b1 b2 b3 b4 b5 b6 b7 b8 b9 b10 b11 b12 b13 b14 b15 b16 b17 ) (cwV 0 hz (z_gV wd_700 wd_701 wd_702 wd_37 wd_703) rfl rfl rfl (by decide +kernel) ⟨Nat.le_of_ble_eq_true rfl, Nat.le_of_ble_eq_true rfl⟩) (zp_preV (q0 := 3) (q := (RMD, TMD, 26)) hK hP rfl rfl [3] rfl [] rfl z_true (fun _ _ _ => trivial)) rfl rfl hl.1 rfl (lv_room (Nat.le_of_ble_eq_true rfl)) dLW_law_325 ⟨Nat.le_of_ble_eq_true rfl, Nat.le_of_ble_eq_true rfl⟩) (fun r100 h_r100 => ?_)
    have h_r100 : r100 = 0 := h_r100
    subst h_r100
    refine lv_icmp_eq (tgt := 615) hx hb dLW_law_328 rfl (fun _ => ?_) (fun h => absurd (by decide) h)
    exact BACK H locs ls (lv_sub hl [0, 3] rfl) hS
  · refine lv_tableIn (off := 300) (tgt := 333) hx hb dLW_law_33 (by decide) (by decide) (by decide) rfl ?_
    refine lv_aload_n hx hb dLW_law_333 rfl (lv_at hl 2 rfl) ?_
    refine vp_callSi (W.runV (As := []) (rest := []) ⟨hx, hb, hml, hown, hz⟩ (c_SC_rows l dC dI q1 g wd hh al t 0 ) (cwV 0 hz (z_gV wd_395 wd_396 wd_397 wd_29 wd_398) rfl rfl rfl (by decide +kernel) ⟨Nat.le_of_ble_eq_true rfl, Nat.le_of_ble_eq_true rfl⟩) (zp_preV (q0 := 0) (q := (RSC, TSC, 6)) hK hP rfl rfl [0, 1, 2] rfl [] rfl z_true (fun _ _ _ => trivial)) rfl rfl hl.1 rfl (lv_room (Nat.le_of_ble_eq_true rfl)) dLW_law_334 ⟨Nat.le_of_ble_eq_true rfl, Nat.le_of_ble_eq_true rfl⟩) (fun r101 h_r101 => ?_)
    have h_r101 : r101 = 0 := h_r101
    subst h_r101
    refine lv_aload_n hx hb dLW_law_337 rfl (lv_at hl 1 rfl) ?_
    refine vp_callSi (W.runV (As := []) (rest := [.int 0]) ⟨hx, hb, hml, hown, hz⟩ (c_MD_rows l dC dI q3 b0 b1 b2 b3 b4 b5 b6 b7 b8 b9 b10 b11 b12 b13 b14 b15 b16 b17 kb0 kb1 ) (cwV 0 hz (z_gV wd_704 wd_705 wd_706 wd_37 wd_707) rfl rfl rfl (by decide +kernel) ⟨Nat.le_of_ble_eq_true rfl, Nat.le_of_ble_eq_true rfl⟩) (zp_preV (q0 := 3) (q := (RMD, TMD, 26)) hK hP rfl rfl [3, 4, 5] rfl [0, 1] rfl z_true (fun _ _ _ => trivial)) rfl rfl hl.1 rfl (lv_room (Nat.le_of_ble_eq_true rfl)) dLW_law_338 ⟨Nat.le_of_ble_eq_true rfl, Nat.le_of_ble_eq_true rfl⟩) (fun r102 h_r102 => ?_)
    have h_r102 : r102 = 0 := h_r102
    subst h_r102
    refine lv_icmp_eq (tgt := 615) hx hb dLW_law_341 rfl (fun _ => ?_) (fun h => absurd (by decide) h)
    exact BACK H locs ls (lv_sub hl [0, 3] rfl) hS
  · refine lv_tableIn (off := 313) (tgt := 346) hx hb dLW_law_33 (by decide) (by decide) (by decide) rfl ?_
    refine lv_aload_n hx hb dLW_law_346 rfl (lv_at hl 2 rfl) ?_
    refine lv_aload_n hx hb dLW_law_347 rfl (lv_at hl 3 rfl) ?_
    refine lv_iload_n hx hb dLW_law_348 rfl (lv_at hl 0 rfl) ?_
    refine lv_iconst (v := 1) hx hb dLW_law_349 (by decide) ?_
    refine lv_iadd hx hb dLW_law_350 ?_
    refine lv_topi (fun x103 e104 => ?_)
    have e104 : x103 = 1 := e104.trans (by decide)
    subst e104
    refine va_sld hx hb hXs hbl hAb hS (by unfold vp_in; decide) dLW_law_351 ?_
    refine lv_topi (fun z105 e_z105 => ?_)
    refine lv_aload_n hx hb dLW_law_352 rfl (lv_at hl 3 rfl) ?_
    refine lv_iload_n hx hb dLW_law_353 rfl (lv_at hl 0 rfl) ?_
    refine lv_iconst (v := 2) hx hb dLW_law_354 (by decide) ?_
    refine lv_iadd hx hb dLW_law_355 ?_
    refine lv_topi (fun x106 e107 => ?_)
    have e107 : x106 = 2 := e107.trans (by decide)
    subst e107
    refine va_sld hx hb hXs hbl hAb hS (by unfold vp_in; decide) dLW_law_356 ?_
    refine lv_topi (fun z108 e_z108 => ?_)
    refine vp_callSi (W.runV (As := [.int z105, .int z108]) (rest := []) ⟨hx, hb, hml, hown, hz⟩ (c_SC_slot l dC dI q1 g wd hh al t 0 z105 z108 ) (cwV 2 hz (z_gV wd_403 wd_404 wd_405 wd_29 wd_406) rfl rfl rfl (by decide +kernel) ⟨Nat.le_of_ble_eq_true rfl, Nat.le_of_ble_eq_true rfl⟩) (zp_preV (q0 := 0) (q := (RSC, TSC, 6)) hK hP rfl rfl [0, 1, 2] rfl [] rfl z_true (fun _ _ _ => trivial)) rfl rfl hl.1 rfl (lv_room (Nat.le_of_ble_eq_true rfl)) dLW_law_357 ⟨Nat.le_of_ble_eq_true rfl, Nat.le_of_ble_eq_true rfl⟩) (fun r109 h_r109 => ?_)
    have h_r109 : r109 = (-1) := h_r109
    subst h_r109
    refine lv_aload_n hx hb dLW_law_360 rfl (lv_at hl 1 rfl) ?_
    refine lv_aload_n hx hb dLW_law_361 rfl (lv_at hl 3 rfl) ?_
    refine lv_iload_n hx hb dLW_law_362 rfl (lv_at hl 0 rfl) ?_
    refine lv_iconst (v := 1) hx hb dLW_law_363 (by decide) ?_
    refine lv_iadd hx hb dLW_law_364 ?_
    refine lv_topi (fun x110 e111 => ?_)
    have e111 : x110 = 1 := e111.trans (by decide)
    subst e111
    refine va_sld hx hb hXs hbl hAb hS (by unfold vp_in; decide) dLW_law_365 ?_
    refine lv_topi (fun x112 e113 => ?_)
    have e113 : z105 = x112 := e_z105.trans e113.symm
    subst e113
    refine lv_aload_n hx hb dLW_law_366 rfl (lv_at hl 3 rfl) ?_
    refine lv_iload_n hx hb dLW_law_367 rfl (lv_at hl 0 rfl) ?_
    refine lv_iconst (v := 2) hx hb dLW_law_368 (by decide) ?_
    refine lv_iadd hx hb dLW_law_369 ?_
    refine lv_topi (fun x114 e115 => ?_)
    have e115 : x114 = 2 := e115.trans (by decide)
    subst e115
    refine va_sld hx hb hXs hbl hAb hS (by unfold vp_in; decide) dLW_law_370 ?_
    refine lv_topi (fun x116 e117 => ?_)
    have e117 : z108 = x116 := e_z108.trans e117.symm
    subst e117
    refine vp_callSi (W.runV (As := [.int z105, .int z108]) (rest := [.int (-1)]) ⟨hx, hb, hml, hown, hz⟩ (c_MD_slot l dC dI q3 b0 b1 b2 b3 b4 b5 b6 b7 b8 b9 b10 b11 b12 b13 b14 b15 b16 b17 z105 z108 ) (cwV 2 hz (z_gV wd_708 wd_709 wd_710 wd_37 wd_711) rfl rfl rfl (by decide +kernel) ⟨Nat.le_of_ble_eq_true rfl, Nat.le_of_ble_eq_true rfl⟩) (zp_preV (q0 := 3) (q := (RMD, TMD, 26)) hK hP rfl rfl [3] rfl [] rfl z_true (fun _ _ _ => trivial)) rfl rfl hl.1 rfl (lv_room (Nat.le_of_ble_eq_true rfl)) dLW_law_371 ⟨Nat.le_of_ble_eq_true rfl, Nat.le_of_ble_eq_true rfl⟩) (fun r118 h_r118 => ?_)
    have h_r118 : r118 = (-1) := h_r118
    subst h_r118
    refine lv_icmp_eq (tgt := 615) hx hb dLW_law_374 rfl (fun _ => ?_) (fun h => absurd (by decide) h)
    exact BACK H locs ls (lv_sub hl [0, 3] rfl) hS
  · refine lv_tableIn (off := 346) (tgt := 379) hx hb dLW_law_33 (by decide) (by decide) (by decide) rfl ?_
    refine lv_aload_n hx hb dLW_law_379 rfl (lv_at hl 2 rfl) ?_
    refine vp_callSi (W.runV (As := []) (rest := []) ⟨hx, hb, hml, hown, hz⟩ (c_SC_overlaps l dC dI q1 g wd hh al t 0 ) (cwV 0 hz (z_gV wd_408 wd_409 wd_410 wd_29 wd_411) rfl rfl rfl (by decide +kernel) ⟨Nat.le_of_ble_eq_true rfl, Nat.le_of_ble_eq_true rfl⟩) (zp_preV (q0 := 0) (q := (RSC, TSC, 6)) hK hP rfl rfl [0, 1, 2] rfl [] rfl z_true (fun _ _ _ => trivial)) rfl rfl hl.1 rfl (lv_room (Nat.le_of_ble_eq_true rfl)) dLW_law_380 ⟨Nat.le_of_ble_eq_true rfl, Nat.le_of_ble_eq_true rfl⟩) (fun r119 h_r119 => ?_)
    have h_r119 : r119 = 0 := h_r119
    subst h_r119
    refine lv_aload_n hx hb dLW_law_383 rfl (lv_at hl 1 rfl) ?_
    refine vp_callSi (W.runV (As := []) (rest := [.int 0]) ⟨hx, hb, hml, hown, hz⟩ (c_MD_overlaps l dC dI q3 b0 b1 b2 b3 b4 b5 b6 b7 b8 b9 b10 b11 b12 b13 b14 b15 b16 b17 ) (cwV 0 hz (z_gV wd_720 wd_721 wd_722 wd_37 wd_723) rfl rfl rfl (by decide +kernel) ⟨Nat.le_of_ble_eq_true rfl, Nat.le_of_ble_eq_true rfl⟩) (zp_preV (q0 := 3) (q := (RMD, TMD, 26)) hK hP rfl rfl [3] rfl [] rfl z_true (fun _ _ _ => trivial)) rfl rfl hl.1 rfl (lv_room (Nat.le_of_ble_eq_true rfl)) dLW_law_384 ⟨Nat.le_of_ble_eq_true rfl, Nat.le_of_ble_eq_true rfl⟩) (fun r120 h_r120 => ?_)
    have h_r120 : r120 = 0 := h_r120
    subst h_r120
    refine lv_icmp_eq (tgt := 615) hx hb dLW_law_387 rfl (fun _ => ?_) (fun h => absurd (by decide) h)
    exact BACK H locs ls (lv_sub hl [0, 3] rfl) hS
  · refine lv_tableIn (off := 359) (tgt := 392) hx hb dLW_law_33 (by decide) (by decide) (by decide) rfl ?_
    refine lv_aload_n hx hb dLW_law_392 rfl (lv_at hl 2 rfl) ?_
    refine vp_callSi (W.runV (As := []) (rest := []) ⟨hx, hb, hml, hown, hz⟩ (c_SC_empties l dC dI q1 g wd hh al t 0 ) (cwV 0 hz (z_gV wd_420 wd_421 wd_422 wd_29 wd_423) rfl rfl rfl (by decide +kernel) ⟨Nat.le_of_ble_eq_true rfl, Nat.le_of_ble_eq_true rfl⟩) (zp_preV (q0 := 0) (q := (RSC, TSC, 6)) hK hP rfl rfl [0, 1, 2] rfl [] rfl z_true (fun _ _ _ => trivial)) rfl rfl hl.1 rfl (lv_room (Nat.le_of_ble_eq_true rfl)) dLW_law_393 ⟨Nat.le_of_ble_eq_true rfl, Nat.le_of_ble_eq_true rfl⟩) (fun r121 h_r121 => ?_)
    have h_r121 : r121 = 0 := h_r121
    subst h_r121
    refine lv_aload_n hx hb dLW_law_396 rfl (lv_at hl 1 rfl) ?_
    refine vp_callSi (W.runV (As := []) (rest := [.int 0]) ⟨hx, hb, hml, hown, hz⟩ (c_MD_empties l dC dI q3 b0 b1 b2 b3 b4 b5 b6 b7 b8 b9 b10 b11 b12 b13 b14 b15 b16 b17 kb0 kb1 ) (cwV 0 hz (z_gV wd_728 wd_729 wd_730 wd_37 wd_731) rfl rfl rfl (by decide +kernel) ⟨Nat.le_of_ble_eq_true rfl, Nat.le_of_ble_eq_true rfl⟩) (zp_preV (q0 := 3) (q := (RMD, TMD, 26)) hK hP rfl rfl [3, 4, 5] rfl [0, 1] rfl z_true (fun _ _ _ => trivial)) rfl rfl hl.1 rfl (lv_room (Nat.le_of_ble_eq_true rfl)) dLW_law_397 ⟨Nat.le_of_ble_eq_true rfl, Nat.le_of_ble_eq_true rfl⟩) (fun r122 h_r122 => ?_)
    have h_r122 : r122 = 0 := h_r122
    subst h_r122
    refine lv_icmp_eq (tgt := 615) hx hb dLW_law_400 rfl (fun _ => ?_) (fun h => absurd (by decide) h)
    exact BACK H locs ls (lv_sub hl [0, 3] rfl) hS
  · refine lv_tableIn (off := 372) (tgt := 405) hx hb dLW_law_33 (by decide) (by decide) (by decide) rfl ?_
    refine lv_aload_n hx hb dLW_law_405 rfl (lv_at hl 2 rfl) ?_
    refine lv_aload_n hx hb dLW_law_406 rfl (lv_at hl 3 rfl) ?_
    refine lv_iload_n hx hb dLW_law_407 rfl (lv_at hl 0 rfl) ?_
    refine lv_iconst (v := 1) hx hb dLW_law_408 (by decide) ?_
    refine lv_iadd hx hb dLW_law_409 ?_
    refine lv_topi (fun x123 e124 => ?_)
    have e124 : x123 = 1 := e124.trans (by decide)
    subst e124
    refine va_sld hx hb hXs hbl hAb hS (by unfold vp_in; decide) dLW_law_410 ?_
    refine lv_topi (fun z125 e_z125 => ?_)
    refine vp_callSi (W.runV (As := [.int z125]) (rest := []) ⟨hx, hb, hml, hown, hz⟩ (c_SC_span l dC dI q1 g wd hh al t 0 z125 ) (cwV 1 hz (z_gV wd_440 wd_441 wd_442 wd_29 wd_443) rfl rfl rfl (by decide +kernel) ⟨Nat.le_of_ble_eq_true rfl, Nat.le_of_ble_eq_true rfl⟩) (zp_preV (q0 := 0) (q := (RSC, TSC, 6)) hK hP rfl rfl [0, 1, 2] rfl [] rfl z_true (fun _ _ _ => trivial)) rfl rfl hl.1 rfl (lv_room (Nat.le_of_ble_eq_true rfl)) dLW_law_411 ⟨Nat.le_of_ble_eq_true rfl, Nat.le_of_ble_eq_true rfl⟩) (fun r126 h_r126 => ?_)
    have h_r126 : r126 = (-1) := h_r126
    subst h_r126
    refine lv_aload_n hx hb dLW_law_414 rfl (lv_at hl 1 rfl) ?_
    refine lv_aload_n hx hb dLW_law_415 rfl (lv_at hl 3 rfl) ?_
    refine lv_iload_n hx hb dLW_law_416 rfl (lv_at hl 0 rfl) ?_
    refine lv_iconst (v := 1) hx hb dLW_law_417 (by decide) ?_
    refine lv_iadd hx hb dLW_law_418 ?_
    refine lv_topi (fun x127 e128 => ?_)
    have e128 : x127 = 1 := e128.trans (by decide)
    subst e128
    refine va_sld hx hb hXs hbl hAb hS (by unfold vp_in; decide) dLW_law_419 ?_
    refine lv_topi (fun x129 e130 => ?_)
    have e130 : z125 = x129 := e_z125.trans e130.symm
    subst e130
    refine vp_callSi (W.runV (As := [.int z125]) (rest := [.int (-1)]) ⟨hx, hb, hml, hown, hz⟩ (c_MD_span l dC dI q3 b0 b1 b2 b3 b4 b5 b6 b7 b8 b9 b10 b11 b12 b13 b14 b15 b16 b17 z125 ) (cwV 1 hz (z_gV wd_734 wd_735 wd_736 wd_37 wd_737) rfl rfl rfl (by decide +kernel) ⟨Nat.le_of_ble_eq_true rfl, Nat.le_of_ble_eq_true rfl⟩) (zp_preV (q0 := 3) (q := (RMD, TMD, 26)) hK hP rfl rfl [3] rfl [] rfl z_true (fun _ _ _ => trivial)) rfl rfl hl.1 rfl (lv_room (Nat.le_of_ble_eq_true rfl)) dLW_law_420 ⟨Nat.le_of_ble_eq_true rfl, Nat.le_of_ble_eq_true rfl⟩) (fun r131 h_r131 => ?_)
    have h_r131 : r131 = (-1) := h_r131
    subst h_r131
    refine lv_icmp_eq (tgt := 615) hx hb dLW_law_423 rfl (fun _ => ?_) (fun h => absurd (by decide) h)
    exact BACK H locs ls (lv_sub hl [0, 3] rfl) hS
  · refine lv_tableIn (off := 395) (tgt := 428) hx hb dLW_law_33 (by decide) (by decide) (by decide) rfl ?_
    refine lv_aload_n hx hb dLW_law_428 rfl (lv_at hl 2 rfl) ?_
    refine lv_aload_n hx hb dLW_law_429 rfl (lv_at hl 3 rfl) ?_
    refine lv_iload_n hx hb dLW_law_430 rfl (lv_at hl 0 rfl) ?_
    refine lv_iconst (v := 1) hx hb dLW_law_431 (by decide) ?_
    refine lv_iadd hx hb dLW_law_432 ?_
    refine lv_topi (fun x132 e133 => ?_)
    have e133 : x132 = 1 := e133.trans (by decide)
    subst e133
    refine va_sld hx hb hXs hbl hAb hS (by unfold vp_in; decide) dLW_law_433 ?_
    refine lv_topi (fun z134 e_z134 => ?_)
    refine lv_aload_n hx hb dLW_law_434 rfl (lv_at hl 3 rfl) ?_
    refine lv_iload_n hx hb dLW_law_435 rfl (lv_at hl 0 rfl) ?_
    refine lv_iconst (v := 2) hx hb dLW_law_436 (by decide) ?_
    refine lv_iadd hx hb dLW_law_437 ?_
    refine lv_topi (fun x135 e136 => ?_)
    have e136 : x135 = 2 := e136.trans (by decide)
    subst e136
    refine va_sld hx hb hXs hbl hAb hS (by unfold vp_in; decide) dLW_law_438 ?_
    refine lv_topi (fun z137 e_z137 => ?_)
    refine vp_callSi (W.runV (As := [.int z134, .int z137]) (rest := []) ⟨hx, hb, hml, hown, hz⟩ (c_SC_wide l dC dI q1 g wd hh al t 0 z134 z137 ) (cwV 2 hz (z_gV wd_445 wd_446 wd_447 wd_29 wd_448) rfl rfl rfl (by decide +kernel) ⟨Nat.le_of_ble_eq_true rfl, Nat.le_of_ble_eq_true rfl⟩) (zp_preV (q0 := 0) (q := (RSC, TSC, 6)) hK hP rfl rfl [0, 1, 2] rfl [] rfl z_true (fun _ _ _ => trivial)) rfl rfl hl.1 rfl (lv_room (Nat.le_of_ble_eq_true rfl)) dLW_law_439 ⟨Nat.le_of_ble_eq_true rfl, Nat.le_of_ble_eq_true rfl⟩) (fun r138 h_r138 => ?_)
    have h_r138 : r138 = (-1) := h_r138
    subst h_r138
    refine lv_aload_n hx hb dLW_law_442 rfl (lv_at hl 1 rfl) ?_
    refine lv_aload_n hx hb dLW_law_443 rfl (lv_at hl 3 rfl) ?_
    refine lv_iload_n hx hb dLW_law_444 rfl (lv_at hl 0 rfl) ?_
    refine lv_iconst (v := 1) hx hb dLW_law_445 (by decide) ?_
    refine lv_iadd hx hb dLW_law_446 ?_
    refine lv_topi (fun x139 e140 => ?_)
    have e140 : x139 = 1 := e140.trans (by decide)
    subst e140
    refine va_sld hx hb hXs hbl hAb hS (by unfold vp_in; decide) dLW_law_447 ?_
    refine lv_topi (fun x141 e142 => ?_)
    have e142 : z134 = x141 := e_z134.trans e142.symm
    subst e142
    refine lv_aload_n hx hb dLW_law_448 rfl (lv_at hl 3 rfl) ?_
    refine lv_iload_n hx hb dLW_law_449 rfl (lv_at hl 0 rfl) ?_
    refine lv_iconst (v := 2) hx hb dLW_law_450 (by decide) ?_
    refine lv_iadd hx hb dLW_law_451 ?_
    refine lv_topi (fun x143 e144 => ?_)
    have e144 : x143 = 2 := e144.trans (by decide)
    subst e144
    refine va_sld hx hb hXs hbl hAb hS (by unfold vp_in; decide) dLW_law_452 ?_
    refine lv_topi (fun x145 e146 => ?_)
    have e146 : z137 = x145 := e_z137.trans e146.symm
    subst e146
    refine vp_callSi (W.runV (As := [.int z134, .int z137]) (rest := [.int (-1)]) ⟨hx, hb, hml, hown, hz⟩ (c_MD_wide l dC dI q3 b0 b1 b2 b3 b4 b5 b6 b7 b8 b9 b10 b11 b12 b13 b14 b15 b16 b17 z134 z137 ) (cwV 2 hz (z_gV wd_739 wd_740 wd_741 wd_37 wd_742) rfl rfl rfl (by decide +kernel) ⟨Nat.le_of_ble_eq_true rfl, Nat.le_of_ble_eq_true rfl⟩) (zp_preV (q0 := 3) (q := (RMD, TMD, 26)) hK hP rfl rfl [3] rfl [] rfl z_true (fun _ _ _ => trivial)) rfl rfl hl.1 rfl (lv_room (Nat.le_of_ble_eq_true rfl)) dLW_law_453 ⟨Nat.le_of_ble_eq_true rfl, Nat.le_of_ble_eq_true rfl⟩) (fun r147 h_r147 => ?_)
    have h_r147 : r147 = (-1) := h_r147
    subst h_r147
    refine lv_icmp_eq (tgt := 615) hx hb dLW_law_456 rfl (fun _ => ?_) (fun h => absurd (by decide) h)
    exact BACK H locs ls (lv_sub hl [0, 3] rfl) hS
  · refine lv_tableIn (off := 428) (tgt := 461) hx hb dLW_law_33 (by decide) (by decide) (by decide) rfl ?_
    refine lv_aload_n hx hb dLW_law_461 rfl (lv_at hl 2 rfl) ?_
    refine lv_aload_n hx hb dLW_law_462 rfl (lv_at hl 3 rfl) ?_
    refine lv_iload_n hx hb dLW_law_463 rfl (lv_at hl 0 rfl) ?_
    refine lv_iconst (v := 1) hx hb dLW_law_464 (by decide) ?_
    refine lv_iadd hx hb dLW_law_465 ?_
    refine lv_topi (fun x148 e149 => ?_)
    have e149 : x148 = 1 := e149.trans (by decide)
    subst e149
    refine va_sld hx hb hXs hbl hAb hS (by unfold vp_in; decide) dLW_law_466 ?_
    refine lv_topi (fun z150 e_z150 => ?_)
    refine vp_callSi (W.runV (As := [.int z150]) (rest := []) ⟨hx, hb, hml, hown, hz⟩ (c_SC_high l dC dI q1 g wd hh al t 0 z150 ) (cwV 1 hz (z_gV wd_527 wd_528 wd_529 wd_29 wd_530) rfl rfl rfl (by decide +kernel) ⟨Nat.le_of_ble_eq_true rfl, Nat.le_of_ble_eq_true rfl⟩) (zp_preV (q0 := 0) (q := (RSC, TSC, 6)) hK hP rfl rfl [0, 1, 2] rfl [] rfl z_true (fun _ _ _ => trivial)) rfl rfl hl.1 rfl (lv_room (Nat.le_of_ble_eq_true rfl)) dLW_law_467 ⟨Nat.le_of_ble_eq_true rfl, Nat.le_of_ble_eq_true rfl⟩) (fun r151 h_r151 => ?_)
    have h_r151 : r151 = (-1) := h_r151
    subst h_r151
    refine lv_aload_n hx hb dLW_law_470 rfl (lv_at hl 1 rfl) ?_
    refine lv_aload_n hx hb dLW_law_471 rfl (lv_at hl 3 rfl) ?_
    refine lv_iload_n hx hb dLW_law_472 rfl (lv_at hl 0 rfl) ?_
    refine lv_iconst (v := 1) hx hb dLW_law_473 (by decide) ?_
    refine lv_iadd hx hb dLW_law_474 ?_
    refine lv_topi (fun x152 e153 => ?_)
    have e153 : x152 = 1 := e153.trans (by decide)
    subst e153
    refine va_sld hx hb hXs hbl hAb hS (by unfold vp_in; decide) dLW_law_475 ?_
    refine lv_topi (fun x154 e155 => ?_)
    have e155 : z150 = x154 := e_z150.trans e155.symm
    subst e155
    refine vp_callSi (W.runV (As := [.int z150]) (rest := [.int (-1)]) ⟨hx, hb, hml, hown, hz⟩ (c_MD_high l dC dI q3 b0 b1 b2 b3 b4 b5 b6 b7 b8 b9 b10 b11 b12 b13 b14 b15 b16 b17 kb0 kb1 z150 ) (cwV 1 hz (z_gV wd_777 wd_778 wd_779 wd_37 wd_780) rfl rfl rfl (by decide +kernel) ⟨Nat.le_of_ble_eq_true rfl, Nat.le_of_ble_eq_true rfl⟩) (zp_preV (q0 := 3) (q := (RMD, TMD, 26)) hK hP rfl rfl [3, 4, 5] rfl [0, 1] rfl z_true (fun _ _ _ => trivial)) rfl rfl hl.1 rfl (lv_room (Nat.le_of_ble_eq_true rfl)) dLW_law_476 ⟨Nat.le_of_ble_eq_true rfl, Nat.le_of_ble_eq_true rfl⟩) (fun r156 h_r156 => ?_)
    have h_r156 : r156 = (-1) := h_r156
    subst h_r156
    refine lv_icmp_eq (tgt := 615) hx hb dLW_law_479 rfl (fun _ => ?_) (fun h => absurd (by decide) h)
    exact BACK H locs ls (lv_sub hl [0, 3] rfl) hS
  · refine lv_tableIn (off := 451) (tgt := 484) hx hb dLW_law_33 (by decide) (by decide) (by decide) rfl ?_
    refine lv_aload_n hx hb dLW_law_484 rfl (lv_at hl 2 rfl) ?_
    refine lv_aload_n hx hb dLW_law_485 rfl (lv_at hl 3 rfl) ?_
    refine lv_iload_n hx hb dLW_law_486 rfl (lv_at hl 0 rfl) ?_
    refine lv_iconst (v := 1) hx hb dLW_law_487 (by decide) ?_
    refine lv_iadd hx hb dLW_law_488 ?_
    refine lv_topi (fun x157 e158 => ?_)
    have e158 : x157 = 1 := e158.trans (by decide)
    subst e158
    refine va_sld hx hb hXs hbl hAb hS (by unfold vp_in; decide) dLW_law_489 ?_
    refine lv_topi (fun z159 e_z159 => ?_)
    refine lv_aload_n hx hb dLW_law_490 rfl (lv_at hl 3 rfl) ?_
    refine lv_iload_n hx hb dLW_law_491 rfl (lv_at hl 0 rfl) ?_
    refine lv_iconst (v := 2) hx hb dLW_law_492 (by decide) ?_
    refine lv_iadd hx hb dLW_law_493 ?_
    refine lv_topi (fun x160 e161 => ?_)
    have e161 : x160 = 2 := e161.trans (by decide)
    subst e161
    refine va_sld hx hb hXs hbl hAb hS (by unfold vp_in; decide) dLW_law_494 ?_
    refine lv_topi (fun z162 e_z162 => ?_)
    refine vp_callSi (W.runV (As := [.int z159, .int z162]) (rest := []) ⟨hx, hb, hml, hown, hz⟩ (c_SC_place l dC dI q1 g wd hh al t 0 z159 z162 ) (cwV 2 hz (z_gV wd_544 wd_545 wd_546 wd_29 wd_547) rfl rfl rfl (by decide +kernel) ⟨Nat.le_of_ble_eq_true rfl, Nat.le_of_ble_eq_true rfl⟩) (zp_preV (q0 := 0) (q := (RSC, TSC, 6)) hK hP rfl rfl [0, 1, 2] rfl [] rfl z_true (fun _ _ _ => trivial)) rfl rfl hl.1 rfl (lv_room (Nat.le_of_ble_eq_true rfl)) dLW_law_495 ⟨Nat.le_of_ble_eq_true rfl, Nat.le_of_ble_eq_true rfl⟩) (fun r163 h_r163 => ?_)
    have h_r163 : r163 = (-1) := h_r163
    subst h_r163
    refine lv_aload_n hx hb dLW_law_498 rfl (lv_at hl 1 rfl) ?_
    refine lv_aload_n hx hb dLW_law_499 rfl (lv_at hl 3 rfl) ?_
    refine lv_iload_n hx hb dLW_law_500 rfl (lv_at hl 0 rfl) ?_
    refine lv_iconst (v := 1) hx hb dLW_law_501 (by decide) ?_
    refine lv_iadd hx hb dLW_law_502 ?_
    refine lv_topi (fun x164 e165 => ?_)
    have e165 : x164 = 1 := e165.trans (by decide)
    subst e165
    refine va_sld hx hb hXs hbl hAb hS (by unfold vp_in; decide) dLW_law_503 ?_
    refine lv_topi (fun x166 e167 => ?_)
    have e167 : z159 = x166 := e_z159.trans e167.symm
    subst e167
    refine lv_aload_n hx hb dLW_law_504 rfl (lv_at hl 3 rfl) ?_
    refine lv_iload_n hx hb dLW_law_505 rfl (lv_at hl 0 rfl) ?_
    refine lv_iconst (v := 2) hx hb dLW_law_506 (by decide) ?_
    refine lv_iadd hx hb dLW_law_507 ?_
    refine lv_topi (fun x168 e169 => ?_)
    have e169 : x168 = 2 := e169.trans (by decide)
    subst e169
    refine va_sld hx hb hXs hbl hAb hS (by unfold vp_in; decide) dLW_law_508 ?_
    refine lv_topi (fun x170 e171 => ?_)
    have e171 : z162 = x170 := e_z162.trans e171.symm
    subst e171
    refine vp_callSi (W.runV (As := [.int z159, .int z162]) (rest := [.int (-1)]) ⟨hx, hb, hml, hown, hz⟩ (c_MD_place l dC dI q3 b0 b1 b2 b3 b4 b5 b6 b7 b8 b9 b10 b11 b12 b13 b14 b15 b16 b17 z159 z162 ) (cwV 2 hz (z_gV wd_785 wd_786 wd_787 wd_37 wd_788) rfl rfl rfl (by decide +kernel) ⟨Nat.le_of_ble_eq_true rfl, Nat.le_of_ble_eq_true rfl⟩) (zp_preV (q0 := 3) (q := (RMD, TMD, 26)) hK hP rfl rfl [3] rfl [] rfl z_true (fun _ _ _ => trivial)) rfl rfl hl.1 rfl (lv_room (Nat.le_of_ble_eq_true rfl)) dLW_law_509 ⟨Nat.le_of_ble_eq_true rfl, Nat.le_of_ble_eq_true rfl⟩) (fun r172 h_r172 => ?_)
    have h_r172 : r172 = (-1) := h_r172
    subst h_r172
    refine lv_icmp_eq (tgt := 615) hx hb dLW_law_512 rfl (fun _ => ?_) (fun h => absurd (by decide) h)
    exact BACK H locs ls (lv_sub hl [0, 3] rfl) hS
  · refine lv_tableIn (off := 484) (tgt := 517) hx hb dLW_law_33 (by decide) (by decide) (by decide) rfl ?_
    refine lv_aload_n hx hb dLW_law_517 rfl (lv_at hl 2 rfl) ?_
    refine lv_aload_n hx hb dLW_law_518 rfl (lv_at hl 3 rfl) ?_
    refine lv_iload_n hx hb dLW_law_519 rfl (lv_at hl 0 rfl) ?_
    refine lv_iconst (v := 1) hx hb dLW_law_520 (by decide) ?_
    refine lv_iadd hx hb dLW_law_521 ?_
    refine lv_topi (fun x173 e174 => ?_)
    have e174 : x173 = 1 := e174.trans (by decide)
    subst e174
    refine va_sld hx hb hXs hbl hAb hS (by unfold vp_in; decide) dLW_law_522 ?_
    refine lv_topi (fun z175 e_z175 => ?_)
    refine z_join (fun v523 : Int32 => v523 = 0 ∨ v523 = 1) (fun v523 => W p l e (room_1) s m #[Value.ref b] below meth c H locs 35 604 Q (F0 m 531 ls (.int v523 :: [.ref q1]))) (fun v523 hv523 => ?_) (fun J531 => ?_)
    · refine vp_callSi (W.runV (As := [.int v523]) (rest := []) ⟨hx, hb, hml, hown, hz⟩ (c_SC_size l dC dI q1 g wd hh al t 0 v523 ) (cwV 1 hz (z_gV wd_555 wd_556 wd_557 wd_29 wd_558) rfl rfl rfl (by decide +kernel) ⟨Nat.le_of_ble_eq_true rfl, Nat.le_of_ble_eq_true rfl⟩) (zp_preV (q0 := 0) (q := (RSC, TSC, 6)) hK hP rfl rfl [0, 1, 2] rfl [] rfl z_true (fun _ _ _ => trivial)) rfl rfl hl.1 rfl (lv_room (Nat.le_of_ble_eq_true rfl)) dLW_law_531 ⟨Nat.le_of_ble_eq_true rfl, Nat.le_of_ble_eq_true rfl⟩) (fun r176 h_r176 => ?_)
      have h_r176 : r176 = 0 := h_r176
      subst h_r176
      refine lv_aload_n hx hb dLW_law_534 rfl (lv_at hl 1 rfl) ?_
      refine lv_aload_n hx hb dLW_law_535 rfl (lv_at hl 3 rfl) ?_
      refine lv_iload_n hx hb dLW_law_536 rfl (lv_at hl 0 rfl) ?_
      refine lv_iconst (v := 1) hx hb dLW_law_537 (by decide) ?_
      refine lv_iadd hx hb dLW_law_538 ?_
      refine lv_topi (fun x177 e178 => ?_)
      have e178 : x177 = 1 := e178.trans (by decide)
      subst e178
      refine va_sld hx hb hXs hbl hAb hS (by unfold vp_in; decide) dLW_law_539 ?_
      refine lv_topi (fun x179 e180 => ?_)
      have e180 : z175 = x179 := e_z175.trans e180.symm
      subst e180
      refine z_join (fun v540 : Int32 => v540 = 0 ∨ v540 = 1) (fun v540 => W p l e (room_1) s m #[Value.ref b] below meth c H locs 35 604 Q (F0 m 548 ls (.int v540 :: [.ref q3, .int 0]))) (fun v540 hv540 => ?_) (fun J548 => ?_)
      · refine zw_calli (wr := [(q1, .inr (0, [.ref g, .ref wd, .ref hh, .int 0, .int 0, .int 0])), (g, .inr (1, [.ref al, .int 1, .int 0, .int 0, .int 0, .int 0])), (al, .inr (2, [.ref t, .int 0, .int 0]))]) hK hP hD hS hA [3, 4, 5, 6, 7, 8, 9, 10] [0, 1, 2] rfl rfl (by decide) (by decide) (va_runV (As := [.int v540]) (rest := [.int 0]) ⟨hx, hb, hml, hown, hz⟩ ((c_MD_size l dC dI q3 b0 b1 b2 b3 b4 b5 b6 b7 b8 b9 b10 b11 b12 b13 b14 b15 b16 b17 kb0 kb1 kb12 kb13 kb14 kb17 kb15 (fun _ => 0) (fun _ => 0) (fun _ => 0) (fun _ => 0) (fun _ => 0) v540 ) H.size) (cwV 1 hz (z_gV wd_789 wd_790 wd_791 wd_37 wd_792) rfl rfl rfl (by decide +kernel) ⟨Nat.le_of_ble_eq_true rfl, Nat.le_of_ble_eq_true rfl⟩) (zw_preV (q0 := 3) (q := (RMD, TMD, 26)) hK hP hD rfl rfl [3, 4, 5, 6, 7, 8, 9, 10] (by decide) rfl [0, 1, 2, 3, 4, 5, 6] rfl z_true (fun _ _ _ => trivial)) rfl rfl hl.1 rfl (lv_room (Nat.le_of_ble_eq_true rfl)) dLW_law_548 ⟨Nat.le_of_ble_eq_true rfl, Nat.le_of_ble_eq_true rfl⟩) (fun r181 u H locs h_r181 hP hD hK hS => ?_)
        have hP : va_P (dC, dI) vwCl [(q1, .inr (0, [.ref g, .ref wd, .ref hh, .int 0, .int 0, .int 0])), (g, .inr (1, [.ref al, .int 1, .int 0, .int 0, .int 0, .int 0])), (al, .inr (2, [.ref t, .int 0, .int 0]))] H := hP.sub [0, 1, 2] rfl
        have hD : va_D A [(q1, .inr (0, [.ref g, .ref wd, .ref hh, .int 0, .int 0, .int 0])), (g, .inr (1, [.ref al, .int 1, .int 0, .int 0, .int 0, .int 0])), (al, .inr (2, [.ref t, .int 0, .int 0]))] := hD.sub [0, 1, 2] (by decide) rfl
        have hK : va_K (dC, dI) vwCl [(kb0, .int), (kb1, .int), (kb12, .int), (kb13, .int), (kb14, .int), (kb17, .int), (kb15, .int)] s := hK
        have h_r181 : r181 = 0 := h_r181
        subst h_r181
        refine lv_icmp_eq (tgt := 615) hx hb dLW_law_551 rfl (fun _ => ?_) (fun h => absurd (by decide) h)
        exact BACK H locs ls (lv_sub hl [0, 3] rfl) hS
      · refine lv_if_eq (tgt := 547) hx hb dLW_law_540 rfl (fun h182 => ?_) (fun h182 => ?_)
        · refine lv_iconst (v := 0) hx hb dLW_law_547 (by decide) ?_
          exact J548 _ (Or.inl rfl)
        · refine lv_iconst (v := 1) hx hb dLW_law_543 (by decide) ?_
          refine lv_goto (tgt := 548) hx hb dLW_law_544 rfl ?_
          exact J548 _ (Or.inr rfl)
    · refine lv_if_eq (tgt := 530) hx hb dLW_law_523 rfl (fun h183 => ?_) (fun h183 => ?_)
      · refine lv_iconst (v := 0) hx hb dLW_law_530 (by decide) ?_
        exact J531 _ (Or.inl rfl)
      · refine lv_iconst (v := 1) hx hb dLW_law_526 (by decide) ?_
        refine lv_goto (tgt := 531) hx hb dLW_law_527 rfl ?_
        exact J531 _ (Or.inr rfl)
  · refine lv_tableIn (off := 523) (tgt := 556) hx hb dLW_law_33 (by decide) (by decide) (by decide) rfl ?_
    refine lv_aload_n hx hb dLW_law_556 rfl (lv_at hl 2 rfl) ?_
    refine lv_aload_n hx hb dLW_law_557 rfl (lv_at hl 3 rfl) ?_
    refine lv_iload_n hx hb dLW_law_558 rfl (lv_at hl 0 rfl) ?_
    refine lv_iconst (v := 1) hx hb dLW_law_559 (by decide) ?_
    refine lv_iadd hx hb dLW_law_560 ?_
    refine lv_topi (fun x184 e185 => ?_)
    have e185 : x184 = 1 := e185.trans (by decide)
    subst e185
    refine va_sld hx hb hXs hbl hAb hS (by unfold vp_in; decide) dLW_law_561 ?_
    refine lv_topi (fun z186 e_z186 => ?_)
    refine lv_aload_n hx hb dLW_law_562 rfl (lv_at hl 3 rfl) ?_
    refine lv_iload_n hx hb dLW_law_563 rfl (lv_at hl 0 rfl) ?_
    refine lv_iconst (v := 2) hx hb dLW_law_564 (by decide) ?_
    refine lv_iadd hx hb dLW_law_565 ?_
    refine lv_topi (fun x187 e188 => ?_)
    have e188 : x187 = 2 := e188.trans (by decide)
    subst e188
    refine va_sld hx hb hXs hbl hAb hS (by unfold vp_in; decide) dLW_law_566 ?_
    refine lv_topi (fun z189 e_z189 => ?_)
    refine lv_aload_n hx hb dLW_law_567 rfl (lv_at hl 3 rfl) ?_
    refine lv_iload_n hx hb dLW_law_568 rfl (lv_at hl 0 rfl) ?_
    refine lv_iconst (v := 3) hx hb dLW_law_569 (by decide) ?_
    refine lv_iadd hx hb dLW_law_570 ?_
    refine lv_topi (fun x190 e191 => ?_)
    have e191 : x190 = 3 := e191.trans (by decide)
    subst e191
    refine va_sld hx hb hXs hbl hAb hS (by unfold vp_in; decide) dLW_law_571 ?_
    refine lv_topi (fun z192 e_z192 => ?_)
    refine z_join (fun v572 : Int32 => v572 = 0 ∨ v572 = 1) (fun v572 => W p l e (room_1) s m #[Value.ref b] below meth c H locs 35 604 Q (F0 m 580 ls (.int v572 :: [.int z189, .int z186, .ref q1]))) (fun v572 hv572 => ?_) (fun J580 => ?_)
    · refine vp_callSi (W.runV (As := [.int z186, .int z189, .int v572]) (rest := []) ⟨hx, hb, hml, hown, hz⟩ (c_SC_edge l dC dI q1 g wd hh al t 0 z186 z189 v572 ) (cwV 3 hz (z_gV wd_559 wd_560 wd_561 wd_29 wd_562) rfl rfl rfl (by decide +kernel) ⟨Nat.le_of_ble_eq_true rfl, Nat.le_of_ble_eq_true rfl⟩) (zp_preV (q0 := 0) (q := (RSC, TSC, 6)) hK hP rfl rfl [0, 1, 2] rfl [] rfl zN_blind (zN_call hN)) rfl rfl hl.1 rfl (lv_room (Nat.le_of_ble_eq_true rfl)) dLW_law_580 ⟨Nat.le_of_ble_eq_true rfl, Nat.le_of_ble_eq_true rfl⟩) (fun r193 h_r193 => ?_)
      have h_r193 : r193 = (-1) := h_r193
      subst h_r193
      refine lv_aload_n hx hb dLW_law_583 rfl (lv_at hl 1 rfl) ?_
      refine lv_aload_n hx hb dLW_law_584 rfl (lv_at hl 3 rfl) ?_
      refine lv_iload_n hx hb dLW_law_585 rfl (lv_at hl 0 rfl) ?_
      refine lv_iconst (v := 1) hx hb dLW_law_586 (by decide) ?_
      refine lv_iadd hx hb dLW_law_587 ?_
      refine lv_topi (fun x194 e195 => ?_)
      have e195 : x194 = 1 := e195.trans (by decide)
      subst e195
      refine va_sld hx hb hXs hbl hAb hS (by unfold vp_in; decide) dLW_law_588 ?_
      refine lv_topi (fun x196 e197 => ?_)
      have e197 : z186 = x196 := e_z186.trans e197.symm
      subst e197
      refine lv_aload_n hx hb dLW_law_589 rfl (lv_at hl 3 rfl) ?_
      refine lv_iload_n hx hb dLW_law_590 rfl (lv_at hl 0 rfl) ?_
      refine lv_iconst (v := 2) hx hb dLW_law_591 (by decide) ?_
      refine lv_iadd hx hb dLW_law_592 ?_
      refine lv_topi (fun x198 e199 => ?_)
      have e199 : x198 = 2 := e199.trans (by decide)
      subst e199
      refine va_sld hx hb hXs hbl hAb hS (by unfold vp_in; decide) dLW_law_593 ?_
      refine lv_topi (fun x200 e201 => ?_)
      have e201 : z189 = x200 := e_z189.trans e201.symm
      subst e201
      refine lv_aload_n hx hb dLW_law_594 rfl (lv_at hl 3 rfl) ?_
      refine lv_iload_n hx hb dLW_law_595 rfl (lv_at hl 0 rfl) ?_
      refine lv_iconst (v := 3) hx hb dLW_law_596 (by decide) ?_
      refine lv_iadd hx hb dLW_law_597 ?_
      refine lv_topi (fun x202 e203 => ?_)
      have e203 : x202 = 3 := e203.trans (by decide)
      subst e203
      refine va_sld hx hb hXs hbl hAb hS (by unfold vp_in; decide) dLW_law_598 ?_
      refine lv_topi (fun x204 e205 => ?_)
      have e205 : z192 = x204 := e_z192.trans e205.symm
      subst e205
      refine z_join (fun v599 : Int32 => v599 = 0 ∨ v599 = 1) (fun v599 => W p l e (room_1) s m #[Value.ref b] below meth c H locs 35 604 Q (F0 m 607 ls (.int v599 :: [.int z189, .int z186, .ref q3, .int (-1)]))) (fun v599 hv599 => ?_) (fun J607 => ?_)
      · refine vp_callSi (W.runV (As := [.int z186, .int z189, .int v599]) (rest := [.int (-1)]) ⟨hx, hb, hml, hown, hz⟩ (c_MD_edge l dC dI q3 b0 b1 b2 b3 b4 b5 b6 b7 b8 b9 b10 b11 b12 b13 b14 b15 b16 b17 kb0 kb1 z186 z189 v599 ) (cwV 3 hz (z_gV wd_793 wd_794 wd_795 wd_37 wd_796) rfl rfl rfl (by decide +kernel) ⟨Nat.le_of_ble_eq_true rfl, Nat.le_of_ble_eq_true rfl⟩) (zp_preV (q0 := 3) (q := (RMD, TMD, 26)) hK hP rfl rfl [3, 4, 5] rfl [0, 1] rfl z_true (fun _ _ _ => trivial)) rfl rfl hl.1 rfl (lv_room (Nat.le_of_ble_eq_true rfl)) dLW_law_607 ⟨Nat.le_of_ble_eq_true rfl, Nat.le_of_ble_eq_true rfl⟩) (fun r206 h_r206 => ?_)
        have h_r206 : r206 = (-1) := h_r206
        subst h_r206
        refine lv_icmp_eq (tgt := 615) hx hb dLW_law_610 rfl (fun _ => ?_) (fun h => absurd (by decide) h)
        exact BACK H locs ls (lv_sub hl [0, 3] rfl) hS
      · refine lv_if_eq (tgt := 606) hx hb dLW_law_599 rfl (fun h207 => ?_) (fun h207 => ?_)
        · refine lv_iconst (v := 0) hx hb dLW_law_606 (by decide) ?_
          exact J607 _ (Or.inl rfl)
        · refine lv_iconst (v := 1) hx hb dLW_law_602 (by decide) ?_
          refine lv_goto (tgt := 607) hx hb dLW_law_603 rfl ?_
          exact J607 _ (Or.inr rfl)
    · refine lv_if_eq (tgt := 579) hx hb dLW_law_572 rfl (fun h208 => ?_) (fun h208 => ?_)
      · refine lv_iconst (v := 0) hx hb dLW_law_579 (by decide) ?_
        exact J580 _ (Or.inl rfl)
      · refine lv_iconst (v := 1) hx hb dLW_law_575 (by decide) ?_
        refine lv_goto (tgt := 580) hx hb dLW_law_576 rfl ?_
        exact J580 _ (Or.inr rfl)
  · refine lv_tableOut (tgt := 615) hx hb dLW_law_33 (Or.inr (by rw [nI_toInt (by omega)]; omega)) rfl ?_
    exact BACK H locs ls (lv_sub hl [0, 3] rfl) hS
end
section

set_option maxHeartbeats 4000000 in
theorem lw_walk (l : Launch) (b : Addr) (xs : List Int32) : MetFree l x (headSpec (Jvm.Cond.code x code maxLocals ret :: tables_1) room_1) (lw_P b xs) (fun _ _ _ _ _ => True) lw_Q := by
  refine MetFree.of_bodyS (code := code) (maxLocals := maxLocals) (ret := ret) (by decide) ?_ ?_
  · intro args s m h hn
    obtain ⟨meth, c, h1, h2, h3, h4, h5, h6, -, -⟩ := Cond.code_spec hn (atoms_spec (ws := Jvm.Cond.code x code maxLocals ret :: tables_1) h _ List.mem_cons_self)
    exact ⟨meth, c, h1, h2, h3, h4, h5, h6⟩
  · intro p e s m args below meth c s₁ B hml0 hP _
    obtain ⟨rfl, hx, hbd, hgv⟩ := hP
    obtain ⟨scr, harrAt, hlist, hof, hsmall⟩ := hx
    obtain ⟨hcb, hkn, -, -⟩ := State.arrayAt?_spec harrAt
    have hown : s.vm.findClass R_law = some m.cls := findClass_of_methodNamed B.named
    have hts0 : ∀ c ∈ (Jvm.Cond.code x code maxLocals ret :: tables_1), c.before #[Value.ref b] s = true := atoms_spec (ws := Jvm.Cond.code x code maxLocals ret :: tables_1) B.pre
    have hts : ∀ w ∈ lw_tbl, w.before #[Value.ref b] s = true := k2_hts_sels lw_privs (fun w hw => hts0 w (List.mem_cons_of_mem _ hw)) lw_privs_ok
    have hml : c.maxLocals = 4 := B.maxLocals_eq (hts0 _ List.mem_cons_self)
    have X₀ : Stand p l e room_1 s m #[Value.ref b] below meth c s₁ [] 0 0 := Stand.of_body B
    have hh0 : s₁.heap = s.heap := by rw [B.state]; rfl
    have hsz : scr.slots.size = xs.length := by rw [← Array.length_toList, hlist, List.length_map]
    have hval : ∀ j : Nat, j < xs.length → scr.slots[j]? = some (.int (xs.getD j 0)) := fun j hj => by
      rw [← Array.getElem?_toList, hlist]
      simp [hj]
    have hbl : b < s.heap.size := (Array.getElem?_eq_some_iff.mp hcb).1
    have hX : va_X b xs.length (fun j => xs.getD j 0) s s.heap := ⟨scr, hcb, hof, hkn, hsz, hval⟩
    have K : W p l e room_1 s m #[Value.ref b] below meth c s₁.heap [] 0 0 (lw_Z below #[Value.ref b] s) (entryFrame m ([Value.ref b] : List Value).toArray 4) := by
      rw [hh0]
      exact whole_start l hbd ⟨B.exec, B.bytes, B.returns, hml, hown, hts, hX, hbl, B.notSynchronized, hgv⟩
    obtain ⟨t, a1, o, b1, b2, b3⟩ := K s₁ rfl X₀
    exact ⟨t, o, a1, b1, b2, b3⟩
theorem lw_pre_spec {args : Array Value} {s : State} (h : (Jvm.Cond.and given_1 narrow_1).before args s = true) (hr : rest_1_c.before args s = true) : ∃ (b : Addr) (xs : List Int32), lw_P b xs args s := by
  have hs := flat_of_before _ h
  have hq := flat_of_before _ hr
  have hc : (Cond.count 1).before args s = true := hs _ (by decide +kernel)
  have harr : (Cond.arrayOf (.arg 0) .int).before args s = true := hs _ (by decide +kernel)
  have hle : (Cond.le (.length (.arg 0)) (.int 6)).before args s = true := hs _ (by decide +kernel)
  have hlen : (Cond.isInt (.length (.arg 0))).before args s = true := hq _ (by decide +kernel)
  have hall : (Cond.all (.arg 0) (.isInt (.elem (.arg 0) (.index 0)))).before args s = true := hq _ (by decide +kernel)
  obtain ⟨b, xs, hb, hx⟩ := State.ints_of_pre rfl harr hlen hall
  have hsm : xs.length < 2 ^ 31 := hx.choose_spec.2.2.2
  have hev : (Term.length (.arg 0)).eval args s none [] s = some (.int xs.length.toInt32) := hx.length_eval hb
  have hv := Cond.le_ints hev (show (Term.int 6).eval args s none [] s = some (.int 6) from rfl)
  have hd : xs.length.toInt32 ≤ 6 := by
    simpa [Cond.before, Cond.holds, hv] using hle
  have hN : xs.length ≤ 6 := (Int32.ofNat_le_ofNat hsm (by decide)).mp (show Int32.ofNat xs.length ≤ Int32.ofNat 6 from hd)
  exact ⟨b, xs, Cond.one_arg hc (show args[0]? = some (.ref b) from hb), hx, hN, h⟩
theorem lw_comes (l : Launch) : Comes l x (Jvm.Cond.code x code maxLocals ret :: tables_1) room_1 (fun tb e args s => Calls_1 tb e args s ∧ rest_1 tb e args s ∧ Pre_1 tb e args s)
    (fun _ _ args s o t => lw_Q args s o t) := by
  intro p e ha hc hk s m args below hf hfit hheap happ hpre
  obtain ⟨b, xs, hP⟩ := lw_pre_spec hpre.2.2 hpre.2.1
  obtain ⟨k, o, h1, h2, h3, hQ⟩ := lw_walk l b xs p e ha hc hk s m args below hf ((Spec.applies_iff_loose hf).mp happ).1 hP trivial
  exact ⟨k, o, h1, h2, h3, hQ⟩
theorem lw_frame {s t : State} {o : Outcome} {args : Array Value} (h : Framed s o t [] 600000 7302249) :
    Framed s o t (fieldLocs frame_1_writes args s ++ arrayLocs frame_1_arrays args s ++ staticLocs frame_1_statics s) 600000 7302249 := h
theorem lw_limb (L : Cond) (hL : ∀ (args : Array Value) (s t : State), L.after args s (.returned (some (.int 1))) t = true) :
    ArmFor flags0 classFile x code maxLocals ret World_1 tables_1 room_1 Calls_1 rest_1 Pre_1
      (fun tb e a s o t => postC L tb e a s o t ∧ Framed s o t (fieldLocs frame_1_writes a s ++ arrayLocs frame_1_arrays a s ++ staticLocs frame_1_statics s) 600000 7302249) := by
  intro l _ _ _ p e ha hc hk s m args below hf hfit hheap happ hpre
  obtain ⟨k, o, h1, h2, h3, rfl, hF⟩ := lw_comes l p e ha hc hk s m args below hf hfit hheap happ hpre
  exact ⟨k, _, h1, h2, h3, hL args s _, lw_frame hF⟩
theorem i_vc : Claimed_1_1 ∧ Claimed_1_2 := ⟨lw_limb limb_1_1 (fun args s t => by simp [limb_1_1, Cond.after, Cond.holds, Cond.value]), lw_limb limb_1_2 (fun args s t => Cond.after_iff.mpr (by
  first | (rw [show limb_1_2 = Cond.eq .result (.int 1) from rfl, Cond.eq_ints (x := 1) (y := 1) rfl rfl]; simp; done) | (simp [limb_1_2, Cond.value, Term.eval]; done)))⟩
end
